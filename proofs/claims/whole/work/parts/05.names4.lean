set_option maxRecDepth 20000 in
theorem ggX3_timesSpan_X3_fails : GoodIn wsX3_timesSpan wsX3_fails := goodIn_r _ [17, 18, 30, 31, 32, 33, 34, 35, 36, 37, 38, 39, 40, 41, 42, 43] (by decide +kernel) (by decide +kernel)
set_option maxRecDepth 20000 in
theorem gX3_timesSpan_X3_fails : GoodIn wsX3_timesSpan (wsV RX3 125 RX3 yX3_fails wsX3_fails) := goodIn_app (goodIn_of _ (by decide +kernel)) ggX3_timesSpan_X3_fails
set_option maxRecDepth 20000 in
theorem ggX3_timesSpan_X3_spanned : GoodIn wsX3_timesSpan wsX3_spanned := goodIn_ca (goodIn_r _ [22, 23, 24, 3, 4, 5, 11, 12, 8, 13, 14, 15, 16, 17, 18, 25, 26, 27, 28, 29, 30, 31, 32, 33, 34, 35, 36, 37, 38, 39, 40, 41, 42, 43] (by decide +kernel) (by decide +kernel)) (goodIn_sub (fun _ h => List.mem_cons_of_mem _ (List.mem_append_right _ h)) (by decide +kernel))
set_option maxRecDepth 20000 in
theorem gX3_timesSpan_X3_spanned : GoodIn wsX3_timesSpan (wsV RX3 177 RX3 yX3_spanned wsX3_spanned) := goodIn_app (goodIn_of _ (by decide +kernel)) ggX3_timesSpan_X3_spanned
theorem dX3_timesSpan_0 : decode cX3_timesSpan 0 = .ok (.aload_n 0, 1) := by decide +kernel
theorem dX3_timesSpan_1 : decode cX3_timesSpan 1 = .ok (.iload_n 1, 1) := by decide +kernel
theorem dX3_timesSpan_2 : decode cX3_timesSpan 2 = .ok (.invokestatic 174, 3) := by decide +kernel
theorem dX3_timesSpan_5 : decode cX3_timesSpan 5 = .ok (.ifCond .eq 10, 3) := by decide +kernel
theorem dX3_timesSpan_8 : decode cX3_timesSpan 8 = .ok (.iload_n 3, 1) := by decide +kernel
theorem dX3_timesSpan_9 : decode cX3_timesSpan 9 = .ok (.invokestatic 174, 3) := by decide +kernel
theorem dX3_timesSpan_12 : decode cX3_timesSpan 12 = .ok (.ifCond .ne 7, 3) := by decide +kernel
theorem dX3_timesSpan_15 : decode cX3_timesSpan 15 = .ok (.iconst 1, 1) := by decide +kernel
theorem dX3_timesSpan_16 : decode cX3_timesSpan 16 = .ok (.goto 22, 3) := by decide +kernel
theorem dX3_timesSpan_19 : decode cX3_timesSpan 19 = .ok (.iload_n 2, 1) := by decide +kernel
theorem dX3_timesSpan_20 : decode cX3_timesSpan 20 = .ok (.i2l, 1) := by decide +kernel
theorem dX3_timesSpan_21 : decode cX3_timesSpan 21 = .ok (.ldc2_w 183, 3) := by decide +kernel
theorem dX3_timesSpan_24 : decode cX3_timesSpan 24 = .ok (.ldc2_w 55, 3) := by decide +kernel
theorem dX3_timesSpan_27 : decode cX3_timesSpan 27 = .ok (.invokestatic 100, 3) := by decide +kernel
theorem dX3_timesSpan_30 : decode cX3_timesSpan 30 = .ok (.ifCond .eq 7, 3) := by decide +kernel
theorem dX3_timesSpan_33 : decode cX3_timesSpan 33 = .ok (.iconst 0, 1) := by decide +kernel
theorem dX3_timesSpan_34 : decode cX3_timesSpan 34 = .ok (.goto 4, 3) := by decide +kernel
theorem dX3_timesSpan_37 : decode cX3_timesSpan 37 = .ok (.iconst 2, 1) := by decide +kernel
theorem dX3_timesSpan_38 : decode cX3_timesSpan 38 = .ok (.invokevirtual 125, 3) := by decide +kernel
theorem dX3_timesSpan_41 : decode cX3_timesSpan 41 = .ok (.ifCond .eq 5, 3) := by decide +kernel
theorem dX3_timesSpan_44 : decode cX3_timesSpan 44 = .ok (.lconst 0, 1) := by decide +kernel
theorem dX3_timesSpan_45 : decode cX3_timesSpan 45 = .ok (.lreturn, 1) := by decide +kernel
theorem dX3_timesSpan_46 : decode cX3_timesSpan 46 = .ok (.aload_n 0, 1) := by decide +kernel
theorem dX3_timesSpan_47 : decode cX3_timesSpan 47 = .ok (.iload_n 3, 1) := by decide +kernel
theorem dX3_timesSpan_48 : decode cX3_timesSpan 48 = .ok (.iload_n 2, 1) := by decide +kernel
theorem dX3_timesSpan_49 : decode cX3_timesSpan 49 = .ok (.i2l, 1) := by decide +kernel
theorem dX3_timesSpan_50 : decode cX3_timesSpan 50 = .ok (.aload_n 0, 1) := by decide +kernel
theorem dX3_timesSpan_51 : decode cX3_timesSpan 51 = .ok (.getfield 32, 3) := by decide +kernel
theorem dX3_timesSpan_54 : decode cX3_timesSpan 54 = .ok (.iload_n 1, 1) := by decide +kernel
theorem dX3_timesSpan_55 : decode cX3_timesSpan 55 = .ok (.laload, 1) := by decide +kernel
theorem dX3_timesSpan_56 : decode cX3_timesSpan 56 = .ok (.lmul, 1) := by decide +kernel
theorem dX3_timesSpan_57 : decode cX3_timesSpan 57 = .ok (.iload_n 2, 1) := by decide +kernel
theorem dX3_timesSpan_58 : decode cX3_timesSpan 58 = .ok (.i2l, 1) := by decide +kernel
theorem dX3_timesSpan_59 : decode cX3_timesSpan 59 = .ok (.aload_n 0, 1) := by decide +kernel
theorem dX3_timesSpan_60 : decode cX3_timesSpan 60 = .ok (.getfield 35, 3) := by decide +kernel
theorem dX3_timesSpan_63 : decode cX3_timesSpan 63 = .ok (.iload_n 1, 1) := by decide +kernel
theorem dX3_timesSpan_64 : decode cX3_timesSpan 64 = .ok (.laload, 1) := by decide +kernel
theorem dX3_timesSpan_65 : decode cX3_timesSpan 65 = .ok (.lmul, 1) := by decide +kernel
theorem dX3_timesSpan_66 : decode cX3_timesSpan 66 = .ok (.iload_n 2, 1) := by decide +kernel
theorem dX3_timesSpan_67 : decode cX3_timesSpan 67 = .ok (.i2l, 1) := by decide +kernel
theorem dX3_timesSpan_68 : decode cX3_timesSpan 68 = .ok (.aload_n 0, 1) := by decide +kernel
theorem dX3_timesSpan_69 : decode cX3_timesSpan 69 = .ok (.getfield 38, 3) := by decide +kernel
theorem dX3_timesSpan_72 : decode cX3_timesSpan 72 = .ok (.iload_n 1, 1) := by decide +kernel
theorem dX3_timesSpan_73 : decode cX3_timesSpan 73 = .ok (.laload, 1) := by decide +kernel
theorem dX3_timesSpan_74 : decode cX3_timesSpan 74 = .ok (.lmul, 1) := by decide +kernel
theorem dX3_timesSpan_75 : decode cX3_timesSpan 75 = .ok (.iconst 3, 1) := by decide +kernel
theorem dX3_timesSpan_76 : decode cX3_timesSpan 76 = .ok (.invokevirtual 177, 3) := by decide +kernel
theorem dX3_timesSpan_79 : decode cX3_timesSpan 79 = .ok (.lreturn, 1) := by decide +kernel
set_option maxRecDepth 20000 in
theorem ggX3_plainSpan_X3_isSlot : GoodIn wsX3_plainSpan wsX3_isSlot := goodIn_r _ [6, 7, 8, 9, 5, 10] (by decide +kernel) (by decide +kernel)
set_option maxRecDepth 20000 in
theorem gX3_plainSpan_X3_isSlot : GoodIn wsX3_plainSpan (va_wsS RX3 174 yX3_isSlot wsX3_isSlot) := goodIn_app (goodIn_of _ (by decide +kernel)) ggX3_plainSpan_X3_isSlot
set_option maxRecDepth 20000 in
theorem ggX3_plainSpan_X3_fails : GoodIn wsX3_plainSpan wsX3_fails := goodIn_r _ [14, 15, 28, 29, 30, 31, 32, 33, 34, 35, 36, 37, 38, 39, 40, 41] (by decide +kernel) (by decide +kernel)
set_option maxRecDepth 20000 in
theorem gX3_plainSpan_X3_fails : GoodIn wsX3_plainSpan (wsV RX3 125 RX3 yX3_fails wsX3_fails) := goodIn_app (goodIn_of _ (by decide +kernel)) ggX3_plainSpan_X3_fails
set_option maxRecDepth 20000 in
theorem ggX3_plainSpan_X3_totalOf : GoodIn wsX3_plainSpan wsX3_totalOf := goodIn_ca (goodIn_r _ [19, 1, 20, 21, 28, 29, 30, 31, 32, 33, 34, 35, 36, 37, 38, 39, 40, 41] (by decide +kernel) (by decide +kernel)) (goodIn_sub (fun _ h => List.mem_cons_of_mem _ (List.mem_append_right _ h)) (by decide +kernel))
set_option maxRecDepth 20000 in
theorem gX3_plainSpan_X3_totalOf : GoodIn wsX3_plainSpan (wsV RX3 170 RX3 yX3_totalOf wsX3_totalOf) := goodIn_app (goodIn_of _ (by decide +kernel)) ggX3_plainSpan_X3_totalOf
set_option maxRecDepth 20000 in
theorem ggX3_plainSpan_X3_spanned : GoodIn wsX3_plainSpan wsX3_spanned := goodIn_ca (goodIn_r _ [25, 26, 27, 20, 21, 2, 8, 9, 5, 10, 11, 12, 13, 14, 15, 16, 17, 18, 19, 1, 28, 29, 30, 31, 32, 33, 34, 35, 36, 37, 38, 39, 40, 41] (by decide +kernel) (by decide +kernel)) (goodIn_sub (fun _ h => List.mem_cons_of_mem _ (List.mem_append_right _ h)) (by decide +kernel))
set_option maxRecDepth 20000 in
theorem gX3_plainSpan_X3_spanned : GoodIn wsX3_plainSpan (wsV RX3 177 RX3 yX3_spanned wsX3_spanned) := goodIn_app (goodIn_of _ (by decide +kernel)) ggX3_plainSpan_X3_spanned
theorem dX3_plainSpan_0 : decode cX3_plainSpan 0 = .ok (.aload_n 0, 1) := by decide +kernel
theorem dX3_plainSpan_1 : decode cX3_plainSpan 1 = .ok (.iload_n 1, 1) := by decide +kernel
theorem dX3_plainSpan_2 : decode cX3_plainSpan 2 = .ok (.invokestatic 174, 3) := by decide +kernel
theorem dX3_plainSpan_5 : decode cX3_plainSpan 5 = .ok (.ifCond .eq 14, 3) := by decide +kernel
theorem dX3_plainSpan_8 : decode cX3_plainSpan 8 = .ok (.iload_n 2, 1) := by decide +kernel
theorem dX3_plainSpan_9 : decode cX3_plainSpan 9 = .ok (.invokestatic 174, 3) := by decide +kernel
theorem dX3_plainSpan_12 : decode cX3_plainSpan 12 = .ok (.ifCond .eq 7, 3) := by decide +kernel
theorem dX3_plainSpan_15 : decode cX3_plainSpan 15 = .ok (.iconst 0, 1) := by decide +kernel
theorem dX3_plainSpan_16 : decode cX3_plainSpan 16 = .ok (.goto 4, 3) := by decide +kernel
theorem dX3_plainSpan_19 : decode cX3_plainSpan 19 = .ok (.iconst 1, 1) := by decide +kernel
theorem dX3_plainSpan_20 : decode cX3_plainSpan 20 = .ok (.invokevirtual 125, 3) := by decide +kernel
theorem dX3_plainSpan_23 : decode cX3_plainSpan 23 = .ok (.ifCond .eq 5, 3) := by decide +kernel
theorem dX3_plainSpan_26 : decode cX3_plainSpan 26 = .ok (.lconst 0, 1) := by decide +kernel
theorem dX3_plainSpan_27 : decode cX3_plainSpan 27 = .ok (.lreturn, 1) := by decide +kernel
theorem dX3_plainSpan_28 : decode cX3_plainSpan 28 = .ok (.aload_n 0, 1) := by decide +kernel
theorem dX3_plainSpan_29 : decode cX3_plainSpan 29 = .ok (.iload_n 1, 1) := by decide +kernel
theorem dX3_plainSpan_30 : decode cX3_plainSpan 30 = .ok (.invokevirtual 170, 3) := by decide +kernel
theorem dX3_plainSpan_33 : decode cX3_plainSpan 33 = .ok (.lstore_n 3, 1) := by decide +kernel
theorem dX3_plainSpan_34 : decode cX3_plainSpan 34 = .ok (.aload_n 0, 1) := by decide +kernel
theorem dX3_plainSpan_35 : decode cX3_plainSpan 35 = .ok (.iload_n 2, 1) := by decide +kernel
theorem dX3_plainSpan_36 : decode cX3_plainSpan 36 = .ok (.lload_n 3, 1) := by decide +kernel
theorem dX3_plainSpan_37 : decode cX3_plainSpan 37 = .ok (.ldc2_w 113, 3) := by decide +kernel
theorem dX3_plainSpan_40 : decode cX3_plainSpan 40 = .ok (.ldiv, 1) := by decide +kernel
theorem dX3_plainSpan_41 : decode cX3_plainSpan 41 = .ok (.lload_n 3, 1) := by decide +kernel
theorem dX3_plainSpan_42 : decode cX3_plainSpan 42 = .ok (.ldc2_w 113, 3) := by decide +kernel
theorem dX3_plainSpan_45 : decode cX3_plainSpan 45 = .ok (.lrem, 1) := by decide +kernel
theorem dX3_plainSpan_46 : decode cX3_plainSpan 46 = .ok (.aload_n 0, 1) := by decide +kernel
theorem dX3_plainSpan_47 : decode cX3_plainSpan 47 = .ok (.getfield 38, 3) := by decide +kernel
theorem dX3_plainSpan_50 : decode cX3_plainSpan 50 = .ok (.iload_n 1, 1) := by decide +kernel
theorem dX3_plainSpan_51 : decode cX3_plainSpan 51 = .ok (.laload, 1) := by decide +kernel
theorem dX3_plainSpan_52 : decode cX3_plainSpan 52 = .ok (.iconst 2, 1) := by decide +kernel
theorem dX3_plainSpan_53 : decode cX3_plainSpan 53 = .ok (.invokevirtual 177, 3) := by decide +kernel
theorem dX3_plainSpan_56 : decode cX3_plainSpan 56 = .ok (.lreturn, 1) := by decide +kernel
set_option maxRecDepth 20000 in
theorem ggX3_monthMany_X3_floor : GoodIn wsX3_monthMany wsX3_floor := goodIn_r _ [6] (by decide +kernel) (by decide +kernel)
set_option maxRecDepth 20000 in
theorem gX3_monthMany_X3_floor : GoodIn wsX3_monthMany (va_wsS RX3 46 yX3_floor wsX3_floor) := goodIn_app (goodIn_of _ (by decide +kernel)) ggX3_monthMany_X3_floor
set_option maxRecDepth 20000 in
theorem ggX3_monthMany_X3_rest : GoodIn wsX3_monthMany wsX3_rest := goodIn_r _ [9, 3, 4, 5, 6] (by decide +kernel) (by decide +kernel)
set_option maxRecDepth 20000 in
theorem gX3_monthMany_X3_rest : GoodIn wsX3_monthMany (va_wsS RX3 52 yX3_rest wsX3_rest) := goodIn_app (goodIn_of _ (by decide +kernel)) ggX3_monthMany_X3_rest
set_option maxRecDepth 20000 in
theorem ggX3_monthMany_X3_many : GoodIn wsX3_monthMany wsX3_many := goodIn_r _ [12, 13, 14, 5, 15, 16, 17, 18, 7, 8, 9, 3, 4, 6] (by decide +kernel) (by decide +kernel)
set_option maxRecDepth 20000 in
theorem gX3_monthMany_X3_many : GoodIn wsX3_monthMany (va_wsS RX3 80 yX3_many wsX3_many) := goodIn_app (goodIn_of _ (by decide +kernel)) ggX3_monthMany_X3_many
theorem dX3_monthMany_0 : decode cX3_monthMany 0 = .ok (.aload_n 0, 1) := by decide +kernel
theorem dX3_monthMany_1 : decode cX3_monthMany 1 = .ok (.getfield 41, 3) := by decide +kernel
theorem dX3_monthMany_4 : decode cX3_monthMany 4 = .ok (.iload_n 1, 1) := by decide +kernel
theorem dX3_monthMany_5 : decode cX3_monthMany 5 = .ok (.laload, 1) := by decide +kernel
theorem dX3_monthMany_6 : decode cX3_monthMany 6 = .ok (.ldc2_w 113, 3) := by decide +kernel
theorem dX3_monthMany_9 : decode cX3_monthMany 9 = .ok (.invokestatic 46, 3) := by decide +kernel
theorem dX3_monthMany_12 : decode cX3_monthMany 12 = .ok (.iconst 1, 1) := by decide +kernel
theorem dX3_monthMany_13 : decode cX3_monthMany 13 = .ok (.aload_n 0, 1) := by decide +kernel
theorem dX3_monthMany_14 : decode cX3_monthMany 14 = .ok (.getfield 41, 3) := by decide +kernel
theorem dX3_monthMany_17 : decode cX3_monthMany 17 = .ok (.iload_n 1, 1) := by decide +kernel
theorem dX3_monthMany_18 : decode cX3_monthMany 18 = .ok (.laload, 1) := by decide +kernel
theorem dX3_monthMany_19 : decode cX3_monthMany 19 = .ok (.ldc2_w 113, 3) := by decide +kernel
theorem dX3_monthMany_22 : decode cX3_monthMany 22 = .ok (.invokestatic 52, 3) := by decide +kernel
theorem dX3_monthMany_25 : decode cX3_monthMany 25 = .ok (.l2i, 1) := by decide +kernel
theorem dX3_monthMany_26 : decode cX3_monthMany 26 = .ok (.iadd, 1) := by decide +kernel
theorem dX3_monthMany_27 : decode cX3_monthMany 27 = .ok (.invokestatic 80, 3) := by decide +kernel
theorem dX3_monthMany_30 : decode cX3_monthMany 30 = .ok (.ireturn, 1) := by decide +kernel
set_option maxRecDepth 20000 in
theorem ggX3_month_X3_isSlot : GoodIn wsX3_month wsX3_isSlot := goodIn_r _ [6, 7, 8, 9, 5, 10] (by decide +kernel) (by decide +kernel)
set_option maxRecDepth 20000 in
theorem gX3_month_X3_isSlot : GoodIn wsX3_month (va_wsS RX3 174 yX3_isSlot wsX3_isSlot) := goodIn_app (goodIn_of _ (by decide +kernel)) ggX3_month_X3_isSlot
set_option maxRecDepth 20000 in
theorem ggX3_month_X3_isYear : GoodIn wsX3_month wsX3_isYear := goodIn_r _ [13, 14, 15, 8, 9, 5, 10] (by decide +kernel) (by decide +kernel)
set_option maxRecDepth 20000 in
theorem gX3_month_X3_isYear : GoodIn wsX3_month (va_wsS RX3 108 yX3_isYear wsX3_isYear) := goodIn_app (goodIn_of _ (by decide +kernel)) ggX3_month_X3_isYear
set_option maxRecDepth 20000 in
theorem ggX3_month_X3_in : GoodIn wsX3_month wsX3_in := goodIn_r _ [10] (by decide +kernel) (by decide +kernel)
set_option maxRecDepth 20000 in
theorem gX3_month_X3_in : GoodIn wsX3_month (va_wsS RX3 100 yX3_in wsX3_in) := goodIn_app (goodIn_of _ (by decide +kernel)) ggX3_month_X3_in
set_option maxRecDepth 20000 in
theorem ggX3_month_X3_fails : GoodIn wsX3_month wsX3_fails := goodIn_r _ [19, 20, 40, 41, 42, 43, 44, 45, 46, 47, 48, 49, 50, 51, 52, 53] (by decide +kernel) (by decide +kernel)
set_option maxRecDepth 20000 in
theorem gX3_month_X3_fails : GoodIn wsX3_month (wsV RX3 125 RX3 yX3_fails wsX3_fails) := goodIn_app (goodIn_of _ (by decide +kernel)) ggX3_month_X3_fails
set_option maxRecDepth 20000 in
theorem ggX3_month_X3_monthMany : GoodIn wsX3_month wsX3_monthMany := goodIn_ca (goodIn_r _ [24, 2, 1, 25, 26, 5, 27, 28, 29, 30, 31, 32, 33, 34, 35, 36, 37, 38, 39, 40, 41, 42, 43, 44, 45, 46, 47, 48, 49, 50, 51, 52, 53] (by decide +kernel) (by decide +kernel)) (goodIn_sub (fun _ h => List.mem_cons_of_mem _ (List.mem_append_right _ h)) (by decide +kernel))
set_option maxRecDepth 20000 in
theorem gX3_month_X3_monthMany : GoodIn wsX3_month (wsV RX3 185 RX3 yX3_monthMany wsX3_monthMany) := goodIn_app (goodIn_of _ (by decide +kernel)) ggX3_month_X3_monthMany
theorem dX3_month_0 : decode cX3_month 0 = .ok (.aload_n 0, 1) := by decide +kernel
theorem dX3_month_1 : decode cX3_month 1 = .ok (.iload_n 1, 1) := by decide +kernel
theorem dX3_month_2 : decode cX3_month 2 = .ok (.invokestatic 174, 3) := by decide +kernel
theorem dX3_month_5 : decode cX3_month 5 = .ok (.ifCond .ne 7, 3) := by decide +kernel
theorem dX3_month_8 : decode cX3_month 8 = .ok (.iconst 1, 1) := by decide +kernel
theorem dX3_month_9 : decode cX3_month 9 = .ok (.goto 28, 3) := by decide +kernel
theorem dX3_month_12 : decode cX3_month 12 = .ok (.iload_n 2, 1) := by decide +kernel
theorem dX3_month_13 : decode cX3_month 13 = .ok (.i2l, 1) := by decide +kernel
theorem dX3_month_14 : decode cX3_month 14 = .ok (.invokestatic 108, 3) := by decide +kernel
theorem dX3_month_17 : decode cX3_month 17 = .ok (.ifCond .eq 19, 3) := by decide +kernel
theorem dX3_month_20 : decode cX3_month 20 = .ok (.iload_n 3, 1) := by decide +kernel
theorem dX3_month_21 : decode cX3_month 21 = .ok (.i2l, 1) := by decide +kernel
theorem dX3_month_22 : decode cX3_month 22 = .ok (.lconst 1, 1) := by decide +kernel
theorem dX3_month_23 : decode cX3_month 23 = .ok (.ldc2_w 113, 3) := by decide +kernel
theorem dX3_month_26 : decode cX3_month 26 = .ok (.invokestatic 100, 3) := by decide +kernel
theorem dX3_month_29 : decode cX3_month 29 = .ok (.ifCond .eq 7, 3) := by decide +kernel
theorem dX3_month_32 : decode cX3_month 32 = .ok (.iconst 0, 1) := by decide +kernel
theorem dX3_month_33 : decode cX3_month 33 = .ok (.goto 4, 3) := by decide +kernel
theorem dX3_month_36 : decode cX3_month 36 = .ok (.iconst 2, 1) := by decide +kernel
theorem dX3_month_37 : decode cX3_month 37 = .ok (.invokevirtual 125, 3) := by decide +kernel
theorem dX3_month_40 : decode cX3_month 40 = .ok (.ifCond .eq 5, 3) := by decide +kernel
theorem dX3_month_43 : decode cX3_month 43 = .ok (.iconst 0, 1) := by decide +kernel
theorem dX3_month_44 : decode cX3_month 44 = .ok (.ireturn, 1) := by decide +kernel
theorem dX3_month_45 : decode cX3_month 45 = .ok (.aload_n 0, 1) := by decide +kernel
theorem dX3_month_46 : decode cX3_month 46 = .ok (.getfield 41, 3) := by decide +kernel
theorem dX3_month_49 : decode cX3_month 49 = .ok (.iload_n 1, 1) := by decide +kernel
theorem dX3_month_50 : decode cX3_month 50 = .ok (.ldc2_w 113, 3) := by decide +kernel
theorem dX3_month_53 : decode cX3_month 53 = .ok (.iload_n 2, 1) := by decide +kernel
theorem dX3_month_54 : decode cX3_month 54 = .ok (.i2l, 1) := by decide +kernel
theorem dX3_month_55 : decode cX3_month 55 = .ok (.lmul, 1) := by decide +kernel
theorem dX3_month_56 : decode cX3_month 56 = .ok (.iload_n 3, 1) := by decide +kernel
theorem dX3_month_57 : decode cX3_month 57 = .ok (.i2l, 1) := by decide +kernel
theorem dX3_month_58 : decode cX3_month 58 = .ok (.ladd, 1) := by decide +kernel
theorem dX3_month_59 : decode cX3_month 59 = .ok (.lconst 1, 1) := by decide +kernel
theorem dX3_month_60 : decode cX3_month 60 = .ok (.lsub, 1) := by decide +kernel
theorem dX3_month_61 : decode cX3_month 61 = .ok (.lastore, 1) := by decide +kernel
theorem dX3_month_62 : decode cX3_month 62 = .ok (.aload_n 0, 1) := by decide +kernel
theorem dX3_month_63 : decode cX3_month 63 = .ok (.iload_n 1, 1) := by decide +kernel
theorem dX3_month_64 : decode cX3_month 64 = .ok (.invokevirtual 185, 3) := by decide +kernel
theorem dX3_month_67 : decode cX3_month 67 = .ok (.ireturn, 1) := by decide +kernel
set_option maxRecDepth 20000 in
theorem ggX3_moveMonth_X3_isSlot : GoodIn wsX3_moveMonth wsX3_isSlot := goodIn_r _ [8, 9, 10, 11, 7, 12] (by decide +kernel) (by decide +kernel)
set_option maxRecDepth 20000 in
theorem gX3_moveMonth_X3_isSlot : GoodIn wsX3_moveMonth (va_wsS RX3 174 yX3_isSlot wsX3_isSlot) := goodIn_app (goodIn_of _ (by decide +kernel)) ggX3_moveMonth_X3_isSlot
set_option maxRecDepth 20000 in
theorem ggX3_moveMonth_X3_in : GoodIn wsX3_moveMonth wsX3_in := goodIn_r _ [12] (by decide +kernel) (by decide +kernel)
set_option maxRecDepth 20000 in
theorem gX3_moveMonth_X3_in : GoodIn wsX3_moveMonth (va_wsS RX3 100 yX3_in wsX3_in) := goodIn_app (goodIn_of _ (by decide +kernel)) ggX3_moveMonth_X3_in
set_option maxRecDepth 20000 in
theorem ggX3_moveMonth_X3_fails : GoodIn wsX3_moveMonth wsX3_fails := goodIn_r _ [16, 17, 42, 43, 44, 45, 46, 47, 48, 49, 50, 51, 52, 53, 54, 55] (by decide +kernel) (by decide +kernel)
set_option maxRecDepth 20000 in
theorem gX3_moveMonth_X3_fails : GoodIn wsX3_moveMonth (wsV RX3 125 RX3 yX3_fails wsX3_fails) := goodIn_app (goodIn_of _ (by decide +kernel)) ggX3_moveMonth_X3_fails
set_option maxRecDepth 20000 in
theorem ggX3_moveMonth_X3_floor : GoodIn wsX3_moveMonth wsX3_floor := goodIn_r _ [20] (by decide +kernel) (by decide +kernel)
set_option maxRecDepth 20000 in
theorem gX3_moveMonth_X3_floor : GoodIn wsX3_moveMonth (va_wsS RX3 46 yX3_floor wsX3_floor) := goodIn_app (goodIn_of _ (by decide +kernel)) ggX3_moveMonth_X3_floor
set_option maxRecDepth 20000 in
theorem ggX3_moveMonth_X3_isYear : GoodIn wsX3_moveMonth wsX3_isYear := goodIn_r _ [23, 24, 25, 10, 11, 7, 12] (by decide +kernel) (by decide +kernel)
set_option maxRecDepth 20000 in
theorem gX3_moveMonth_X3_isYear : GoodIn wsX3_moveMonth (va_wsS RX3 108 yX3_isYear wsX3_isYear) := goodIn_app (goodIn_of _ (by decide +kernel)) ggX3_moveMonth_X3_isYear
set_option maxRecDepth 20000 in
theorem ggX3_moveMonth_X3_monthMany : GoodIn wsX3_moveMonth wsX3_monthMany := goodIn_ca (goodIn_r _ [29, 3, 4, 18, 19, 7, 20, 30, 31, 32, 33, 34, 35, 36, 37, 38, 39, 40, 41, 42, 43, 44, 45, 46, 47, 48, 49, 50, 51, 52, 53, 54, 55] (by decide +kernel) (by decide +kernel)) (goodIn_sub (fun _ h => List.mem_cons_of_mem _ (List.mem_append_right _ h)) (by decide +kernel))
set_option maxRecDepth 20000 in
theorem gX3_moveMonth_X3_monthMany : GoodIn wsX3_moveMonth (wsV RX3 185 RX3 yX3_monthMany wsX3_monthMany) := goodIn_app (goodIn_of _ (by decide +kernel)) ggX3_moveMonth_X3_monthMany
theorem dX3_moveMonth_0 : decode cX3_moveMonth 0 = .ok (.aload_n 0, 1) := by decide +kernel
theorem dX3_moveMonth_1 : decode cX3_moveMonth 1 = .ok (.iload_n 1, 1) := by decide +kernel
theorem dX3_moveMonth_2 : decode cX3_moveMonth 2 = .ok (.invokestatic 174, 3) := by decide +kernel
theorem dX3_moveMonth_5 : decode cX3_moveMonth 5 = .ok (.ifCond .eq 11, 3) := by decide +kernel
theorem dX3_moveMonth_8 : decode cX3_moveMonth 8 = .ok (.iload 4, 2) := by decide +kernel
theorem dX3_moveMonth_10 : decode cX3_moveMonth 10 = .ok (.invokestatic 174, 3) := by decide +kernel
theorem dX3_moveMonth_13 : decode cX3_moveMonth 13 = .ok (.ifCond .ne 7, 3) := by decide +kernel
theorem dX3_moveMonth_16 : decode cX3_moveMonth 16 = .ok (.iconst 1, 1) := by decide +kernel
theorem dX3_moveMonth_17 : decode cX3_moveMonth 17 = .ok (.goto 34, 3) := by decide +kernel
theorem dX3_moveMonth_20 : decode cX3_moveMonth 20 = .ok (.iload_n 2, 1) := by decide +kernel
theorem dX3_moveMonth_21 : decode cX3_moveMonth 21 = .ok (.bipush 109, 2) := by decide +kernel
theorem dX3_moveMonth_23 : decode cX3_moveMonth 23 = .ok (.if_icmp .eq 9, 3) := by decide +kernel
theorem dX3_moveMonth_26 : decode cX3_moveMonth 26 = .ok (.iload_n 2, 1) := by decide +kernel
theorem dX3_moveMonth_27 : decode cX3_moveMonth 27 = .ok (.bipush 121, 2) := by decide +kernel
theorem dX3_moveMonth_29 : decode cX3_moveMonth 29 = .ok (.if_icmp .ne 21, 3) := by decide +kernel
theorem dX3_moveMonth_32 : decode cX3_moveMonth 32 = .ok (.iload_n 3, 1) := by decide +kernel
theorem dX3_moveMonth_33 : decode cX3_moveMonth 33 = .ok (.i2l, 1) := by decide +kernel
theorem dX3_moveMonth_34 : decode cX3_moveMonth 34 = .ok (.ldc2_w 144, 3) := by decide +kernel
theorem dX3_moveMonth_37 : decode cX3_moveMonth 37 = .ok (.ldc2_w 146, 3) := by decide +kernel
theorem dX3_moveMonth_40 : decode cX3_moveMonth 40 = .ok (.invokestatic 100, 3) := by decide +kernel
theorem dX3_moveMonth_43 : decode cX3_moveMonth 43 = .ok (.ifCond .eq 7, 3) := by decide +kernel
theorem dX3_moveMonth_46 : decode cX3_moveMonth 46 = .ok (.iconst 0, 1) := by decide +kernel
theorem dX3_moveMonth_47 : decode cX3_moveMonth 47 = .ok (.goto 4, 3) := by decide +kernel
theorem dX3_moveMonth_50 : decode cX3_moveMonth 50 = .ok (.iconst 2, 1) := by decide +kernel
theorem dX3_moveMonth_51 : decode cX3_moveMonth 51 = .ok (.invokevirtual 125, 3) := by decide +kernel
theorem dX3_moveMonth_54 : decode cX3_moveMonth 54 = .ok (.ifCond .eq 5, 3) := by decide +kernel
theorem dX3_moveMonth_57 : decode cX3_moveMonth 57 = .ok (.iconst 0, 1) := by decide +kernel
theorem dX3_moveMonth_58 : decode cX3_moveMonth 58 = .ok (.ireturn, 1) := by decide +kernel
theorem dX3_moveMonth_59 : decode cX3_moveMonth 59 = .ok (.aload_n 0, 1) := by decide +kernel
theorem dX3_moveMonth_60 : decode cX3_moveMonth 60 = .ok (.getfield 41, 3) := by decide +kernel
theorem dX3_moveMonth_63 : decode cX3_moveMonth 63 = .ok (.iload_n 1, 1) := by decide +kernel
theorem dX3_moveMonth_64 : decode cX3_moveMonth 64 = .ok (.laload, 1) := by decide +kernel
theorem dX3_moveMonth_65 : decode cX3_moveMonth 65 = .ok (.iload_n 2, 1) := by decide +kernel
theorem dX3_moveMonth_66 : decode cX3_moveMonth 66 = .ok (.bipush 109, 2) := by decide +kernel
theorem dX3_moveMonth_68 : decode cX3_moveMonth 68 = .ok (.if_icmp .ne 7, 3) := by decide +kernel
theorem dX3_moveMonth_71 : decode cX3_moveMonth 71 = .ok (.lconst 1, 1) := by decide +kernel
theorem dX3_moveMonth_72 : decode cX3_moveMonth 72 = .ok (.goto 6, 3) := by decide +kernel
theorem dX3_moveMonth_75 : decode cX3_moveMonth 75 = .ok (.ldc2_w 113, 3) := by decide +kernel
theorem dX3_moveMonth_78 : decode cX3_moveMonth 78 = .ok (.iload_n 3, 1) := by decide +kernel
theorem dX3_moveMonth_79 : decode cX3_moveMonth 79 = .ok (.i2l, 1) := by decide +kernel
theorem dX3_moveMonth_80 : decode cX3_moveMonth 80 = .ok (.lmul, 1) := by decide +kernel
theorem dX3_moveMonth_81 : decode cX3_moveMonth 81 = .ok (.ladd, 1) := by decide +kernel
theorem dX3_moveMonth_82 : decode cX3_moveMonth 82 = .ok (.lstore 5, 2) := by decide +kernel
theorem dX3_moveMonth_84 : decode cX3_moveMonth 84 = .ok (.aload_n 0, 1) := by decide +kernel
theorem dX3_moveMonth_85 : decode cX3_moveMonth 85 = .ok (.lload 5, 2) := by decide +kernel
theorem dX3_moveMonth_87 : decode cX3_moveMonth 87 = .ok (.ldc2_w 113, 3) := by decide +kernel
theorem dX3_moveMonth_90 : decode cX3_moveMonth 90 = .ok (.invokestatic 46, 3) := by decide +kernel
theorem dX3_moveMonth_93 : decode cX3_moveMonth 93 = .ok (.invokestatic 108, 3) := by decide +kernel
theorem dX3_moveMonth_96 : decode cX3_moveMonth 96 = .ok (.ifCond .eq 7, 3) := by decide +kernel
theorem dX3_moveMonth_99 : decode cX3_moveMonth 99 = .ok (.iconst 0, 1) := by decide +kernel
theorem dX3_moveMonth_100 : decode cX3_moveMonth 100 = .ok (.goto 4, 3) := by decide +kernel
theorem dX3_moveMonth_103 : decode cX3_moveMonth 103 = .ok (.iconst 3, 1) := by decide +kernel
theorem dX3_moveMonth_104 : decode cX3_moveMonth 104 = .ok (.invokevirtual 125, 3) := by decide +kernel
theorem dX3_moveMonth_107 : decode cX3_moveMonth 107 = .ok (.ifCond .eq 5, 3) := by decide +kernel
theorem dX3_moveMonth_110 : decode cX3_moveMonth 110 = .ok (.iconst 0, 1) := by decide +kernel
theorem dX3_moveMonth_111 : decode cX3_moveMonth 111 = .ok (.ireturn, 1) := by decide +kernel
theorem dX3_moveMonth_112 : decode cX3_moveMonth 112 = .ok (.aload_n 0, 1) := by decide +kernel
theorem dX3_moveMonth_113 : decode cX3_moveMonth 113 = .ok (.getfield 41, 3) := by decide +kernel
theorem dX3_moveMonth_116 : decode cX3_moveMonth 116 = .ok (.iload 4, 2) := by decide +kernel
theorem dX3_moveMonth_118 : decode cX3_moveMonth 118 = .ok (.lload 5, 2) := by decide +kernel
theorem dX3_moveMonth_120 : decode cX3_moveMonth 120 = .ok (.lastore, 1) := by decide +kernel
theorem dX3_moveMonth_121 : decode cX3_moveMonth 121 = .ok (.aload_n 0, 1) := by decide +kernel
theorem dX3_moveMonth_122 : decode cX3_moveMonth 122 = .ok (.iload 4, 2) := by decide +kernel
theorem dX3_moveMonth_124 : decode cX3_moveMonth 124 = .ok (.invokevirtual 185, 3) := by decide +kernel
theorem dX3_moveMonth_127 : decode cX3_moveMonth 127 = .ok (.ireturn, 1) := by decide +kernel
set_option maxRecDepth 20000 in
theorem ggX3_monthPart_X3_isSlot : GoodIn wsX3_monthPart wsX3_isSlot := goodIn_r _ [6, 7, 8, 9, 5, 10] (by decide +kernel) (by decide +kernel)
set_option maxRecDepth 20000 in
theorem gX3_monthPart_X3_isSlot : GoodIn wsX3_monthPart (va_wsS RX3 174 yX3_isSlot wsX3_isSlot) := goodIn_app (goodIn_of _ (by decide +kernel)) ggX3_monthPart_X3_isSlot
set_option maxRecDepth 20000 in
theorem ggX3_monthPart_X3_fails : GoodIn wsX3_monthPart wsX3_fails := goodIn_r _ [14, 15, 35, 36, 37, 38, 39, 40, 41, 42, 43, 44, 45, 46, 47, 48] (by decide +kernel) (by decide +kernel)
set_option maxRecDepth 20000 in
theorem gX3_monthPart_X3_fails : GoodIn wsX3_monthPart (wsV RX3 125 RX3 yX3_fails wsX3_fails) := goodIn_app (goodIn_of _ (by decide +kernel)) ggX3_monthPart_X3_fails
set_option maxRecDepth 20000 in
theorem ggX3_monthPart_X3_floor : GoodIn wsX3_monthPart wsX3_floor := goodIn_r _ [18] (by decide +kernel) (by decide +kernel)
set_option maxRecDepth 20000 in
theorem gX3_monthPart_X3_floor : GoodIn wsX3_monthPart (va_wsS RX3 46 yX3_floor wsX3_floor) := goodIn_app (goodIn_of _ (by decide +kernel)) ggX3_monthPart_X3_floor
set_option maxRecDepth 20000 in
theorem ggX3_monthPart_X3_rest : GoodIn wsX3_monthPart wsX3_rest := goodIn_r _ [21, 16, 17, 5, 18] (by decide +kernel) (by decide +kernel)
set_option maxRecDepth 20000 in
theorem gX3_monthPart_X3_rest : GoodIn wsX3_monthPart (va_wsS RX3 52 yX3_rest wsX3_rest) := goodIn_app (goodIn_of _ (by decide +kernel)) ggX3_monthPart_X3_rest
set_option maxRecDepth 20000 in
theorem ggX3_monthPart_X3_monthMany : GoodIn wsX3_monthPart wsX3_monthMany := goodIn_ca (goodIn_r _ [25, 1, 2, 16, 17, 5, 18, 19, 20, 21, 26, 27, 28, 29, 30, 31, 32, 33, 34, 35, 36, 37, 38, 39, 40, 41, 42, 43, 44, 45, 46, 47, 48] (by decide +kernel) (by decide +kernel)) (goodIn_sub (fun _ h => List.mem_cons_of_mem _ (List.mem_append_right _ h)) (by decide +kernel))
set_option maxRecDepth 20000 in
theorem gX3_monthPart_X3_monthMany : GoodIn wsX3_monthPart (wsV RX3 185 RX3 yX3_monthMany wsX3_monthMany) := goodIn_app (goodIn_of _ (by decide +kernel)) ggX3_monthPart_X3_monthMany
set_option maxRecDepth 20000 in
theorem ggX3_monthPart_X3_isLong : GoodIn wsX3_monthPart wsX3_isLong := goodIn_r _ [31, 32, 33, 34, 19, 20, 5, 21, 16, 17, 18] (by decide +kernel) (by decide +kernel)
set_option maxRecDepth 20000 in
theorem gX3_monthPart_X3_isLong : GoodIn wsX3_monthPart (va_wsS RX3 73 yX3_isLong wsX3_isLong) := goodIn_app (goodIn_of _ (by decide +kernel)) ggX3_monthPart_X3_isLong
theorem dX3_monthPart_0 : decode cX3_monthPart 0 = .ok (.aload_n 0, 1) := by decide +kernel
theorem dX3_monthPart_1 : decode cX3_monthPart 1 = .ok (.iload_n 1, 1) := by decide +kernel
theorem dX3_monthPart_2 : decode cX3_monthPart 2 = .ok (.invokestatic 174, 3) := by decide +kernel
theorem dX3_monthPart_5 : decode cX3_monthPart 5 = .ok (.ifCond .ne 7, 3) := by decide +kernel
theorem dX3_monthPart_8 : decode cX3_monthPart 8 = .ok (.iconst 1, 1) := by decide +kernel
theorem dX3_monthPart_9 : decode cX3_monthPart 9 = .ok (.goto 32, 3) := by decide +kernel
theorem dX3_monthPart_12 : decode cX3_monthPart 12 = .ok (.iload_n 2, 1) := by decide +kernel
theorem dX3_monthPart_13 : decode cX3_monthPart 13 = .ok (.bipush 121, 2) := by decide +kernel
theorem dX3_monthPart_15 : decode cX3_monthPart 15 = .ok (.if_icmp .eq 21, 3) := by decide +kernel
theorem dX3_monthPart_18 : decode cX3_monthPart 18 = .ok (.iload_n 2, 1) := by decide +kernel
theorem dX3_monthPart_19 : decode cX3_monthPart 19 = .ok (.bipush 109, 2) := by decide +kernel
theorem dX3_monthPart_21 : decode cX3_monthPart 21 = .ok (.if_icmp .eq 15, 3) := by decide +kernel
theorem dX3_monthPart_24 : decode cX3_monthPart 24 = .ok (.iload_n 2, 1) := by decide +kernel
theorem dX3_monthPart_25 : decode cX3_monthPart 25 = .ok (.bipush 108, 2) := by decide +kernel
theorem dX3_monthPart_27 : decode cX3_monthPart 27 = .ok (.if_icmp .eq 9, 3) := by decide +kernel
theorem dX3_monthPart_30 : decode cX3_monthPart 30 = .ok (.iload_n 2, 1) := by decide +kernel
theorem dX3_monthPart_31 : decode cX3_monthPart 31 = .ok (.bipush 76, 2) := by decide +kernel
theorem dX3_monthPart_33 : decode cX3_monthPart 33 = .ok (.if_icmp .ne 7, 3) := by decide +kernel
theorem dX3_monthPart_36 : decode cX3_monthPart 36 = .ok (.iconst 0, 1) := by decide +kernel
theorem dX3_monthPart_37 : decode cX3_monthPart 37 = .ok (.goto 4, 3) := by decide +kernel
theorem dX3_monthPart_40 : decode cX3_monthPart 40 = .ok (.iconst 2, 1) := by decide +kernel
theorem dX3_monthPart_41 : decode cX3_monthPart 41 = .ok (.invokevirtual 125, 3) := by decide +kernel
theorem dX3_monthPart_44 : decode cX3_monthPart 44 = .ok (.ifCond .eq 5, 3) := by decide +kernel
theorem dX3_monthPart_47 : decode cX3_monthPart 47 = .ok (.iconst 0, 1) := by decide +kernel
theorem dX3_monthPart_48 : decode cX3_monthPart 48 = .ok (.ireturn, 1) := by decide +kernel
theorem dX3_monthPart_49 : decode cX3_monthPart 49 = .ok (.aload_n 0, 1) := by decide +kernel
theorem dX3_monthPart_50 : decode cX3_monthPart 50 = .ok (.getfield 41, 3) := by decide +kernel
theorem dX3_monthPart_53 : decode cX3_monthPart 53 = .ok (.iload_n 1, 1) := by decide +kernel
theorem dX3_monthPart_54 : decode cX3_monthPart 54 = .ok (.laload, 1) := by decide +kernel
theorem dX3_monthPart_55 : decode cX3_monthPart 55 = .ok (.ldc2_w 113, 3) := by decide +kernel
theorem dX3_monthPart_58 : decode cX3_monthPart 58 = .ok (.invokestatic 46, 3) := by decide +kernel
theorem dX3_monthPart_61 : decode cX3_monthPart 61 = .ok (.lstore_n 3, 1) := by decide +kernel
theorem dX3_monthPart_62 : decode cX3_monthPart 62 = .ok (.iload_n 2, 1) := by decide +kernel
theorem dX3_monthPart_63 : decode cX3_monthPart 63 = .ok (.bipush 121, 2) := by decide +kernel
theorem dX3_monthPart_65 : decode cX3_monthPart 65 = .ok (.if_icmp .ne 8, 3) := by decide +kernel
theorem dX3_monthPart_68 : decode cX3_monthPart 68 = .ok (.lload_n 3, 1) := by decide +kernel
theorem dX3_monthPart_69 : decode cX3_monthPart 69 = .ok (.l2i, 1) := by decide +kernel
theorem dX3_monthPart_70 : decode cX3_monthPart 70 = .ok (.goto 57, 3) := by decide +kernel
theorem dX3_monthPart_73 : decode cX3_monthPart 73 = .ok (.iload_n 2, 1) := by decide +kernel
theorem dX3_monthPart_74 : decode cX3_monthPart 74 = .ok (.bipush 109, 2) := by decide +kernel
theorem dX3_monthPart_76 : decode cX3_monthPart 76 = .ok (.if_icmp .ne 21, 3) := by decide +kernel
theorem dX3_monthPart_79 : decode cX3_monthPart 79 = .ok (.iconst 1, 1) := by decide +kernel
theorem dX3_monthPart_80 : decode cX3_monthPart 80 = .ok (.aload_n 0, 1) := by decide +kernel
theorem dX3_monthPart_81 : decode cX3_monthPart 81 = .ok (.getfield 41, 3) := by decide +kernel
theorem dX3_monthPart_84 : decode cX3_monthPart 84 = .ok (.iload_n 1, 1) := by decide +kernel
theorem dX3_monthPart_85 : decode cX3_monthPart 85 = .ok (.laload, 1) := by decide +kernel
theorem dX3_monthPart_86 : decode cX3_monthPart 86 = .ok (.ldc2_w 113, 3) := by decide +kernel
theorem dX3_monthPart_89 : decode cX3_monthPart 89 = .ok (.invokestatic 52, 3) := by decide +kernel
theorem dX3_monthPart_92 : decode cX3_monthPart 92 = .ok (.l2i, 1) := by decide +kernel
theorem dX3_monthPart_93 : decode cX3_monthPart 93 = .ok (.iadd, 1) := by decide +kernel
theorem dX3_monthPart_94 : decode cX3_monthPart 94 = .ok (.goto 33, 3) := by decide +kernel
theorem dX3_monthPart_97 : decode cX3_monthPart 97 = .ok (.iload_n 2, 1) := by decide +kernel
theorem dX3_monthPart_98 : decode cX3_monthPart 98 = .ok (.bipush 108, 2) := by decide +kernel
theorem dX3_monthPart_100 : decode cX3_monthPart 100 = .ok (.if_icmp .ne 11, 3) := by decide +kernel
theorem dX3_monthPart_103 : decode cX3_monthPart 103 = .ok (.aload_n 0, 1) := by decide +kernel
theorem dX3_monthPart_104 : decode cX3_monthPart 104 = .ok (.iload_n 1, 1) := by decide +kernel
theorem dX3_monthPart_105 : decode cX3_monthPart 105 = .ok (.invokevirtual 185, 3) := by decide +kernel
theorem dX3_monthPart_108 : decode cX3_monthPart 108 = .ok (.goto 19, 3) := by decide +kernel
theorem dX3_monthPart_111 : decode cX3_monthPart 111 = .ok (.lload_n 3, 1) := by decide +kernel
theorem dX3_monthPart_112 : decode cX3_monthPart 112 = .ok (.invokestatic 73, 3) := by decide +kernel
theorem dX3_monthPart_115 : decode cX3_monthPart 115 = .ok (.ifCond .eq 9, 3) := by decide +kernel
theorem dX3_monthPart_118 : decode cX3_monthPart 118 = .ok (.sipush 366, 3) := by decide +kernel
theorem dX3_monthPart_121 : decode cX3_monthPart 121 = .ok (.goto 6, 3) := by decide +kernel
theorem dX3_monthPart_124 : decode cX3_monthPart 124 = .ok (.sipush 365, 3) := by decide +kernel
theorem dX3_monthPart_127 : decode cX3_monthPart 127 = .ok (.ireturn, 1) := by decide +kernel
set_option maxRecDepth 20000 in
theorem ggX3_atDay_X3_isSlot : GoodIn wsX3_atDay wsX3_isSlot := goodIn_r _ [7, 8, 9, 10, 6, 11] (by decide +kernel) (by decide +kernel)
set_option maxRecDepth 20000 in
theorem gX3_atDay_X3_isSlot : GoodIn wsX3_atDay (va_wsS RX3 174 yX3_isSlot wsX3_isSlot) := goodIn_app (goodIn_of _ (by decide +kernel)) ggX3_atDay_X3_isSlot
set_option maxRecDepth 20000 in
theorem ggX3_atDay_X3_isDate : GoodIn wsX3_atDay wsX3_isDate := goodIn_r _ [14, 15, 9, 10, 6, 11] (by decide +kernel) (by decide +kernel)
set_option maxRecDepth 20000 in
theorem gX3_atDay_X3_isDate : GoodIn wsX3_atDay (va_wsS RX3 121 yX3_isDate wsX3_isDate) := goodIn_app (goodIn_of _ (by decide +kernel)) ggX3_atDay_X3_isDate
set_option maxRecDepth 20000 in
theorem ggX3_atDay_X3_monthMany : GoodIn wsX3_atDay wsX3_monthMany := goodIn_ca (goodIn_r _ [19, 2, 3, 20, 21, 6, 22, 23, 24, 25, 26, 27, 28, 29, 30, 31, 32, 33, 34, 53, 54, 55, 56, 57, 58, 59, 60, 61, 62, 63, 64, 65, 66] (by decide +kernel) (by decide +kernel)) (goodIn_sub (fun _ h => List.mem_cons_of_mem _ (List.mem_append_right _ h)) (by decide +kernel))
set_option maxRecDepth 20000 in
theorem gX3_atDay_X3_monthMany : GoodIn wsX3_atDay (wsV RX3 185 RX3 yX3_monthMany wsX3_monthMany) := goodIn_app (goodIn_of _ (by decide +kernel)) ggX3_atDay_X3_monthMany
set_option maxRecDepth 20000 in
theorem ggX3_atDay_X3_in : GoodIn wsX3_atDay wsX3_in := goodIn_r _ [11] (by decide +kernel) (by decide +kernel)
set_option maxRecDepth 20000 in
theorem gX3_atDay_X3_in : GoodIn wsX3_atDay (va_wsS RX3 100 yX3_in wsX3_in) := goodIn_app (goodIn_of _ (by decide +kernel)) ggX3_atDay_X3_in
set_option maxRecDepth 20000 in
theorem ggX3_atDay_X3_fails : GoodIn wsX3_atDay wsX3_fails := goodIn_r _ [38, 39, 53, 54, 55, 56, 57, 58, 59, 60, 61, 62, 63, 64, 65, 66] (by decide +kernel) (by decide +kernel)
set_option maxRecDepth 20000 in
theorem gX3_atDay_X3_fails : GoodIn wsX3_atDay (wsV RX3 125 RX3 yX3_fails wsX3_fails) := goodIn_app (goodIn_of _ (by decide +kernel)) ggX3_atDay_X3_fails
set_option maxRecDepth 20000 in
theorem ggX3_atDay_X3_floor : GoodIn wsX3_atDay wsX3_floor := goodIn_r _ [22] (by decide +kernel) (by decide +kernel)
set_option maxRecDepth 20000 in
theorem gX3_atDay_X3_floor : GoodIn wsX3_atDay (va_wsS RX3 46 yX3_floor wsX3_floor) := goodIn_app (goodIn_of _ (by decide +kernel)) ggX3_atDay_X3_floor
set_option maxRecDepth 20000 in
theorem ggX3_atDay_X3_rest : GoodIn wsX3_atDay wsX3_rest := goodIn_r _ [25, 20, 21, 6, 22] (by decide +kernel) (by decide +kernel)
set_option maxRecDepth 20000 in
theorem gX3_atDay_X3_rest : GoodIn wsX3_atDay (va_wsS RX3 52 yX3_rest wsX3_rest) := goodIn_app (goodIn_of _ (by decide +kernel)) ggX3_atDay_X3_rest
set_option maxRecDepth 20000 in
theorem ggX3_atDay_X3_number : GoodIn wsX3_atDay wsX3_number := goodIn_r _ [42, 43, 44, 6, 45, 46, 47, 48, 49, 50, 8, 32, 51, 33, 52, 34, 20, 21, 22, 26, 27, 28, 29, 30, 31, 23, 24, 25] (by decide +kernel) (by decide +kernel)
set_option maxRecDepth 20000 in
theorem gX3_atDay_X3_number : GoodIn wsX3_atDay (va_wsS RX3 115 yX3_number wsX3_number) := goodIn_app (goodIn_of _ (by decide +kernel)) ggX3_atDay_X3_number
theorem dX3_atDay_0 : decode cX3_atDay 0 = .ok (.aload_n 0, 1) := by decide +kernel
theorem dX3_atDay_1 : decode cX3_atDay 1 = .ok (.iload_n 1, 1) := by decide +kernel
theorem dX3_atDay_2 : decode cX3_atDay 2 = .ok (.invokestatic 174, 3) := by decide +kernel
theorem dX3_atDay_5 : decode cX3_atDay 5 = .ok (.ifCond .eq 10, 3) := by decide +kernel
theorem dX3_atDay_8 : decode cX3_atDay 8 = .ok (.iload_n 3, 1) := by decide +kernel
theorem dX3_atDay_9 : decode cX3_atDay 9 = .ok (.invokestatic 121, 3) := by decide +kernel
theorem dX3_atDay_12 : decode cX3_atDay 12 = .ok (.ifCond .ne 7, 3) := by decide +kernel
theorem dX3_atDay_15 : decode cX3_atDay 15 = .ok (.iconst 1, 1) := by decide +kernel
theorem dX3_atDay_16 : decode cX3_atDay 16 = .ok (.goto 23, 3) := by decide +kernel
theorem dX3_atDay_19 : decode cX3_atDay 19 = .ok (.iload_n 2, 1) := by decide +kernel
theorem dX3_atDay_20 : decode cX3_atDay 20 = .ok (.i2l, 1) := by decide +kernel
theorem dX3_atDay_21 : decode cX3_atDay 21 = .ok (.lconst 0, 1) := by decide +kernel
theorem dX3_atDay_22 : decode cX3_atDay 22 = .ok (.aload_n 0, 1) := by decide +kernel
theorem dX3_atDay_23 : decode cX3_atDay 23 = .ok (.iload_n 1, 1) := by decide +kernel
theorem dX3_atDay_24 : decode cX3_atDay 24 = .ok (.invokevirtual 185, 3) := by decide +kernel
theorem dX3_atDay_27 : decode cX3_atDay 27 = .ok (.i2l, 1) := by decide +kernel
theorem dX3_atDay_28 : decode cX3_atDay 28 = .ok (.invokestatic 100, 3) := by decide +kernel
theorem dX3_atDay_31 : decode cX3_atDay 31 = .ok (.ifCond .eq 7, 3) := by decide +kernel
theorem dX3_atDay_34 : decode cX3_atDay 34 = .ok (.iconst 0, 1) := by decide +kernel
theorem dX3_atDay_35 : decode cX3_atDay 35 = .ok (.goto 4, 3) := by decide +kernel
theorem dX3_atDay_38 : decode cX3_atDay 38 = .ok (.iconst 2, 1) := by decide +kernel
theorem dX3_atDay_39 : decode cX3_atDay 39 = .ok (.invokevirtual 125, 3) := by decide +kernel
theorem dX3_atDay_42 : decode cX3_atDay 42 = .ok (.ifCond .eq 5, 3) := by decide +kernel
theorem dX3_atDay_45 : decode cX3_atDay 45 = .ok (.lconst 0, 1) := by decide +kernel
theorem dX3_atDay_46 : decode cX3_atDay 46 = .ok (.lreturn, 1) := by decide +kernel
theorem dX3_atDay_47 : decode cX3_atDay 47 = .ok (.aload_n 0, 1) := by decide +kernel
theorem dX3_atDay_48 : decode cX3_atDay 48 = .ok (.getfield 13, 3) := by decide +kernel
theorem dX3_atDay_51 : decode cX3_atDay 51 = .ok (.iload_n 3, 1) := by decide +kernel
theorem dX3_atDay_52 : decode cX3_atDay 52 = .ok (.aload_n 0, 1) := by decide +kernel
theorem dX3_atDay_53 : decode cX3_atDay 53 = .ok (.getfield 41, 3) := by decide +kernel
theorem dX3_atDay_56 : decode cX3_atDay 56 = .ok (.iload_n 1, 1) := by decide +kernel
theorem dX3_atDay_57 : decode cX3_atDay 57 = .ok (.laload, 1) := by decide +kernel
theorem dX3_atDay_58 : decode cX3_atDay 58 = .ok (.ldc2_w 113, 3) := by decide +kernel
theorem dX3_atDay_61 : decode cX3_atDay 61 = .ok (.invokestatic 46, 3) := by decide +kernel
theorem dX3_atDay_64 : decode cX3_atDay 64 = .ok (.iconst 1, 1) := by decide +kernel
theorem dX3_atDay_65 : decode cX3_atDay 65 = .ok (.aload_n 0, 1) := by decide +kernel
theorem dX3_atDay_66 : decode cX3_atDay 66 = .ok (.getfield 41, 3) := by decide +kernel
theorem dX3_atDay_69 : decode cX3_atDay 69 = .ok (.iload_n 1, 1) := by decide +kernel
theorem dX3_atDay_70 : decode cX3_atDay 70 = .ok (.laload, 1) := by decide +kernel
theorem dX3_atDay_71 : decode cX3_atDay 71 = .ok (.ldc2_w 113, 3) := by decide +kernel
theorem dX3_atDay_74 : decode cX3_atDay 74 = .ok (.invokestatic 52, 3) := by decide +kernel
theorem dX3_atDay_77 : decode cX3_atDay 77 = .ok (.l2i, 1) := by decide +kernel
theorem dX3_atDay_78 : decode cX3_atDay 78 = .ok (.iadd, 1) := by decide +kernel
theorem dX3_atDay_79 : decode cX3_atDay 79 = .ok (.iload_n 2, 1) := by decide +kernel
theorem dX3_atDay_80 : decode cX3_atDay 80 = .ok (.ifCond .ne 11, 3) := by decide +kernel
theorem dX3_atDay_83 : decode cX3_atDay 83 = .ok (.aload_n 0, 1) := by decide +kernel
theorem dX3_atDay_84 : decode cX3_atDay 84 = .ok (.iload_n 1, 1) := by decide +kernel
theorem dX3_atDay_85 : decode cX3_atDay 85 = .ok (.invokevirtual 185, 3) := by decide +kernel
theorem dX3_atDay_88 : decode cX3_atDay 88 = .ok (.goto 4, 3) := by decide +kernel
theorem dX3_atDay_91 : decode cX3_atDay 91 = .ok (.iload_n 2, 1) := by decide +kernel
theorem dX3_atDay_92 : decode cX3_atDay 92 = .ok (.invokestatic 115, 3) := by decide +kernel
theorem dX3_atDay_95 : decode cX3_atDay 95 = .ok (.lastore, 1) := by decide +kernel
theorem dX3_atDay_96 : decode cX3_atDay 96 = .ok (.aload_n 0, 1) := by decide +kernel
theorem dX3_atDay_97 : decode cX3_atDay 97 = .ok (.getfield 13, 3) := by decide +kernel
theorem dX3_atDay_100 : decode cX3_atDay 100 = .ok (.iload_n 3, 1) := by decide +kernel
theorem dX3_atDay_101 : decode cX3_atDay 101 = .ok (.laload, 1) := by decide +kernel
theorem dX3_atDay_102 : decode cX3_atDay 102 = .ok (.lreturn, 1) := by decide +kernel
set_option maxRecDepth 20000 in
theorem ggX3_orderMonths_X3_isSlot : GoodIn wsX3_orderMonths wsX3_isSlot := goodIn_r _ [5, 6, 7, 8, 4, 9] (by decide +kernel) (by decide +kernel)
set_option maxRecDepth 20000 in
theorem gX3_orderMonths_X3_isSlot : GoodIn wsX3_orderMonths (va_wsS RX3 174 yX3_isSlot wsX3_isSlot) := goodIn_app (goodIn_of _ (by decide +kernel)) ggX3_orderMonths_X3_isSlot
set_option maxRecDepth 20000 in
theorem ggX3_orderMonths_X3_fails : GoodIn wsX3_orderMonths wsX3_fails := goodIn_r _ [13, 14, 18, 19, 20, 21, 22, 23, 24, 25, 26, 27, 28, 29, 30, 31] (by decide +kernel) (by decide +kernel)
set_option maxRecDepth 20000 in
theorem gX3_orderMonths_X3_fails : GoodIn wsX3_orderMonths (wsV RX3 125 RX3 yX3_fails wsX3_fails) := goodIn_app (goodIn_of _ (by decide +kernel)) ggX3_orderMonths_X3_fails
set_option maxRecDepth 20000 in
theorem ggX3_orderMonths_X3_ordered : GoodIn wsX3_orderMonths wsX3_ordered := goodIn_r _ [17] (by decide +kernel) (by decide +kernel)
set_option maxRecDepth 20000 in
theorem gX3_orderMonths_X3_ordered : GoodIn wsX3_orderMonths (va_wsS RX3 163 yX3_ordered wsX3_ordered) := goodIn_app (goodIn_of _ (by decide +kernel)) ggX3_orderMonths_X3_ordered
theorem dX3_orderMonths_0 : decode cX3_orderMonths 0 = .ok (.aload_n 0, 1) := by decide +kernel
theorem dX3_orderMonths_1 : decode cX3_orderMonths 1 = .ok (.iload_n 1, 1) := by decide +kernel
theorem dX3_orderMonths_2 : decode cX3_orderMonths 2 = .ok (.invokestatic 174, 3) := by decide +kernel
theorem dX3_orderMonths_5 : decode cX3_orderMonths 5 = .ok (.ifCond .eq 14, 3) := by decide +kernel
theorem dX3_orderMonths_8 : decode cX3_orderMonths 8 = .ok (.iload_n 2, 1) := by decide +kernel
theorem dX3_orderMonths_9 : decode cX3_orderMonths 9 = .ok (.invokestatic 174, 3) := by decide +kernel
theorem dX3_orderMonths_12 : decode cX3_orderMonths 12 = .ok (.ifCond .eq 7, 3) := by decide +kernel
theorem dX3_orderMonths_15 : decode cX3_orderMonths 15 = .ok (.iconst 0, 1) := by decide +kernel
theorem dX3_orderMonths_16 : decode cX3_orderMonths 16 = .ok (.goto 4, 3) := by decide +kernel
theorem dX3_orderMonths_19 : decode cX3_orderMonths 19 = .ok (.iconst 1, 1) := by decide +kernel
theorem dX3_orderMonths_20 : decode cX3_orderMonths 20 = .ok (.invokevirtual 125, 3) := by decide +kernel
theorem dX3_orderMonths_23 : decode cX3_orderMonths 23 = .ok (.ifCond .eq 7, 3) := by decide +kernel
theorem dX3_orderMonths_26 : decode cX3_orderMonths 26 = .ok (.iconst 0, 1) := by decide +kernel
theorem dX3_orderMonths_27 : decode cX3_orderMonths 27 = .ok (.goto 18, 3) := by decide +kernel
theorem dX3_orderMonths_30 : decode cX3_orderMonths 30 = .ok (.aload_n 0, 1) := by decide +kernel
theorem dX3_orderMonths_31 : decode cX3_orderMonths 31 = .ok (.getfield 41, 3) := by decide +kernel
theorem dX3_orderMonths_34 : decode cX3_orderMonths 34 = .ok (.iload_n 1, 1) := by decide +kernel
theorem dX3_orderMonths_35 : decode cX3_orderMonths 35 = .ok (.laload, 1) := by decide +kernel
theorem dX3_orderMonths_36 : decode cX3_orderMonths 36 = .ok (.aload_n 0, 1) := by decide +kernel
theorem dX3_orderMonths_37 : decode cX3_orderMonths 37 = .ok (.getfield 41, 3) := by decide +kernel
theorem dX3_orderMonths_40 : decode cX3_orderMonths 40 = .ok (.iload_n 2, 1) := by decide +kernel
theorem dX3_orderMonths_41 : decode cX3_orderMonths 41 = .ok (.laload, 1) := by decide +kernel
theorem dX3_orderMonths_42 : decode cX3_orderMonths 42 = .ok (.invokestatic 163, 3) := by decide +kernel
theorem dX3_orderMonths_45 : decode cX3_orderMonths 45 = .ok (.ireturn, 1) := by decide +kernel
set_option maxRecDepth 20000 in
theorem ggX3_time_X3_isSlot : GoodIn wsX3_time wsX3_isSlot := goodIn_r _ [11, 12, 13, 14, 10, 15] (by decide +kernel) (by decide +kernel)
set_option maxRecDepth 20000 in
theorem gX3_time_X3_isSlot : GoodIn wsX3_time (va_wsS RX3 174 yX3_isSlot wsX3_isSlot) := goodIn_app (goodIn_of _ (by decide +kernel)) ggX3_time_X3_isSlot
set_option maxRecDepth 20000 in
theorem ggX3_time_X3_in : GoodIn wsX3_time wsX3_in := goodIn_r _ [15] (by decide +kernel) (by decide +kernel)
set_option maxRecDepth 20000 in
theorem gX3_time_X3_in : GoodIn wsX3_time (va_wsS RX3 100 yX3_in wsX3_in) := goodIn_app (goodIn_of _ (by decide +kernel)) ggX3_time_X3_in
set_option maxRecDepth 20000 in
theorem ggX3_time_X3_fails : GoodIn wsX3_time wsX3_fails := goodIn_r _ [19, 20, 21, 22, 23, 24, 25, 26, 27, 28, 29, 30, 31, 32, 33, 34] (by decide +kernel) (by decide +kernel)
set_option maxRecDepth 20000 in
theorem gX3_time_X3_fails : GoodIn wsX3_time (wsV RX3 125 RX3 yX3_fails wsX3_fails) := goodIn_app (goodIn_of _ (by decide +kernel)) ggX3_time_X3_fails
theorem dX3_time_0 : decode cX3_time 0 = .ok (.aload_n 0, 1) := by decide +kernel
theorem dX3_time_1 : decode cX3_time 1 = .ok (.iload_n 1, 1) := by decide +kernel
theorem dX3_time_2 : decode cX3_time 2 = .ok (.invokestatic 174, 3) := by decide +kernel
theorem dX3_time_5 : decode cX3_time 5 = .ok (.ifCond .ne 7, 3) := by decide +kernel
theorem dX3_time_8 : decode cX3_time 8 = .ok (.iconst 1, 1) := by decide +kernel
theorem dX3_time_9 : decode cX3_time 9 = .ok (.goto 58, 3) := by decide +kernel
theorem dX3_time_12 : decode cX3_time 12 = .ok (.iload_n 2, 1) := by decide +kernel
theorem dX3_time_13 : decode cX3_time 13 = .ok (.i2l, 1) := by decide +kernel
theorem dX3_time_14 : decode cX3_time 14 = .ok (.lconst 0, 1) := by decide +kernel
theorem dX3_time_15 : decode cX3_time 15 = .ok (.ldc2_w 189, 3) := by decide +kernel
theorem dX3_time_18 : decode cX3_time 18 = .ok (.invokestatic 100, 3) := by decide +kernel
theorem dX3_time_21 : decode cX3_time 21 = .ok (.ifCond .eq 45, 3) := by decide +kernel
theorem dX3_time_24 : decode cX3_time 24 = .ok (.iload_n 3, 1) := by decide +kernel
theorem dX3_time_25 : decode cX3_time 25 = .ok (.i2l, 1) := by decide +kernel
theorem dX3_time_26 : decode cX3_time 26 = .ok (.lconst 0, 1) := by decide +kernel
theorem dX3_time_27 : decode cX3_time 27 = .ok (.ldc2_w 191, 3) := by decide +kernel
theorem dX3_time_30 : decode cX3_time 30 = .ok (.invokestatic 100, 3) := by decide +kernel
theorem dX3_time_33 : decode cX3_time 33 = .ok (.ifCond .eq 33, 3) := by decide +kernel
theorem dX3_time_36 : decode cX3_time 36 = .ok (.iload 4, 2) := by decide +kernel
theorem dX3_time_38 : decode cX3_time 38 = .ok (.i2l, 1) := by decide +kernel
theorem dX3_time_39 : decode cX3_time 39 = .ok (.lconst 0, 1) := by decide +kernel
theorem dX3_time_40 : decode cX3_time 40 = .ok (.ldc2_w 191, 3) := by decide +kernel
theorem dX3_time_43 : decode cX3_time 43 = .ok (.invokestatic 100, 3) := by decide +kernel
theorem dX3_time_46 : decode cX3_time 46 = .ok (.ifCond .eq 20, 3) := by decide +kernel
theorem dX3_time_49 : decode cX3_time 49 = .ok (.iload 5, 2) := by decide +kernel
theorem dX3_time_51 : decode cX3_time 51 = .ok (.i2l, 1) := by decide +kernel
theorem dX3_time_52 : decode cX3_time 52 = .ok (.lconst 0, 1) := by decide +kernel
theorem dX3_time_53 : decode cX3_time 53 = .ok (.ldc2_w 193, 3) := by decide +kernel
theorem dX3_time_56 : decode cX3_time 56 = .ok (.invokestatic 100, 3) := by decide +kernel
theorem dX3_time_59 : decode cX3_time 59 = .ok (.ifCond .eq 7, 3) := by decide +kernel
theorem dX3_time_62 : decode cX3_time 62 = .ok (.iconst 0, 1) := by decide +kernel
theorem dX3_time_63 : decode cX3_time 63 = .ok (.goto 4, 3) := by decide +kernel
theorem dX3_time_66 : decode cX3_time 66 = .ok (.iconst 2, 1) := by decide +kernel
theorem dX3_time_67 : decode cX3_time 67 = .ok (.invokevirtual 125, 3) := by decide +kernel
theorem dX3_time_70 : decode cX3_time 70 = .ok (.ifCond .eq 5, 3) := by decide +kernel
theorem dX3_time_73 : decode cX3_time 73 = .ok (.lconst 0, 1) := by decide +kernel
theorem dX3_time_74 : decode cX3_time 74 = .ok (.lreturn, 1) := by decide +kernel
theorem dX3_time_75 : decode cX3_time 75 = .ok (.aload_n 0, 1) := by decide +kernel
theorem dX3_time_76 : decode cX3_time 76 = .ok (.getfield 17, 3) := by decide +kernel
theorem dX3_time_79 : decode cX3_time 79 = .ok (.iload_n 1, 1) := by decide +kernel
theorem dX3_time_80 : decode cX3_time 80 = .ok (.ldc2_w 195, 3) := by decide +kernel
theorem dX3_time_83 : decode cX3_time 83 = .ok (.iload_n 2, 1) := by decide +kernel
theorem dX3_time_84 : decode cX3_time 84 = .ok (.i2l, 1) := by decide +kernel
theorem dX3_time_85 : decode cX3_time 85 = .ok (.lmul, 1) := by decide +kernel
theorem dX3_time_86 : decode cX3_time 86 = .ok (.ldc2_w 197, 3) := by decide +kernel
theorem dX3_time_89 : decode cX3_time 89 = .ok (.iload_n 3, 1) := by decide +kernel
theorem dX3_time_90 : decode cX3_time 90 = .ok (.i2l, 1) := by decide +kernel
theorem dX3_time_91 : decode cX3_time 91 = .ok (.lmul, 1) := by decide +kernel
theorem dX3_time_92 : decode cX3_time 92 = .ok (.ladd, 1) := by decide +kernel
theorem dX3_time_93 : decode cX3_time 93 = .ok (.iload 4, 2) := by decide +kernel
theorem dX3_time_95 : decode cX3_time 95 = .ok (.i2l, 1) := by decide +kernel
theorem dX3_time_96 : decode cX3_time 96 = .ok (.ladd, 1) := by decide +kernel
theorem dX3_time_97 : decode cX3_time 97 = .ok (.ldc2_w 199, 3) := by decide +kernel
theorem dX3_time_100 : decode cX3_time 100 = .ok (.lmul, 1) := by decide +kernel
theorem dX3_time_101 : decode cX3_time 101 = .ok (.iload 5, 2) := by decide +kernel
theorem dX3_time_103 : decode cX3_time 103 = .ok (.i2l, 1) := by decide +kernel
theorem dX3_time_104 : decode cX3_time 104 = .ok (.ladd, 1) := by decide +kernel
theorem dX3_time_105 : decode cX3_time 105 = .ok (.lastore, 1) := by decide +kernel
theorem dX3_time_106 : decode cX3_time 106 = .ok (.aload_n 0, 1) := by decide +kernel
theorem dX3_time_107 : decode cX3_time 107 = .ok (.getfield 17, 3) := by decide +kernel
theorem dX3_time_110 : decode cX3_time 110 = .ok (.iload_n 1, 1) := by decide +kernel
theorem dX3_time_111 : decode cX3_time 111 = .ok (.laload, 1) := by decide +kernel
theorem dX3_time_112 : decode cX3_time 112 = .ok (.lreturn, 1) := by decide +kernel
set_option maxRecDepth 20000 in
theorem ggX3_ofBillionths_X3_isSlot : GoodIn wsX3_ofBillionths wsX3_isSlot := goodIn_r _ [7, 8, 9, 10, 6, 11] (by decide +kernel) (by decide +kernel)
set_option maxRecDepth 20000 in
theorem gX3_ofBillionths_X3_isSlot : GoodIn wsX3_ofBillionths (va_wsS RX3 174 yX3_isSlot wsX3_isSlot) := goodIn_app (goodIn_of _ (by decide +kernel)) ggX3_ofBillionths_X3_isSlot
set_option maxRecDepth 20000 in
theorem ggX3_ofBillionths_X3_in : GoodIn wsX3_ofBillionths wsX3_in := goodIn_r _ [11] (by decide +kernel) (by decide +kernel)
set_option maxRecDepth 20000 in
theorem gX3_ofBillionths_X3_in : GoodIn wsX3_ofBillionths (va_wsS RX3 100 yX3_in wsX3_in) := goodIn_app (goodIn_of _ (by decide +kernel)) ggX3_ofBillionths_X3_in
set_option maxRecDepth 20000 in
theorem ggX3_ofBillionths_X3_fails : GoodIn wsX3_ofBillionths wsX3_fails := goodIn_r _ [15, 16, 17, 18, 19, 20, 21, 22, 23, 24, 25, 26, 27, 28, 29, 30] (by decide +kernel) (by decide +kernel)
set_option maxRecDepth 20000 in
theorem gX3_ofBillionths_X3_fails : GoodIn wsX3_ofBillionths (wsV RX3 125 RX3 yX3_fails wsX3_fails) := goodIn_app (goodIn_of _ (by decide +kernel)) ggX3_ofBillionths_X3_fails
theorem dX3_ofBillionths_0 : decode cX3_ofBillionths 0 = .ok (.aload_n 0, 1) := by decide +kernel
theorem dX3_ofBillionths_1 : decode cX3_ofBillionths 1 = .ok (.iload_n 1, 1) := by decide +kernel
theorem dX3_ofBillionths_2 : decode cX3_ofBillionths 2 = .ok (.invokestatic 174, 3) := by decide +kernel
theorem dX3_ofBillionths_5 : decode cX3_ofBillionths 5 = .ok (.ifCond .ne 7, 3) := by decide +kernel
theorem dX3_ofBillionths_8 : decode cX3_ofBillionths 8 = .ok (.iconst 1, 1) := by decide +kernel
theorem dX3_ofBillionths_9 : decode cX3_ofBillionths 9 = .ok (.goto 19, 3) := by decide +kernel
theorem dX3_ofBillionths_12 : decode cX3_ofBillionths 12 = .ok (.lload_n 2, 1) := by decide +kernel
theorem dX3_ofBillionths_13 : decode cX3_ofBillionths 13 = .ok (.lconst 0, 1) := by decide +kernel
theorem dX3_ofBillionths_14 : decode cX3_ofBillionths 14 = .ok (.ldc2_w 201, 3) := by decide +kernel
theorem dX3_ofBillionths_17 : decode cX3_ofBillionths 17 = .ok (.invokestatic 100, 3) := by decide +kernel
theorem dX3_ofBillionths_20 : decode cX3_ofBillionths 20 = .ok (.ifCond .eq 7, 3) := by decide +kernel
theorem dX3_ofBillionths_23 : decode cX3_ofBillionths 23 = .ok (.iconst 0, 1) := by decide +kernel
theorem dX3_ofBillionths_24 : decode cX3_ofBillionths 24 = .ok (.goto 4, 3) := by decide +kernel
theorem dX3_ofBillionths_27 : decode cX3_ofBillionths 27 = .ok (.iconst 2, 1) := by decide +kernel
theorem dX3_ofBillionths_28 : decode cX3_ofBillionths 28 = .ok (.invokevirtual 125, 3) := by decide +kernel
theorem dX3_ofBillionths_31 : decode cX3_ofBillionths 31 = .ok (.ifCond .eq 5, 3) := by decide +kernel
theorem dX3_ofBillionths_34 : decode cX3_ofBillionths 34 = .ok (.iconst 0, 1) := by decide +kernel
theorem dX3_ofBillionths_35 : decode cX3_ofBillionths 35 = .ok (.ireturn, 1) := by decide +kernel
theorem dX3_ofBillionths_36 : decode cX3_ofBillionths 36 = .ok (.aload_n 0, 1) := by decide +kernel
theorem dX3_ofBillionths_37 : decode cX3_ofBillionths 37 = .ok (.getfield 17, 3) := by decide +kernel
theorem dX3_ofBillionths_40 : decode cX3_ofBillionths 40 = .ok (.iload_n 1, 1) := by decide +kernel
theorem dX3_ofBillionths_41 : decode cX3_ofBillionths 41 = .ok (.lload_n 2, 1) := by decide +kernel
theorem dX3_ofBillionths_42 : decode cX3_ofBillionths 42 = .ok (.lastore, 1) := by decide +kernel
theorem dX3_ofBillionths_43 : decode cX3_ofBillionths 43 = .ok (.lload_n 2, 1) := by decide +kernel
theorem dX3_ofBillionths_44 : decode cX3_ofBillionths 44 = .ok (.ldc2_w 203, 3) := by decide +kernel
theorem dX3_ofBillionths_47 : decode cX3_ofBillionths 47 = .ok (.ldiv, 1) := by decide +kernel
theorem dX3_ofBillionths_48 : decode cX3_ofBillionths 48 = .ok (.l2i, 1) := by decide +kernel
theorem dX3_ofBillionths_49 : decode cX3_ofBillionths 49 = .ok (.ireturn, 1) := by decide +kernel
set_option maxRecDepth 20000 in
theorem ggX3_timePart_X3_isSlot : GoodIn wsX3_timePart wsX3_isSlot := goodIn_r _ [8, 9, 10, 11, 7, 12] (by decide +kernel) (by decide +kernel)
set_option maxRecDepth 20000 in
theorem gX3_timePart_X3_isSlot : GoodIn wsX3_timePart (va_wsS RX3 174 yX3_isSlot wsX3_isSlot) := goodIn_app (goodIn_of _ (by decide +kernel)) ggX3_timePart_X3_isSlot
set_option maxRecDepth 20000 in
theorem ggX3_timePart_X3_fails : GoodIn wsX3_timePart wsX3_fails := goodIn_r _ [16, 17, 18, 19, 20, 21, 22, 23, 24, 25, 26, 27, 28, 29, 30, 31] (by decide +kernel) (by decide +kernel)
set_option maxRecDepth 20000 in
theorem gX3_timePart_X3_fails : GoodIn wsX3_timePart (wsV RX3 125 RX3 yX3_fails wsX3_fails) := goodIn_app (goodIn_of _ (by decide +kernel)) ggX3_timePart_X3_fails
theorem dX3_timePart_0 : decode cX3_timePart 0 = .ok (.aload_n 0, 1) := by decide +kernel
theorem dX3_timePart_1 : decode cX3_timePart 1 = .ok (.iload_n 1, 1) := by decide +kernel
theorem dX3_timePart_2 : decode cX3_timePart 2 = .ok (.invokestatic 174, 3) := by decide +kernel
theorem dX3_timePart_5 : decode cX3_timePart 5 = .ok (.ifCond .ne 7, 3) := by decide +kernel
theorem dX3_timePart_8 : decode cX3_timePart 8 = .ok (.iconst 1, 1) := by decide +kernel
theorem dX3_timePart_9 : decode cX3_timePart 9 = .ok (.goto 32, 3) := by decide +kernel
theorem dX3_timePart_12 : decode cX3_timePart 12 = .ok (.iload_n 2, 1) := by decide +kernel
theorem dX3_timePart_13 : decode cX3_timePart 13 = .ok (.bipush 104, 2) := by decide +kernel
theorem dX3_timePart_15 : decode cX3_timePart 15 = .ok (.if_icmp .eq 21, 3) := by decide +kernel
theorem dX3_timePart_18 : decode cX3_timePart 18 = .ok (.iload_n 2, 1) := by decide +kernel
theorem dX3_timePart_19 : decode cX3_timePart 19 = .ok (.bipush 109, 2) := by decide +kernel
theorem dX3_timePart_21 : decode cX3_timePart 21 = .ok (.if_icmp .eq 15, 3) := by decide +kernel
theorem dX3_timePart_24 : decode cX3_timePart 24 = .ok (.iload_n 2, 1) := by decide +kernel
theorem dX3_timePart_25 : decode cX3_timePart 25 = .ok (.bipush 115, 2) := by decide +kernel
theorem dX3_timePart_27 : decode cX3_timePart 27 = .ok (.if_icmp .eq 9, 3) := by decide +kernel
theorem dX3_timePart_30 : decode cX3_timePart 30 = .ok (.iload_n 2, 1) := by decide +kernel
theorem dX3_timePart_31 : decode cX3_timePart 31 = .ok (.bipush 110, 2) := by decide +kernel
theorem dX3_timePart_33 : decode cX3_timePart 33 = .ok (.if_icmp .ne 7, 3) := by decide +kernel
theorem dX3_timePart_36 : decode cX3_timePart 36 = .ok (.iconst 0, 1) := by decide +kernel
theorem dX3_timePart_37 : decode cX3_timePart 37 = .ok (.goto 4, 3) := by decide +kernel
theorem dX3_timePart_40 : decode cX3_timePart 40 = .ok (.iconst 2, 1) := by decide +kernel
theorem dX3_timePart_41 : decode cX3_timePart 41 = .ok (.invokevirtual 125, 3) := by decide +kernel
theorem dX3_timePart_44 : decode cX3_timePart 44 = .ok (.ifCond .eq 5, 3) := by decide +kernel
theorem dX3_timePart_47 : decode cX3_timePart 47 = .ok (.iconst 0, 1) := by decide +kernel
theorem dX3_timePart_48 : decode cX3_timePart 48 = .ok (.ireturn, 1) := by decide +kernel
theorem dX3_timePart_49 : decode cX3_timePart 49 = .ok (.aload_n 0, 1) := by decide +kernel
theorem dX3_timePart_50 : decode cX3_timePart 50 = .ok (.getfield 17, 3) := by decide +kernel
theorem dX3_timePart_53 : decode cX3_timePart 53 = .ok (.iload_n 1, 1) := by decide +kernel
theorem dX3_timePart_54 : decode cX3_timePart 54 = .ok (.laload, 1) := by decide +kernel
theorem dX3_timePart_55 : decode cX3_timePart 55 = .ok (.ldc2_w 199, 3) := by decide +kernel
theorem dX3_timePart_58 : decode cX3_timePart 58 = .ok (.ldiv, 1) := by decide +kernel
theorem dX3_timePart_59 : decode cX3_timePart 59 = .ok (.lstore_n 3, 1) := by decide +kernel
theorem dX3_timePart_60 : decode cX3_timePart 60 = .ok (.iload_n 2, 1) := by decide +kernel
theorem dX3_timePart_61 : decode cX3_timePart 61 = .ok (.bipush 104, 2) := by decide +kernel
theorem dX3_timePart_63 : decode cX3_timePart 63 = .ok (.if_icmp .ne 11, 3) := by decide +kernel
theorem dX3_timePart_66 : decode cX3_timePart 66 = .ok (.lload_n 3, 1) := by decide +kernel
theorem dX3_timePart_67 : decode cX3_timePart 67 = .ok (.ldc2_w 195, 3) := by decide +kernel
theorem dX3_timePart_70 : decode cX3_timePart 70 = .ok (.ldiv, 1) := by decide +kernel
theorem dX3_timePart_71 : decode cX3_timePart 71 = .ok (.goto 45, 3) := by decide +kernel
theorem dX3_timePart_74 : decode cX3_timePart 74 = .ok (.iload_n 2, 1) := by decide +kernel
theorem dX3_timePart_75 : decode cX3_timePart 75 = .ok (.bipush 109, 2) := by decide +kernel
theorem dX3_timePart_77 : decode cX3_timePart 77 = .ok (.if_icmp .ne 15, 3) := by decide +kernel
theorem dX3_timePart_80 : decode cX3_timePart 80 = .ok (.lload_n 3, 1) := by decide +kernel
theorem dX3_timePart_81 : decode cX3_timePart 81 = .ok (.ldc2_w 197, 3) := by decide +kernel
theorem dX3_timePart_84 : decode cX3_timePart 84 = .ok (.ldiv, 1) := by decide +kernel
theorem dX3_timePart_85 : decode cX3_timePart 85 = .ok (.ldc2_w 197, 3) := by decide +kernel
theorem dX3_timePart_88 : decode cX3_timePart 88 = .ok (.lrem, 1) := by decide +kernel
theorem dX3_timePart_89 : decode cX3_timePart 89 = .ok (.goto 27, 3) := by decide +kernel
theorem dX3_timePart_92 : decode cX3_timePart 92 = .ok (.iload_n 2, 1) := by decide +kernel
theorem dX3_timePart_93 : decode cX3_timePart 93 = .ok (.bipush 115, 2) := by decide +kernel
theorem dX3_timePart_95 : decode cX3_timePart 95 = .ok (.if_icmp .ne 11, 3) := by decide +kernel
theorem dX3_timePart_98 : decode cX3_timePart 98 = .ok (.lload_n 3, 1) := by decide +kernel
theorem dX3_timePart_99 : decode cX3_timePart 99 = .ok (.ldc2_w 197, 3) := by decide +kernel
theorem dX3_timePart_102 : decode cX3_timePart 102 = .ok (.lrem, 1) := by decide +kernel
theorem dX3_timePart_103 : decode cX3_timePart 103 = .ok (.goto 13, 3) := by decide +kernel
theorem dX3_timePart_106 : decode cX3_timePart 106 = .ok (.aload_n 0, 1) := by decide +kernel
theorem dX3_timePart_107 : decode cX3_timePart 107 = .ok (.getfield 17, 3) := by decide +kernel
theorem dX3_timePart_110 : decode cX3_timePart 110 = .ok (.iload_n 1, 1) := by decide +kernel
theorem dX3_timePart_111 : decode cX3_timePart 111 = .ok (.laload, 1) := by decide +kernel
theorem dX3_timePart_112 : decode cX3_timePart 112 = .ok (.ldc2_w 199, 3) := by decide +kernel
theorem dX3_timePart_115 : decode cX3_timePart 115 = .ok (.lrem, 1) := by decide +kernel
theorem dX3_timePart_116 : decode cX3_timePart 116 = .ok (.l2i, 1) := by decide +kernel
theorem dX3_timePart_117 : decode cX3_timePart 117 = .ok (.ireturn, 1) := by decide +kernel
set_option maxRecDepth 20000 in
theorem ggX3_round_X3_rest : GoodIn wsX3_round wsX3_rest := goodIn_r _ [5, 6, 7, 4, 8] (by decide +kernel) (by decide +kernel)
set_option maxRecDepth 20000 in
theorem gX3_round_X3_rest : GoodIn wsX3_round (va_wsS RX3 52 yX3_rest wsX3_rest) := goodIn_app (goodIn_of _ (by decide +kernel)) ggX3_round_X3_rest
theorem dX3_round_0 : decode cX3_round 0 = .ok (.lload_n 0, 1) := by decide +kernel
theorem dX3_round_1 : decode cX3_round 1 = .ok (.ldc2_w 205, 3) := by decide +kernel
theorem dX3_round_4 : decode cX3_round 4 = .ok (.lload_n 2, 1) := by decide +kernel
theorem dX3_round_5 : decode cX3_round 5 = .ok (.ldiv, 1) := by decide +kernel
theorem dX3_round_6 : decode cX3_round 6 = .ok (.invokestatic 52, 3) := by decide +kernel
theorem dX3_round_9 : decode cX3_round 9 = .ok (.lload_n 2, 1) := by decide +kernel
theorem dX3_round_10 : decode cX3_round 10 = .ok (.lmul, 1) := by decide +kernel
theorem dX3_round_11 : decode cX3_round 11 = .ok (.lreturn, 1) := by decide +kernel
set_option maxRecDepth 20000 in
theorem ggX3_moveTime_X3_isSlot : GoodIn wsX3_moveTime wsX3_isSlot := goodIn_r _ [11, 12, 13, 14, 10, 15] (by decide +kernel) (by decide +kernel)
set_option maxRecDepth 20000 in
theorem gX3_moveTime_X3_isSlot : GoodIn wsX3_moveTime (va_wsS RX3 174 yX3_isSlot wsX3_isSlot) := goodIn_app (goodIn_of _ (by decide +kernel)) ggX3_moveTime_X3_isSlot
set_option maxRecDepth 20000 in
theorem ggX3_moveTime_X3_in : GoodIn wsX3_moveTime wsX3_in := goodIn_r _ [15] (by decide +kernel) (by decide +kernel)
set_option maxRecDepth 20000 in
theorem gX3_moveTime_X3_in : GoodIn wsX3_moveTime (va_wsS RX3 100 yX3_in wsX3_in) := goodIn_app (goodIn_of _ (by decide +kernel)) ggX3_moveTime_X3_in
set_option maxRecDepth 20000 in
theorem ggX3_moveTime_X3_fails : GoodIn wsX3_moveTime wsX3_fails := goodIn_r _ [19, 20, 30, 31, 32, 33, 34, 35, 36, 37, 38, 39, 40, 41, 42, 43] (by decide +kernel) (by decide +kernel)
set_option maxRecDepth 20000 in
theorem gX3_moveTime_X3_fails : GoodIn wsX3_moveTime (wsV RX3 125 RX3 yX3_fails wsX3_fails) := goodIn_app (goodIn_of _ (by decide +kernel)) ggX3_moveTime_X3_fails
set_option maxRecDepth 20000 in
theorem ggX3_moveTime_X3_round : GoodIn wsX3_moveTime wsX3_round := goodIn_r _ [23, 7, 24, 25, 10, 26, 27, 28, 29] (by decide +kernel) (by decide +kernel)
set_option maxRecDepth 20000 in
theorem gX3_moveTime_X3_round : GoodIn wsX3_moveTime (va_wsS RX3 213 yX3_round wsX3_round) := goodIn_app (goodIn_of _ (by decide +kernel)) ggX3_moveTime_X3_round
set_option maxRecDepth 20000 in
theorem ggX3_moveTime_X3_rest : GoodIn wsX3_moveTime wsX3_rest := goodIn_r _ [26, 27, 28, 10, 29] (by decide +kernel) (by decide +kernel)
set_option maxRecDepth 20000 in
theorem gX3_moveTime_X3_rest : GoodIn wsX3_moveTime (va_wsS RX3 52 yX3_rest wsX3_rest) := goodIn_app (goodIn_of _ (by decide +kernel)) ggX3_moveTime_X3_rest
theorem dX3_moveTime_0 : decode cX3_moveTime 0 = .ok (.aload_n 0, 1) := by decide +kernel
theorem dX3_moveTime_1 : decode cX3_moveTime 1 = .ok (.iload_n 1, 1) := by decide +kernel
theorem dX3_moveTime_2 : decode cX3_moveTime 2 = .ok (.invokestatic 174, 3) := by decide +kernel
theorem dX3_moveTime_5 : decode cX3_moveTime 5 = .ok (.ifCond .eq 11, 3) := by decide +kernel
theorem dX3_moveTime_8 : decode cX3_moveTime 8 = .ok (.iload 5, 2) := by decide +kernel
theorem dX3_moveTime_10 : decode cX3_moveTime 10 = .ok (.invokestatic 174, 3) := by decide +kernel
theorem dX3_moveTime_13 : decode cX3_moveTime 13 = .ok (.ifCond .ne 7, 3) := by decide +kernel
theorem dX3_moveTime_16 : decode cX3_moveTime 16 = .ok (.iconst 1, 1) := by decide +kernel
theorem dX3_moveTime_17 : decode cX3_moveTime 17 = .ok (.goto 45, 3) := by decide +kernel
theorem dX3_moveTime_20 : decode cX3_moveTime 20 = .ok (.iload_n 2, 1) := by decide +kernel
theorem dX3_moveTime_21 : decode cX3_moveTime 21 = .ok (.bipush 104, 2) := by decide +kernel
theorem dX3_moveTime_23 : decode cX3_moveTime 23 = .ok (.if_icmp .eq 21, 3) := by decide +kernel
theorem dX3_moveTime_26 : decode cX3_moveTime 26 = .ok (.iload_n 2, 1) := by decide +kernel
theorem dX3_moveTime_27 : decode cX3_moveTime 27 = .ok (.bipush 109, 2) := by decide +kernel
theorem dX3_moveTime_29 : decode cX3_moveTime 29 = .ok (.if_icmp .eq 15, 3) := by decide +kernel
theorem dX3_moveTime_32 : decode cX3_moveTime 32 = .ok (.iload_n 2, 1) := by decide +kernel
theorem dX3_moveTime_33 : decode cX3_moveTime 33 = .ok (.bipush 115, 2) := by decide +kernel
theorem dX3_moveTime_35 : decode cX3_moveTime 35 = .ok (.if_icmp .eq 9, 3) := by decide +kernel
theorem dX3_moveTime_38 : decode cX3_moveTime 38 = .ok (.iload_n 2, 1) := by decide +kernel
theorem dX3_moveTime_39 : decode cX3_moveTime 39 = .ok (.bipush 110, 2) := by decide +kernel
theorem dX3_moveTime_41 : decode cX3_moveTime 41 = .ok (.if_icmp .ne 20, 3) := by decide +kernel
theorem dX3_moveTime_44 : decode cX3_moveTime 44 = .ok (.lload_n 3, 1) := by decide +kernel
theorem dX3_moveTime_45 : decode cX3_moveTime 45 = .ok (.ldc2_w 207, 3) := by decide +kernel
theorem dX3_moveTime_48 : decode cX3_moveTime 48 = .ok (.ldc2_w 209, 3) := by decide +kernel
theorem dX3_moveTime_51 : decode cX3_moveTime 51 = .ok (.invokestatic 100, 3) := by decide +kernel
theorem dX3_moveTime_54 : decode cX3_moveTime 54 = .ok (.ifCond .eq 7, 3) := by decide +kernel
theorem dX3_moveTime_57 : decode cX3_moveTime 57 = .ok (.iconst 0, 1) := by decide +kernel
theorem dX3_moveTime_58 : decode cX3_moveTime 58 = .ok (.goto 4, 3) := by decide +kernel
theorem dX3_moveTime_61 : decode cX3_moveTime 61 = .ok (.iconst 2, 1) := by decide +kernel
theorem dX3_moveTime_62 : decode cX3_moveTime 62 = .ok (.invokevirtual 125, 3) := by decide +kernel
theorem dX3_moveTime_65 : decode cX3_moveTime 65 = .ok (.ifCond .eq 5, 3) := by decide +kernel
theorem dX3_moveTime_68 : decode cX3_moveTime 68 = .ok (.lconst 0, 1) := by decide +kernel
theorem dX3_moveTime_69 : decode cX3_moveTime 69 = .ok (.lreturn, 1) := by decide +kernel
theorem dX3_moveTime_70 : decode cX3_moveTime 70 = .ok (.aload_n 0, 1) := by decide +kernel
theorem dX3_moveTime_71 : decode cX3_moveTime 71 = .ok (.getfield 17, 3) := by decide +kernel
theorem dX3_moveTime_74 : decode cX3_moveTime 74 = .ok (.iload 5, 2) := by decide +kernel
theorem dX3_moveTime_76 : decode cX3_moveTime 76 = .ok (.aload_n 0, 1) := by decide +kernel
theorem dX3_moveTime_77 : decode cX3_moveTime 77 = .ok (.getfield 17, 3) := by decide +kernel
theorem dX3_moveTime_80 : decode cX3_moveTime 80 = .ok (.iload_n 1, 1) := by decide +kernel
theorem dX3_moveTime_81 : decode cX3_moveTime 81 = .ok (.laload, 1) := by decide +kernel
theorem dX3_moveTime_82 : decode cX3_moveTime 82 = .ok (.lload_n 3, 1) := by decide +kernel
theorem dX3_moveTime_83 : decode cX3_moveTime 83 = .ok (.iload_n 2, 1) := by decide +kernel
theorem dX3_moveTime_84 : decode cX3_moveTime 84 = .ok (.bipush 104, 2) := by decide +kernel
theorem dX3_moveTime_86 : decode cX3_moveTime 86 = .ok (.if_icmp .ne 9, 3) := by decide +kernel
theorem dX3_moveTime_89 : decode cX3_moveTime 89 = .ok (.ldc2_w 203, 3) := by decide +kernel
theorem dX3_moveTime_92 : decode cX3_moveTime 92 = .ok (.goto 28, 3) := by decide +kernel
theorem dX3_moveTime_95 : decode cX3_moveTime 95 = .ok (.iload_n 2, 1) := by decide +kernel
theorem dX3_moveTime_96 : decode cX3_moveTime 96 = .ok (.bipush 109, 2) := by decide +kernel
theorem dX3_moveTime_98 : decode cX3_moveTime 98 = .ok (.if_icmp .ne 9, 3) := by decide +kernel
theorem dX3_moveTime_101 : decode cX3_moveTime 101 = .ok (.ldc2_w 211, 3) := by decide +kernel
theorem dX3_moveTime_104 : decode cX3_moveTime 104 = .ok (.goto 16, 3) := by decide +kernel
theorem dX3_moveTime_107 : decode cX3_moveTime 107 = .ok (.iload_n 2, 1) := by decide +kernel
theorem dX3_moveTime_108 : decode cX3_moveTime 108 = .ok (.bipush 115, 2) := by decide +kernel
theorem dX3_moveTime_110 : decode cX3_moveTime 110 = .ok (.if_icmp .ne 9, 3) := by decide +kernel
theorem dX3_moveTime_113 : decode cX3_moveTime 113 = .ok (.ldc2_w 199, 3) := by decide +kernel
theorem dX3_moveTime_116 : decode cX3_moveTime 116 = .ok (.goto 4, 3) := by decide +kernel
theorem dX3_moveTime_119 : decode cX3_moveTime 119 = .ok (.lconst 1, 1) := by decide +kernel
theorem dX3_moveTime_120 : decode cX3_moveTime 120 = .ok (.invokestatic 213, 3) := by decide +kernel
theorem dX3_moveTime_123 : decode cX3_moveTime 123 = .ok (.ladd, 1) := by decide +kernel
theorem dX3_moveTime_124 : decode cX3_moveTime 124 = .ok (.ldc2_w 205, 3) := by decide +kernel
theorem dX3_moveTime_127 : decode cX3_moveTime 127 = .ok (.invokestatic 52, 3) := by decide +kernel
theorem dX3_moveTime_130 : decode cX3_moveTime 130 = .ok (.lastore, 1) := by decide +kernel
theorem dX3_moveTime_131 : decode cX3_moveTime 131 = .ok (.aload_n 0, 1) := by decide +kernel
theorem dX3_moveTime_132 : decode cX3_moveTime 132 = .ok (.getfield 17, 3) := by decide +kernel
theorem dX3_moveTime_135 : decode cX3_moveTime 135 = .ok (.iload 5, 2) := by decide +kernel
theorem dX3_moveTime_137 : decode cX3_moveTime 137 = .ok (.laload, 1) := by decide +kernel
theorem dX3_moveTime_138 : decode cX3_moveTime 138 = .ok (.lreturn, 1) := by decide +kernel
set_option maxRecDepth 20000 in
theorem ggX3_cutTime_X3_isSlot : GoodIn wsX3_cutTime wsX3_isSlot := goodIn_r _ [9, 10, 11, 12, 8, 13] (by decide +kernel) (by decide +kernel)
set_option maxRecDepth 20000 in
theorem gX3_cutTime_X3_isSlot : GoodIn wsX3_cutTime (va_wsS RX3 174 yX3_isSlot wsX3_isSlot) := goodIn_app (goodIn_of _ (by decide +kernel)) ggX3_cutTime_X3_isSlot
set_option maxRecDepth 20000 in
theorem ggX3_cutTime_X3_fails : GoodIn wsX3_cutTime wsX3_fails := goodIn_r _ [17, 18, 19, 20, 21, 22, 23, 24, 25, 26, 27, 28, 29, 30, 31, 32] (by decide +kernel) (by decide +kernel)
set_option maxRecDepth 20000 in
theorem gX3_cutTime_X3_fails : GoodIn wsX3_cutTime (wsV RX3 125 RX3 yX3_fails wsX3_fails) := goodIn_app (goodIn_of _ (by decide +kernel)) ggX3_cutTime_X3_fails
theorem dX3_cutTime_0 : decode cX3_cutTime 0 = .ok (.aload_n 0, 1) := by decide +kernel
theorem dX3_cutTime_1 : decode cX3_cutTime 1 = .ok (.iload_n 1, 1) := by decide +kernel
theorem dX3_cutTime_2 : decode cX3_cutTime 2 = .ok (.invokestatic 174, 3) := by decide +kernel
theorem dX3_cutTime_5 : decode cX3_cutTime 5 = .ok (.ifCond .eq 10, 3) := by decide +kernel
theorem dX3_cutTime_8 : decode cX3_cutTime 8 = .ok (.iload_n 3, 1) := by decide +kernel
theorem dX3_cutTime_9 : decode cX3_cutTime 9 = .ok (.invokestatic 174, 3) := by decide +kernel
theorem dX3_cutTime_12 : decode cX3_cutTime 12 = .ok (.ifCond .ne 7, 3) := by decide +kernel
theorem dX3_cutTime_15 : decode cX3_cutTime 15 = .ok (.iconst 1, 1) := by decide +kernel
theorem dX3_cutTime_16 : decode cX3_cutTime 16 = .ok (.goto 32, 3) := by decide +kernel
theorem dX3_cutTime_19 : decode cX3_cutTime 19 = .ok (.iload_n 2, 1) := by decide +kernel
theorem dX3_cutTime_20 : decode cX3_cutTime 20 = .ok (.bipush 104, 2) := by decide +kernel
theorem dX3_cutTime_22 : decode cX3_cutTime 22 = .ok (.if_icmp .eq 21, 3) := by decide +kernel
theorem dX3_cutTime_25 : decode cX3_cutTime 25 = .ok (.iload_n 2, 1) := by decide +kernel
theorem dX3_cutTime_26 : decode cX3_cutTime 26 = .ok (.bipush 109, 2) := by decide +kernel
theorem dX3_cutTime_28 : decode cX3_cutTime 28 = .ok (.if_icmp .eq 15, 3) := by decide +kernel
theorem dX3_cutTime_31 : decode cX3_cutTime 31 = .ok (.iload_n 2, 1) := by decide +kernel
theorem dX3_cutTime_32 : decode cX3_cutTime 32 = .ok (.bipush 115, 2) := by decide +kernel
theorem dX3_cutTime_34 : decode cX3_cutTime 34 = .ok (.if_icmp .eq 9, 3) := by decide +kernel
theorem dX3_cutTime_37 : decode cX3_cutTime 37 = .ok (.iload_n 2, 1) := by decide +kernel
theorem dX3_cutTime_38 : decode cX3_cutTime 38 = .ok (.bipush 100, 2) := by decide +kernel
theorem dX3_cutTime_40 : decode cX3_cutTime 40 = .ok (.if_icmp .ne 7, 3) := by decide +kernel
theorem dX3_cutTime_43 : decode cX3_cutTime 43 = .ok (.iconst 0, 1) := by decide +kernel
theorem dX3_cutTime_44 : decode cX3_cutTime 44 = .ok (.goto 4, 3) := by decide +kernel
theorem dX3_cutTime_47 : decode cX3_cutTime 47 = .ok (.iconst 2, 1) := by decide +kernel
theorem dX3_cutTime_48 : decode cX3_cutTime 48 = .ok (.invokevirtual 125, 3) := by decide +kernel
theorem dX3_cutTime_51 : decode cX3_cutTime 51 = .ok (.ifCond .eq 5, 3) := by decide +kernel
theorem dX3_cutTime_54 : decode cX3_cutTime 54 = .ok (.lconst 0, 1) := by decide +kernel
theorem dX3_cutTime_55 : decode cX3_cutTime 55 = .ok (.lreturn, 1) := by decide +kernel
theorem dX3_cutTime_56 : decode cX3_cutTime 56 = .ok (.iload_n 2, 1) := by decide +kernel
theorem dX3_cutTime_57 : decode cX3_cutTime 57 = .ok (.bipush 104, 2) := by decide +kernel
theorem dX3_cutTime_59 : decode cX3_cutTime 59 = .ok (.if_icmp .ne 9, 3) := by decide +kernel
theorem dX3_cutTime_62 : decode cX3_cutTime 62 = .ok (.ldc2_w 203, 3) := by decide +kernel
theorem dX3_cutTime_65 : decode cX3_cutTime 65 = .ok (.goto 30, 3) := by decide +kernel
theorem dX3_cutTime_68 : decode cX3_cutTime 68 = .ok (.iload_n 2, 1) := by decide +kernel
theorem dX3_cutTime_69 : decode cX3_cutTime 69 = .ok (.bipush 109, 2) := by decide +kernel
theorem dX3_cutTime_71 : decode cX3_cutTime 71 = .ok (.if_icmp .ne 9, 3) := by decide +kernel
theorem dX3_cutTime_74 : decode cX3_cutTime 74 = .ok (.ldc2_w 211, 3) := by decide +kernel
theorem dX3_cutTime_77 : decode cX3_cutTime 77 = .ok (.goto 18, 3) := by decide +kernel
theorem dX3_cutTime_80 : decode cX3_cutTime 80 = .ok (.iload_n 2, 1) := by decide +kernel
theorem dX3_cutTime_81 : decode cX3_cutTime 81 = .ok (.bipush 115, 2) := by decide +kernel
theorem dX3_cutTime_83 : decode cX3_cutTime 83 = .ok (.if_icmp .ne 9, 3) := by decide +kernel
theorem dX3_cutTime_86 : decode cX3_cutTime 86 = .ok (.ldc2_w 199, 3) := by decide +kernel
theorem dX3_cutTime_89 : decode cX3_cutTime 89 = .ok (.goto 6, 3) := by decide +kernel
theorem dX3_cutTime_92 : decode cX3_cutTime 92 = .ok (.ldc2_w 205, 3) := by decide +kernel
theorem dX3_cutTime_95 : decode cX3_cutTime 95 = .ok (.lstore 4, 2) := by decide +kernel
theorem dX3_cutTime_97 : decode cX3_cutTime 97 = .ok (.aload_n 0, 1) := by decide +kernel
theorem dX3_cutTime_98 : decode cX3_cutTime 98 = .ok (.getfield 17, 3) := by decide +kernel
theorem dX3_cutTime_101 : decode cX3_cutTime 101 = .ok (.iload_n 3, 1) := by decide +kernel
theorem dX3_cutTime_102 : decode cX3_cutTime 102 = .ok (.aload_n 0, 1) := by decide +kernel
theorem dX3_cutTime_103 : decode cX3_cutTime 103 = .ok (.getfield 17, 3) := by decide +kernel
theorem dX3_cutTime_106 : decode cX3_cutTime 106 = .ok (.iload_n 1, 1) := by decide +kernel
theorem dX3_cutTime_107 : decode cX3_cutTime 107 = .ok (.laload, 1) := by decide +kernel
theorem dX3_cutTime_108 : decode cX3_cutTime 108 = .ok (.aload_n 0, 1) := by decide +kernel
theorem dX3_cutTime_109 : decode cX3_cutTime 109 = .ok (.getfield 17, 3) := by decide +kernel
theorem dX3_cutTime_112 : decode cX3_cutTime 112 = .ok (.iload_n 1, 1) := by decide +kernel
theorem dX3_cutTime_113 : decode cX3_cutTime 113 = .ok (.laload, 1) := by decide +kernel
theorem dX3_cutTime_114 : decode cX3_cutTime 114 = .ok (.lload 4, 2) := by decide +kernel
theorem dX3_cutTime_116 : decode cX3_cutTime 116 = .ok (.lrem, 1) := by decide +kernel
theorem dX3_cutTime_117 : decode cX3_cutTime 117 = .ok (.lsub, 1) := by decide +kernel
theorem dX3_cutTime_118 : decode cX3_cutTime 118 = .ok (.lastore, 1) := by decide +kernel
theorem dX3_cutTime_119 : decode cX3_cutTime 119 = .ok (.aload_n 0, 1) := by decide +kernel
theorem dX3_cutTime_120 : decode cX3_cutTime 120 = .ok (.getfield 17, 3) := by decide +kernel
theorem dX3_cutTime_123 : decode cX3_cutTime 123 = .ok (.iload_n 3, 1) := by decide +kernel
theorem dX3_cutTime_124 : decode cX3_cutTime 124 = .ok (.laload, 1) := by decide +kernel
theorem dX3_cutTime_125 : decode cX3_cutTime 125 = .ok (.lreturn, 1) := by decide +kernel
set_option maxRecDepth 20000 in
theorem ggX3_goTime_X3_isSlot : GoodIn wsX3_goTime wsX3_isSlot := goodIn_r _ [9, 10, 11, 12, 8, 13] (by decide +kernel) (by decide +kernel)
set_option maxRecDepth 20000 in
theorem gX3_goTime_X3_isSlot : GoodIn wsX3_goTime (va_wsS RX3 174 yX3_isSlot wsX3_isSlot) := goodIn_app (goodIn_of _ (by decide +kernel)) ggX3_goTime_X3_isSlot
set_option maxRecDepth 20000 in
theorem ggX3_goTime_X3_fails : GoodIn wsX3_goTime wsX3_fails := goodIn_r _ [17, 18, 28, 29, 30, 31, 32, 33, 34, 35, 36, 37, 38, 39, 40, 41] (by decide +kernel) (by decide +kernel)
set_option maxRecDepth 20000 in
theorem gX3_goTime_X3_fails : GoodIn wsX3_goTime (wsV RX3 125 RX3 yX3_fails wsX3_fails) := goodIn_app (goodIn_of _ (by decide +kernel)) ggX3_goTime_X3_fails
set_option maxRecDepth 20000 in
theorem ggX3_goTime_X3_round : GoodIn wsX3_goTime wsX3_round := goodIn_r _ [21, 5, 22, 23, 8, 24, 25, 26, 27] (by decide +kernel) (by decide +kernel)
set_option maxRecDepth 20000 in
theorem gX3_goTime_X3_round : GoodIn wsX3_goTime (va_wsS RX3 213 yX3_round wsX3_round) := goodIn_app (goodIn_of _ (by decide +kernel)) ggX3_goTime_X3_round
set_option maxRecDepth 20000 in
theorem ggX3_goTime_X3_rest : GoodIn wsX3_goTime wsX3_rest := goodIn_r _ [24, 25, 26, 8, 27] (by decide +kernel) (by decide +kernel)
set_option maxRecDepth 20000 in
theorem gX3_goTime_X3_rest : GoodIn wsX3_goTime (va_wsS RX3 52 yX3_rest wsX3_rest) := goodIn_app (goodIn_of _ (by decide +kernel)) ggX3_goTime_X3_rest
theorem dX3_goTime_0 : decode cX3_goTime 0 = .ok (.aload_n 0, 1) := by decide +kernel
theorem dX3_goTime_1 : decode cX3_goTime 1 = .ok (.iload_n 1, 1) := by decide +kernel
theorem dX3_goTime_2 : decode cX3_goTime 2 = .ok (.invokestatic 174, 3) := by decide +kernel
theorem dX3_goTime_5 : decode cX3_goTime 5 = .ok (.ifCond .eq 22, 3) := by decide +kernel
theorem dX3_goTime_8 : decode cX3_goTime 8 = .ok (.iload_n 2, 1) := by decide +kernel
theorem dX3_goTime_9 : decode cX3_goTime 9 = .ok (.invokestatic 174, 3) := by decide +kernel
theorem dX3_goTime_12 : decode cX3_goTime 12 = .ok (.ifCond .eq 15, 3) := by decide +kernel
theorem dX3_goTime_15 : decode cX3_goTime 15 = .ok (.iload 4, 2) := by decide +kernel
theorem dX3_goTime_17 : decode cX3_goTime 17 = .ok (.invokestatic 174, 3) := by decide +kernel
theorem dX3_goTime_20 : decode cX3_goTime 20 = .ok (.ifCond .eq 7, 3) := by decide +kernel
theorem dX3_goTime_23 : decode cX3_goTime 23 = .ok (.iconst 0, 1) := by decide +kernel
theorem dX3_goTime_24 : decode cX3_goTime 24 = .ok (.goto 4, 3) := by decide +kernel
theorem dX3_goTime_27 : decode cX3_goTime 27 = .ok (.iconst 1, 1) := by decide +kernel
theorem dX3_goTime_28 : decode cX3_goTime 28 = .ok (.invokevirtual 125, 3) := by decide +kernel
theorem dX3_goTime_31 : decode cX3_goTime 31 = .ok (.ifCond .eq 5, 3) := by decide +kernel
theorem dX3_goTime_34 : decode cX3_goTime 34 = .ok (.lconst 0, 1) := by decide +kernel
theorem dX3_goTime_35 : decode cX3_goTime 35 = .ok (.lreturn, 1) := by decide +kernel
theorem dX3_goTime_36 : decode cX3_goTime 36 = .ok (.aload_n 0, 1) := by decide +kernel
theorem dX3_goTime_37 : decode cX3_goTime 37 = .ok (.getfield 20, 3) := by decide +kernel
theorem dX3_goTime_40 : decode cX3_goTime 40 = .ok (.iload_n 2, 1) := by decide +kernel
theorem dX3_goTime_41 : decode cX3_goTime 41 = .ok (.laload, 1) := by decide +kernel
theorem dX3_goTime_42 : decode cX3_goTime 42 = .ok (.ldc2_w 199, 3) := by decide +kernel
theorem dX3_goTime_45 : decode cX3_goTime 45 = .ok (.invokestatic 213, 3) := by decide +kernel
theorem dX3_goTime_48 : decode cX3_goTime 48 = .ok (.aload_n 0, 1) := by decide +kernel
theorem dX3_goTime_49 : decode cX3_goTime 49 = .ok (.getfield 23, 3) := by decide +kernel
theorem dX3_goTime_52 : decode cX3_goTime 52 = .ok (.iload_n 2, 1) := by decide +kernel
theorem dX3_goTime_53 : decode cX3_goTime 53 = .ok (.laload, 1) := by decide +kernel
theorem dX3_goTime_54 : decode cX3_goTime 54 = .ok (.ladd, 1) := by decide +kernel
theorem dX3_goTime_55 : decode cX3_goTime 55 = .ok (.lstore 5, 2) := by decide +kernel
theorem dX3_goTime_57 : decode cX3_goTime 57 = .ok (.aload_n 0, 1) := by decide +kernel
theorem dX3_goTime_58 : decode cX3_goTime 58 = .ok (.getfield 17, 3) := by decide +kernel
theorem dX3_goTime_61 : decode cX3_goTime 61 = .ok (.iload 4, 2) := by decide +kernel
theorem dX3_goTime_63 : decode cX3_goTime 63 = .ok (.aload_n 0, 1) := by decide +kernel
theorem dX3_goTime_64 : decode cX3_goTime 64 = .ok (.getfield 17, 3) := by decide +kernel
theorem dX3_goTime_67 : decode cX3_goTime 67 = .ok (.iload_n 1, 1) := by decide +kernel
theorem dX3_goTime_68 : decode cX3_goTime 68 = .ok (.laload, 1) := by decide +kernel
theorem dX3_goTime_69 : decode cX3_goTime 69 = .ok (.iload_n 3, 1) := by decide +kernel
theorem dX3_goTime_70 : decode cX3_goTime 70 = .ok (.ifCond .eq 9, 3) := by decide +kernel
theorem dX3_goTime_73 : decode cX3_goTime 73 = .ok (.lload 5, 2) := by decide +kernel
theorem dX3_goTime_75 : decode cX3_goTime 75 = .ok (.lneg, 1) := by decide +kernel
theorem dX3_goTime_76 : decode cX3_goTime 76 = .ok (.goto 5, 3) := by decide +kernel
theorem dX3_goTime_79 : decode cX3_goTime 79 = .ok (.lload 5, 2) := by decide +kernel
theorem dX3_goTime_81 : decode cX3_goTime 81 = .ok (.ladd, 1) := by decide +kernel
theorem dX3_goTime_82 : decode cX3_goTime 82 = .ok (.ldc2_w 205, 3) := by decide +kernel
theorem dX3_goTime_85 : decode cX3_goTime 85 = .ok (.invokestatic 52, 3) := by decide +kernel
theorem dX3_goTime_88 : decode cX3_goTime 88 = .ok (.lastore, 1) := by decide +kernel
theorem dX3_goTime_89 : decode cX3_goTime 89 = .ok (.aload_n 0, 1) := by decide +kernel
theorem dX3_goTime_90 : decode cX3_goTime 90 = .ok (.getfield 17, 3) := by decide +kernel
theorem dX3_goTime_93 : decode cX3_goTime 93 = .ok (.iload 4, 2) := by decide +kernel
theorem dX3_goTime_95 : decode cX3_goTime 95 = .ok (.laload, 1) := by decide +kernel
theorem dX3_goTime_96 : decode cX3_goTime 96 = .ok (.lreturn, 1) := by decide +kernel
set_option maxRecDepth 20000 in
theorem ggX3_orderTimes_X3_isSlot : GoodIn wsX3_orderTimes wsX3_isSlot := goodIn_r _ [5, 6, 7, 8, 4, 9] (by decide +kernel) (by decide +kernel)
set_option maxRecDepth 20000 in
theorem gX3_orderTimes_X3_isSlot : GoodIn wsX3_orderTimes (va_wsS RX3 174 yX3_isSlot wsX3_isSlot) := goodIn_app (goodIn_of _ (by decide +kernel)) ggX3_orderTimes_X3_isSlot
set_option maxRecDepth 20000 in
theorem ggX3_orderTimes_X3_fails : GoodIn wsX3_orderTimes wsX3_fails := goodIn_r _ [13, 14, 18, 19, 20, 21, 22, 23, 24, 25, 26, 27, 28, 29, 30, 31] (by decide +kernel) (by decide +kernel)
set_option maxRecDepth 20000 in
theorem gX3_orderTimes_X3_fails : GoodIn wsX3_orderTimes (wsV RX3 125 RX3 yX3_fails wsX3_fails) := goodIn_app (goodIn_of _ (by decide +kernel)) ggX3_orderTimes_X3_fails
set_option maxRecDepth 20000 in
theorem ggX3_orderTimes_X3_ordered : GoodIn wsX3_orderTimes wsX3_ordered := goodIn_r _ [17] (by decide +kernel) (by decide +kernel)
set_option maxRecDepth 20000 in
theorem gX3_orderTimes_X3_ordered : GoodIn wsX3_orderTimes (va_wsS RX3 163 yX3_ordered wsX3_ordered) := goodIn_app (goodIn_of _ (by decide +kernel)) ggX3_orderTimes_X3_ordered
theorem dX3_orderTimes_0 : decode cX3_orderTimes 0 = .ok (.aload_n 0, 1) := by decide +kernel
theorem dX3_orderTimes_1 : decode cX3_orderTimes 1 = .ok (.iload_n 1, 1) := by decide +kernel
theorem dX3_orderTimes_2 : decode cX3_orderTimes 2 = .ok (.invokestatic 174, 3) := by decide +kernel
theorem dX3_orderTimes_5 : decode cX3_orderTimes 5 = .ok (.ifCond .eq 14, 3) := by decide +kernel
theorem dX3_orderTimes_8 : decode cX3_orderTimes 8 = .ok (.iload_n 2, 1) := by decide +kernel
theorem dX3_orderTimes_9 : decode cX3_orderTimes 9 = .ok (.invokestatic 174, 3) := by decide +kernel
theorem dX3_orderTimes_12 : decode cX3_orderTimes 12 = .ok (.ifCond .eq 7, 3) := by decide +kernel
theorem dX3_orderTimes_15 : decode cX3_orderTimes 15 = .ok (.iconst 0, 1) := by decide +kernel
theorem dX3_orderTimes_16 : decode cX3_orderTimes 16 = .ok (.goto 4, 3) := by decide +kernel
theorem dX3_orderTimes_19 : decode cX3_orderTimes 19 = .ok (.iconst 1, 1) := by decide +kernel
theorem dX3_orderTimes_20 : decode cX3_orderTimes 20 = .ok (.invokevirtual 125, 3) := by decide +kernel
theorem dX3_orderTimes_23 : decode cX3_orderTimes 23 = .ok (.ifCond .eq 7, 3) := by decide +kernel
theorem dX3_orderTimes_26 : decode cX3_orderTimes 26 = .ok (.iconst 0, 1) := by decide +kernel
theorem dX3_orderTimes_27 : decode cX3_orderTimes 27 = .ok (.goto 18, 3) := by decide +kernel
theorem dX3_orderTimes_30 : decode cX3_orderTimes 30 = .ok (.aload_n 0, 1) := by decide +kernel
theorem dX3_orderTimes_31 : decode cX3_orderTimes 31 = .ok (.getfield 17, 3) := by decide +kernel
theorem dX3_orderTimes_34 : decode cX3_orderTimes 34 = .ok (.iload_n 1, 1) := by decide +kernel
theorem dX3_orderTimes_35 : decode cX3_orderTimes 35 = .ok (.laload, 1) := by decide +kernel
theorem dX3_orderTimes_36 : decode cX3_orderTimes 36 = .ok (.aload_n 0, 1) := by decide +kernel
theorem dX3_orderTimes_37 : decode cX3_orderTimes 37 = .ok (.getfield 17, 3) := by decide +kernel
theorem dX3_orderTimes_40 : decode cX3_orderTimes 40 = .ok (.iload_n 2, 1) := by decide +kernel
theorem dX3_orderTimes_41 : decode cX3_orderTimes 41 = .ok (.laload, 1) := by decide +kernel
theorem dX3_orderTimes_42 : decode cX3_orderTimes 42 = .ok (.invokestatic 163, 3) := by decide +kernel
theorem dX3_orderTimes_45 : decode cX3_orderTimes 45 = .ok (.ireturn, 1) := by decide +kernel
set_option maxRecDepth 20000 in
theorem ggX3_lasts_X3_floor : GoodIn wsX3_lasts wsX3_floor := goodIn_r _ [9] (by decide +kernel) (by decide +kernel)
set_option maxRecDepth 20000 in
theorem gX3_lasts_X3_floor : GoodIn wsX3_lasts (va_wsS RX3 46 yX3_floor wsX3_floor) := goodIn_app (goodIn_of _ (by decide +kernel)) ggX3_lasts_X3_floor
set_option maxRecDepth 20000 in
theorem ggX3_lasts_X3_rest : GoodIn wsX3_lasts wsX3_rest := goodIn_r _ [12, 6, 7, 8, 9] (by decide +kernel) (by decide +kernel)
set_option maxRecDepth 20000 in
theorem gX3_lasts_X3_rest : GoodIn wsX3_lasts (va_wsS RX3 52 yX3_rest wsX3_rest) := goodIn_app (goodIn_of _ (by decide +kernel)) ggX3_lasts_X3_rest
set_option maxRecDepth 20000 in
theorem ggX3_lasts_X3_fails : GoodIn wsX3_lasts wsX3_fails := goodIn_r _ [16, 17, 18, 19, 20, 21, 22, 23, 24, 25, 26, 27, 28, 29, 30, 31] (by decide +kernel) (by decide +kernel)
set_option maxRecDepth 20000 in
theorem gX3_lasts_X3_fails : GoodIn wsX3_lasts (wsV RX3 125 RX3 yX3_fails wsX3_fails) := goodIn_app (goodIn_of _ (by decide +kernel)) ggX3_lasts_X3_fails
theorem dX3_lasts_0 : decode cX3_lasts 0 = .ok (.lload_n 2, 1) := by decide +kernel
theorem dX3_lasts_1 : decode cX3_lasts 1 = .ok (.lload 4, 2) := by decide +kernel
theorem dX3_lasts_3 : decode cX3_lasts 3 = .ok (.ldc2_w 199, 3) := by decide +kernel
theorem dX3_lasts_6 : decode cX3_lasts 6 = .ok (.invokestatic 46, 3) := by decide +kernel
theorem dX3_lasts_9 : decode cX3_lasts 9 = .ok (.ladd, 1) := by decide +kernel
theorem dX3_lasts_10 : decode cX3_lasts 10 = .ok (.lstore 7, 2) := by decide +kernel
theorem dX3_lasts_12 : decode cX3_lasts 12 = .ok (.lload 4, 2) := by decide +kernel
theorem dX3_lasts_14 : decode cX3_lasts 14 = .ok (.ldc2_w 199, 3) := by decide +kernel
theorem dX3_lasts_17 : decode cX3_lasts 17 = .ok (.invokestatic 52, 3) := by decide +kernel
theorem dX3_lasts_20 : decode cX3_lasts 20 = .ok (.lstore 9, 2) := by decide +kernel
theorem dX3_lasts_22 : decode cX3_lasts 22 = .ok (.aload_n 0, 1) := by decide +kernel
theorem dX3_lasts_23 : decode cX3_lasts 23 = .ok (.lload 7, 2) := by decide +kernel
theorem dX3_lasts_25 : decode cX3_lasts 25 = .ok (.ldc2_w 216, 3) := by decide +kernel
theorem dX3_lasts_28 : decode cX3_lasts 28 = .ok (.lcmp, 1) := by decide +kernel
theorem dX3_lasts_29 : decode cX3_lasts 29 = .ok (.ifCond .lt 28, 3) := by decide +kernel
theorem dX3_lasts_32 : decode cX3_lasts 32 = .ok (.lload 7, 2) := by decide +kernel
theorem dX3_lasts_34 : decode cX3_lasts 34 = .ok (.ldc2_w 218, 3) := by decide +kernel
theorem dX3_lasts_37 : decode cX3_lasts 37 = .ok (.lcmp, 1) := by decide +kernel
theorem dX3_lasts_38 : decode cX3_lasts 38 = .ok (.ifCond .gt 19, 3) := by decide +kernel
theorem dX3_lasts_41 : decode cX3_lasts 41 = .ok (.lload 7, 2) := by decide +kernel
theorem dX3_lasts_43 : decode cX3_lasts 43 = .ok (.ldc2_w 218, 3) := by decide +kernel
theorem dX3_lasts_46 : decode cX3_lasts 46 = .ok (.lcmp, 1) := by decide +kernel
theorem dX3_lasts_47 : decode cX3_lasts 47 = .ok (.ifCond .ne 15, 3) := by decide +kernel
theorem dX3_lasts_50 : decode cX3_lasts 50 = .ok (.lload 9, 2) := by decide +kernel
theorem dX3_lasts_52 : decode cX3_lasts 52 = .ok (.lconst 0, 1) := by decide +kernel
theorem dX3_lasts_53 : decode cX3_lasts 53 = .ok (.lcmp, 1) := by decide +kernel
theorem dX3_lasts_54 : decode cX3_lasts 54 = .ok (.ifCond .le 8, 3) := by decide +kernel
theorem dX3_lasts_57 : decode cX3_lasts 57 = .ok (.iload 6, 2) := by decide +kernel
theorem dX3_lasts_59 : decode cX3_lasts 59 = .ok (.goto 4, 3) := by decide +kernel
theorem dX3_lasts_62 : decode cX3_lasts 62 = .ok (.iconst 0, 1) := by decide +kernel
theorem dX3_lasts_63 : decode cX3_lasts 63 = .ok (.invokevirtual 125, 3) := by decide +kernel
theorem dX3_lasts_66 : decode cX3_lasts 66 = .ok (.ifCond .eq 5, 3) := by decide +kernel
theorem dX3_lasts_69 : decode cX3_lasts 69 = .ok (.lconst 0, 1) := by decide +kernel
theorem dX3_lasts_70 : decode cX3_lasts 70 = .ok (.lreturn, 1) := by decide +kernel
theorem dX3_lasts_71 : decode cX3_lasts 71 = .ok (.aload_n 0, 1) := by decide +kernel
theorem dX3_lasts_72 : decode cX3_lasts 72 = .ok (.getfield 20, 3) := by decide +kernel
theorem dX3_lasts_75 : decode cX3_lasts 75 = .ok (.iload_n 1, 1) := by decide +kernel
theorem dX3_lasts_76 : decode cX3_lasts 76 = .ok (.lload 7, 2) := by decide +kernel
theorem dX3_lasts_78 : decode cX3_lasts 78 = .ok (.lastore, 1) := by decide +kernel
theorem dX3_lasts_79 : decode cX3_lasts 79 = .ok (.aload_n 0, 1) := by decide +kernel
theorem dX3_lasts_80 : decode cX3_lasts 80 = .ok (.getfield 23, 3) := by decide +kernel
theorem dX3_lasts_83 : decode cX3_lasts 83 = .ok (.iload_n 1, 1) := by decide +kernel
theorem dX3_lasts_84 : decode cX3_lasts 84 = .ok (.lload 9, 2) := by decide +kernel
theorem dX3_lasts_86 : decode cX3_lasts 86 = .ok (.lastore, 1) := by decide +kernel
theorem dX3_lasts_87 : decode cX3_lasts 87 = .ok (.lload 7, 2) := by decide +kernel
theorem dX3_lasts_89 : decode cX3_lasts 89 = .ok (.lreturn, 1) := by decide +kernel
set_option maxRecDepth 20000 in
theorem ggX3_length_X3_isSlot : GoodIn wsX3_length wsX3_isSlot := goodIn_r _ [8, 9, 10, 11, 7, 12] (by decide +kernel) (by decide +kernel)
set_option maxRecDepth 20000 in
theorem gX3_length_X3_isSlot : GoodIn wsX3_length (va_wsS RX3 174 yX3_isSlot wsX3_isSlot) := goodIn_app (goodIn_of _ (by decide +kernel)) ggX3_length_X3_isSlot
set_option maxRecDepth 20000 in
theorem ggX3_length_X3_in : GoodIn wsX3_length wsX3_in := goodIn_r _ [12] (by decide +kernel) (by decide +kernel)
set_option maxRecDepth 20000 in
theorem gX3_length_X3_in : GoodIn wsX3_length (va_wsS RX3 100 yX3_in wsX3_in) := goodIn_app (goodIn_of _ (by decide +kernel)) ggX3_length_X3_in
set_option maxRecDepth 20000 in
theorem ggX3_length_X3_fails : GoodIn wsX3_length wsX3_fails := goodIn_r _ [16, 17, 31, 32, 33, 34, 35, 36, 37, 38, 39, 40, 41, 42, 43, 44] (by decide +kernel) (by decide +kernel)
set_option maxRecDepth 20000 in
theorem gX3_length_X3_fails : GoodIn wsX3_length (wsV RX3 125 RX3 yX3_fails wsX3_fails) := goodIn_app (goodIn_of _ (by decide +kernel)) ggX3_length_X3_fails
set_option maxRecDepth 20000 in
theorem ggX3_length_X3_lasts : GoodIn wsX3_length wsX3_lasts := goodIn_ca (goodIn_r _ [21, 22, 1, 2, 23, 24, 25, 26, 7, 27, 28, 29, 30, 13, 14, 15, 16, 17, 31, 32, 33, 34, 35, 36, 37, 38, 39, 40, 41, 42, 43, 44] (by decide +kernel) (by decide +kernel)) (goodIn_sub (fun _ h => List.mem_cons_of_mem _ (List.mem_append_right _ h)) (by decide +kernel))
set_option maxRecDepth 20000 in
theorem gX3_length_X3_lasts : GoodIn wsX3_length (wsV RX3 220 RX3 yX3_lasts wsX3_lasts) := goodIn_app (goodIn_of _ (by decide +kernel)) ggX3_length_X3_lasts
theorem dX3_length_0 : decode cX3_length 0 = .ok (.aload_n 0, 1) := by decide +kernel
theorem dX3_length_1 : decode cX3_length 1 = .ok (.iload_n 1, 1) := by decide +kernel
theorem dX3_length_2 : decode cX3_length 2 = .ok (.invokestatic 174, 3) := by decide +kernel
theorem dX3_length_5 : decode cX3_length 5 = .ok (.ifCond .ne 7, 3) := by decide +kernel
theorem dX3_length_8 : decode cX3_length 8 = .ok (.iconst 1, 1) := by decide +kernel
theorem dX3_length_9 : decode cX3_length 9 = .ok (.goto 35, 3) := by decide +kernel
theorem dX3_length_12 : decode cX3_length 12 = .ok (.lload_n 2, 1) := by decide +kernel
theorem dX3_length_13 : decode cX3_length 13 = .ok (.ldc2_w 216, 3) := by decide +kernel
theorem dX3_length_16 : decode cX3_length 16 = .ok (.ldc2_w 218, 3) := by decide +kernel
theorem dX3_length_19 : decode cX3_length 19 = .ok (.invokestatic 100, 3) := by decide +kernel
theorem dX3_length_22 : decode cX3_length 22 = .ok (.ifCond .eq 21, 3) := by decide +kernel
theorem dX3_length_25 : decode cX3_length 25 = .ok (.lload 4, 2) := by decide +kernel
theorem dX3_length_27 : decode cX3_length 27 = .ok (.ldc2_w 207, 3) := by decide +kernel
theorem dX3_length_30 : decode cX3_length 30 = .ok (.ldc2_w 209, 3) := by decide +kernel
theorem dX3_length_33 : decode cX3_length 33 = .ok (.invokestatic 100, 3) := by decide +kernel
theorem dX3_length_36 : decode cX3_length 36 = .ok (.ifCond .eq 7, 3) := by decide +kernel
theorem dX3_length_39 : decode cX3_length 39 = .ok (.iconst 0, 1) := by decide +kernel
theorem dX3_length_40 : decode cX3_length 40 = .ok (.goto 4, 3) := by decide +kernel
theorem dX3_length_43 : decode cX3_length 43 = .ok (.iconst 2, 1) := by decide +kernel
theorem dX3_length_44 : decode cX3_length 44 = .ok (.invokevirtual 125, 3) := by decide +kernel
theorem dX3_length_47 : decode cX3_length 47 = .ok (.ifCond .eq 5, 3) := by decide +kernel
theorem dX3_length_50 : decode cX3_length 50 = .ok (.lconst 0, 1) := by decide +kernel
theorem dX3_length_51 : decode cX3_length 51 = .ok (.lreturn, 1) := by decide +kernel
theorem dX3_length_52 : decode cX3_length 52 = .ok (.aload_n 0, 1) := by decide +kernel
theorem dX3_length_53 : decode cX3_length 53 = .ok (.iload_n 1, 1) := by decide +kernel
theorem dX3_length_54 : decode cX3_length 54 = .ok (.lload_n 2, 1) := by decide +kernel
theorem dX3_length_55 : decode cX3_length 55 = .ok (.lload 4, 2) := by decide +kernel
theorem dX3_length_57 : decode cX3_length 57 = .ok (.iconst 3, 1) := by decide +kernel
theorem dX3_length_58 : decode cX3_length 58 = .ok (.invokevirtual 220, 3) := by decide +kernel
theorem dX3_length_61 : decode cX3_length 61 = .ok (.lreturn, 1) := by decide +kernel
set_option maxRecDepth 20000 in
theorem ggX3_lengthPart_X3_isSlot : GoodIn wsX3_lengthPart wsX3_isSlot := goodIn_r _ [6, 7, 8, 9, 5, 10] (by decide +kernel) (by decide +kernel)
set_option maxRecDepth 20000 in
theorem gX3_lengthPart_X3_isSlot : GoodIn wsX3_lengthPart (va_wsS RX3 174 yX3_isSlot wsX3_isSlot) := goodIn_app (goodIn_of _ (by decide +kernel)) ggX3_lengthPart_X3_isSlot
set_option maxRecDepth 20000 in
theorem ggX3_lengthPart_X3_fails : GoodIn wsX3_lengthPart wsX3_fails := goodIn_r _ [14, 15, 16, 17, 18, 19, 20, 21, 22, 23, 24, 25, 26, 27, 28, 29] (by decide +kernel) (by decide +kernel)
set_option maxRecDepth 20000 in
theorem gX3_lengthPart_X3_fails : GoodIn wsX3_lengthPart (wsV RX3 125 RX3 yX3_fails wsX3_fails) := goodIn_app (goodIn_of _ (by decide +kernel)) ggX3_lengthPart_X3_fails
theorem dX3_lengthPart_0 : decode cX3_lengthPart 0 = .ok (.aload_n 0, 1) := by decide +kernel
theorem dX3_lengthPart_1 : decode cX3_lengthPart 1 = .ok (.iload_n 1, 1) := by decide +kernel
theorem dX3_lengthPart_2 : decode cX3_lengthPart 2 = .ok (.invokestatic 174, 3) := by decide +kernel
theorem dX3_lengthPart_5 : decode cX3_lengthPart 5 = .ok (.ifCond .ne 7, 3) := by decide +kernel
theorem dX3_lengthPart_8 : decode cX3_lengthPart 8 = .ok (.iconst 1, 1) := by decide +kernel
theorem dX3_lengthPart_9 : decode cX3_lengthPart 9 = .ok (.goto 20, 3) := by decide +kernel
theorem dX3_lengthPart_12 : decode cX3_lengthPart 12 = .ok (.iload_n 2, 1) := by decide +kernel
theorem dX3_lengthPart_13 : decode cX3_lengthPart 13 = .ok (.bipush 115, 2) := by decide +kernel
theorem dX3_lengthPart_15 : decode cX3_lengthPart 15 = .ok (.if_icmp .eq 9, 3) := by decide +kernel
theorem dX3_lengthPart_18 : decode cX3_lengthPart 18 = .ok (.iload_n 2, 1) := by decide +kernel
theorem dX3_lengthPart_19 : decode cX3_lengthPart 19 = .ok (.bipush 110, 2) := by decide +kernel
theorem dX3_lengthPart_21 : decode cX3_lengthPart 21 = .ok (.if_icmp .ne 7, 3) := by decide +kernel
theorem dX3_lengthPart_24 : decode cX3_lengthPart 24 = .ok (.iconst 0, 1) := by decide +kernel
theorem dX3_lengthPart_25 : decode cX3_lengthPart 25 = .ok (.goto 4, 3) := by decide +kernel
theorem dX3_lengthPart_28 : decode cX3_lengthPart 28 = .ok (.iconst 2, 1) := by decide +kernel
theorem dX3_lengthPart_29 : decode cX3_lengthPart 29 = .ok (.invokevirtual 125, 3) := by decide +kernel
theorem dX3_lengthPart_32 : decode cX3_lengthPart 32 = .ok (.ifCond .eq 7, 3) := by decide +kernel
theorem dX3_lengthPart_35 : decode cX3_lengthPart 35 = .ok (.lconst 0, 1) := by decide +kernel
theorem dX3_lengthPart_36 : decode cX3_lengthPart 36 = .ok (.goto 24, 3) := by decide +kernel
theorem dX3_lengthPart_39 : decode cX3_lengthPart 39 = .ok (.iload_n 2, 1) := by decide +kernel
theorem dX3_lengthPart_40 : decode cX3_lengthPart 40 = .ok (.bipush 115, 2) := by decide +kernel
theorem dX3_lengthPart_42 : decode cX3_lengthPart 42 = .ok (.if_icmp .ne 12, 3) := by decide +kernel
theorem dX3_lengthPart_45 : decode cX3_lengthPart 45 = .ok (.aload_n 0, 1) := by decide +kernel
theorem dX3_lengthPart_46 : decode cX3_lengthPart 46 = .ok (.getfield 20, 3) := by decide +kernel
theorem dX3_lengthPart_49 : decode cX3_lengthPart 49 = .ok (.iload_n 1, 1) := by decide +kernel
theorem dX3_lengthPart_50 : decode cX3_lengthPart 50 = .ok (.laload, 1) := by decide +kernel
theorem dX3_lengthPart_51 : decode cX3_lengthPart 51 = .ok (.goto 9, 3) := by decide +kernel
theorem dX3_lengthPart_54 : decode cX3_lengthPart 54 = .ok (.aload_n 0, 1) := by decide +kernel
theorem dX3_lengthPart_55 : decode cX3_lengthPart 55 = .ok (.getfield 23, 3) := by decide +kernel
theorem dX3_lengthPart_58 : decode cX3_lengthPart 58 = .ok (.iload_n 1, 1) := by decide +kernel
theorem dX3_lengthPart_59 : decode cX3_lengthPart 59 = .ok (.laload, 1) := by decide +kernel
theorem dX3_lengthPart_60 : decode cX3_lengthPart 60 = .ok (.lreturn, 1) := by decide +kernel
set_option maxRecDepth 20000 in
theorem ggX3_addLength_X3_isSlot : GoodIn wsX3_addLength wsX3_isSlot := goodIn_r _ [7, 8, 9, 10, 6, 11] (by decide +kernel) (by decide +kernel)
set_option maxRecDepth 20000 in
theorem gX3_addLength_X3_isSlot : GoodIn wsX3_addLength (va_wsS RX3 174 yX3_isSlot wsX3_isSlot) := goodIn_app (goodIn_of _ (by decide +kernel)) ggX3_addLength_X3_isSlot
set_option maxRecDepth 20000 in
theorem ggX3_addLength_X3_fails : GoodIn wsX3_addLength wsX3_fails := goodIn_r _ [15, 16, 30, 31, 32, 33, 34, 35, 36, 37, 38, 39, 40, 41, 42, 43] (by decide +kernel) (by decide +kernel)
set_option maxRecDepth 20000 in
theorem gX3_addLength_X3_fails : GoodIn wsX3_addLength (wsV RX3 125 RX3 yX3_fails wsX3_fails) := goodIn_app (goodIn_of _ (by decide +kernel)) ggX3_addLength_X3_fails
set_option maxRecDepth 20000 in
theorem ggX3_addLength_X3_lasts : GoodIn wsX3_addLength wsX3_lasts := goodIn_ca (goodIn_r _ [20, 21, 22, 23, 2, 3, 24, 25, 6, 26, 27, 28, 29, 12, 13, 14, 15, 16, 30, 31, 32, 33, 34, 35, 36, 37, 38, 39, 40, 41, 42, 43] (by decide +kernel) (by decide +kernel)) (goodIn_sub (fun _ h => List.mem_cons_of_mem _ (List.mem_append_right _ h)) (by decide +kernel))
set_option maxRecDepth 20000 in
theorem gX3_addLength_X3_lasts : GoodIn wsX3_addLength (wsV RX3 220 RX3 yX3_lasts wsX3_lasts) := goodIn_app (goodIn_of _ (by decide +kernel)) ggX3_addLength_X3_lasts
theorem dX3_addLength_0 : decode cX3_addLength 0 = .ok (.aload_n 0, 1) := by decide +kernel
theorem dX3_addLength_1 : decode cX3_addLength 1 = .ok (.iload_n 1, 1) := by decide +kernel
theorem dX3_addLength_2 : decode cX3_addLength 2 = .ok (.invokestatic 174, 3) := by decide +kernel
theorem dX3_addLength_5 : decode cX3_addLength 5 = .ok (.ifCond .eq 22, 3) := by decide +kernel
theorem dX3_addLength_8 : decode cX3_addLength 8 = .ok (.iload_n 2, 1) := by decide +kernel
theorem dX3_addLength_9 : decode cX3_addLength 9 = .ok (.invokestatic 174, 3) := by decide +kernel
theorem dX3_addLength_12 : decode cX3_addLength 12 = .ok (.ifCond .eq 15, 3) := by decide +kernel
theorem dX3_addLength_15 : decode cX3_addLength 15 = .ok (.iload 4, 2) := by decide +kernel
theorem dX3_addLength_17 : decode cX3_addLength 17 = .ok (.invokestatic 174, 3) := by decide +kernel
theorem dX3_addLength_20 : decode cX3_addLength 20 = .ok (.ifCond .eq 7, 3) := by decide +kernel
theorem dX3_addLength_23 : decode cX3_addLength 23 = .ok (.iconst 0, 1) := by decide +kernel
theorem dX3_addLength_24 : decode cX3_addLength 24 = .ok (.goto 4, 3) := by decide +kernel
theorem dX3_addLength_27 : decode cX3_addLength 27 = .ok (.iconst 1, 1) := by decide +kernel
theorem dX3_addLength_28 : decode cX3_addLength 28 = .ok (.invokevirtual 125, 3) := by decide +kernel
theorem dX3_addLength_31 : decode cX3_addLength 31 = .ok (.ifCond .eq 5, 3) := by decide +kernel
theorem dX3_addLength_34 : decode cX3_addLength 34 = .ok (.lconst 0, 1) := by decide +kernel
theorem dX3_addLength_35 : decode cX3_addLength 35 = .ok (.lreturn, 1) := by decide +kernel
theorem dX3_addLength_36 : decode cX3_addLength 36 = .ok (.iload_n 3, 1) := by decide +kernel
theorem dX3_addLength_37 : decode cX3_addLength 37 = .ok (.ifCond .eq 9, 3) := by decide +kernel
theorem dX3_addLength_40 : decode cX3_addLength 40 = .ok (.ldc2_w 181, 3) := by decide +kernel
theorem dX3_addLength_43 : decode cX3_addLength 43 = .ok (.goto 4, 3) := by decide +kernel
theorem dX3_addLength_46 : decode cX3_addLength 46 = .ok (.lconst 1, 1) := by decide +kernel
theorem dX3_addLength_47 : decode cX3_addLength 47 = .ok (.lstore 5, 2) := by decide +kernel
theorem dX3_addLength_49 : decode cX3_addLength 49 = .ok (.aload_n 0, 1) := by decide +kernel
theorem dX3_addLength_50 : decode cX3_addLength 50 = .ok (.iload 4, 2) := by decide +kernel
theorem dX3_addLength_52 : decode cX3_addLength 52 = .ok (.aload_n 0, 1) := by decide +kernel
theorem dX3_addLength_53 : decode cX3_addLength 53 = .ok (.getfield 20, 3) := by decide +kernel
theorem dX3_addLength_56 : decode cX3_addLength 56 = .ok (.iload_n 1, 1) := by decide +kernel
theorem dX3_addLength_57 : decode cX3_addLength 57 = .ok (.laload, 1) := by decide +kernel
theorem dX3_addLength_58 : decode cX3_addLength 58 = .ok (.lload 5, 2) := by decide +kernel
theorem dX3_addLength_60 : decode cX3_addLength 60 = .ok (.aload_n 0, 1) := by decide +kernel
theorem dX3_addLength_61 : decode cX3_addLength 61 = .ok (.getfield 20, 3) := by decide +kernel
theorem dX3_addLength_64 : decode cX3_addLength 64 = .ok (.iload_n 2, 1) := by decide +kernel
theorem dX3_addLength_65 : decode cX3_addLength 65 = .ok (.laload, 1) := by decide +kernel
theorem dX3_addLength_66 : decode cX3_addLength 66 = .ok (.lmul, 1) := by decide +kernel
theorem dX3_addLength_67 : decode cX3_addLength 67 = .ok (.ladd, 1) := by decide +kernel
theorem dX3_addLength_68 : decode cX3_addLength 68 = .ok (.aload_n 0, 1) := by decide +kernel
theorem dX3_addLength_69 : decode cX3_addLength 69 = .ok (.getfield 23, 3) := by decide +kernel
theorem dX3_addLength_72 : decode cX3_addLength 72 = .ok (.iload_n 1, 1) := by decide +kernel
theorem dX3_addLength_73 : decode cX3_addLength 73 = .ok (.laload, 1) := by decide +kernel
theorem dX3_addLength_74 : decode cX3_addLength 74 = .ok (.lload 5, 2) := by decide +kernel
theorem dX3_addLength_76 : decode cX3_addLength 76 = .ok (.aload_n 0, 1) := by decide +kernel
theorem dX3_addLength_77 : decode cX3_addLength 77 = .ok (.getfield 23, 3) := by decide +kernel
theorem dX3_addLength_80 : decode cX3_addLength 80 = .ok (.iload_n 2, 1) := by decide +kernel
theorem dX3_addLength_81 : decode cX3_addLength 81 = .ok (.laload, 1) := by decide +kernel
theorem dX3_addLength_82 : decode cX3_addLength 82 = .ok (.lmul, 1) := by decide +kernel
theorem dX3_addLength_83 : decode cX3_addLength 83 = .ok (.ladd, 1) := by decide +kernel
theorem dX3_addLength_84 : decode cX3_addLength 84 = .ok (.iconst 2, 1) := by decide +kernel
theorem dX3_addLength_85 : decode cX3_addLength 85 = .ok (.invokevirtual 220, 3) := by decide +kernel
theorem dX3_addLength_88 : decode cX3_addLength 88 = .ok (.lreturn, 1) := by decide +kernel
set_option maxRecDepth 20000 in
theorem ggX3_timesLength_X3_isSlot : GoodIn wsX3_timesLength wsX3_isSlot := goodIn_r _ [8, 9, 10, 11, 7, 12] (by decide +kernel) (by decide +kernel)
set_option maxRecDepth 20000 in
theorem gX3_timesLength_X3_isSlot : GoodIn wsX3_timesLength (va_wsS RX3 174 yX3_isSlot wsX3_isSlot) := goodIn_app (goodIn_of _ (by decide +kernel)) ggX3_timesLength_X3_isSlot
set_option maxRecDepth 20000 in
theorem ggX3_timesLength_X3_in : GoodIn wsX3_timesLength wsX3_in := goodIn_r _ [12] (by decide +kernel) (by decide +kernel)
set_option maxRecDepth 20000 in
theorem gX3_timesLength_X3_in : GoodIn wsX3_timesLength (va_wsS RX3 100 yX3_in wsX3_in) := goodIn_app (goodIn_of _ (by decide +kernel)) ggX3_timesLength_X3_in
set_option maxRecDepth 20000 in
theorem ggX3_timesLength_X3_fails : GoodIn wsX3_timesLength wsX3_fails := goodIn_r _ [16, 17, 31, 32, 33, 34, 35, 36, 37, 38, 39, 40, 41, 42, 43, 44] (by decide +kernel) (by decide +kernel)
set_option maxRecDepth 20000 in
theorem gX3_timesLength_X3_fails : GoodIn wsX3_timesLength (wsV RX3 125 RX3 yX3_fails wsX3_fails) := goodIn_app (goodIn_of _ (by decide +kernel)) ggX3_timesLength_X3_fails
set_option maxRecDepth 20000 in
theorem ggX3_timesLength_X3_lasts : GoodIn wsX3_timesLength wsX3_lasts := goodIn_ca (goodIn_r _ [21, 22, 23, 24, 3, 4, 25, 26, 7, 27, 28, 29, 30, 13, 14, 15, 16, 17, 31, 32, 33, 34, 35, 36, 37, 38, 39, 40, 41, 42, 43, 44] (by decide +kernel) (by decide +kernel)) (goodIn_sub (fun _ h => List.mem_cons_of_mem _ (List.mem_append_right _ h)) (by decide +kernel))
set_option maxRecDepth 20000 in
theorem gX3_timesLength_X3_lasts : GoodIn wsX3_timesLength (wsV RX3 220 RX3 yX3_lasts wsX3_lasts) := goodIn_app (goodIn_of _ (by decide +kernel)) ggX3_timesLength_X3_lasts
theorem dX3_timesLength_0 : decode cX3_timesLength 0 = .ok (.aload_n 0, 1) := by decide +kernel
theorem dX3_timesLength_1 : decode cX3_timesLength 1 = .ok (.iload_n 1, 1) := by decide +kernel
theorem dX3_timesLength_2 : decode cX3_timesLength 2 = .ok (.invokestatic 174, 3) := by decide +kernel
theorem dX3_timesLength_5 : decode cX3_timesLength 5 = .ok (.ifCond .eq 10, 3) := by decide +kernel
theorem dX3_timesLength_8 : decode cX3_timesLength 8 = .ok (.iload_n 3, 1) := by decide +kernel
theorem dX3_timesLength_9 : decode cX3_timesLength 9 = .ok (.invokestatic 174, 3) := by decide +kernel
theorem dX3_timesLength_12 : decode cX3_timesLength 12 = .ok (.ifCond .ne 7, 3) := by decide +kernel
theorem dX3_timesLength_15 : decode cX3_timesLength 15 = .ok (.iconst 1, 1) := by decide +kernel
theorem dX3_timesLength_16 : decode cX3_timesLength 16 = .ok (.goto 22, 3) := by decide +kernel
theorem dX3_timesLength_19 : decode cX3_timesLength 19 = .ok (.iload_n 2, 1) := by decide +kernel
theorem dX3_timesLength_20 : decode cX3_timesLength 20 = .ok (.i2l, 1) := by decide +kernel
theorem dX3_timesLength_21 : decode cX3_timesLength 21 = .ok (.ldc2_w 224, 3) := by decide +kernel
theorem dX3_timesLength_24 : decode cX3_timesLength 24 = .ok (.ldc2_w 226, 3) := by decide +kernel
theorem dX3_timesLength_27 : decode cX3_timesLength 27 = .ok (.invokestatic 100, 3) := by decide +kernel
theorem dX3_timesLength_30 : decode cX3_timesLength 30 = .ok (.ifCond .eq 7, 3) := by decide +kernel
theorem dX3_timesLength_33 : decode cX3_timesLength 33 = .ok (.iconst 0, 1) := by decide +kernel
theorem dX3_timesLength_34 : decode cX3_timesLength 34 = .ok (.goto 4, 3) := by decide +kernel
theorem dX3_timesLength_37 : decode cX3_timesLength 37 = .ok (.iconst 2, 1) := by decide +kernel
theorem dX3_timesLength_38 : decode cX3_timesLength 38 = .ok (.invokevirtual 125, 3) := by decide +kernel
theorem dX3_timesLength_41 : decode cX3_timesLength 41 = .ok (.ifCond .eq 5, 3) := by decide +kernel
theorem dX3_timesLength_44 : decode cX3_timesLength 44 = .ok (.lconst 0, 1) := by decide +kernel
theorem dX3_timesLength_45 : decode cX3_timesLength 45 = .ok (.lreturn, 1) := by decide +kernel
theorem dX3_timesLength_46 : decode cX3_timesLength 46 = .ok (.aload_n 0, 1) := by decide +kernel
theorem dX3_timesLength_47 : decode cX3_timesLength 47 = .ok (.iload_n 3, 1) := by decide +kernel
theorem dX3_timesLength_48 : decode cX3_timesLength 48 = .ok (.iload_n 2, 1) := by decide +kernel
theorem dX3_timesLength_49 : decode cX3_timesLength 49 = .ok (.i2l, 1) := by decide +kernel
theorem dX3_timesLength_50 : decode cX3_timesLength 50 = .ok (.aload_n 0, 1) := by decide +kernel
theorem dX3_timesLength_51 : decode cX3_timesLength 51 = .ok (.getfield 20, 3) := by decide +kernel
theorem dX3_timesLength_54 : decode cX3_timesLength 54 = .ok (.iload_n 1, 1) := by decide +kernel
theorem dX3_timesLength_55 : decode cX3_timesLength 55 = .ok (.laload, 1) := by decide +kernel
theorem dX3_timesLength_56 : decode cX3_timesLength 56 = .ok (.lmul, 1) := by decide +kernel
theorem dX3_timesLength_57 : decode cX3_timesLength 57 = .ok (.iload_n 2, 1) := by decide +kernel
theorem dX3_timesLength_58 : decode cX3_timesLength 58 = .ok (.i2l, 1) := by decide +kernel
theorem dX3_timesLength_59 : decode cX3_timesLength 59 = .ok (.aload_n 0, 1) := by decide +kernel
theorem dX3_timesLength_60 : decode cX3_timesLength 60 = .ok (.getfield 23, 3) := by decide +kernel
theorem dX3_timesLength_63 : decode cX3_timesLength 63 = .ok (.iload_n 1, 1) := by decide +kernel
theorem dX3_timesLength_64 : decode cX3_timesLength 64 = .ok (.laload, 1) := by decide +kernel
theorem dX3_timesLength_65 : decode cX3_timesLength 65 = .ok (.lmul, 1) := by decide +kernel
theorem dX3_timesLength_66 : decode cX3_timesLength 66 = .ok (.iconst 3, 1) := by decide +kernel
theorem dX3_timesLength_67 : decode cX3_timesLength 67 = .ok (.invokevirtual 220, 3) := by decide +kernel
theorem dX3_timesLength_70 : decode cX3_timesLength 70 = .ok (.lreturn, 1) := by decide +kernel
set_option maxRecDepth 20000 in
theorem ggX3_lengthOfTimes_X3_isSlot : GoodIn wsX3_lengthOfTimes wsX3_isSlot := goodIn_r _ [5, 6, 7, 8, 4, 9] (by decide +kernel) (by decide +kernel)
set_option maxRecDepth 20000 in
theorem gX3_lengthOfTimes_X3_isSlot : GoodIn wsX3_lengthOfTimes (va_wsS RX3 174 yX3_isSlot wsX3_isSlot) := goodIn_app (goodIn_of _ (by decide +kernel)) ggX3_lengthOfTimes_X3_isSlot
set_option maxRecDepth 20000 in
theorem ggX3_lengthOfTimes_X3_fails : GoodIn wsX3_lengthOfTimes wsX3_fails := goodIn_r _ [13, 14, 30, 31, 32, 33, 34, 35, 36, 37, 38, 39, 40, 41, 42, 43] (by decide +kernel) (by decide +kernel)
set_option maxRecDepth 20000 in
theorem gX3_lengthOfTimes_X3_fails : GoodIn wsX3_lengthOfTimes (wsV RX3 125 RX3 yX3_fails wsX3_fails) := goodIn_app (goodIn_of _ (by decide +kernel)) ggX3_lengthOfTimes_X3_fails
set_option maxRecDepth 20000 in
theorem ggX3_lengthOfTimes_X3_lasts : GoodIn wsX3_lengthOfTimes wsX3_lasts := goodIn_ca (goodIn_r _ [18, 19, 20, 21, 22, 23, 24, 25, 4, 26, 27, 28, 29, 10, 11, 12, 13, 14, 30, 31, 32, 33, 34, 35, 36, 37, 38, 39, 40, 41, 42, 43] (by decide +kernel) (by decide +kernel)) (goodIn_sub (fun _ h => List.mem_cons_of_mem _ (List.mem_append_right _ h)) (by decide +kernel))
set_option maxRecDepth 20000 in
theorem gX3_lengthOfTimes_X3_lasts : GoodIn wsX3_lengthOfTimes (wsV RX3 220 RX3 yX3_lasts wsX3_lasts) := goodIn_app (goodIn_of _ (by decide +kernel)) ggX3_lengthOfTimes_X3_lasts
theorem dX3_lengthOfTimes_0 : decode cX3_lengthOfTimes 0 = .ok (.aload_n 0, 1) := by decide +kernel
theorem dX3_lengthOfTimes_1 : decode cX3_lengthOfTimes 1 = .ok (.iload_n 1, 1) := by decide +kernel
theorem dX3_lengthOfTimes_2 : decode cX3_lengthOfTimes 2 = .ok (.invokestatic 174, 3) := by decide +kernel
theorem dX3_lengthOfTimes_5 : decode cX3_lengthOfTimes 5 = .ok (.ifCond .eq 21, 3) := by decide +kernel
theorem dX3_lengthOfTimes_8 : decode cX3_lengthOfTimes 8 = .ok (.iload_n 2, 1) := by decide +kernel
theorem dX3_lengthOfTimes_9 : decode cX3_lengthOfTimes 9 = .ok (.invokestatic 174, 3) := by decide +kernel
theorem dX3_lengthOfTimes_12 : decode cX3_lengthOfTimes 12 = .ok (.ifCond .eq 14, 3) := by decide +kernel
theorem dX3_lengthOfTimes_15 : decode cX3_lengthOfTimes 15 = .ok (.iload_n 3, 1) := by decide +kernel
theorem dX3_lengthOfTimes_16 : decode cX3_lengthOfTimes 16 = .ok (.invokestatic 174, 3) := by decide +kernel
theorem dX3_lengthOfTimes_19 : decode cX3_lengthOfTimes 19 = .ok (.ifCond .eq 7, 3) := by decide +kernel
theorem dX3_lengthOfTimes_22 : decode cX3_lengthOfTimes 22 = .ok (.iconst 0, 1) := by decide +kernel
theorem dX3_lengthOfTimes_23 : decode cX3_lengthOfTimes 23 = .ok (.goto 4, 3) := by decide +kernel
theorem dX3_lengthOfTimes_26 : decode cX3_lengthOfTimes 26 = .ok (.iconst 1, 1) := by decide +kernel
theorem dX3_lengthOfTimes_27 : decode cX3_lengthOfTimes 27 = .ok (.invokevirtual 125, 3) := by decide +kernel
theorem dX3_lengthOfTimes_30 : decode cX3_lengthOfTimes 30 = .ok (.ifCond .eq 7, 3) := by decide +kernel
theorem dX3_lengthOfTimes_33 : decode cX3_lengthOfTimes 33 = .ok (.lconst 0, 1) := by decide +kernel
theorem dX3_lengthOfTimes_34 : decode cX3_lengthOfTimes 34 = .ok (.goto 23, 3) := by decide +kernel
theorem dX3_lengthOfTimes_37 : decode cX3_lengthOfTimes 37 = .ok (.aload_n 0, 1) := by decide +kernel
theorem dX3_lengthOfTimes_38 : decode cX3_lengthOfTimes 38 = .ok (.iload_n 3, 1) := by decide +kernel
theorem dX3_lengthOfTimes_39 : decode cX3_lengthOfTimes 39 = .ok (.lconst 0, 1) := by decide +kernel
theorem dX3_lengthOfTimes_40 : decode cX3_lengthOfTimes 40 = .ok (.aload_n 0, 1) := by decide +kernel
theorem dX3_lengthOfTimes_41 : decode cX3_lengthOfTimes 41 = .ok (.getfield 17, 3) := by decide +kernel
theorem dX3_lengthOfTimes_44 : decode cX3_lengthOfTimes 44 = .ok (.iload_n 2, 1) := by decide +kernel
theorem dX3_lengthOfTimes_45 : decode cX3_lengthOfTimes 45 = .ok (.laload, 1) := by decide +kernel
theorem dX3_lengthOfTimes_46 : decode cX3_lengthOfTimes 46 = .ok (.aload_n 0, 1) := by decide +kernel
theorem dX3_lengthOfTimes_47 : decode cX3_lengthOfTimes 47 = .ok (.getfield 17, 3) := by decide +kernel
theorem dX3_lengthOfTimes_50 : decode cX3_lengthOfTimes 50 = .ok (.iload_n 1, 1) := by decide +kernel
theorem dX3_lengthOfTimes_51 : decode cX3_lengthOfTimes 51 = .ok (.laload, 1) := by decide +kernel
theorem dX3_lengthOfTimes_52 : decode cX3_lengthOfTimes 52 = .ok (.lsub, 1) := by decide +kernel
theorem dX3_lengthOfTimes_53 : decode cX3_lengthOfTimes 53 = .ok (.iconst 2, 1) := by decide +kernel
theorem dX3_lengthOfTimes_54 : decode cX3_lengthOfTimes 54 = .ok (.invokevirtual 220, 3) := by decide +kernel
theorem dX3_lengthOfTimes_57 : decode cX3_lengthOfTimes 57 = .ok (.lreturn, 1) := by decide +kernel
set_option maxRecDepth 20000 in
theorem ggX3_orderLengths_X3_isSlot : GoodIn wsX3_orderLengths wsX3_isSlot := goodIn_r _ [6, 7, 8, 9, 5, 10] (by decide +kernel) (by decide +kernel)
set_option maxRecDepth 20000 in
theorem gX3_orderLengths_X3_isSlot : GoodIn wsX3_orderLengths (va_wsS RX3 174 yX3_isSlot wsX3_isSlot) := goodIn_app (goodIn_of _ (by decide +kernel)) ggX3_orderLengths_X3_isSlot
set_option maxRecDepth 20000 in
theorem ggX3_orderLengths_X3_fails : GoodIn wsX3_orderLengths wsX3_fails := goodIn_r _ [14, 15, 19, 20, 21, 22, 23, 24, 25, 26, 27, 28, 29, 30, 31, 32] (by decide +kernel) (by decide +kernel)
set_option maxRecDepth 20000 in
theorem gX3_orderLengths_X3_fails : GoodIn wsX3_orderLengths (wsV RX3 125 RX3 yX3_fails wsX3_fails) := goodIn_app (goodIn_of _ (by decide +kernel)) ggX3_orderLengths_X3_fails
set_option maxRecDepth 20000 in
theorem ggX3_orderLengths_X3_ordered : GoodIn wsX3_orderLengths wsX3_ordered := goodIn_r _ [18] (by decide +kernel) (by decide +kernel)
set_option maxRecDepth 20000 in
theorem gX3_orderLengths_X3_ordered : GoodIn wsX3_orderLengths (va_wsS RX3 163 yX3_ordered wsX3_ordered) := goodIn_app (goodIn_of _ (by decide +kernel)) ggX3_orderLengths_X3_ordered
theorem dX3_orderLengths_0 : decode cX3_orderLengths 0 = .ok (.aload_n 0, 1) := by decide +kernel
theorem dX3_orderLengths_1 : decode cX3_orderLengths 1 = .ok (.iload_n 1, 1) := by decide +kernel
theorem dX3_orderLengths_2 : decode cX3_orderLengths 2 = .ok (.invokestatic 174, 3) := by decide +kernel
theorem dX3_orderLengths_5 : decode cX3_orderLengths 5 = .ok (.ifCond .eq 14, 3) := by decide +kernel
theorem dX3_orderLengths_8 : decode cX3_orderLengths 8 = .ok (.iload_n 2, 1) := by decide +kernel
theorem dX3_orderLengths_9 : decode cX3_orderLengths 9 = .ok (.invokestatic 174, 3) := by decide +kernel
theorem dX3_orderLengths_12 : decode cX3_orderLengths 12 = .ok (.ifCond .eq 7, 3) := by decide +kernel
theorem dX3_orderLengths_15 : decode cX3_orderLengths 15 = .ok (.iconst 0, 1) := by decide +kernel
theorem dX3_orderLengths_16 : decode cX3_orderLengths 16 = .ok (.goto 4, 3) := by decide +kernel
theorem dX3_orderLengths_19 : decode cX3_orderLengths 19 = .ok (.iconst 1, 1) := by decide +kernel
theorem dX3_orderLengths_20 : decode cX3_orderLengths 20 = .ok (.invokevirtual 125, 3) := by decide +kernel
theorem dX3_orderLengths_23 : decode cX3_orderLengths 23 = .ok (.ifCond .eq 5, 3) := by decide +kernel
theorem dX3_orderLengths_26 : decode cX3_orderLengths 26 = .ok (.iconst 0, 1) := by decide +kernel
theorem dX3_orderLengths_27 : decode cX3_orderLengths 27 = .ok (.ireturn, 1) := by decide +kernel
theorem dX3_orderLengths_28 : decode cX3_orderLengths 28 = .ok (.aload_n 0, 1) := by decide +kernel
theorem dX3_orderLengths_29 : decode cX3_orderLengths 29 = .ok (.getfield 20, 3) := by decide +kernel
theorem dX3_orderLengths_32 : decode cX3_orderLengths 32 = .ok (.iload_n 1, 1) := by decide +kernel
theorem dX3_orderLengths_33 : decode cX3_orderLengths 33 = .ok (.laload, 1) := by decide +kernel
theorem dX3_orderLengths_34 : decode cX3_orderLengths 34 = .ok (.aload_n 0, 1) := by decide +kernel
theorem dX3_orderLengths_35 : decode cX3_orderLengths 35 = .ok (.getfield 20, 3) := by decide +kernel
theorem dX3_orderLengths_38 : decode cX3_orderLengths 38 = .ok (.iload_n 2, 1) := by decide +kernel
theorem dX3_orderLengths_39 : decode cX3_orderLengths 39 = .ok (.laload, 1) := by decide +kernel
theorem dX3_orderLengths_40 : decode cX3_orderLengths 40 = .ok (.lcmp, 1) := by decide +kernel
theorem dX3_orderLengths_41 : decode cX3_orderLengths 41 = .ok (.ifCond .eq 21, 3) := by decide +kernel
theorem dX3_orderLengths_44 : decode cX3_orderLengths 44 = .ok (.aload_n 0, 1) := by decide +kernel
theorem dX3_orderLengths_45 : decode cX3_orderLengths 45 = .ok (.getfield 20, 3) := by decide +kernel
theorem dX3_orderLengths_48 : decode cX3_orderLengths 48 = .ok (.iload_n 1, 1) := by decide +kernel
theorem dX3_orderLengths_49 : decode cX3_orderLengths 49 = .ok (.laload, 1) := by decide +kernel
theorem dX3_orderLengths_50 : decode cX3_orderLengths 50 = .ok (.aload_n 0, 1) := by decide +kernel
theorem dX3_orderLengths_51 : decode cX3_orderLengths 51 = .ok (.getfield 20, 3) := by decide +kernel
theorem dX3_orderLengths_54 : decode cX3_orderLengths 54 = .ok (.iload_n 2, 1) := by decide +kernel
theorem dX3_orderLengths_55 : decode cX3_orderLengths 55 = .ok (.laload, 1) := by decide +kernel
theorem dX3_orderLengths_56 : decode cX3_orderLengths 56 = .ok (.invokestatic 163, 3) := by decide +kernel
theorem dX3_orderLengths_59 : decode cX3_orderLengths 59 = .ok (.goto 18, 3) := by decide +kernel
theorem dX3_orderLengths_62 : decode cX3_orderLengths 62 = .ok (.aload_n 0, 1) := by decide +kernel
theorem dX3_orderLengths_63 : decode cX3_orderLengths 63 = .ok (.getfield 23, 3) := by decide +kernel
theorem dX3_orderLengths_66 : decode cX3_orderLengths 66 = .ok (.iload_n 1, 1) := by decide +kernel
theorem dX3_orderLengths_67 : decode cX3_orderLengths 67 = .ok (.laload, 1) := by decide +kernel
theorem dX3_orderLengths_68 : decode cX3_orderLengths 68 = .ok (.aload_n 0, 1) := by decide +kernel
theorem dX3_orderLengths_69 : decode cX3_orderLengths 69 = .ok (.getfield 23, 3) := by decide +kernel
theorem dX3_orderLengths_72 : decode cX3_orderLengths 72 = .ok (.iload_n 2, 1) := by decide +kernel
theorem dX3_orderLengths_73 : decode cX3_orderLengths 73 = .ok (.laload, 1) := by decide +kernel
theorem dX3_orderLengths_74 : decode cX3_orderLengths 74 = .ok (.invokestatic 163, 3) := by decide +kernel
theorem dX3_orderLengths_77 : decode cX3_orderLengths 77 = .ok (.ireturn, 1) := by decide +kernel
set_option maxRecDepth 20000 in
theorem ggX3_moment_X3_isSlot : GoodIn wsX3_moment wsX3_isSlot := goodIn_r _ [8, 9, 10, 11, 7, 12] (by decide +kernel) (by decide +kernel)
set_option maxRecDepth 20000 in
theorem gX3_moment_X3_isSlot : GoodIn wsX3_moment (va_wsS RX3 174 yX3_isSlot wsX3_isSlot) := goodIn_app (goodIn_of _ (by decide +kernel)) ggX3_moment_X3_isSlot
set_option maxRecDepth 20000 in
theorem ggX3_moment_X3_isDate : GoodIn wsX3_moment wsX3_isDate := goodIn_r _ [15, 16, 10, 11, 7, 12] (by decide +kernel) (by decide +kernel)
set_option maxRecDepth 20000 in
theorem gX3_moment_X3_isDate : GoodIn wsX3_moment (va_wsS RX3 121 yX3_isDate wsX3_isDate) := goodIn_app (goodIn_of _ (by decide +kernel)) ggX3_moment_X3_isDate
set_option maxRecDepth 20000 in
theorem ggX3_moment_X3_fails : GoodIn wsX3_moment wsX3_fails := goodIn_r _ [20, 21, 22, 23, 24, 25, 26, 27, 28, 29, 30, 31, 32, 33, 34, 35] (by decide +kernel) (by decide +kernel)
set_option maxRecDepth 20000 in
theorem gX3_moment_X3_fails : GoodIn wsX3_moment (wsV RX3 125 RX3 yX3_fails wsX3_fails) := goodIn_app (goodIn_of _ (by decide +kernel)) ggX3_moment_X3_fails
theorem dX3_moment_0 : decode cX3_moment 0 = .ok (.aload_n 0, 1) := by decide +kernel
theorem dX3_moment_1 : decode cX3_moment 1 = .ok (.iload_n 1, 1) := by decide +kernel
theorem dX3_moment_2 : decode cX3_moment 2 = .ok (.invokestatic 174, 3) := by decide +kernel
theorem dX3_moment_5 : decode cX3_moment 5 = .ok (.ifCond .eq 21, 3) := by decide +kernel
theorem dX3_moment_8 : decode cX3_moment 8 = .ok (.iload_n 2, 1) := by decide +kernel
theorem dX3_moment_9 : decode cX3_moment 9 = .ok (.invokestatic 121, 3) := by decide +kernel
theorem dX3_moment_12 : decode cX3_moment 12 = .ok (.ifCond .eq 14, 3) := by decide +kernel
theorem dX3_moment_15 : decode cX3_moment 15 = .ok (.iload_n 3, 1) := by decide +kernel
theorem dX3_moment_16 : decode cX3_moment 16 = .ok (.invokestatic 174, 3) := by decide +kernel
theorem dX3_moment_19 : decode cX3_moment 19 = .ok (.ifCond .eq 7, 3) := by decide +kernel
theorem dX3_moment_22 : decode cX3_moment 22 = .ok (.iconst 0, 1) := by decide +kernel
theorem dX3_moment_23 : decode cX3_moment 23 = .ok (.goto 4, 3) := by decide +kernel
theorem dX3_moment_26 : decode cX3_moment 26 = .ok (.iconst 1, 1) := by decide +kernel
theorem dX3_moment_27 : decode cX3_moment 27 = .ok (.invokevirtual 125, 3) := by decide +kernel
theorem dX3_moment_30 : decode cX3_moment 30 = .ok (.ifCond .eq 5, 3) := by decide +kernel
theorem dX3_moment_33 : decode cX3_moment 33 = .ok (.lconst 0, 1) := by decide +kernel
theorem dX3_moment_34 : decode cX3_moment 34 = .ok (.lreturn, 1) := by decide +kernel
theorem dX3_moment_35 : decode cX3_moment 35 = .ok (.aload_n 0, 1) := by decide +kernel
theorem dX3_moment_36 : decode cX3_moment 36 = .ok (.getfield 26, 3) := by decide +kernel
theorem dX3_moment_39 : decode cX3_moment 39 = .ok (.iload_n 1, 1) := by decide +kernel
theorem dX3_moment_40 : decode cX3_moment 40 = .ok (.aload_n 0, 1) := by decide +kernel
theorem dX3_moment_41 : decode cX3_moment 41 = .ok (.getfield 13, 3) := by decide +kernel
theorem dX3_moment_44 : decode cX3_moment 44 = .ok (.iload_n 2, 1) := by decide +kernel
theorem dX3_moment_45 : decode cX3_moment 45 = .ok (.laload, 1) := by decide +kernel
theorem dX3_moment_46 : decode cX3_moment 46 = .ok (.lastore, 1) := by decide +kernel
theorem dX3_moment_47 : decode cX3_moment 47 = .ok (.aload_n 0, 1) := by decide +kernel
theorem dX3_moment_48 : decode cX3_moment 48 = .ok (.getfield 29, 3) := by decide +kernel
theorem dX3_moment_51 : decode cX3_moment 51 = .ok (.iload_n 1, 1) := by decide +kernel
theorem dX3_moment_52 : decode cX3_moment 52 = .ok (.aload_n 0, 1) := by decide +kernel
theorem dX3_moment_53 : decode cX3_moment 53 = .ok (.getfield 17, 3) := by decide +kernel
theorem dX3_moment_56 : decode cX3_moment 56 = .ok (.iload_n 3, 1) := by decide +kernel
theorem dX3_moment_57 : decode cX3_moment 57 = .ok (.laload, 1) := by decide +kernel
theorem dX3_moment_58 : decode cX3_moment 58 = .ok (.lastore, 1) := by decide +kernel
theorem dX3_moment_59 : decode cX3_moment 59 = .ok (.aload_n 0, 1) := by decide +kernel
theorem dX3_moment_60 : decode cX3_moment 60 = .ok (.getfield 26, 3) := by decide +kernel
theorem dX3_moment_63 : decode cX3_moment 63 = .ok (.iload_n 1, 1) := by decide +kernel
theorem dX3_moment_64 : decode cX3_moment 64 = .ok (.laload, 1) := by decide +kernel
theorem dX3_moment_65 : decode cX3_moment 65 = .ok (.lreturn, 1) := by decide +kernel
set_option maxRecDepth 20000 in
theorem ggX3_dateOf_X3_isSlot : GoodIn wsX3_dateOf wsX3_isSlot := goodIn_r _ [6, 7, 8, 9, 5, 10] (by decide +kernel) (by decide +kernel)
set_option maxRecDepth 20000 in
theorem gX3_dateOf_X3_isSlot : GoodIn wsX3_dateOf (va_wsS RX3 174 yX3_isSlot wsX3_isSlot) := goodIn_app (goodIn_of _ (by decide +kernel)) ggX3_dateOf_X3_isSlot
set_option maxRecDepth 20000 in
theorem ggX3_dateOf_X3_isDate : GoodIn wsX3_dateOf wsX3_isDate := goodIn_r _ [13, 14, 8, 9, 5, 10] (by decide +kernel) (by decide +kernel)
set_option maxRecDepth 20000 in
theorem gX3_dateOf_X3_isDate : GoodIn wsX3_dateOf (va_wsS RX3 121 yX3_isDate wsX3_isDate) := goodIn_app (goodIn_of _ (by decide +kernel)) ggX3_dateOf_X3_isDate
set_option maxRecDepth 20000 in
theorem ggX3_dateOf_X3_fails : GoodIn wsX3_dateOf wsX3_fails := goodIn_r _ [18, 19, 20, 21, 22, 23, 24, 25, 26, 27, 28, 29, 30, 31, 32, 33] (by decide +kernel) (by decide +kernel)
set_option maxRecDepth 20000 in
theorem gX3_dateOf_X3_fails : GoodIn wsX3_dateOf (wsV RX3 125 RX3 yX3_fails wsX3_fails) := goodIn_app (goodIn_of _ (by decide +kernel)) ggX3_dateOf_X3_fails
theorem dX3_dateOf_0 : decode cX3_dateOf 0 = .ok (.aload_n 0, 1) := by decide +kernel
theorem dX3_dateOf_1 : decode cX3_dateOf 1 = .ok (.iload_n 1, 1) := by decide +kernel
theorem dX3_dateOf_2 : decode cX3_dateOf 2 = .ok (.invokestatic 174, 3) := by decide +kernel
theorem dX3_dateOf_5 : decode cX3_dateOf 5 = .ok (.ifCond .eq 14, 3) := by decide +kernel
theorem dX3_dateOf_8 : decode cX3_dateOf 8 = .ok (.iload_n 2, 1) := by decide +kernel
theorem dX3_dateOf_9 : decode cX3_dateOf 9 = .ok (.invokestatic 121, 3) := by decide +kernel
theorem dX3_dateOf_12 : decode cX3_dateOf 12 = .ok (.ifCond .eq 7, 3) := by decide +kernel
theorem dX3_dateOf_15 : decode cX3_dateOf 15 = .ok (.iconst 0, 1) := by decide +kernel
theorem dX3_dateOf_16 : decode cX3_dateOf 16 = .ok (.goto 4, 3) := by decide +kernel
theorem dX3_dateOf_19 : decode cX3_dateOf 19 = .ok (.iconst 1, 1) := by decide +kernel
theorem dX3_dateOf_20 : decode cX3_dateOf 20 = .ok (.invokevirtual 125, 3) := by decide +kernel
theorem dX3_dateOf_23 : decode cX3_dateOf 23 = .ok (.ifCond .eq 5, 3) := by decide +kernel
theorem dX3_dateOf_26 : decode cX3_dateOf 26 = .ok (.lconst 0, 1) := by decide +kernel
theorem dX3_dateOf_27 : decode cX3_dateOf 27 = .ok (.lreturn, 1) := by decide +kernel
theorem dX3_dateOf_28 : decode cX3_dateOf 28 = .ok (.aload_n 0, 1) := by decide +kernel
theorem dX3_dateOf_29 : decode cX3_dateOf 29 = .ok (.getfield 13, 3) := by decide +kernel
theorem dX3_dateOf_32 : decode cX3_dateOf 32 = .ok (.iload_n 2, 1) := by decide +kernel
theorem dX3_dateOf_33 : decode cX3_dateOf 33 = .ok (.aload_n 0, 1) := by decide +kernel
theorem dX3_dateOf_34 : decode cX3_dateOf 34 = .ok (.getfield 26, 3) := by decide +kernel
theorem dX3_dateOf_37 : decode cX3_dateOf 37 = .ok (.iload_n 1, 1) := by decide +kernel
theorem dX3_dateOf_38 : decode cX3_dateOf 38 = .ok (.laload, 1) := by decide +kernel
theorem dX3_dateOf_39 : decode cX3_dateOf 39 = .ok (.lastore, 1) := by decide +kernel
theorem dX3_dateOf_40 : decode cX3_dateOf 40 = .ok (.aload_n 0, 1) := by decide +kernel
theorem dX3_dateOf_41 : decode cX3_dateOf 41 = .ok (.getfield 13, 3) := by decide +kernel
theorem dX3_dateOf_44 : decode cX3_dateOf 44 = .ok (.iload_n 2, 1) := by decide +kernel
theorem dX3_dateOf_45 : decode cX3_dateOf 45 = .ok (.laload, 1) := by decide +kernel
theorem dX3_dateOf_46 : decode cX3_dateOf 46 = .ok (.lreturn, 1) := by decide +kernel
set_option maxRecDepth 20000 in
theorem ggX3_timeOf_X3_isSlot : GoodIn wsX3_timeOf wsX3_isSlot := goodIn_r _ [6, 7, 8, 9, 5, 10] (by decide +kernel) (by decide +kernel)
set_option maxRecDepth 20000 in
theorem gX3_timeOf_X3_isSlot : GoodIn wsX3_timeOf (va_wsS RX3 174 yX3_isSlot wsX3_isSlot) := goodIn_app (goodIn_of _ (by decide +kernel)) ggX3_timeOf_X3_isSlot
set_option maxRecDepth 20000 in
theorem ggX3_timeOf_X3_fails : GoodIn wsX3_timeOf wsX3_fails := goodIn_r _ [14, 15, 16, 17, 18, 19, 20, 21, 22, 23, 24, 25, 26, 27, 28, 29] (by decide +kernel) (by decide +kernel)
set_option maxRecDepth 20000 in
theorem gX3_timeOf_X3_fails : GoodIn wsX3_timeOf (wsV RX3 125 RX3 yX3_fails wsX3_fails) := goodIn_app (goodIn_of _ (by decide +kernel)) ggX3_timeOf_X3_fails
theorem dX3_timeOf_0 : decode cX3_timeOf 0 = .ok (.aload_n 0, 1) := by decide +kernel
theorem dX3_timeOf_1 : decode cX3_timeOf 1 = .ok (.iload_n 1, 1) := by decide +kernel
theorem dX3_timeOf_2 : decode cX3_timeOf 2 = .ok (.invokestatic 174, 3) := by decide +kernel
theorem dX3_timeOf_5 : decode cX3_timeOf 5 = .ok (.ifCond .eq 14, 3) := by decide +kernel
theorem dX3_timeOf_8 : decode cX3_timeOf 8 = .ok (.iload_n 2, 1) := by decide +kernel
theorem dX3_timeOf_9 : decode cX3_timeOf 9 = .ok (.invokestatic 174, 3) := by decide +kernel
theorem dX3_timeOf_12 : decode cX3_timeOf 12 = .ok (.ifCond .eq 7, 3) := by decide +kernel
theorem dX3_timeOf_15 : decode cX3_timeOf 15 = .ok (.iconst 0, 1) := by decide +kernel
theorem dX3_timeOf_16 : decode cX3_timeOf 16 = .ok (.goto 4, 3) := by decide +kernel
theorem dX3_timeOf_19 : decode cX3_timeOf 19 = .ok (.iconst 1, 1) := by decide +kernel
theorem dX3_timeOf_20 : decode cX3_timeOf 20 = .ok (.invokevirtual 125, 3) := by decide +kernel
theorem dX3_timeOf_23 : decode cX3_timeOf 23 = .ok (.ifCond .eq 5, 3) := by decide +kernel
theorem dX3_timeOf_26 : decode cX3_timeOf 26 = .ok (.lconst 0, 1) := by decide +kernel
theorem dX3_timeOf_27 : decode cX3_timeOf 27 = .ok (.lreturn, 1) := by decide +kernel
theorem dX3_timeOf_28 : decode cX3_timeOf 28 = .ok (.aload_n 0, 1) := by decide +kernel
theorem dX3_timeOf_29 : decode cX3_timeOf 29 = .ok (.getfield 17, 3) := by decide +kernel
theorem dX3_timeOf_32 : decode cX3_timeOf 32 = .ok (.iload_n 2, 1) := by decide +kernel
theorem dX3_timeOf_33 : decode cX3_timeOf 33 = .ok (.aload_n 0, 1) := by decide +kernel
theorem dX3_timeOf_34 : decode cX3_timeOf 34 = .ok (.getfield 29, 3) := by decide +kernel
theorem dX3_timeOf_37 : decode cX3_timeOf 37 = .ok (.iload_n 1, 1) := by decide +kernel
theorem dX3_timeOf_38 : decode cX3_timeOf 38 = .ok (.laload, 1) := by decide +kernel
theorem dX3_timeOf_39 : decode cX3_timeOf 39 = .ok (.lastore, 1) := by decide +kernel
theorem dX3_timeOf_40 : decode cX3_timeOf 40 = .ok (.aload_n 0, 1) := by decide +kernel
theorem dX3_timeOf_41 : decode cX3_timeOf 41 = .ok (.getfield 17, 3) := by decide +kernel
theorem dX3_timeOf_44 : decode cX3_timeOf 44 = .ok (.iload_n 2, 1) := by decide +kernel
theorem dX3_timeOf_45 : decode cX3_timeOf 45 = .ok (.laload, 1) := by decide +kernel
theorem dX3_timeOf_46 : decode cX3_timeOf 46 = .ok (.lreturn, 1) := by decide +kernel
set_option maxRecDepth 20000 in
theorem ggX3_comes_X3_first : GoodIn wsX3_comes wsX3_first := goodIn_r _ [8, 9, 10, 11, 7, 12, 13, 14, 15, 16, 17, 18, 19, 20, 21, 22] (by decide +kernel) (by decide +kernel)
set_option maxRecDepth 20000 in
theorem gX3_comes_X3_first : GoodIn wsX3_comes (va_wsS RX3 77 yX3_first wsX3_first) := goodIn_app (goodIn_of _ (by decide +kernel)) ggX3_comes_X3_first
set_option maxRecDepth 20000 in
theorem ggX3_comes_X3_in : GoodIn wsX3_comes wsX3_in := goodIn_r _ [25] (by decide +kernel) (by decide +kernel)
set_option maxRecDepth 20000 in
theorem gX3_comes_X3_in : GoodIn wsX3_comes (va_wsS RX3 100 yX3_in wsX3_in) := goodIn_app (goodIn_of _ (by decide +kernel)) ggX3_comes_X3_in
set_option maxRecDepth 20000 in
theorem ggX3_comes_X3_fails : GoodIn wsX3_comes wsX3_fails := goodIn_r _ [29, 30, 31, 32, 33, 34, 35, 36, 37, 38, 39, 40, 41, 42, 43, 44] (by decide +kernel) (by decide +kernel)
set_option maxRecDepth 20000 in
theorem gX3_comes_X3_fails : GoodIn wsX3_comes (wsV RX3 125 RX3 yX3_fails wsX3_fails) := goodIn_app (goodIn_of _ (by decide +kernel)) ggX3_comes_X3_fails
theorem dX3_comes_0 : decode cX3_comes 0 = .ok (.aload_n 0, 1) := by decide +kernel
theorem dX3_comes_1 : decode cX3_comes 1 = .ok (.lload_n 2, 1) := by decide +kernel
theorem dX3_comes_2 : decode cX3_comes 2 = .ok (.ldc2_w 96, 3) := by decide +kernel
theorem dX3_comes_5 : decode cX3_comes 5 = .ok (.invokestatic 77, 3) := by decide +kernel
theorem dX3_comes_8 : decode cX3_comes 8 = .ok (.ldc2_w 128, 3) := by decide +kernel
theorem dX3_comes_11 : decode cX3_comes 11 = .ok (.invokestatic 77, 3) := by decide +kernel
theorem dX3_comes_14 : decode cX3_comes 14 = .ok (.lconst 1, 1) := by decide +kernel
theorem dX3_comes_15 : decode cX3_comes 15 = .ok (.lsub, 1) := by decide +kernel
theorem dX3_comes_16 : decode cX3_comes 16 = .ok (.invokestatic 100, 3) := by decide +kernel
theorem dX3_comes_19 : decode cX3_comes 19 = .ok (.ifCond .eq 7, 3) := by decide +kernel
theorem dX3_comes_22 : decode cX3_comes 22 = .ok (.iconst 0, 1) := by decide +kernel
theorem dX3_comes_23 : decode cX3_comes 23 = .ok (.goto 5, 3) := by decide +kernel
theorem dX3_comes_26 : decode cX3_comes 26 = .ok (.iload 6, 2) := by decide +kernel
theorem dX3_comes_28 : decode cX3_comes 28 = .ok (.invokevirtual 125, 3) := by decide +kernel
theorem dX3_comes_31 : decode cX3_comes 31 = .ok (.ifCond .eq 5, 3) := by decide +kernel
theorem dX3_comes_34 : decode cX3_comes 34 = .ok (.lconst 0, 1) := by decide +kernel
theorem dX3_comes_35 : decode cX3_comes 35 = .ok (.lreturn, 1) := by decide +kernel
theorem dX3_comes_36 : decode cX3_comes 36 = .ok (.aload_n 0, 1) := by decide +kernel
theorem dX3_comes_37 : decode cX3_comes 37 = .ok (.getfield 26, 3) := by decide +kernel
theorem dX3_comes_40 : decode cX3_comes 40 = .ok (.iload_n 1, 1) := by decide +kernel
theorem dX3_comes_41 : decode cX3_comes 41 = .ok (.lload_n 2, 1) := by decide +kernel
theorem dX3_comes_42 : decode cX3_comes 42 = .ok (.lastore, 1) := by decide +kernel
theorem dX3_comes_43 : decode cX3_comes 43 = .ok (.aload_n 0, 1) := by decide +kernel
theorem dX3_comes_44 : decode cX3_comes 44 = .ok (.getfield 29, 3) := by decide +kernel
theorem dX3_comes_47 : decode cX3_comes 47 = .ok (.iload_n 1, 1) := by decide +kernel
theorem dX3_comes_48 : decode cX3_comes 48 = .ok (.lload 4, 2) := by decide +kernel
theorem dX3_comes_50 : decode cX3_comes 50 = .ok (.lastore, 1) := by decide +kernel
theorem dX3_comes_51 : decode cX3_comes 51 = .ok (.lload_n 2, 1) := by decide +kernel
theorem dX3_comes_52 : decode cX3_comes 52 = .ok (.lreturn, 1) := by decide +kernel
set_option maxRecDepth 20000 in
theorem ggX3_moveMoment_X3_isSlot : GoodIn wsX3_moveMoment wsX3_isSlot := goodIn_r _ [14, 15, 16, 17, 13, 18] (by decide +kernel) (by decide +kernel)
set_option maxRecDepth 20000 in
theorem gX3_moveMoment_X3_isSlot : GoodIn wsX3_moveMoment (va_wsS RX3 174 yX3_isSlot wsX3_isSlot) := goodIn_app (goodIn_of _ (by decide +kernel)) ggX3_moveMoment_X3_isSlot
set_option maxRecDepth 20000 in
theorem ggX3_moveMoment_X3_isUnit : GoodIn wsX3_moveMoment wsX3_isUnit := goodIn_r _ [21] (by decide +kernel) (by decide +kernel)
set_option maxRecDepth 20000 in
theorem gX3_moveMoment_X3_isUnit : GoodIn wsX3_moveMoment (va_wsS RX3 140 yX3_isUnit wsX3_isUnit) := goodIn_app (goodIn_of _ (by decide +kernel)) ggX3_moveMoment_X3_isUnit
set_option maxRecDepth 20000 in
theorem ggX3_moveMoment_X3_in : GoodIn wsX3_moveMoment wsX3_in := goodIn_r _ [18] (by decide +kernel) (by decide +kernel)
set_option maxRecDepth 20000 in
theorem gX3_moveMoment_X3_in : GoodIn wsX3_moveMoment (va_wsS RX3 100 yX3_in wsX3_in) := goodIn_app (goodIn_of _ (by decide +kernel)) ggX3_moveMoment_X3_in
set_option maxRecDepth 20000 in
theorem ggX3_moveMoment_X3_fails : GoodIn wsX3_moveMoment wsX3_fails := goodIn_r _ [25, 26, 79, 80, 81, 82, 83, 84, 85, 86, 87, 88, 89, 90, 91, 92] (by decide +kernel) (by decide +kernel)
set_option maxRecDepth 20000 in
theorem gX3_moveMoment_X3_fails : GoodIn wsX3_moveMoment (wsV RX3 125 RX3 yX3_fails wsX3_fails) := goodIn_app (goodIn_of _ (by decide +kernel)) ggX3_moveMoment_X3_fails
set_option maxRecDepth 20000 in
theorem ggX3_moveMoment_X3_moved : GoodIn wsX3_moveMoment wsX3_moved := goodIn_r _ [30, 31, 32, 33, 34, 35, 13, 36, 37, 38, 39, 40, 41, 42, 43, 44, 45, 46, 47, 48, 49, 50, 51, 52, 53, 54, 55, 56, 15, 57, 58, 59, 60, 61, 62, 63, 64, 65, 66, 67, 68, 69, 70, 71, 72, 79, 80, 81, 82, 83, 84, 85, 86, 87, 88, 89, 90, 91, 92] (by decide +kernel) (by decide +kernel)
set_option maxRecDepth 20000 in
theorem gX3_moveMoment_X3_moved : GoodIn wsX3_moveMoment (wsV RX3 148 RX3 yX3_moved wsX3_moved) := goodIn_app (goodIn_of _ (by decide +kernel)) ggX3_moveMoment_X3_moved
set_option maxRecDepth 20000 in
theorem ggX3_moveMoment_X3_comes : GoodIn wsX3_moveMoment wsX3_comes := goodIn_ca (goodIn_r _ [76, 77, 78, 5, 6, 50, 51, 13, 52, 44, 53, 54, 55, 56, 15, 57, 58, 59, 60, 45, 47, 48, 49, 16, 17, 18, 22, 23, 24, 25, 26, 79, 80, 81, 82, 83, 84, 85, 86, 87, 88, 89, 90, 91, 92] (by decide +kernel) (by decide +kernel)) (goodIn_sub (fun _ h => List.mem_cons_of_mem _ (List.mem_append_right _ h)) (by decide +kernel))
set_option maxRecDepth 20000 in
theorem gX3_moveMoment_X3_comes : GoodIn wsX3_moveMoment (wsV RX3 228 RX3 yX3_comes wsX3_comes) := goodIn_app (goodIn_of _ (by decide +kernel)) ggX3_moveMoment_X3_comes
set_option maxRecDepth 20000 in
theorem ggX3_moveMoment_X3_rest : GoodIn wsX3_moveMoment wsX3_rest := goodIn_r _ [69, 47, 48, 13, 49] (by decide +kernel) (by decide +kernel)
set_option maxRecDepth 20000 in
theorem gX3_moveMoment_X3_rest : GoodIn wsX3_moveMoment (va_wsS RX3 52 yX3_rest wsX3_rest) := goodIn_app (goodIn_of _ (by decide +kernel)) ggX3_moveMoment_X3_rest
set_option maxRecDepth 20000 in
theorem ggX3_moveMoment_X3_floor : GoodIn wsX3_moveMoment wsX3_floor := goodIn_r _ [49] (by decide +kernel) (by decide +kernel)
set_option maxRecDepth 20000 in
theorem gX3_moveMoment_X3_floor : GoodIn wsX3_moveMoment (va_wsS RX3 46 yX3_floor wsX3_floor) := goodIn_app (goodIn_of _ (by decide +kernel)) ggX3_moveMoment_X3_floor
theorem dX3_moveMoment_0 : decode cX3_moveMoment 0 = .ok (.iload_n 2, 1) := by decide +kernel
theorem dX3_moveMoment_1 : decode cX3_moveMoment 1 = .ok (.bipush 104, 2) := by decide +kernel
theorem dX3_moveMoment_3 : decode cX3_moveMoment 3 = .ok (.if_icmp .eq 21, 3) := by decide +kernel
theorem dX3_moveMoment_6 : decode cX3_moveMoment 6 = .ok (.iload_n 2, 1) := by decide +kernel
theorem dX3_moveMoment_7 : decode cX3_moveMoment 7 = .ok (.bipush 105, 2) := by decide +kernel
theorem dX3_moveMoment_9 : decode cX3_moveMoment 9 = .ok (.if_icmp .eq 15, 3) := by decide +kernel
theorem dX3_moveMoment_12 : decode cX3_moveMoment 12 = .ok (.iload_n 2, 1) := by decide +kernel
theorem dX3_moveMoment_13 : decode cX3_moveMoment 13 = .ok (.bipush 115, 2) := by decide +kernel
theorem dX3_moveMoment_15 : decode cX3_moveMoment 15 = .ok (.if_icmp .eq 9, 3) := by decide +kernel
theorem dX3_moveMoment_18 : decode cX3_moveMoment 18 = .ok (.iload_n 2, 1) := by decide +kernel
theorem dX3_moveMoment_19 : decode cX3_moveMoment 19 = .ok (.bipush 110, 2) := by decide +kernel
theorem dX3_moveMoment_21 : decode cX3_moveMoment 21 = .ok (.if_icmp .ne 7, 3) := by decide +kernel
theorem dX3_moveMoment_24 : decode cX3_moveMoment 24 = .ok (.iconst 1, 1) := by decide +kernel
theorem dX3_moveMoment_25 : decode cX3_moveMoment 25 = .ok (.goto 4, 3) := by decide +kernel
theorem dX3_moveMoment_28 : decode cX3_moveMoment 28 = .ok (.iconst 0, 1) := by decide +kernel
theorem dX3_moveMoment_29 : decode cX3_moveMoment 29 = .ok (.istore 6, 2) := by decide +kernel
theorem dX3_moveMoment_31 : decode cX3_moveMoment 31 = .ok (.aload_n 0, 1) := by decide +kernel
theorem dX3_moveMoment_32 : decode cX3_moveMoment 32 = .ok (.iload_n 1, 1) := by decide +kernel
theorem dX3_moveMoment_33 : decode cX3_moveMoment 33 = .ok (.invokestatic 174, 3) := by decide +kernel
theorem dX3_moveMoment_36 : decode cX3_moveMoment 36 = .ok (.ifCond .eq 11, 3) := by decide +kernel
theorem dX3_moveMoment_39 : decode cX3_moveMoment 39 = .ok (.iload 5, 2) := by decide +kernel
theorem dX3_moveMoment_41 : decode cX3_moveMoment 41 = .ok (.invokestatic 174, 3) := by decide +kernel
theorem dX3_moveMoment_44 : decode cX3_moveMoment 44 = .ok (.ifCond .ne 7, 3) := by decide +kernel
theorem dX3_moveMoment_47 : decode cX3_moveMoment 47 = .ok (.iconst 1, 1) := by decide +kernel
theorem dX3_moveMoment_48 : decode cX3_moveMoment 48 = .ok (.goto 55, 3) := by decide +kernel
theorem dX3_moveMoment_51 : decode cX3_moveMoment 51 = .ok (.iload 6, 2) := by decide +kernel
theorem dX3_moveMoment_53 : decode cX3_moveMoment 53 = .ok (.ifCond .ne 10, 3) := by decide +kernel
theorem dX3_moveMoment_56 : decode cX3_moveMoment 56 = .ok (.iload_n 2, 1) := by decide +kernel
theorem dX3_moveMoment_57 : decode cX3_moveMoment 57 = .ok (.invokestatic 140, 3) := by decide +kernel
theorem dX3_moveMoment_60 : decode cX3_moveMoment 60 = .ok (.ifCond .eq 42, 3) := by decide +kernel
theorem dX3_moveMoment_63 : decode cX3_moveMoment 63 = .ok (.lload_n 3, 1) := by decide +kernel
theorem dX3_moveMoment_64 : decode cX3_moveMoment 64 = .ok (.iload 6, 2) := by decide +kernel
theorem dX3_moveMoment_66 : decode cX3_moveMoment 66 = .ok (.ifCond .eq 9, 3) := by decide +kernel
theorem dX3_moveMoment_69 : decode cX3_moveMoment 69 = .ok (.ldc2_w 207, 3) := by decide +kernel
theorem dX3_moveMoment_72 : decode cX3_moveMoment 72 = .ok (.goto 6, 3) := by decide +kernel
theorem dX3_moveMoment_75 : decode cX3_moveMoment 75 = .ok (.ldc2_w 144, 3) := by decide +kernel
theorem dX3_moveMoment_78 : decode cX3_moveMoment 78 = .ok (.iload 6, 2) := by decide +kernel
theorem dX3_moveMoment_80 : decode cX3_moveMoment 80 = .ok (.ifCond .eq 9, 3) := by decide +kernel
theorem dX3_moveMoment_83 : decode cX3_moveMoment 83 = .ok (.ldc2_w 209, 3) := by decide +kernel
theorem dX3_moveMoment_86 : decode cX3_moveMoment 86 = .ok (.goto 6, 3) := by decide +kernel
theorem dX3_moveMoment_89 : decode cX3_moveMoment 89 = .ok (.ldc2_w 146, 3) := by decide +kernel
theorem dX3_moveMoment_92 : decode cX3_moveMoment 92 = .ok (.invokestatic 100, 3) := by decide +kernel
theorem dX3_moveMoment_95 : decode cX3_moveMoment 95 = .ok (.ifCond .eq 7, 3) := by decide +kernel
theorem dX3_moveMoment_98 : decode cX3_moveMoment 98 = .ok (.iconst 0, 1) := by decide +kernel
theorem dX3_moveMoment_99 : decode cX3_moveMoment 99 = .ok (.goto 4, 3) := by decide +kernel
theorem dX3_moveMoment_102 : decode cX3_moveMoment 102 = .ok (.iconst 2, 1) := by decide +kernel
theorem dX3_moveMoment_103 : decode cX3_moveMoment 103 = .ok (.invokevirtual 125, 3) := by decide +kernel
theorem dX3_moveMoment_106 : decode cX3_moveMoment 106 = .ok (.ifCond .eq 5, 3) := by decide +kernel
theorem dX3_moveMoment_109 : decode cX3_moveMoment 109 = .ok (.lconst 0, 1) := by decide +kernel
theorem dX3_moveMoment_110 : decode cX3_moveMoment 110 = .ok (.lreturn, 1) := by decide +kernel
theorem dX3_moveMoment_111 : decode cX3_moveMoment 111 = .ok (.iload 6, 2) := by decide +kernel
theorem dX3_moveMoment_113 : decode cX3_moveMoment 113 = .ok (.ifCond .ne 29, 3) := by decide +kernel
theorem dX3_moveMoment_116 : decode cX3_moveMoment 116 = .ok (.aload_n 0, 1) := by decide +kernel
theorem dX3_moveMoment_117 : decode cX3_moveMoment 117 = .ok (.iload 5, 2) := by decide +kernel
theorem dX3_moveMoment_119 : decode cX3_moveMoment 119 = .ok (.aload_n 0, 1) := by decide +kernel
theorem dX3_moveMoment_120 : decode cX3_moveMoment 120 = .ok (.aload_n 0, 1) := by decide +kernel
theorem dX3_moveMoment_121 : decode cX3_moveMoment 121 = .ok (.getfield 26, 3) := by decide +kernel
theorem dX3_moveMoment_124 : decode cX3_moveMoment 124 = .ok (.iload_n 1, 1) := by decide +kernel
theorem dX3_moveMoment_125 : decode cX3_moveMoment 125 = .ok (.laload, 1) := by decide +kernel
theorem dX3_moveMoment_126 : decode cX3_moveMoment 126 = .ok (.iload_n 2, 1) := by decide +kernel
theorem dX3_moveMoment_127 : decode cX3_moveMoment 127 = .ok (.lload_n 3, 1) := by decide +kernel
theorem dX3_moveMoment_128 : decode cX3_moveMoment 128 = .ok (.invokevirtual 148, 3) := by decide +kernel
theorem dX3_moveMoment_131 : decode cX3_moveMoment 131 = .ok (.aload_n 0, 1) := by decide +kernel
theorem dX3_moveMoment_132 : decode cX3_moveMoment 132 = .ok (.getfield 29, 3) := by decide +kernel
theorem dX3_moveMoment_135 : decode cX3_moveMoment 135 = .ok (.iload_n 1, 1) := by decide +kernel
theorem dX3_moveMoment_136 : decode cX3_moveMoment 136 = .ok (.laload, 1) := by decide +kernel
theorem dX3_moveMoment_137 : decode cX3_moveMoment 137 = .ok (.iconst 3, 1) := by decide +kernel
theorem dX3_moveMoment_138 : decode cX3_moveMoment 138 = .ok (.invokevirtual 228, 3) := by decide +kernel
theorem dX3_moveMoment_141 : decode cX3_moveMoment 141 = .ok (.lreturn, 1) := by decide +kernel
theorem dX3_moveMoment_142 : decode cX3_moveMoment 142 = .ok (.iload_n 2, 1) := by decide +kernel
theorem dX3_moveMoment_143 : decode cX3_moveMoment 143 = .ok (.bipush 104, 2) := by decide +kernel
theorem dX3_moveMoment_145 : decode cX3_moveMoment 145 = .ok (.if_icmp .ne 9, 3) := by decide +kernel
theorem dX3_moveMoment_148 : decode cX3_moveMoment 148 = .ok (.ldc2_w 203, 3) := by decide +kernel
theorem dX3_moveMoment_151 : decode cX3_moveMoment 151 = .ok (.goto 28, 3) := by decide +kernel
theorem dX3_moveMoment_154 : decode cX3_moveMoment 154 = .ok (.iload_n 2, 1) := by decide +kernel
theorem dX3_moveMoment_155 : decode cX3_moveMoment 155 = .ok (.bipush 105, 2) := by decide +kernel
theorem dX3_moveMoment_157 : decode cX3_moveMoment 157 = .ok (.if_icmp .ne 9, 3) := by decide +kernel
theorem dX3_moveMoment_160 : decode cX3_moveMoment 160 = .ok (.ldc2_w 211, 3) := by decide +kernel
theorem dX3_moveMoment_163 : decode cX3_moveMoment 163 = .ok (.goto 16, 3) := by decide +kernel
theorem dX3_moveMoment_166 : decode cX3_moveMoment 166 = .ok (.iload_n 2, 1) := by decide +kernel
theorem dX3_moveMoment_167 : decode cX3_moveMoment 167 = .ok (.bipush 115, 2) := by decide +kernel
theorem dX3_moveMoment_169 : decode cX3_moveMoment 169 = .ok (.if_icmp .ne 9, 3) := by decide +kernel
theorem dX3_moveMoment_172 : decode cX3_moveMoment 172 = .ok (.ldc2_w 199, 3) := by decide +kernel
theorem dX3_moveMoment_175 : decode cX3_moveMoment 175 = .ok (.goto 4, 3) := by decide +kernel
theorem dX3_moveMoment_178 : decode cX3_moveMoment 178 = .ok (.lconst 1, 1) := by decide +kernel
theorem dX3_moveMoment_179 : decode cX3_moveMoment 179 = .ok (.lstore 7, 2) := by decide +kernel
theorem dX3_moveMoment_181 : decode cX3_moveMoment 181 = .ok (.ldc2_w 205, 3) := by decide +kernel
theorem dX3_moveMoment_184 : decode cX3_moveMoment 184 = .ok (.lload 7, 2) := by decide +kernel
theorem dX3_moveMoment_186 : decode cX3_moveMoment 186 = .ok (.ldiv, 1) := by decide +kernel
theorem dX3_moveMoment_187 : decode cX3_moveMoment 187 = .ok (.lstore 9, 2) := by decide +kernel
theorem dX3_moveMoment_189 : decode cX3_moveMoment 189 = .ok (.aload_n 0, 1) := by decide +kernel
theorem dX3_moveMoment_190 : decode cX3_moveMoment 190 = .ok (.getfield 29, 3) := by decide +kernel
theorem dX3_moveMoment_193 : decode cX3_moveMoment 193 = .ok (.iload_n 1, 1) := by decide +kernel
theorem dX3_moveMoment_194 : decode cX3_moveMoment 194 = .ok (.laload, 1) := by decide +kernel
theorem dX3_moveMoment_195 : decode cX3_moveMoment 195 = .ok (.lload_n 3, 1) := by decide +kernel
theorem dX3_moveMoment_196 : decode cX3_moveMoment 196 = .ok (.lload 9, 2) := by decide +kernel
theorem dX3_moveMoment_198 : decode cX3_moveMoment 198 = .ok (.invokestatic 52, 3) := by decide +kernel
theorem dX3_moveMoment_201 : decode cX3_moveMoment 201 = .ok (.lload 7, 2) := by decide +kernel
theorem dX3_moveMoment_203 : decode cX3_moveMoment 203 = .ok (.lmul, 1) := by decide +kernel
theorem dX3_moveMoment_204 : decode cX3_moveMoment 204 = .ok (.ladd, 1) := by decide +kernel
theorem dX3_moveMoment_205 : decode cX3_moveMoment 205 = .ok (.lstore 11, 2) := by decide +kernel
theorem dX3_moveMoment_207 : decode cX3_moveMoment 207 = .ok (.aload_n 0, 1) := by decide +kernel
theorem dX3_moveMoment_208 : decode cX3_moveMoment 208 = .ok (.iload 5, 2) := by decide +kernel
theorem dX3_moveMoment_210 : decode cX3_moveMoment 210 = .ok (.aload_n 0, 1) := by decide +kernel
theorem dX3_moveMoment_211 : decode cX3_moveMoment 211 = .ok (.getfield 26, 3) := by decide +kernel
theorem dX3_moveMoment_214 : decode cX3_moveMoment 214 = .ok (.iload_n 1, 1) := by decide +kernel
theorem dX3_moveMoment_215 : decode cX3_moveMoment 215 = .ok (.laload, 1) := by decide +kernel
theorem dX3_moveMoment_216 : decode cX3_moveMoment 216 = .ok (.lload_n 3, 1) := by decide +kernel
theorem dX3_moveMoment_217 : decode cX3_moveMoment 217 = .ok (.lload 9, 2) := by decide +kernel
theorem dX3_moveMoment_219 : decode cX3_moveMoment 219 = .ok (.invokestatic 46, 3) := by decide +kernel
theorem dX3_moveMoment_222 : decode cX3_moveMoment 222 = .ok (.ladd, 1) := by decide +kernel
theorem dX3_moveMoment_223 : decode cX3_moveMoment 223 = .ok (.lload 11, 2) := by decide +kernel
theorem dX3_moveMoment_225 : decode cX3_moveMoment 225 = .ok (.ldc2_w 205, 3) := by decide +kernel
theorem dX3_moveMoment_228 : decode cX3_moveMoment 228 = .ok (.invokestatic 46, 3) := by decide +kernel
theorem dX3_moveMoment_231 : decode cX3_moveMoment 231 = .ok (.ladd, 1) := by decide +kernel
theorem dX3_moveMoment_232 : decode cX3_moveMoment 232 = .ok (.lload 11, 2) := by decide +kernel
theorem dX3_moveMoment_234 : decode cX3_moveMoment 234 = .ok (.ldc2_w 205, 3) := by decide +kernel
theorem dX3_moveMoment_237 : decode cX3_moveMoment 237 = .ok (.invokestatic 52, 3) := by decide +kernel
theorem dX3_moveMoment_240 : decode cX3_moveMoment 240 = .ok (.iconst 3, 1) := by decide +kernel
theorem dX3_moveMoment_241 : decode cX3_moveMoment 241 = .ok (.invokevirtual 228, 3) := by decide +kernel
theorem dX3_moveMoment_244 : decode cX3_moveMoment 244 = .ok (.lreturn, 1) := by decide +kernel
set_option maxRecDepth 20000 in
theorem ggX3_goMoment_X3_isSlot : GoodIn wsX3_goMoment wsX3_isSlot := goodIn_r _ [11, 12, 13, 14, 10, 15] (by decide +kernel) (by decide +kernel)
set_option maxRecDepth 20000 in
theorem gX3_goMoment_X3_isSlot : GoodIn wsX3_goMoment (va_wsS RX3 174 yX3_isSlot wsX3_isSlot) := goodIn_app (goodIn_of _ (by decide +kernel)) ggX3_goMoment_X3_isSlot
set_option maxRecDepth 20000 in
theorem ggX3_goMoment_X3_fails : GoodIn wsX3_goMoment wsX3_fails := goodIn_r _ [19, 20, 46, 47, 48, 49, 50, 51, 52, 53, 54, 55, 56, 57, 58, 59] (by decide +kernel) (by decide +kernel)
set_option maxRecDepth 20000 in
theorem gX3_goMoment_X3_fails : GoodIn wsX3_goMoment (wsV RX3 125 RX3 yX3_fails wsX3_fails) := goodIn_app (goodIn_of _ (by decide +kernel)) ggX3_goMoment_X3_fails
set_option maxRecDepth 20000 in
theorem ggX3_goMoment_X3_rest : GoodIn wsX3_goMoment wsX3_rest := goodIn_r _ [23, 24, 25, 10, 26] (by decide +kernel) (by decide +kernel)
set_option maxRecDepth 20000 in
theorem gX3_goMoment_X3_rest : GoodIn wsX3_goMoment (va_wsS RX3 52 yX3_rest wsX3_rest) := goodIn_app (goodIn_of _ (by decide +kernel)) ggX3_goMoment_X3_rest
set_option maxRecDepth 20000 in
theorem ggX3_goMoment_X3_floor : GoodIn wsX3_goMoment wsX3_floor := goodIn_r _ [26] (by decide +kernel) (by decide +kernel)
set_option maxRecDepth 20000 in
theorem gX3_goMoment_X3_floor : GoodIn wsX3_goMoment (va_wsS RX3 46 yX3_floor wsX3_floor) := goodIn_app (goodIn_of _ (by decide +kernel)) ggX3_goMoment_X3_floor
set_option maxRecDepth 20000 in
theorem ggX3_goMoment_X3_comes : GoodIn wsX3_goMoment wsX3_comes := goodIn_ca (goodIn_r _ [30, 31, 32, 6, 2, 33, 34, 10, 35, 36, 37, 38, 39, 40, 12, 41, 42, 43, 44, 45, 24, 25, 26, 13, 14, 15, 16, 17, 18, 19, 20, 46, 47, 48, 49, 50, 51, 52, 53, 54, 55, 56, 57, 58, 59] (by decide +kernel) (by decide +kernel)) (goodIn_sub (fun _ h => List.mem_cons_of_mem _ (List.mem_append_right _ h)) (by decide +kernel))
set_option maxRecDepth 20000 in
theorem gX3_goMoment_X3_comes : GoodIn wsX3_goMoment (wsV RX3 228 RX3 yX3_comes wsX3_comes) := goodIn_app (goodIn_of _ (by decide +kernel)) ggX3_goMoment_X3_comes
theorem dX3_goMoment_0 : decode cX3_goMoment 0 = .ok (.aload_n 0, 1) := by decide +kernel
theorem dX3_goMoment_1 : decode cX3_goMoment 1 = .ok (.iload_n 1, 1) := by decide +kernel
theorem dX3_goMoment_2 : decode cX3_goMoment 2 = .ok (.invokestatic 174, 3) := by decide +kernel
theorem dX3_goMoment_5 : decode cX3_goMoment 5 = .ok (.ifCond .eq 22, 3) := by decide +kernel
theorem dX3_goMoment_8 : decode cX3_goMoment 8 = .ok (.iload_n 2, 1) := by decide +kernel
theorem dX3_goMoment_9 : decode cX3_goMoment 9 = .ok (.invokestatic 174, 3) := by decide +kernel
theorem dX3_goMoment_12 : decode cX3_goMoment 12 = .ok (.ifCond .eq 15, 3) := by decide +kernel
theorem dX3_goMoment_15 : decode cX3_goMoment 15 = .ok (.iload 4, 2) := by decide +kernel
theorem dX3_goMoment_17 : decode cX3_goMoment 17 = .ok (.invokestatic 174, 3) := by decide +kernel
theorem dX3_goMoment_20 : decode cX3_goMoment 20 = .ok (.ifCond .eq 7, 3) := by decide +kernel
theorem dX3_goMoment_23 : decode cX3_goMoment 23 = .ok (.iconst 0, 1) := by decide +kernel
theorem dX3_goMoment_24 : decode cX3_goMoment 24 = .ok (.goto 4, 3) := by decide +kernel
theorem dX3_goMoment_27 : decode cX3_goMoment 27 = .ok (.iconst 1, 1) := by decide +kernel
theorem dX3_goMoment_28 : decode cX3_goMoment 28 = .ok (.invokevirtual 125, 3) := by decide +kernel
theorem dX3_goMoment_31 : decode cX3_goMoment 31 = .ok (.ifCond .eq 5, 3) := by decide +kernel
theorem dX3_goMoment_34 : decode cX3_goMoment 34 = .ok (.lconst 0, 1) := by decide +kernel
theorem dX3_goMoment_35 : decode cX3_goMoment 35 = .ok (.lreturn, 1) := by decide +kernel
theorem dX3_goMoment_36 : decode cX3_goMoment 36 = .ok (.iload_n 3, 1) := by decide +kernel
theorem dX3_goMoment_37 : decode cX3_goMoment 37 = .ok (.ifCond .eq 13, 3) := by decide +kernel
theorem dX3_goMoment_40 : decode cX3_goMoment 40 = .ok (.aload_n 0, 1) := by decide +kernel
theorem dX3_goMoment_41 : decode cX3_goMoment 41 = .ok (.getfield 20, 3) := by decide +kernel
theorem dX3_goMoment_44 : decode cX3_goMoment 44 = .ok (.iload_n 2, 1) := by decide +kernel
theorem dX3_goMoment_45 : decode cX3_goMoment 45 = .ok (.laload, 1) := by decide +kernel
theorem dX3_goMoment_46 : decode cX3_goMoment 46 = .ok (.lneg, 1) := by decide +kernel
theorem dX3_goMoment_47 : decode cX3_goMoment 47 = .ok (.goto 9, 3) := by decide +kernel
theorem dX3_goMoment_50 : decode cX3_goMoment 50 = .ok (.aload_n 0, 1) := by decide +kernel
theorem dX3_goMoment_51 : decode cX3_goMoment 51 = .ok (.getfield 20, 3) := by decide +kernel
theorem dX3_goMoment_54 : decode cX3_goMoment 54 = .ok (.iload_n 2, 1) := by decide +kernel
theorem dX3_goMoment_55 : decode cX3_goMoment 55 = .ok (.laload, 1) := by decide +kernel
theorem dX3_goMoment_56 : decode cX3_goMoment 56 = .ok (.lstore 5, 2) := by decide +kernel
theorem dX3_goMoment_58 : decode cX3_goMoment 58 = .ok (.aload_n 0, 1) := by decide +kernel
theorem dX3_goMoment_59 : decode cX3_goMoment 59 = .ok (.getfield 29, 3) := by decide +kernel
theorem dX3_goMoment_62 : decode cX3_goMoment 62 = .ok (.iload_n 1, 1) := by decide +kernel
theorem dX3_goMoment_63 : decode cX3_goMoment 63 = .ok (.laload, 1) := by decide +kernel
theorem dX3_goMoment_64 : decode cX3_goMoment 64 = .ok (.lload 5, 2) := by decide +kernel
theorem dX3_goMoment_66 : decode cX3_goMoment 66 = .ok (.ldc2_w 231, 3) := by decide +kernel
theorem dX3_goMoment_69 : decode cX3_goMoment 69 = .ok (.invokestatic 52, 3) := by decide +kernel
theorem dX3_goMoment_72 : decode cX3_goMoment 72 = .ok (.ldc2_w 199, 3) := by decide +kernel
theorem dX3_goMoment_75 : decode cX3_goMoment 75 = .ok (.lmul, 1) := by decide +kernel
theorem dX3_goMoment_76 : decode cX3_goMoment 76 = .ok (.ladd, 1) := by decide +kernel
theorem dX3_goMoment_77 : decode cX3_goMoment 77 = .ok (.iload_n 3, 1) := by decide +kernel
theorem dX3_goMoment_78 : decode cX3_goMoment 78 = .ok (.ifCond .eq 13, 3) := by decide +kernel
theorem dX3_goMoment_81 : decode cX3_goMoment 81 = .ok (.aload_n 0, 1) := by decide +kernel
theorem dX3_goMoment_82 : decode cX3_goMoment 82 = .ok (.getfield 23, 3) := by decide +kernel
theorem dX3_goMoment_85 : decode cX3_goMoment 85 = .ok (.iload_n 2, 1) := by decide +kernel
theorem dX3_goMoment_86 : decode cX3_goMoment 86 = .ok (.laload, 1) := by decide +kernel
theorem dX3_goMoment_87 : decode cX3_goMoment 87 = .ok (.lneg, 1) := by decide +kernel
theorem dX3_goMoment_88 : decode cX3_goMoment 88 = .ok (.goto 9, 3) := by decide +kernel
theorem dX3_goMoment_91 : decode cX3_goMoment 91 = .ok (.aload_n 0, 1) := by decide +kernel
theorem dX3_goMoment_92 : decode cX3_goMoment 92 = .ok (.getfield 23, 3) := by decide +kernel
theorem dX3_goMoment_95 : decode cX3_goMoment 95 = .ok (.iload_n 2, 1) := by decide +kernel
theorem dX3_goMoment_96 : decode cX3_goMoment 96 = .ok (.laload, 1) := by decide +kernel
theorem dX3_goMoment_97 : decode cX3_goMoment 97 = .ok (.ladd, 1) := by decide +kernel
theorem dX3_goMoment_98 : decode cX3_goMoment 98 = .ok (.lstore 7, 2) := by decide +kernel
theorem dX3_goMoment_100 : decode cX3_goMoment 100 = .ok (.aload_n 0, 1) := by decide +kernel
theorem dX3_goMoment_101 : decode cX3_goMoment 101 = .ok (.iload 4, 2) := by decide +kernel
theorem dX3_goMoment_103 : decode cX3_goMoment 103 = .ok (.aload_n 0, 1) := by decide +kernel
theorem dX3_goMoment_104 : decode cX3_goMoment 104 = .ok (.getfield 26, 3) := by decide +kernel
theorem dX3_goMoment_107 : decode cX3_goMoment 107 = .ok (.iload_n 1, 1) := by decide +kernel
theorem dX3_goMoment_108 : decode cX3_goMoment 108 = .ok (.laload, 1) := by decide +kernel
theorem dX3_goMoment_109 : decode cX3_goMoment 109 = .ok (.lload 5, 2) := by decide +kernel
theorem dX3_goMoment_111 : decode cX3_goMoment 111 = .ok (.ldc2_w 231, 3) := by decide +kernel
theorem dX3_goMoment_114 : decode cX3_goMoment 114 = .ok (.invokestatic 46, 3) := by decide +kernel
theorem dX3_goMoment_117 : decode cX3_goMoment 117 = .ok (.ladd, 1) := by decide +kernel
theorem dX3_goMoment_118 : decode cX3_goMoment 118 = .ok (.lload 7, 2) := by decide +kernel
theorem dX3_goMoment_120 : decode cX3_goMoment 120 = .ok (.ldc2_w 205, 3) := by decide +kernel
theorem dX3_goMoment_123 : decode cX3_goMoment 123 = .ok (.invokestatic 46, 3) := by decide +kernel
theorem dX3_goMoment_126 : decode cX3_goMoment 126 = .ok (.ladd, 1) := by decide +kernel
theorem dX3_goMoment_127 : decode cX3_goMoment 127 = .ok (.lload 7, 2) := by decide +kernel
theorem dX3_goMoment_129 : decode cX3_goMoment 129 = .ok (.ldc2_w 205, 3) := by decide +kernel
theorem dX3_goMoment_132 : decode cX3_goMoment 132 = .ok (.invokestatic 52, 3) := by decide +kernel
theorem dX3_goMoment_135 : decode cX3_goMoment 135 = .ok (.iconst 2, 1) := by decide +kernel
theorem dX3_goMoment_136 : decode cX3_goMoment 136 = .ok (.invokevirtual 228, 3) := by decide +kernel
theorem dX3_goMoment_139 : decode cX3_goMoment 139 = .ok (.lreturn, 1) := by decide +kernel
set_option maxRecDepth 20000 in
theorem ggX3_lengthOfMoments_X3_isSlot : GoodIn wsX3_lengthOfMoments wsX3_isSlot := goodIn_r _ [7, 8, 9, 10, 6, 11] (by decide +kernel) (by decide +kernel)
set_option maxRecDepth 20000 in
theorem gX3_lengthOfMoments_X3_isSlot : GoodIn wsX3_lengthOfMoments (va_wsS RX3 174 yX3_isSlot wsX3_isSlot) := goodIn_app (goodIn_of _ (by decide +kernel)) ggX3_lengthOfMoments_X3_isSlot
set_option maxRecDepth 20000 in
theorem ggX3_lengthOfMoments_X3_fails : GoodIn wsX3_lengthOfMoments wsX3_fails := goodIn_r _ [15, 16, 32, 33, 34, 35, 36, 37, 38, 39, 40, 41, 42, 43, 44, 45] (by decide +kernel) (by decide +kernel)
set_option maxRecDepth 20000 in
theorem gX3_lengthOfMoments_X3_fails : GoodIn wsX3_lengthOfMoments (wsV RX3 125 RX3 yX3_fails wsX3_fails) := goodIn_app (goodIn_of _ (by decide +kernel)) ggX3_lengthOfMoments_X3_fails
set_option maxRecDepth 20000 in
theorem ggX3_lengthOfMoments_X3_lasts : GoodIn wsX3_lengthOfMoments wsX3_lasts := goodIn_ca (goodIn_r _ [20, 21, 22, 23, 24, 25, 26, 27, 6, 28, 29, 30, 31, 12, 13, 14, 15, 16, 32, 33, 34, 35, 36, 37, 38, 39, 40, 41, 42, 43, 44, 45] (by decide +kernel) (by decide +kernel)) (goodIn_sub (fun _ h => List.mem_cons_of_mem _ (List.mem_append_right _ h)) (by decide +kernel))
set_option maxRecDepth 20000 in
theorem gX3_lengthOfMoments_X3_lasts : GoodIn wsX3_lengthOfMoments (wsV RX3 220 RX3 yX3_lasts wsX3_lasts) := goodIn_app (goodIn_of _ (by decide +kernel)) ggX3_lengthOfMoments_X3_lasts
theorem dX3_lengthOfMoments_0 : decode cX3_lengthOfMoments 0 = .ok (.aload_n 0, 1) := by decide +kernel
theorem dX3_lengthOfMoments_1 : decode cX3_lengthOfMoments 1 = .ok (.iload_n 1, 1) := by decide +kernel
theorem dX3_lengthOfMoments_2 : decode cX3_lengthOfMoments 2 = .ok (.invokestatic 174, 3) := by decide +kernel
theorem dX3_lengthOfMoments_5 : decode cX3_lengthOfMoments 5 = .ok (.ifCond .eq 21, 3) := by decide +kernel
theorem dX3_lengthOfMoments_8 : decode cX3_lengthOfMoments 8 = .ok (.iload_n 2, 1) := by decide +kernel
theorem dX3_lengthOfMoments_9 : decode cX3_lengthOfMoments 9 = .ok (.invokestatic 174, 3) := by decide +kernel
theorem dX3_lengthOfMoments_12 : decode cX3_lengthOfMoments 12 = .ok (.ifCond .eq 14, 3) := by decide +kernel
theorem dX3_lengthOfMoments_15 : decode cX3_lengthOfMoments 15 = .ok (.iload_n 3, 1) := by decide +kernel
theorem dX3_lengthOfMoments_16 : decode cX3_lengthOfMoments 16 = .ok (.invokestatic 174, 3) := by decide +kernel
theorem dX3_lengthOfMoments_19 : decode cX3_lengthOfMoments 19 = .ok (.ifCond .eq 7, 3) := by decide +kernel
theorem dX3_lengthOfMoments_22 : decode cX3_lengthOfMoments 22 = .ok (.iconst 0, 1) := by decide +kernel
theorem dX3_lengthOfMoments_23 : decode cX3_lengthOfMoments 23 = .ok (.goto 4, 3) := by decide +kernel
theorem dX3_lengthOfMoments_26 : decode cX3_lengthOfMoments 26 = .ok (.iconst 1, 1) := by decide +kernel
theorem dX3_lengthOfMoments_27 : decode cX3_lengthOfMoments 27 = .ok (.invokevirtual 125, 3) := by decide +kernel
theorem dX3_lengthOfMoments_30 : decode cX3_lengthOfMoments 30 = .ok (.ifCond .eq 7, 3) := by decide +kernel
theorem dX3_lengthOfMoments_33 : decode cX3_lengthOfMoments 33 = .ok (.lconst 0, 1) := by decide +kernel
theorem dX3_lengthOfMoments_34 : decode cX3_lengthOfMoments 34 = .ok (.goto 39, 3) := by decide +kernel
theorem dX3_lengthOfMoments_37 : decode cX3_lengthOfMoments 37 = .ok (.aload_n 0, 1) := by decide +kernel
theorem dX3_lengthOfMoments_38 : decode cX3_lengthOfMoments 38 = .ok (.iload_n 3, 1) := by decide +kernel
theorem dX3_lengthOfMoments_39 : decode cX3_lengthOfMoments 39 = .ok (.ldc2_w 231, 3) := by decide +kernel
theorem dX3_lengthOfMoments_42 : decode cX3_lengthOfMoments 42 = .ok (.aload_n 0, 1) := by decide +kernel
theorem dX3_lengthOfMoments_43 : decode cX3_lengthOfMoments 43 = .ok (.getfield 26, 3) := by decide +kernel
theorem dX3_lengthOfMoments_46 : decode cX3_lengthOfMoments 46 = .ok (.iload_n 2, 1) := by decide +kernel
theorem dX3_lengthOfMoments_47 : decode cX3_lengthOfMoments 47 = .ok (.laload, 1) := by decide +kernel
theorem dX3_lengthOfMoments_48 : decode cX3_lengthOfMoments 48 = .ok (.aload_n 0, 1) := by decide +kernel
theorem dX3_lengthOfMoments_49 : decode cX3_lengthOfMoments 49 = .ok (.getfield 26, 3) := by decide +kernel
theorem dX3_lengthOfMoments_52 : decode cX3_lengthOfMoments 52 = .ok (.iload_n 1, 1) := by decide +kernel
theorem dX3_lengthOfMoments_53 : decode cX3_lengthOfMoments 53 = .ok (.laload, 1) := by decide +kernel
theorem dX3_lengthOfMoments_54 : decode cX3_lengthOfMoments 54 = .ok (.lsub, 1) := by decide +kernel
theorem dX3_lengthOfMoments_55 : decode cX3_lengthOfMoments 55 = .ok (.lmul, 1) := by decide +kernel
theorem dX3_lengthOfMoments_56 : decode cX3_lengthOfMoments 56 = .ok (.aload_n 0, 1) := by decide +kernel
theorem dX3_lengthOfMoments_57 : decode cX3_lengthOfMoments 57 = .ok (.getfield 29, 3) := by decide +kernel
theorem dX3_lengthOfMoments_60 : decode cX3_lengthOfMoments 60 = .ok (.iload_n 2, 1) := by decide +kernel
theorem dX3_lengthOfMoments_61 : decode cX3_lengthOfMoments 61 = .ok (.laload, 1) := by decide +kernel
theorem dX3_lengthOfMoments_62 : decode cX3_lengthOfMoments 62 = .ok (.aload_n 0, 1) := by decide +kernel
theorem dX3_lengthOfMoments_63 : decode cX3_lengthOfMoments 63 = .ok (.getfield 29, 3) := by decide +kernel
theorem dX3_lengthOfMoments_66 : decode cX3_lengthOfMoments 66 = .ok (.iload_n 1, 1) := by decide +kernel
theorem dX3_lengthOfMoments_67 : decode cX3_lengthOfMoments 67 = .ok (.laload, 1) := by decide +kernel
theorem dX3_lengthOfMoments_68 : decode cX3_lengthOfMoments 68 = .ok (.lsub, 1) := by decide +kernel
theorem dX3_lengthOfMoments_69 : decode cX3_lengthOfMoments 69 = .ok (.iconst 2, 1) := by decide +kernel
theorem dX3_lengthOfMoments_70 : decode cX3_lengthOfMoments 70 = .ok (.invokevirtual 220, 3) := by decide +kernel
theorem dX3_lengthOfMoments_73 : decode cX3_lengthOfMoments 73 = .ok (.lreturn, 1) := by decide +kernel
theorem dX3_isAhead_0 : decode cX3_isAhead 0 = .ok (.aload_n 0, 1) := by decide +kernel
theorem dX3_isAhead_1 : decode cX3_isAhead 1 = .ok (.getfield 26, 3) := by decide +kernel
theorem dX3_isAhead_4 : decode cX3_isAhead 4 = .ok (.iload_n 1, 1) := by decide +kernel
theorem dX3_isAhead_5 : decode cX3_isAhead 5 = .ok (.laload, 1) := by decide +kernel
theorem dX3_isAhead_6 : decode cX3_isAhead 6 = .ok (.aload_n 0, 1) := by decide +kernel
theorem dX3_isAhead_7 : decode cX3_isAhead 7 = .ok (.getfield 26, 3) := by decide +kernel
theorem dX3_isAhead_10 : decode cX3_isAhead 10 = .ok (.iload_n 2, 1) := by decide +kernel
theorem dX3_isAhead_11 : decode cX3_isAhead 11 = .ok (.laload, 1) := by decide +kernel
theorem dX3_isAhead_12 : decode cX3_isAhead 12 = .ok (.lcmp, 1) := by decide +kernel
theorem dX3_isAhead_13 : decode cX3_isAhead 13 = .ok (.ifCond .lt 35, 3) := by decide +kernel
theorem dX3_isAhead_16 : decode cX3_isAhead 16 = .ok (.aload_n 0, 1) := by decide +kernel
theorem dX3_isAhead_17 : decode cX3_isAhead 17 = .ok (.getfield 26, 3) := by decide +kernel
theorem dX3_isAhead_20 : decode cX3_isAhead 20 = .ok (.iload_n 1, 1) := by decide +kernel
theorem dX3_isAhead_21 : decode cX3_isAhead 21 = .ok (.laload, 1) := by decide +kernel
theorem dX3_isAhead_22 : decode cX3_isAhead 22 = .ok (.aload_n 0, 1) := by decide +kernel
theorem dX3_isAhead_23 : decode cX3_isAhead 23 = .ok (.getfield 26, 3) := by decide +kernel
theorem dX3_isAhead_26 : decode cX3_isAhead 26 = .ok (.iload_n 2, 1) := by decide +kernel
theorem dX3_isAhead_27 : decode cX3_isAhead 27 = .ok (.laload, 1) := by decide +kernel
theorem dX3_isAhead_28 : decode cX3_isAhead 28 = .ok (.lcmp, 1) := by decide +kernel
theorem dX3_isAhead_29 : decode cX3_isAhead 29 = .ok (.ifCond .ne 23, 3) := by decide +kernel
theorem dX3_isAhead_32 : decode cX3_isAhead 32 = .ok (.aload_n 0, 1) := by decide +kernel
theorem dX3_isAhead_33 : decode cX3_isAhead 33 = .ok (.getfield 29, 3) := by decide +kernel
theorem dX3_isAhead_36 : decode cX3_isAhead 36 = .ok (.iload_n 1, 1) := by decide +kernel
theorem dX3_isAhead_37 : decode cX3_isAhead 37 = .ok (.laload, 1) := by decide +kernel
theorem dX3_isAhead_38 : decode cX3_isAhead 38 = .ok (.aload_n 0, 1) := by decide +kernel
theorem dX3_isAhead_39 : decode cX3_isAhead 39 = .ok (.getfield 29, 3) := by decide +kernel
theorem dX3_isAhead_42 : decode cX3_isAhead 42 = .ok (.iload_n 2, 1) := by decide +kernel
theorem dX3_isAhead_43 : decode cX3_isAhead 43 = .ok (.laload, 1) := by decide +kernel
theorem dX3_isAhead_44 : decode cX3_isAhead 44 = .ok (.lcmp, 1) := by decide +kernel
theorem dX3_isAhead_45 : decode cX3_isAhead 45 = .ok (.ifCond .ge 7, 3) := by decide +kernel
theorem dX3_isAhead_48 : decode cX3_isAhead 48 = .ok (.iconst 1, 1) := by decide +kernel
theorem dX3_isAhead_49 : decode cX3_isAhead 49 = .ok (.goto 4, 3) := by decide +kernel
theorem dX3_isAhead_52 : decode cX3_isAhead 52 = .ok (.iconst 0, 1) := by decide +kernel
theorem dX3_isAhead_53 : decode cX3_isAhead 53 = .ok (.ireturn, 1) := by decide +kernel
set_option maxRecDepth 20000 in
theorem ggX3_whole_X3_isSlot : GoodIn wsX3_whole wsX3_isSlot := goodIn_r _ [11, 12, 13, 14, 10, 15] (by decide +kernel) (by decide +kernel)
set_option maxRecDepth 20000 in
theorem gX3_whole_X3_isSlot : GoodIn wsX3_whole (va_wsS RX3 174 yX3_isSlot wsX3_isSlot) := goodIn_app (goodIn_of _ (by decide +kernel)) ggX3_whole_X3_isSlot
set_option maxRecDepth 20000 in
theorem ggX3_whole_X3_fails : GoodIn wsX3_whole wsX3_fails := goodIn_r _ [19, 20, 25, 26, 27, 28, 29, 30, 31, 32, 33, 34, 35, 36, 37, 38] (by decide +kernel) (by decide +kernel)
set_option maxRecDepth 20000 in
theorem gX3_whole_X3_fails : GoodIn wsX3_whole (wsV RX3 125 RX3 yX3_fails wsX3_fails) := goodIn_app (goodIn_of _ (by decide +kernel)) ggX3_whole_X3_fails
set_option maxRecDepth 20000 in
theorem ggX3_whole_X3_isAhead : GoodIn wsX3_whole wsX3_isAhead := goodIn_ca (goodIn_r _ [24, 2, 1, 25, 26, 27, 28, 29, 30, 31, 32, 33, 34, 35, 36, 37, 38] (by decide +kernel) (by decide +kernel)) (goodIn_sub (fun _ h => List.mem_cons_of_mem _ (List.mem_append_right _ h)) (by decide +kernel))
set_option maxRecDepth 20000 in
theorem gX3_whole_X3_isAhead : GoodIn wsX3_whole (wsV RX3 233 RX3 yX3_isAhead wsX3_isAhead) := goodIn_app (goodIn_of _ (by decide +kernel)) ggX3_whole_X3_isAhead
theorem dX3_whole_0 : decode cX3_whole 0 = .ok (.aload_n 0, 1) := by decide +kernel
theorem dX3_whole_1 : decode cX3_whole 1 = .ok (.iload_n 1, 1) := by decide +kernel
theorem dX3_whole_2 : decode cX3_whole 2 = .ok (.invokestatic 174, 3) := by decide +kernel
theorem dX3_whole_5 : decode cX3_whole 5 = .ok (.ifCond .eq 10, 3) := by decide +kernel
theorem dX3_whole_8 : decode cX3_whole 8 = .ok (.iload_n 2, 1) := by decide +kernel
theorem dX3_whole_9 : decode cX3_whole 9 = .ok (.invokestatic 174, 3) := by decide +kernel
theorem dX3_whole_12 : decode cX3_whole 12 = .ok (.ifCond .ne 7, 3) := by decide +kernel
theorem dX3_whole_15 : decode cX3_whole 15 = .ok (.iconst 1, 1) := by decide +kernel
theorem dX3_whole_16 : decode cX3_whole 16 = .ok (.goto 32, 3) := by decide +kernel
theorem dX3_whole_19 : decode cX3_whole 19 = .ok (.iload_n 3, 1) := by decide +kernel
theorem dX3_whole_20 : decode cX3_whole 20 = .ok (.bipush 100, 2) := by decide +kernel
theorem dX3_whole_22 : decode cX3_whole 22 = .ok (.if_icmp .eq 21, 3) := by decide +kernel
theorem dX3_whole_25 : decode cX3_whole 25 = .ok (.iload_n 3, 1) := by decide +kernel
theorem dX3_whole_26 : decode cX3_whole 26 = .ok (.bipush 104, 2) := by decide +kernel
theorem dX3_whole_28 : decode cX3_whole 28 = .ok (.if_icmp .eq 15, 3) := by decide +kernel
theorem dX3_whole_31 : decode cX3_whole 31 = .ok (.iload_n 3, 1) := by decide +kernel
theorem dX3_whole_32 : decode cX3_whole 32 = .ok (.bipush 105, 2) := by decide +kernel
theorem dX3_whole_34 : decode cX3_whole 34 = .ok (.if_icmp .eq 9, 3) := by decide +kernel
theorem dX3_whole_37 : decode cX3_whole 37 = .ok (.iload_n 3, 1) := by decide +kernel
theorem dX3_whole_38 : decode cX3_whole 38 = .ok (.bipush 115, 2) := by decide +kernel
theorem dX3_whole_40 : decode cX3_whole 40 = .ok (.if_icmp .ne 7, 3) := by decide +kernel
theorem dX3_whole_43 : decode cX3_whole 43 = .ok (.iconst 0, 1) := by decide +kernel
theorem dX3_whole_44 : decode cX3_whole 44 = .ok (.goto 4, 3) := by decide +kernel
theorem dX3_whole_47 : decode cX3_whole 47 = .ok (.iconst 2, 1) := by decide +kernel
theorem dX3_whole_48 : decode cX3_whole 48 = .ok (.invokevirtual 125, 3) := by decide +kernel
theorem dX3_whole_51 : decode cX3_whole 51 = .ok (.ifCond .eq 5, 3) := by decide +kernel
theorem dX3_whole_54 : decode cX3_whole 54 = .ok (.lconst 0, 1) := by decide +kernel
theorem dX3_whole_55 : decode cX3_whole 55 = .ok (.lreturn, 1) := by decide +kernel
theorem dX3_whole_56 : decode cX3_whole 56 = .ok (.aload_n 0, 1) := by decide +kernel
theorem dX3_whole_57 : decode cX3_whole 57 = .ok (.iload_n 2, 1) := by decide +kernel
theorem dX3_whole_58 : decode cX3_whole 58 = .ok (.iload_n 1, 1) := by decide +kernel
theorem dX3_whole_59 : decode cX3_whole 59 = .ok (.invokevirtual 233, 3) := by decide +kernel
theorem dX3_whole_62 : decode cX3_whole 62 = .ok (.istore 4, 2) := by decide +kernel
theorem dX3_whole_64 : decode cX3_whole 64 = .ok (.iload 4, 2) := by decide +kernel
theorem dX3_whole_66 : decode cX3_whole 66 = .ok (.ifCond .eq 7, 3) := by decide +kernel
theorem dX3_whole_69 : decode cX3_whole 69 = .ok (.iload_n 2, 1) := by decide +kernel
theorem dX3_whole_70 : decode cX3_whole 70 = .ok (.goto 4, 3) := by decide +kernel
theorem dX3_whole_73 : decode cX3_whole 73 = .ok (.iload_n 1, 1) := by decide +kernel
theorem dX3_whole_74 : decode cX3_whole 74 = .ok (.istore 5, 2) := by decide +kernel
theorem dX3_whole_76 : decode cX3_whole 76 = .ok (.iload 4, 2) := by decide +kernel
theorem dX3_whole_78 : decode cX3_whole 78 = .ok (.ifCond .eq 7, 3) := by decide +kernel
theorem dX3_whole_81 : decode cX3_whole 81 = .ok (.iload_n 1, 1) := by decide +kernel
theorem dX3_whole_82 : decode cX3_whole 82 = .ok (.goto 4, 3) := by decide +kernel
theorem dX3_whole_85 : decode cX3_whole 85 = .ok (.iload_n 2, 1) := by decide +kernel
theorem dX3_whole_86 : decode cX3_whole 86 = .ok (.istore 6, 2) := by decide +kernel
theorem dX3_whole_88 : decode cX3_whole 88 = .ok (.aload_n 0, 1) := by decide +kernel
theorem dX3_whole_89 : decode cX3_whole 89 = .ok (.getfield 29, 3) := by decide +kernel
theorem dX3_whole_92 : decode cX3_whole 92 = .ok (.iload 6, 2) := by decide +kernel
theorem dX3_whole_94 : decode cX3_whole 94 = .ok (.laload, 1) := by decide +kernel
theorem dX3_whole_95 : decode cX3_whole 95 = .ok (.aload_n 0, 1) := by decide +kernel
theorem dX3_whole_96 : decode cX3_whole 96 = .ok (.getfield 29, 3) := by decide +kernel
theorem dX3_whole_99 : decode cX3_whole 99 = .ok (.iload 5, 2) := by decide +kernel
theorem dX3_whole_101 : decode cX3_whole 101 = .ok (.laload, 1) := by decide +kernel
theorem dX3_whole_102 : decode cX3_whole 102 = .ok (.lcmp, 1) := by decide +kernel
theorem dX3_whole_103 : decode cX3_whole 103 = .ok (.ifCond .ge 7, 3) := by decide +kernel
theorem dX3_whole_106 : decode cX3_whole 106 = .ok (.iconst 1, 1) := by decide +kernel
theorem dX3_whole_107 : decode cX3_whole 107 = .ok (.goto 4, 3) := by decide +kernel
theorem dX3_whole_110 : decode cX3_whole 110 = .ok (.iconst 0, 1) := by decide +kernel
theorem dX3_whole_111 : decode cX3_whole 111 = .ok (.istore 7, 2) := by decide +kernel
theorem dX3_whole_113 : decode cX3_whole 113 = .ok (.aload_n 0, 1) := by decide +kernel
theorem dX3_whole_114 : decode cX3_whole 114 = .ok (.getfield 26, 3) := by decide +kernel
theorem dX3_whole_117 : decode cX3_whole 117 = .ok (.iload 6, 2) := by decide +kernel
theorem dX3_whole_119 : decode cX3_whole 119 = .ok (.laload, 1) := by decide +kernel
theorem dX3_whole_120 : decode cX3_whole 120 = .ok (.aload_n 0, 1) := by decide +kernel
theorem dX3_whole_121 : decode cX3_whole 121 = .ok (.getfield 26, 3) := by decide +kernel
theorem dX3_whole_124 : decode cX3_whole 124 = .ok (.iload 5, 2) := by decide +kernel
theorem dX3_whole_126 : decode cX3_whole 126 = .ok (.laload, 1) := by decide +kernel
theorem dX3_whole_127 : decode cX3_whole 127 = .ok (.lsub, 1) := by decide +kernel
theorem dX3_whole_128 : decode cX3_whole 128 = .ok (.iload 7, 2) := by decide +kernel
theorem dX3_whole_130 : decode cX3_whole 130 = .ok (.ifCond .eq 7, 3) := by decide +kernel
theorem dX3_whole_133 : decode cX3_whole 133 = .ok (.lconst 1, 1) := by decide +kernel
theorem dX3_whole_134 : decode cX3_whole 134 = .ok (.goto 4, 3) := by decide +kernel
theorem dX3_whole_137 : decode cX3_whole 137 = .ok (.lconst 0, 1) := by decide +kernel
theorem dX3_whole_138 : decode cX3_whole 138 = .ok (.lsub, 1) := by decide +kernel
theorem dX3_whole_139 : decode cX3_whole 139 = .ok (.lstore 8, 2) := by decide +kernel
theorem dX3_whole_141 : decode cX3_whole 141 = .ok (.aload_n 0, 1) := by decide +kernel
theorem dX3_whole_142 : decode cX3_whole 142 = .ok (.getfield 29, 3) := by decide +kernel
theorem dX3_whole_145 : decode cX3_whole 145 = .ok (.iload 6, 2) := by decide +kernel
theorem dX3_whole_147 : decode cX3_whole 147 = .ok (.laload, 1) := by decide +kernel
theorem dX3_whole_148 : decode cX3_whole 148 = .ok (.aload_n 0, 1) := by decide +kernel
theorem dX3_whole_149 : decode cX3_whole 149 = .ok (.getfield 29, 3) := by decide +kernel
theorem dX3_whole_152 : decode cX3_whole 152 = .ok (.iload 5, 2) := by decide +kernel
theorem dX3_whole_154 : decode cX3_whole 154 = .ok (.laload, 1) := by decide +kernel
theorem dX3_whole_155 : decode cX3_whole 155 = .ok (.lsub, 1) := by decide +kernel
theorem dX3_whole_156 : decode cX3_whole 156 = .ok (.iload 7, 2) := by decide +kernel
theorem dX3_whole_158 : decode cX3_whole 158 = .ok (.ifCond .eq 9, 3) := by decide +kernel
theorem dX3_whole_161 : decode cX3_whole 161 = .ok (.ldc2_w 205, 3) := by decide +kernel
theorem dX3_whole_164 : decode cX3_whole 164 = .ok (.goto 4, 3) := by decide +kernel
theorem dX3_whole_167 : decode cX3_whole 167 = .ok (.lconst 0, 1) := by decide +kernel
theorem dX3_whole_168 : decode cX3_whole 168 = .ok (.ladd, 1) := by decide +kernel
theorem dX3_whole_169 : decode cX3_whole 169 = .ok (.ldc2_w 199, 3) := by decide +kernel
theorem dX3_whole_172 : decode cX3_whole 172 = .ok (.ldiv, 1) := by decide +kernel
theorem dX3_whole_173 : decode cX3_whole 173 = .ok (.lstore 10, 2) := by decide +kernel
theorem dX3_whole_175 : decode cX3_whole 175 = .ok (.iload_n 3, 1) := by decide +kernel
theorem dX3_whole_176 : decode cX3_whole 176 = .ok (.bipush 100, 2) := by decide +kernel
theorem dX3_whole_178 : decode cX3_whole 178 = .ok (.if_icmp .ne 8, 3) := by decide +kernel
theorem dX3_whole_181 : decode cX3_whole 181 = .ok (.lload 8, 2) := by decide +kernel
theorem dX3_whole_183 : decode cX3_whole 183 = .ok (.goto 38, 3) := by decide +kernel
theorem dX3_whole_186 : decode cX3_whole 186 = .ok (.ldc2_w 231, 3) := by decide +kernel
theorem dX3_whole_189 : decode cX3_whole 189 = .ok (.lload 8, 2) := by decide +kernel
theorem dX3_whole_191 : decode cX3_whole 191 = .ok (.lmul, 1) := by decide +kernel
theorem dX3_whole_192 : decode cX3_whole 192 = .ok (.lload 10, 2) := by decide +kernel
theorem dX3_whole_194 : decode cX3_whole 194 = .ok (.ladd, 1) := by decide +kernel
theorem dX3_whole_195 : decode cX3_whole 195 = .ok (.iload_n 3, 1) := by decide +kernel
theorem dX3_whole_196 : decode cX3_whole 196 = .ok (.bipush 104, 2) := by decide +kernel
theorem dX3_whole_198 : decode cX3_whole 198 = .ok (.if_icmp .ne 9, 3) := by decide +kernel
theorem dX3_whole_201 : decode cX3_whole 201 = .ok (.ldc2_w 195, 3) := by decide +kernel
theorem dX3_whole_204 : decode cX3_whole 204 = .ok (.goto 16, 3) := by decide +kernel
theorem dX3_whole_207 : decode cX3_whole 207 = .ok (.iload_n 3, 1) := by decide +kernel
theorem dX3_whole_208 : decode cX3_whole 208 = .ok (.bipush 105, 2) := by decide +kernel
theorem dX3_whole_210 : decode cX3_whole 210 = .ok (.if_icmp .ne 9, 3) := by decide +kernel
theorem dX3_whole_213 : decode cX3_whole 213 = .ok (.ldc2_w 197, 3) := by decide +kernel
theorem dX3_whole_216 : decode cX3_whole 216 = .ok (.goto 4, 3) := by decide +kernel
theorem dX3_whole_219 : decode cX3_whole 219 = .ok (.lconst 1, 1) := by decide +kernel
theorem dX3_whole_220 : decode cX3_whole 220 = .ok (.ldiv, 1) := by decide +kernel
theorem dX3_whole_221 : decode cX3_whole 221 = .ok (.lstore 12, 2) := by decide +kernel
theorem dX3_whole_223 : decode cX3_whole 223 = .ok (.iload 4, 2) := by decide +kernel
theorem dX3_whole_225 : decode cX3_whole 225 = .ok (.ifCond .eq 9, 3) := by decide +kernel
theorem dX3_whole_228 : decode cX3_whole 228 = .ok (.lload 12, 2) := by decide +kernel
theorem dX3_whole_230 : decode cX3_whole 230 = .ok (.lneg, 1) := by decide +kernel
theorem dX3_whole_231 : decode cX3_whole 231 = .ok (.goto 5, 3) := by decide +kernel
theorem dX3_whole_234 : decode cX3_whole 234 = .ok (.lload 12, 2) := by decide +kernel
theorem dX3_whole_236 : decode cX3_whole 236 = .ok (.lreturn, 1) := by decide +kernel
set_option maxRecDepth 20000 in
theorem ggX3_orderMoments_X3_isSlot : GoodIn wsX3_orderMoments wsX3_isSlot := goodIn_r _ [4, 5, 6, 7, 3, 8] (by decide +kernel) (by decide +kernel)
set_option maxRecDepth 20000 in
theorem gX3_orderMoments_X3_isSlot : GoodIn wsX3_orderMoments (va_wsS RX3 174 yX3_isSlot wsX3_isSlot) := goodIn_app (goodIn_of _ (by decide +kernel)) ggX3_orderMoments_X3_isSlot
set_option maxRecDepth 20000 in
theorem ggX3_orderMoments_X3_fails : GoodIn wsX3_orderMoments wsX3_fails := goodIn_r _ [12, 13, 20, 21, 22, 23, 24, 25, 26, 27, 28, 29, 30, 31, 32, 33] (by decide +kernel) (by decide +kernel)
set_option maxRecDepth 20000 in
theorem gX3_orderMoments_X3_fails : GoodIn wsX3_orderMoments (wsV RX3 125 RX3 yX3_fails wsX3_fails) := goodIn_app (goodIn_of _ (by decide +kernel)) ggX3_orderMoments_X3_fails
set_option maxRecDepth 20000 in
theorem ggX3_orderMoments_X3_isAhead : GoodIn wsX3_orderMoments wsX3_isAhead := goodIn_ca (goodIn_r _ [17, 18, 19, 20, 21, 22, 23, 24, 25, 26, 27, 28, 29, 30, 31, 32, 33] (by decide +kernel) (by decide +kernel)) (goodIn_sub (fun _ h => List.mem_cons_of_mem _ (List.mem_append_right _ h)) (by decide +kernel))
set_option maxRecDepth 20000 in
theorem gX3_orderMoments_X3_isAhead : GoodIn wsX3_orderMoments (wsV RX3 233 RX3 yX3_isAhead wsX3_isAhead) := goodIn_app (goodIn_of _ (by decide +kernel)) ggX3_orderMoments_X3_isAhead
theorem dX3_orderMoments_0 : decode cX3_orderMoments 0 = .ok (.aload_n 0, 1) := by decide +kernel
theorem dX3_orderMoments_1 : decode cX3_orderMoments 1 = .ok (.iload_n 1, 1) := by decide +kernel
theorem dX3_orderMoments_2 : decode cX3_orderMoments 2 = .ok (.invokestatic 174, 3) := by decide +kernel
theorem dX3_orderMoments_5 : decode cX3_orderMoments 5 = .ok (.ifCond .eq 14, 3) := by decide +kernel
theorem dX3_orderMoments_8 : decode cX3_orderMoments 8 = .ok (.iload_n 2, 1) := by decide +kernel
theorem dX3_orderMoments_9 : decode cX3_orderMoments 9 = .ok (.invokestatic 174, 3) := by decide +kernel
theorem dX3_orderMoments_12 : decode cX3_orderMoments 12 = .ok (.ifCond .eq 7, 3) := by decide +kernel
theorem dX3_orderMoments_15 : decode cX3_orderMoments 15 = .ok (.iconst 0, 1) := by decide +kernel
theorem dX3_orderMoments_16 : decode cX3_orderMoments 16 = .ok (.goto 4, 3) := by decide +kernel
theorem dX3_orderMoments_19 : decode cX3_orderMoments 19 = .ok (.iconst 1, 1) := by decide +kernel
theorem dX3_orderMoments_20 : decode cX3_orderMoments 20 = .ok (.invokevirtual 125, 3) := by decide +kernel
theorem dX3_orderMoments_23 : decode cX3_orderMoments 23 = .ok (.ifCond .eq 7, 3) := by decide +kernel
theorem dX3_orderMoments_26 : decode cX3_orderMoments 26 = .ok (.iconst 0, 1) := by decide +kernel
theorem dX3_orderMoments_27 : decode cX3_orderMoments 27 = .ok (.goto 30, 3) := by decide +kernel
theorem dX3_orderMoments_30 : decode cX3_orderMoments 30 = .ok (.aload_n 0, 1) := by decide +kernel
theorem dX3_orderMoments_31 : decode cX3_orderMoments 31 = .ok (.iload_n 1, 1) := by decide +kernel
theorem dX3_orderMoments_32 : decode cX3_orderMoments 32 = .ok (.iload_n 2, 1) := by decide +kernel
theorem dX3_orderMoments_33 : decode cX3_orderMoments 33 = .ok (.invokevirtual 233, 3) := by decide +kernel
theorem dX3_orderMoments_36 : decode cX3_orderMoments 36 = .ok (.ifCond .eq 7, 3) := by decide +kernel
theorem dX3_orderMoments_39 : decode cX3_orderMoments 39 = .ok (.iconst (-1), 1) := by decide +kernel
theorem dX3_orderMoments_40 : decode cX3_orderMoments 40 = .ok (.goto 17, 3) := by decide +kernel
theorem dX3_orderMoments_43 : decode cX3_orderMoments 43 = .ok (.aload_n 0, 1) := by decide +kernel
theorem dX3_orderMoments_44 : decode cX3_orderMoments 44 = .ok (.iload_n 2, 1) := by decide +kernel
theorem dX3_orderMoments_45 : decode cX3_orderMoments 45 = .ok (.iload_n 1, 1) := by decide +kernel
theorem dX3_orderMoments_46 : decode cX3_orderMoments 46 = .ok (.invokevirtual 233, 3) := by decide +kernel
theorem dX3_orderMoments_49 : decode cX3_orderMoments 49 = .ok (.ifCond .eq 7, 3) := by decide +kernel
theorem dX3_orderMoments_52 : decode cX3_orderMoments 52 = .ok (.iconst 1, 1) := by decide +kernel
theorem dX3_orderMoments_53 : decode cX3_orderMoments 53 = .ok (.goto 4, 3) := by decide +kernel
theorem dX3_orderMoments_56 : decode cX3_orderMoments 56 = .ok (.iconst 0, 1) := by decide +kernel
theorem dX3_orderMoments_57 : decode cX3_orderMoments 57 = .ok (.ireturn, 1) := by decide +kernel
set_option maxRecDepth 20000 in
theorem ggX3_longShare_X3_parts : GoodIn wsX3_longShare wsX3_parts := goodIn_r _ [9, 10, 11, 12, 3, 13, 14, 15, 16, 8, 17, 18, 19, 20, 21, 22, 23, 24, 25, 26, 27, 28, 29, 30, 31, 32, 33, 34, 35, 36, 37, 38, 39, 40, 41, 42, 43, 44, 45, 46, 47, 48, 49, 50, 51, 52] (by decide +kernel) (by decide +kernel)
set_option maxRecDepth 20000 in
theorem gX3_longShare_X3_parts : GoodIn wsX3_longShare (wsV RX3 104 RX3 yX3_parts wsX3_parts) := goodIn_app (goodIn_of _ (by decide +kernel)) ggX3_longShare_X3_parts
set_option maxRecDepth 20000 in
theorem ggX3_longShare_X3_isLong : GoodIn wsX3_longShare wsX3_isLong := goodIn_r _ [35, 26, 28, 11, 36, 37, 8, 38, 15, 16, 17] (by decide +kernel) (by decide +kernel)
set_option maxRecDepth 20000 in
theorem gX3_longShare_X3_isLong : GoodIn wsX3_longShare (va_wsS RX3 73 yX3_isLong wsX3_isLong) := goodIn_app (goodIn_of _ (by decide +kernel)) ggX3_longShare_X3_isLong
theorem dX3_longShare_0 : decode cX3_longShare 0 = .ok (.aload_n 0, 1) := by decide +kernel
theorem dX3_longShare_1 : decode cX3_longShare 1 = .ok (.iconst 0, 1) := by decide +kernel
theorem dX3_longShare_2 : decode cX3_longShare 2 = .ok (.putfield 1, 3) := by decide +kernel
theorem dX3_longShare_5 : decode cX3_longShare 5 = .ok (.iconst 0, 1) := by decide +kernel
theorem dX3_longShare_6 : decode cX3_longShare 6 = .ok (.istore_n 1, 1) := by decide +kernel
theorem dX3_longShare_7 : decode cX3_longShare 7 = .ok (.iconst 0, 1) := by decide +kernel
theorem dX3_longShare_8 : decode cX3_longShare 8 = .ok (.istore_n 2, 1) := by decide +kernel
theorem dX3_longShare_9 : decode cX3_longShare 9 = .ok (.iload_n 2, 1) := by decide +kernel
theorem dX3_longShare_10 : decode cX3_longShare 10 = .ok (.bipush 6, 2) := by decide +kernel
theorem dX3_longShare_12 : decode cX3_longShare 12 = .ok (.if_icmp .ge 37, 3) := by decide +kernel
theorem dX3_longShare_15 : decode cX3_longShare 15 = .ok (.aload_n 0, 1) := by decide +kernel
theorem dX3_longShare_16 : decode cX3_longShare 16 = .ok (.aload_n 0, 1) := by decide +kernel
theorem dX3_longShare_17 : decode cX3_longShare 17 = .ok (.getfield 13, 3) := by decide +kernel
theorem dX3_longShare_20 : decode cX3_longShare 20 = .ok (.iload_n 2, 1) := by decide +kernel
theorem dX3_longShare_21 : decode cX3_longShare 21 = .ok (.laload, 1) := by decide +kernel
theorem dX3_longShare_22 : decode cX3_longShare 22 = .ok (.invokevirtual 104, 3) := by decide +kernel
theorem dX3_longShare_25 : decode cX3_longShare 25 = .ok (.iload_n 1, 1) := by decide +kernel
theorem dX3_longShare_26 : decode cX3_longShare 26 = .ok (.aload_n 0, 1) := by decide +kernel
theorem dX3_longShare_27 : decode cX3_longShare 27 = .ok (.getfield 86, 3) := by decide +kernel
theorem dX3_longShare_30 : decode cX3_longShare 30 = .ok (.invokestatic 73, 3) := by decide +kernel
theorem dX3_longShare_33 : decode cX3_longShare 33 = .ok (.ifCond .eq 7, 3) := by decide +kernel
theorem dX3_longShare_36 : decode cX3_longShare 36 = .ok (.iconst 1, 1) := by decide +kernel
theorem dX3_longShare_37 : decode cX3_longShare 37 = .ok (.goto 4, 3) := by decide +kernel
theorem dX3_longShare_40 : decode cX3_longShare 40 = .ok (.iconst 0, 1) := by decide +kernel
theorem dX3_longShare_41 : decode cX3_longShare 41 = .ok (.iadd, 1) := by decide +kernel
theorem dX3_longShare_42 : decode cX3_longShare 42 = .ok (.istore_n 1, 1) := by decide +kernel
theorem dX3_longShare_43 : decode cX3_longShare 43 = .ok (.iinc 2 1, 3) := by decide +kernel
theorem dX3_longShare_46 : decode cX3_longShare 46 = .ok (.goto (-37), 3) := by decide +kernel
theorem dX3_longShare_49 : decode cX3_longShare 49 = .ok (.iload_n 1, 1) := by decide +kernel
theorem dX3_longShare_50 : decode cX3_longShare 50 = .ok (.i2f, 1) := by decide +kernel
theorem dX3_longShare_51 : decode cX3_longShare 51 = .ok (.ldc 237, 2) := by decide +kernel
theorem dX3_longShare_53 : decode cX3_longShare 53 = .ok (.fdiv, 1) := by decide +kernel
theorem dX3_longShare_54 : decode cX3_longShare 54 = .ok (.freturn, 1) := by decide +kernel
theorem dX3_meanDay_0 : decode cX3_meanDay 0 = .ok (.aload_n 0, 1) := by decide +kernel
theorem dX3_meanDay_1 : decode cX3_meanDay 1 = .ok (.iconst 0, 1) := by decide +kernel
theorem dX3_meanDay_2 : decode cX3_meanDay 2 = .ok (.putfield 1, 3) := by decide +kernel
theorem dX3_meanDay_5 : decode cX3_meanDay 5 = .ok (.lconst 0, 1) := by decide +kernel
theorem dX3_meanDay_6 : decode cX3_meanDay 6 = .ok (.lstore_n 1, 1) := by decide +kernel
theorem dX3_meanDay_7 : decode cX3_meanDay 7 = .ok (.iconst 0, 1) := by decide +kernel
theorem dX3_meanDay_8 : decode cX3_meanDay 8 = .ok (.istore_n 3, 1) := by decide +kernel
theorem dX3_meanDay_9 : decode cX3_meanDay 9 = .ok (.iload_n 3, 1) := by decide +kernel
theorem dX3_meanDay_10 : decode cX3_meanDay 10 = .ok (.bipush 6, 2) := by decide +kernel
theorem dX3_meanDay_12 : decode cX3_meanDay 12 = .ok (.if_icmp .ge 18, 3) := by decide +kernel
theorem dX3_meanDay_15 : decode cX3_meanDay 15 = .ok (.lload_n 1, 1) := by decide +kernel
theorem dX3_meanDay_16 : decode cX3_meanDay 16 = .ok (.aload_n 0, 1) := by decide +kernel
theorem dX3_meanDay_17 : decode cX3_meanDay 17 = .ok (.getfield 13, 3) := by decide +kernel
theorem dX3_meanDay_20 : decode cX3_meanDay 20 = .ok (.iload_n 3, 1) := by decide +kernel
theorem dX3_meanDay_21 : decode cX3_meanDay 21 = .ok (.laload, 1) := by decide +kernel
theorem dX3_meanDay_22 : decode cX3_meanDay 22 = .ok (.ladd, 1) := by decide +kernel
theorem dX3_meanDay_23 : decode cX3_meanDay 23 = .ok (.lstore_n 1, 1) := by decide +kernel
theorem dX3_meanDay_24 : decode cX3_meanDay 24 = .ok (.iinc 3 1, 3) := by decide +kernel
theorem dX3_meanDay_27 : decode cX3_meanDay 27 = .ok (.goto (-18), 3) := by decide +kernel
theorem dX3_meanDay_30 : decode cX3_meanDay 30 = .ok (.lload_n 1, 1) := by decide +kernel
theorem dX3_meanDay_31 : decode cX3_meanDay 31 = .ok (.l2d, 1) := by decide +kernel
theorem dX3_meanDay_32 : decode cX3_meanDay 32 = .ok (.ldc2_w 238, 3) := by decide +kernel
theorem dX3_meanDay_35 : decode cX3_meanDay 35 = .ok (.ddiv, 1) := by decide +kernel
theorem dX3_meanDay_36 : decode cX3_meanDay 36 = .ok (.dreturn, 1) := by decide +kernel
set_option maxRecDepth 20000 in
theorem ggX3_checksum_X3_floor : GoodIn wsX3_checksum wsX3_floor := goodIn_r _ [18] (by decide +kernel) (by decide +kernel)
set_option maxRecDepth 20000 in
theorem gX3_checksum_X3_floor : GoodIn wsX3_checksum (va_wsS RX3 46 yX3_floor wsX3_floor) := goodIn_app (goodIn_of _ (by decide +kernel)) ggX3_checksum_X3_floor
set_option maxRecDepth 20000 in
theorem ggX3_checksum_X3_rest : GoodIn wsX3_checksum wsX3_rest := goodIn_r _ [21, 15, 16, 17, 18] (by decide +kernel) (by decide +kernel)
set_option maxRecDepth 20000 in
theorem gX3_checksum_X3_rest : GoodIn wsX3_checksum (va_wsS RX3 52 yX3_rest wsX3_rest) := goodIn_app (goodIn_of _ (by decide +kernel)) ggX3_checksum_X3_rest
theorem dX3_checksum_0 : decode cX3_checksum 0 = .ok (.aload_n 0, 1) := by decide +kernel
theorem dX3_checksum_1 : decode cX3_checksum 1 = .ok (.iconst 0, 1) := by decide +kernel
theorem dX3_checksum_2 : decode cX3_checksum 2 = .ok (.putfield 1, 3) := by decide +kernel
theorem dX3_checksum_5 : decode cX3_checksum 5 = .ok (.ldc2_w 111, 3) := by decide +kernel
theorem dX3_checksum_8 : decode cX3_checksum 8 = .ok (.lstore_n 1, 1) := by decide +kernel
theorem dX3_checksum_9 : decode cX3_checksum 9 = .ok (.iconst 0, 1) := by decide +kernel
theorem dX3_checksum_10 : decode cX3_checksum 10 = .ok (.istore_n 3, 1) := by decide +kernel
theorem dX3_checksum_11 : decode cX3_checksum 11 = .ok (.iload_n 3, 1) := by decide +kernel
theorem dX3_checksum_12 : decode cX3_checksum 12 = .ok (.bipush 6, 2) := by decide +kernel
theorem dX3_checksum_14 : decode cX3_checksum 14 = .ok (.if_icmp .ge 22, 3) := by decide +kernel
theorem dX3_checksum_17 : decode cX3_checksum 17 = .ok (.ldc2_w 240, 3) := by decide +kernel
theorem dX3_checksum_20 : decode cX3_checksum 20 = .ok (.lload_n 1, 1) := by decide +kernel
theorem dX3_checksum_21 : decode cX3_checksum 21 = .ok (.lmul, 1) := by decide +kernel
theorem dX3_checksum_22 : decode cX3_checksum 22 = .ok (.aload_n 0, 1) := by decide +kernel
theorem dX3_checksum_23 : decode cX3_checksum 23 = .ok (.getfield 13, 3) := by decide +kernel
theorem dX3_checksum_26 : decode cX3_checksum 26 = .ok (.iload_n 3, 1) := by decide +kernel
theorem dX3_checksum_27 : decode cX3_checksum 27 = .ok (.laload, 1) := by decide +kernel
theorem dX3_checksum_28 : decode cX3_checksum 28 = .ok (.ladd, 1) := by decide +kernel
theorem dX3_checksum_29 : decode cX3_checksum 29 = .ok (.lstore_n 1, 1) := by decide +kernel
theorem dX3_checksum_30 : decode cX3_checksum 30 = .ok (.iinc 3 1, 3) := by decide +kernel
theorem dX3_checksum_33 : decode cX3_checksum 33 = .ok (.goto (-22), 3) := by decide +kernel
theorem dX3_checksum_36 : decode cX3_checksum 36 = .ok (.iconst 0, 1) := by decide +kernel
theorem dX3_checksum_37 : decode cX3_checksum 37 = .ok (.istore_n 3, 1) := by decide +kernel
theorem dX3_checksum_38 : decode cX3_checksum 38 = .ok (.iload_n 3, 1) := by decide +kernel
theorem dX3_checksum_39 : decode cX3_checksum 39 = .ok (.iconst 4, 1) := by decide +kernel
theorem dX3_checksum_40 : decode cX3_checksum 40 = .ok (.if_icmp .ge 44, 3) := by decide +kernel
theorem dX3_checksum_43 : decode cX3_checksum 43 = .ok (.ldc2_w 240, 3) := by decide +kernel
theorem dX3_checksum_46 : decode cX3_checksum 46 = .ok (.ldc2_w 240, 3) := by decide +kernel
theorem dX3_checksum_49 : decode cX3_checksum 49 = .ok (.ldc2_w 240, 3) := by decide +kernel
theorem dX3_checksum_52 : decode cX3_checksum 52 = .ok (.lload_n 1, 1) := by decide +kernel
theorem dX3_checksum_53 : decode cX3_checksum 53 = .ok (.lmul, 1) := by decide +kernel
theorem dX3_checksum_54 : decode cX3_checksum 54 = .ok (.aload_n 0, 1) := by decide +kernel
theorem dX3_checksum_55 : decode cX3_checksum 55 = .ok (.getfield 32, 3) := by decide +kernel
theorem dX3_checksum_58 : decode cX3_checksum 58 = .ok (.iload_n 3, 1) := by decide +kernel
theorem dX3_checksum_59 : decode cX3_checksum 59 = .ok (.laload, 1) := by decide +kernel
theorem dX3_checksum_60 : decode cX3_checksum 60 = .ok (.ladd, 1) := by decide +kernel
theorem dX3_checksum_61 : decode cX3_checksum 61 = .ok (.lmul, 1) := by decide +kernel
theorem dX3_checksum_62 : decode cX3_checksum 62 = .ok (.aload_n 0, 1) := by decide +kernel
theorem dX3_checksum_63 : decode cX3_checksum 63 = .ok (.getfield 35, 3) := by decide +kernel
theorem dX3_checksum_66 : decode cX3_checksum 66 = .ok (.iload_n 3, 1) := by decide +kernel
theorem dX3_checksum_67 : decode cX3_checksum 67 = .ok (.laload, 1) := by decide +kernel
theorem dX3_checksum_68 : decode cX3_checksum 68 = .ok (.ladd, 1) := by decide +kernel
theorem dX3_checksum_69 : decode cX3_checksum 69 = .ok (.lmul, 1) := by decide +kernel
theorem dX3_checksum_70 : decode cX3_checksum 70 = .ok (.aload_n 0, 1) := by decide +kernel
theorem dX3_checksum_71 : decode cX3_checksum 71 = .ok (.getfield 38, 3) := by decide +kernel
theorem dX3_checksum_74 : decode cX3_checksum 74 = .ok (.iload_n 3, 1) := by decide +kernel
theorem dX3_checksum_75 : decode cX3_checksum 75 = .ok (.laload, 1) := by decide +kernel
theorem dX3_checksum_76 : decode cX3_checksum 76 = .ok (.ladd, 1) := by decide +kernel
theorem dX3_checksum_77 : decode cX3_checksum 77 = .ok (.lstore_n 1, 1) := by decide +kernel
theorem dX3_checksum_78 : decode cX3_checksum 78 = .ok (.iinc 3 1, 3) := by decide +kernel
theorem dX3_checksum_81 : decode cX3_checksum 81 = .ok (.goto (-43), 3) := by decide +kernel
theorem dX3_checksum_84 : decode cX3_checksum 84 = .ok (.iconst 0, 1) := by decide +kernel
theorem dX3_checksum_85 : decode cX3_checksum 85 = .ok (.istore_n 3, 1) := by decide +kernel
theorem dX3_checksum_86 : decode cX3_checksum 86 = .ok (.iload_n 3, 1) := by decide +kernel
theorem dX3_checksum_87 : decode cX3_checksum 87 = .ok (.iconst 4, 1) := by decide +kernel
theorem dX3_checksum_88 : decode cX3_checksum 88 = .ok (.if_icmp .ge 47, 3) := by decide +kernel
theorem dX3_checksum_91 : decode cX3_checksum 91 = .ok (.ldc2_w 240, 3) := by decide +kernel
theorem dX3_checksum_94 : decode cX3_checksum 94 = .ok (.ldc2_w 240, 3) := by decide +kernel
theorem dX3_checksum_97 : decode cX3_checksum 97 = .ok (.lload_n 1, 1) := by decide +kernel
theorem dX3_checksum_98 : decode cX3_checksum 98 = .ok (.lmul, 1) := by decide +kernel
theorem dX3_checksum_99 : decode cX3_checksum 99 = .ok (.aload_n 0, 1) := by decide +kernel
theorem dX3_checksum_100 : decode cX3_checksum 100 = .ok (.getfield 41, 3) := by decide +kernel
theorem dX3_checksum_103 : decode cX3_checksum 103 = .ok (.iload_n 3, 1) := by decide +kernel
theorem dX3_checksum_104 : decode cX3_checksum 104 = .ok (.laload, 1) := by decide +kernel
theorem dX3_checksum_105 : decode cX3_checksum 105 = .ok (.ldc2_w 113, 3) := by decide +kernel
theorem dX3_checksum_108 : decode cX3_checksum 108 = .ok (.invokestatic 46, 3) := by decide +kernel
theorem dX3_checksum_111 : decode cX3_checksum 111 = .ok (.ladd, 1) := by decide +kernel
theorem dX3_checksum_112 : decode cX3_checksum 112 = .ok (.lmul, 1) := by decide +kernel
theorem dX3_checksum_113 : decode cX3_checksum 113 = .ok (.lconst 1, 1) := by decide +kernel
theorem dX3_checksum_114 : decode cX3_checksum 114 = .ok (.ladd, 1) := by decide +kernel
theorem dX3_checksum_115 : decode cX3_checksum 115 = .ok (.aload_n 0, 1) := by decide +kernel
theorem dX3_checksum_116 : decode cX3_checksum 116 = .ok (.getfield 41, 3) := by decide +kernel
theorem dX3_checksum_119 : decode cX3_checksum 119 = .ok (.iload_n 3, 1) := by decide +kernel
theorem dX3_checksum_120 : decode cX3_checksum 120 = .ok (.laload, 1) := by decide +kernel
theorem dX3_checksum_121 : decode cX3_checksum 121 = .ok (.ldc2_w 113, 3) := by decide +kernel
theorem dX3_checksum_124 : decode cX3_checksum 124 = .ok (.invokestatic 52, 3) := by decide +kernel
theorem dX3_checksum_127 : decode cX3_checksum 127 = .ok (.ladd, 1) := by decide +kernel
theorem dX3_checksum_128 : decode cX3_checksum 128 = .ok (.lstore_n 1, 1) := by decide +kernel
theorem dX3_checksum_129 : decode cX3_checksum 129 = .ok (.iinc 3 1, 3) := by decide +kernel
theorem dX3_checksum_132 : decode cX3_checksum 132 = .ok (.goto (-46), 3) := by decide +kernel
theorem dX3_checksum_135 : decode cX3_checksum 135 = .ok (.iconst 0, 1) := by decide +kernel
theorem dX3_checksum_136 : decode cX3_checksum 136 = .ok (.istore_n 3, 1) := by decide +kernel
theorem dX3_checksum_137 : decode cX3_checksum 137 = .ok (.iload_n 3, 1) := by decide +kernel
theorem dX3_checksum_138 : decode cX3_checksum 138 = .ok (.iconst 4, 1) := by decide +kernel
theorem dX3_checksum_139 : decode cX3_checksum 139 = .ok (.if_icmp .ge 22, 3) := by decide +kernel
theorem dX3_checksum_142 : decode cX3_checksum 142 = .ok (.ldc2_w 240, 3) := by decide +kernel
theorem dX3_checksum_145 : decode cX3_checksum 145 = .ok (.lload_n 1, 1) := by decide +kernel
theorem dX3_checksum_146 : decode cX3_checksum 146 = .ok (.lmul, 1) := by decide +kernel
theorem dX3_checksum_147 : decode cX3_checksum 147 = .ok (.aload_n 0, 1) := by decide +kernel
theorem dX3_checksum_148 : decode cX3_checksum 148 = .ok (.getfield 17, 3) := by decide +kernel
theorem dX3_checksum_151 : decode cX3_checksum 151 = .ok (.iload_n 3, 1) := by decide +kernel
theorem dX3_checksum_152 : decode cX3_checksum 152 = .ok (.laload, 1) := by decide +kernel
theorem dX3_checksum_153 : decode cX3_checksum 153 = .ok (.ladd, 1) := by decide +kernel
theorem dX3_checksum_154 : decode cX3_checksum 154 = .ok (.lstore_n 1, 1) := by decide +kernel
theorem dX3_checksum_155 : decode cX3_checksum 155 = .ok (.iinc 3 1, 3) := by decide +kernel
theorem dX3_checksum_158 : decode cX3_checksum 158 = .ok (.goto (-21), 3) := by decide +kernel
theorem dX3_checksum_161 : decode cX3_checksum 161 = .ok (.iconst 0, 1) := by decide +kernel
theorem dX3_checksum_162 : decode cX3_checksum 162 = .ok (.istore_n 3, 1) := by decide +kernel
theorem dX3_checksum_163 : decode cX3_checksum 163 = .ok (.iload_n 3, 1) := by decide +kernel
theorem dX3_checksum_164 : decode cX3_checksum 164 = .ok (.iconst 4, 1) := by decide +kernel
theorem dX3_checksum_165 : decode cX3_checksum 165 = .ok (.if_icmp .ge 33, 3) := by decide +kernel
theorem dX3_checksum_168 : decode cX3_checksum 168 = .ok (.ldc2_w 240, 3) := by decide +kernel
theorem dX3_checksum_171 : decode cX3_checksum 171 = .ok (.ldc2_w 240, 3) := by decide +kernel
theorem dX3_checksum_174 : decode cX3_checksum 174 = .ok (.lload_n 1, 1) := by decide +kernel
theorem dX3_checksum_175 : decode cX3_checksum 175 = .ok (.lmul, 1) := by decide +kernel
theorem dX3_checksum_176 : decode cX3_checksum 176 = .ok (.aload_n 0, 1) := by decide +kernel
theorem dX3_checksum_177 : decode cX3_checksum 177 = .ok (.getfield 20, 3) := by decide +kernel
theorem dX3_checksum_180 : decode cX3_checksum 180 = .ok (.iload_n 3, 1) := by decide +kernel
theorem dX3_checksum_181 : decode cX3_checksum 181 = .ok (.laload, 1) := by decide +kernel
theorem dX3_checksum_182 : decode cX3_checksum 182 = .ok (.ladd, 1) := by decide +kernel
theorem dX3_checksum_183 : decode cX3_checksum 183 = .ok (.lmul, 1) := by decide +kernel
theorem dX3_checksum_184 : decode cX3_checksum 184 = .ok (.aload_n 0, 1) := by decide +kernel
theorem dX3_checksum_185 : decode cX3_checksum 185 = .ok (.getfield 23, 3) := by decide +kernel
theorem dX3_checksum_188 : decode cX3_checksum 188 = .ok (.iload_n 3, 1) := by decide +kernel
theorem dX3_checksum_189 : decode cX3_checksum 189 = .ok (.laload, 1) := by decide +kernel
theorem dX3_checksum_190 : decode cX3_checksum 190 = .ok (.ladd, 1) := by decide +kernel
theorem dX3_checksum_191 : decode cX3_checksum 191 = .ok (.lstore_n 1, 1) := by decide +kernel
theorem dX3_checksum_192 : decode cX3_checksum 192 = .ok (.iinc 3 1, 3) := by decide +kernel
theorem dX3_checksum_195 : decode cX3_checksum 195 = .ok (.goto (-32), 3) := by decide +kernel
theorem dX3_checksum_198 : decode cX3_checksum 198 = .ok (.iconst 0, 1) := by decide +kernel
theorem dX3_checksum_199 : decode cX3_checksum 199 = .ok (.istore_n 3, 1) := by decide +kernel
theorem dX3_checksum_200 : decode cX3_checksum 200 = .ok (.iload_n 3, 1) := by decide +kernel
theorem dX3_checksum_201 : decode cX3_checksum 201 = .ok (.iconst 4, 1) := by decide +kernel
theorem dX3_checksum_202 : decode cX3_checksum 202 = .ok (.if_icmp .ge 33, 3) := by decide +kernel
theorem dX3_checksum_205 : decode cX3_checksum 205 = .ok (.ldc2_w 240, 3) := by decide +kernel
theorem dX3_checksum_208 : decode cX3_checksum 208 = .ok (.ldc2_w 240, 3) := by decide +kernel
theorem dX3_checksum_211 : decode cX3_checksum 211 = .ok (.lload_n 1, 1) := by decide +kernel
theorem dX3_checksum_212 : decode cX3_checksum 212 = .ok (.lmul, 1) := by decide +kernel
theorem dX3_checksum_213 : decode cX3_checksum 213 = .ok (.aload_n 0, 1) := by decide +kernel
theorem dX3_checksum_214 : decode cX3_checksum 214 = .ok (.getfield 26, 3) := by decide +kernel
theorem dX3_checksum_217 : decode cX3_checksum 217 = .ok (.iload_n 3, 1) := by decide +kernel
theorem dX3_checksum_218 : decode cX3_checksum 218 = .ok (.laload, 1) := by decide +kernel
theorem dX3_checksum_219 : decode cX3_checksum 219 = .ok (.ladd, 1) := by decide +kernel
theorem dX3_checksum_220 : decode cX3_checksum 220 = .ok (.lmul, 1) := by decide +kernel
theorem dX3_checksum_221 : decode cX3_checksum 221 = .ok (.aload_n 0, 1) := by decide +kernel
theorem dX3_checksum_222 : decode cX3_checksum 222 = .ok (.getfield 29, 3) := by decide +kernel
theorem dX3_checksum_225 : decode cX3_checksum 225 = .ok (.iload_n 3, 1) := by decide +kernel
theorem dX3_checksum_226 : decode cX3_checksum 226 = .ok (.laload, 1) := by decide +kernel
theorem dX3_checksum_227 : decode cX3_checksum 227 = .ok (.ladd, 1) := by decide +kernel
theorem dX3_checksum_228 : decode cX3_checksum 228 = .ok (.lstore_n 1, 1) := by decide +kernel
theorem dX3_checksum_229 : decode cX3_checksum 229 = .ok (.iinc 3 1, 3) := by decide +kernel
theorem dX3_checksum_232 : decode cX3_checksum 232 = .ok (.goto (-32), 3) := by decide +kernel
theorem dX3_checksum_235 : decode cX3_checksum 235 = .ok (.lload_n 1, 1) := by decide +kernel
theorem dX3_checksum_236 : decode cX3_checksum 236 = .ok (.lreturn, 1) := by decide +kernel
theorem dX3_isSound_0 : decode cX3_isSound 0 = .ok (.aload_n 0, 1) := by decide +kernel
theorem dX3_isSound_1 : decode cX3_isSound 1 = .ok (.iconst 0, 1) := by decide +kernel
theorem dX3_isSound_2 : decode cX3_isSound 2 = .ok (.putfield 1, 3) := by decide +kernel
theorem dX3_isSound_5 : decode cX3_isSound 5 = .ok (.iconst 1, 1) := by decide +kernel
theorem dX3_isSound_6 : decode cX3_isSound 6 = .ok (.ireturn, 1) := by decide +kernel
theorem dJx00060_init_a7421_0 : decode cJx00060_init_a7421 0 = .ok (.aload_n 0, 1) := by decide +kernel
theorem dJx00060_init_a7421_1 : decode cJx00060_init_a7421 1 = .ok (.aload_n 1, 1) := by decide +kernel
theorem dJx00060_init_a7421_2 : decode cJx00060_init_a7421 2 = .ok (.invokespecial 7, 3) := by decide +kernel
theorem dJx00060_init_a7421_5 : decode cJx00060_init_a7421 5 = .ok (.return_, 1) := by decide +kernel
theorem dJ9_floorDiv_f86c9_0 : decode cJ9_floorDiv_f86c9 0 = .ok (.lload_n 0, 1) := by decide +kernel
theorem dJ9_floorDiv_f86c9_1 : decode cJ9_floorDiv_f86c9 1 = .ok (.lload_n 2, 1) := by decide +kernel
theorem dJ9_floorDiv_f86c9_2 : decode cJ9_floorDiv_f86c9 2 = .ok (.ldiv, 1) := by decide +kernel
theorem dJ9_floorDiv_f86c9_3 : decode cJ9_floorDiv_f86c9 3 = .ok (.lstore 4, 2) := by decide +kernel
theorem dJ9_floorDiv_f86c9_5 : decode cJ9_floorDiv_f86c9 5 = .ok (.lload_n 0, 1) := by decide +kernel
theorem dJ9_floorDiv_f86c9_6 : decode cJ9_floorDiv_f86c9 6 = .ok (.lload_n 2, 1) := by decide +kernel
theorem dJ9_floorDiv_f86c9_7 : decode cJ9_floorDiv_f86c9 7 = .ok (.lxor, 1) := by decide +kernel
theorem dJ9_floorDiv_f86c9_8 : decode cJ9_floorDiv_f86c9 8 = .ok (.lconst 0, 1) := by decide +kernel
theorem dJ9_floorDiv_f86c9_9 : decode cJ9_floorDiv_f86c9 9 = .ok (.lcmp, 1) := by decide +kernel
theorem dJ9_floorDiv_f86c9_10 : decode cJ9_floorDiv_f86c9 10 = .ok (.ifCond .ge 17, 3) := by decide +kernel
theorem dJ9_floorDiv_f86c9_13 : decode cJ9_floorDiv_f86c9 13 = .ok (.lload 4, 2) := by decide +kernel
theorem dJ9_floorDiv_f86c9_15 : decode cJ9_floorDiv_f86c9 15 = .ok (.lload_n 2, 1) := by decide +kernel
theorem dJ9_floorDiv_f86c9_16 : decode cJ9_floorDiv_f86c9 16 = .ok (.lmul, 1) := by decide +kernel
theorem dJ9_floorDiv_f86c9_17 : decode cJ9_floorDiv_f86c9 17 = .ok (.lload_n 0, 1) := by decide +kernel
theorem dJ9_floorDiv_f86c9_18 : decode cJ9_floorDiv_f86c9 18 = .ok (.lcmp, 1) := by decide +kernel
theorem dJ9_floorDiv_f86c9_19 : decode cJ9_floorDiv_f86c9 19 = .ok (.ifCond .eq 8, 3) := by decide +kernel
theorem dJ9_floorDiv_f86c9_22 : decode cJ9_floorDiv_f86c9 22 = .ok (.lload 4, 2) := by decide +kernel
theorem dJ9_floorDiv_f86c9_24 : decode cJ9_floorDiv_f86c9 24 = .ok (.lconst 1, 1) := by decide +kernel
theorem dJ9_floorDiv_f86c9_25 : decode cJ9_floorDiv_f86c9 25 = .ok (.lsub, 1) := by decide +kernel
theorem dJ9_floorDiv_f86c9_26 : decode cJ9_floorDiv_f86c9 26 = .ok (.lreturn, 1) := by decide +kernel
theorem dJ9_floorDiv_f86c9_27 : decode cJ9_floorDiv_f86c9 27 = .ok (.lload 4, 2) := by decide +kernel
theorem dJ9_floorDiv_f86c9_29 : decode cJ9_floorDiv_f86c9 29 = .ok (.lreturn, 1) := by decide +kernel
theorem dJ9_floorMod_7cf53_0 : decode cJ9_floorMod_7cf53 0 = .ok (.iload_n 0, 1) := by decide +kernel
theorem dJ9_floorMod_7cf53_1 : decode cJ9_floorMod_7cf53 1 = .ok (.iload_n 1, 1) := by decide +kernel
theorem dJ9_floorMod_7cf53_2 : decode cJ9_floorMod_7cf53 2 = .ok (.irem, 1) := by decide +kernel
theorem dJ9_floorMod_7cf53_3 : decode cJ9_floorMod_7cf53 3 = .ok (.istore_n 2, 1) := by decide +kernel
theorem dJ9_floorMod_7cf53_4 : decode cJ9_floorMod_7cf53 4 = .ok (.iload_n 0, 1) := by decide +kernel
theorem dJ9_floorMod_7cf53_5 : decode cJ9_floorMod_7cf53 5 = .ok (.iload_n 1, 1) := by decide +kernel
theorem dJ9_floorMod_7cf53_6 : decode cJ9_floorMod_7cf53 6 = .ok (.ixor, 1) := by decide +kernel
theorem dJ9_floorMod_7cf53_7 : decode cJ9_floorMod_7cf53 7 = .ok (.ifCond .ge 11, 3) := by decide +kernel
theorem dJ9_floorMod_7cf53_10 : decode cJ9_floorMod_7cf53 10 = .ok (.iload_n 2, 1) := by decide +kernel
theorem dJ9_floorMod_7cf53_11 : decode cJ9_floorMod_7cf53 11 = .ok (.ifCond .eq 7, 3) := by decide +kernel
theorem dJ9_floorMod_7cf53_14 : decode cJ9_floorMod_7cf53 14 = .ok (.iload_n 2, 1) := by decide +kernel
theorem dJ9_floorMod_7cf53_15 : decode cJ9_floorMod_7cf53 15 = .ok (.iload_n 1, 1) := by decide +kernel
theorem dJ9_floorMod_7cf53_16 : decode cJ9_floorMod_7cf53 16 = .ok (.iadd, 1) := by decide +kernel
theorem dJ9_floorMod_7cf53_17 : decode cJ9_floorMod_7cf53 17 = .ok (.ireturn, 1) := by decide +kernel
theorem dJ9_floorMod_7cf53_18 : decode cJ9_floorMod_7cf53 18 = .ok (.iload_n 2, 1) := by decide +kernel
theorem dJ9_floorMod_7cf53_19 : decode cJ9_floorMod_7cf53 19 = .ok (.ireturn, 1) := by decide +kernel
theorem dJ9_floorMod_f86c9_0 : decode cJ9_floorMod_f86c9 0 = .ok (.lload_n 0, 1) := by decide +kernel
theorem dJ9_floorMod_f86c9_1 : decode cJ9_floorMod_f86c9 1 = .ok (.lload_n 2, 1) := by decide +kernel
theorem dJ9_floorMod_f86c9_2 : decode cJ9_floorMod_f86c9 2 = .ok (.lrem, 1) := by decide +kernel
theorem dJ9_floorMod_f86c9_3 : decode cJ9_floorMod_f86c9 3 = .ok (.lstore 4, 2) := by decide +kernel
theorem dJ9_floorMod_f86c9_5 : decode cJ9_floorMod_f86c9 5 = .ok (.lload_n 0, 1) := by decide +kernel
theorem dJ9_floorMod_f86c9_6 : decode cJ9_floorMod_f86c9 6 = .ok (.lload_n 2, 1) := by decide +kernel
theorem dJ9_floorMod_f86c9_7 : decode cJ9_floorMod_f86c9 7 = .ok (.lxor, 1) := by decide +kernel
theorem dJ9_floorMod_f86c9_8 : decode cJ9_floorMod_f86c9 8 = .ok (.lconst 0, 1) := by decide +kernel
theorem dJ9_floorMod_f86c9_9 : decode cJ9_floorMod_f86c9 9 = .ok (.lcmp, 1) := by decide +kernel
theorem dJ9_floorMod_f86c9_10 : decode cJ9_floorMod_f86c9 10 = .ok (.ifCond .ge 15, 3) := by decide +kernel
theorem dJ9_floorMod_f86c9_13 : decode cJ9_floorMod_f86c9 13 = .ok (.lload 4, 2) := by decide +kernel
theorem dJ9_floorMod_f86c9_15 : decode cJ9_floorMod_f86c9 15 = .ok (.lconst 0, 1) := by decide +kernel
theorem dJ9_floorMod_f86c9_16 : decode cJ9_floorMod_f86c9 16 = .ok (.lcmp, 1) := by decide +kernel
theorem dJ9_floorMod_f86c9_17 : decode cJ9_floorMod_f86c9 17 = .ok (.ifCond .eq 8, 3) := by decide +kernel
theorem dJ9_floorMod_f86c9_20 : decode cJ9_floorMod_f86c9 20 = .ok (.lload 4, 2) := by decide +kernel
theorem dJ9_floorMod_f86c9_22 : decode cJ9_floorMod_f86c9 22 = .ok (.lload_n 2, 1) := by decide +kernel
theorem dJ9_floorMod_f86c9_23 : decode cJ9_floorMod_f86c9 23 = .ok (.ladd, 1) := by decide +kernel
theorem dJ9_floorMod_f86c9_24 : decode cJ9_floorMod_f86c9 24 = .ok (.lreturn, 1) := by decide +kernel
theorem dJ9_floorMod_f86c9_25 : decode cJ9_floorMod_f86c9 25 = .ok (.lload 4, 2) := by decide +kernel
theorem dJ9_floorMod_f86c9_27 : decode cJ9_floorMod_f86c9 27 = .ok (.lreturn, 1) := by decide +kernel
theorem dJ9_max_f86c9_0 : decode cJ9_max_f86c9 0 = .ok (.lload_n 0, 1) := by decide +kernel
theorem dJ9_max_f86c9_1 : decode cJ9_max_f86c9 1 = .ok (.lload_n 2, 1) := by decide +kernel
theorem dJ9_max_f86c9_2 : decode cJ9_max_f86c9 2 = .ok (.lcmp, 1) := by decide +kernel
theorem dJ9_max_f86c9_3 : decode cJ9_max_f86c9 3 = .ok (.ifCond .lt 7, 3) := by decide +kernel
theorem dJ9_max_f86c9_6 : decode cJ9_max_f86c9 6 = .ok (.lload_n 0, 1) := by decide +kernel
theorem dJ9_max_f86c9_7 : decode cJ9_max_f86c9 7 = .ok (.goto 4, 3) := by decide +kernel
theorem dJ9_max_f86c9_10 : decode cJ9_max_f86c9 10 = .ok (.lload_n 2, 1) := by decide +kernel
theorem dJ9_max_f86c9_11 : decode cJ9_max_f86c9 11 = .ok (.lreturn, 1) := by decide +kernel
theorem dJ9_min_7cf53_0 : decode cJ9_min_7cf53 0 = .ok (.iload_n 0, 1) := by decide +kernel
theorem dJ9_min_7cf53_1 : decode cJ9_min_7cf53 1 = .ok (.iload_n 1, 1) := by decide +kernel
theorem dJ9_min_7cf53_2 : decode cJ9_min_7cf53 2 = .ok (.if_icmp .gt 7, 3) := by decide +kernel
theorem dJ9_min_7cf53_5 : decode cJ9_min_7cf53 5 = .ok (.iload_n 0, 1) := by decide +kernel
theorem dJ9_min_7cf53_6 : decode cJ9_min_7cf53 6 = .ok (.goto 4, 3) := by decide +kernel
theorem dJ9_min_7cf53_9 : decode cJ9_min_7cf53 9 = .ok (.iload_n 1, 1) := by decide +kernel
theorem dJ9_min_7cf53_10 : decode cJ9_min_7cf53 10 = .ok (.ireturn, 1) := by decide +kernel
theorem dJ9_min_f86c9_0 : decode cJ9_min_f86c9 0 = .ok (.lload_n 0, 1) := by decide +kernel
theorem dJ9_min_f86c9_1 : decode cJ9_min_f86c9 1 = .ok (.lload_n 2, 1) := by decide +kernel
theorem dJ9_min_f86c9_2 : decode cJ9_min_f86c9 2 = .ok (.lcmp, 1) := by decide +kernel
theorem dJ9_min_f86c9_3 : decode cJ9_min_f86c9 3 = .ok (.ifCond .gt 7, 3) := by decide +kernel
theorem dJ9_min_f86c9_6 : decode cJ9_min_f86c9 6 = .ok (.lload_n 0, 1) := by decide +kernel
theorem dJ9_min_f86c9_7 : decode cJ9_min_f86c9 7 = .ok (.goto 4, 3) := by decide +kernel
theorem dJ9_min_f86c9_10 : decode cJ9_min_f86c9 10 = .ok (.lload_n 2, 1) := by decide +kernel
theorem dJ9_min_f86c9_11 : decode cJ9_min_f86c9 11 = .ok (.lreturn, 1) := by decide +kernel
set_option maxRecDepth 20000 in
theorem ggL_date_X2_date : GoodIn wsL_date wsX2_date := goodIn_ca (goodIn_ca (goodIn_ca (goodIn_ca (goodIn_r _ [7, 8, 9, 10, 6, 11, 12, 13, 14, 15, 16, 17, 18, 19, 20, 21, 22, 23, 24, 25, 26, 27, 28, 29, 30, 31, 32, 33, 34, 35, 36, 37, 38, 39, 40, 41, 42, 43, 44, 45, 46, 47, 48, 49, 50, 51, 52, 53, 54, 55, 56, 57, 58, 59, 60, 61, 62, 63, 64, 65, 66, 67, 68, 69, 70, 71, 72, 73, 74, 75, 76, 77, 78, 79, 80, 81, 82, 83, 84, 85, 86, 87, 88, 89, 90] (by decide +kernel) (by decide +kernel)) (goodIn_sub (fun _ h => List.mem_cons_of_mem _ (List.mem_append_left _ (List.mem_append_left _ (List.mem_append_right _ h)))) (by decide +kernel))) (goodIn_sub (fun _ h => List.mem_cons_of_mem _ (List.mem_append_left _ (List.mem_append_right _ h))) (by decide +kernel))) (goodIn_sub (fun _ h => List.mem_cons_of_mem _ (List.mem_append_left _ (List.mem_append_left _ (List.mem_append_left _ (List.mem_append_right _ h))))) (by decide +kernel))) (goodIn_sub (fun _ h => List.mem_cons_of_mem _ (List.mem_append_right _ h)) (by decide +kernel))
set_option maxRecDepth 20000 in
theorem gL_date_X2_date : GoodIn wsL_date (wsV RL 7 RX2 yX2_date wsX2_date) := goodIn_app (goodIn_of _ (by decide +kernel)) ggL_date_X2_date
theorem dL_date_0 : decode cL_date 0 = .ok (.aload 5, 2) := by decide +kernel
theorem dL_date_2 : decode cL_date 2 = .ok (.iconst 0, 1) := by decide +kernel
theorem dL_date_3 : decode cL_date 3 = .ok (.aload_n 0, 1) := by decide +kernel
theorem dL_date_4 : decode cL_date 4 = .ok (.iload_n 1, 1) := by decide +kernel
theorem dL_date_5 : decode cL_date 5 = .ok (.iload_n 2, 1) := by decide +kernel
theorem dL_date_6 : decode cL_date 6 = .ok (.iload_n 3, 1) := by decide +kernel
theorem dL_date_7 : decode cL_date 7 = .ok (.iload 4, 2) := by decide +kernel
theorem dL_date_9 : decode cL_date 9 = .ok (.invokevirtual 7, 3) := by decide +kernel
theorem dL_date_12 : decode cL_date 12 = .ok (.lastore, 1) := by decide +kernel
theorem dL_date_13 : decode cL_date 13 = .ok (.goto 11, 3) := by decide +kernel
theorem dL_date_16 : decode cL_date 16 = .ok (.astore 6, 2) := by decide +kernel
theorem dL_date_18 : decode cL_date 18 = .ok (.iconst 1, 1) := by decide +kernel
theorem dL_date_19 : decode cL_date 19 = .ok (.ireturn, 1) := by decide +kernel
theorem dL_date_20 : decode cL_date 20 = .ok (.astore 6, 2) := by decide +kernel
theorem dL_date_22 : decode cL_date 22 = .ok (.iconst 2, 1) := by decide +kernel
theorem dL_date_23 : decode cL_date 23 = .ok (.ireturn, 1) := by decide +kernel
theorem dL_date_24 : decode cL_date 24 = .ok (.iconst 0, 1) := by decide +kernel
theorem dL_date_25 : decode cL_date 25 = .ok (.ireturn, 1) := by decide +kernel
set_option maxRecDepth 20000 in
theorem ggL_ofDay_X2_ofDay : GoodIn wsL_ofDay wsX2_ofDay := goodIn_ca (goodIn_ca (goodIn_ca (goodIn_r _ [7, 8, 9, 6, 10, 11, 12, 13, 14, 15, 16, 17, 18, 19, 20, 21, 22, 23, 24, 25, 26, 27, 28, 29, 30, 31, 32, 33, 34, 35, 36, 37, 38, 39, 40, 41, 42, 43, 44, 45, 46, 47, 48, 49, 50, 51, 52, 53, 54, 55, 56, 57] (by decide +kernel) (by decide +kernel)) (goodIn_sub (fun _ h => List.mem_cons_of_mem _ (List.mem_append_left _ (List.mem_append_right _ h))) (by decide +kernel))) (goodIn_sub (fun _ h => List.mem_cons_of_mem _ (List.mem_append_left _ (List.mem_append_left _ (List.mem_append_right _ h)))) (by decide +kernel))) (goodIn_sub (fun _ h => List.mem_cons_of_mem _ (List.mem_append_right _ h)) (by decide +kernel))
set_option maxRecDepth 20000 in
theorem gL_ofDay_X2_ofDay : GoodIn wsL_ofDay (wsV RL 17 RX2 yX2_ofDay wsX2_ofDay) := goodIn_app (goodIn_of _ (by decide +kernel)) ggL_ofDay_X2_ofDay
theorem dL_ofDay_0 : decode cL_ofDay 0 = .ok (.aload 4, 2) := by decide +kernel
theorem dL_ofDay_2 : decode cL_ofDay 2 = .ok (.iconst 0, 1) := by decide +kernel
theorem dL_ofDay_3 : decode cL_ofDay 3 = .ok (.aload_n 0, 1) := by decide +kernel
theorem dL_ofDay_4 : decode cL_ofDay 4 = .ok (.iload_n 1, 1) := by decide +kernel
theorem dL_ofDay_5 : decode cL_ofDay 5 = .ok (.lload_n 2, 1) := by decide +kernel
theorem dL_ofDay_6 : decode cL_ofDay 6 = .ok (.invokevirtual 17, 3) := by decide +kernel
theorem dL_ofDay_9 : decode cL_ofDay 9 = .ok (.i2l, 1) := by decide +kernel
theorem dL_ofDay_10 : decode cL_ofDay 10 = .ok (.lastore, 1) := by decide +kernel
theorem dL_ofDay_11 : decode cL_ofDay 11 = .ok (.goto 11, 3) := by decide +kernel
theorem dL_ofDay_14 : decode cL_ofDay 14 = .ok (.astore 5, 2) := by decide +kernel
theorem dL_ofDay_16 : decode cL_ofDay 16 = .ok (.iconst 1, 1) := by decide +kernel
theorem dL_ofDay_17 : decode cL_ofDay 17 = .ok (.ireturn, 1) := by decide +kernel
theorem dL_ofDay_18 : decode cL_ofDay 18 = .ok (.astore 5, 2) := by decide +kernel
theorem dL_ofDay_20 : decode cL_ofDay 20 = .ok (.iconst 2, 1) := by decide +kernel
theorem dL_ofDay_21 : decode cL_ofDay 21 = .ok (.ireturn, 1) := by decide +kernel
theorem dL_ofDay_22 : decode cL_ofDay 22 = .ok (.iconst 0, 1) := by decide +kernel
theorem dL_ofDay_23 : decode cL_ofDay 23 = .ok (.ireturn, 1) := by decide +kernel
set_option maxRecDepth 20000 in
theorem ggL_day_X2_day : GoodIn wsL_day wsX2_day := goodIn_ca (goodIn_ca (goodIn_r _ [6, 7, 8, 9, 5, 10, 11, 12, 13, 14, 15, 16, 17, 18, 19, 20, 21, 22] (by decide +kernel) (by decide +kernel)) (goodIn_sub (fun _ h => List.mem_cons_of_mem _ (List.mem_append_left _ (List.mem_append_right _ h))) (by decide +kernel))) (goodIn_sub (fun _ h => List.mem_cons_of_mem _ (List.mem_append_right _ h)) (by decide +kernel))
set_option maxRecDepth 20000 in
theorem gL_day_X2_day : GoodIn wsL_day (wsV RL 23 RX2 yX2_day wsX2_day) := goodIn_app (goodIn_of _ (by decide +kernel)) ggL_day_X2_day
theorem dL_day_0 : decode cL_day 0 = .ok (.aload_n 2, 1) := by decide +kernel
theorem dL_day_1 : decode cL_day 1 = .ok (.iconst 0, 1) := by decide +kernel
theorem dL_day_2 : decode cL_day 2 = .ok (.aload_n 0, 1) := by decide +kernel
theorem dL_day_3 : decode cL_day 3 = .ok (.iload_n 1, 1) := by decide +kernel
theorem dL_day_4 : decode cL_day 4 = .ok (.invokevirtual 23, 3) := by decide +kernel
theorem dL_day_7 : decode cL_day 7 = .ok (.lastore, 1) := by decide +kernel
theorem dL_day_8 : decode cL_day 8 = .ok (.goto 6, 3) := by decide +kernel
theorem dL_day_11 : decode cL_day 11 = .ok (.astore_n 3, 1) := by decide +kernel
theorem dL_day_12 : decode cL_day 12 = .ok (.iconst 1, 1) := by decide +kernel
theorem dL_day_13 : decode cL_day 13 = .ok (.ireturn, 1) := by decide +kernel
theorem dL_day_14 : decode cL_day 14 = .ok (.iconst 0, 1) := by decide +kernel
theorem dL_day_15 : decode cL_day 15 = .ok (.ireturn, 1) := by decide +kernel
set_option maxRecDepth 20000 in
theorem ggL_part_X2_part : GoodIn wsL_part wsX2_part := goodIn_ca (goodIn_ca (goodIn_ca (goodIn_r _ [7, 8, 9, 10, 11, 12, 6, 13, 14, 15, 16, 17, 18, 19, 20, 21, 22, 23, 24, 25, 26, 27, 28, 29, 30, 31, 32, 33, 34, 35, 36, 37, 38, 39, 40, 41, 42, 43, 44, 45, 46, 47, 48, 49, 50, 51, 52, 53, 54, 55, 56, 57, 58, 59, 60, 61, 62, 63, 64, 65, 66, 67, 68, 69, 70, 71, 72, 73, 74, 75, 76, 77, 78, 79, 80, 81, 82, 83, 84, 85, 86, 87, 88] (by decide +kernel) (by decide +kernel)) (goodIn_sub (fun _ h => List.mem_cons_of_mem _ (List.mem_append_left _ (List.mem_append_left _ (List.mem_append_right _ h)))) (by decide +kernel))) (goodIn_sub (fun _ h => List.mem_cons_of_mem _ (List.mem_append_left _ (List.mem_append_right _ h))) (by decide +kernel))) (goodIn_sub (fun _ h => List.mem_cons_of_mem _ (List.mem_append_right _ h)) (by decide +kernel))
set_option maxRecDepth 20000 in
theorem gL_part_X2_part : GoodIn wsL_part (wsV RL 27 RX2 yX2_part wsX2_part) := goodIn_app (goodIn_of _ (by decide +kernel)) ggL_part_X2_part
theorem dL_part_0 : decode cL_part 0 = .ok (.aload_n 3, 1) := by decide +kernel
theorem dL_part_1 : decode cL_part 1 = .ok (.iconst 0, 1) := by decide +kernel
theorem dL_part_2 : decode cL_part 2 = .ok (.aload_n 0, 1) := by decide +kernel
theorem dL_part_3 : decode cL_part 3 = .ok (.iload_n 1, 1) := by decide +kernel
theorem dL_part_4 : decode cL_part 4 = .ok (.iload_n 2, 1) := by decide +kernel
theorem dL_part_5 : decode cL_part 5 = .ok (.invokevirtual 27, 3) := by decide +kernel
theorem dL_part_8 : decode cL_part 8 = .ok (.i2l, 1) := by decide +kernel
theorem dL_part_9 : decode cL_part 9 = .ok (.lastore, 1) := by decide +kernel
theorem dL_part_10 : decode cL_part 10 = .ok (.goto 11, 3) := by decide +kernel
theorem dL_part_13 : decode cL_part 13 = .ok (.astore 4, 2) := by decide +kernel
theorem dL_part_15 : decode cL_part 15 = .ok (.iconst 1, 1) := by decide +kernel
theorem dL_part_16 : decode cL_part 16 = .ok (.ireturn, 1) := by decide +kernel
theorem dL_part_17 : decode cL_part 17 = .ok (.astore 4, 2) := by decide +kernel
theorem dL_part_19 : decode cL_part 19 = .ok (.iconst 2, 1) := by decide +kernel
theorem dL_part_20 : decode cL_part 20 = .ok (.ireturn, 1) := by decide +kernel
theorem dL_part_21 : decode cL_part 21 = .ok (.iconst 0, 1) := by decide +kernel
theorem dL_part_22 : decode cL_part 22 = .ok (.ireturn, 1) := by decide +kernel
set_option maxRecDepth 20000 in
theorem ggL_move_X2_move : GoodIn wsL_move wsX2_move := goodIn_ca (goodIn_ca (goodIn_ca (goodIn_ca (goodIn_r _ [8, 9, 10, 11, 12, 13, 7, 14, 15, 16, 17, 18, 19, 20, 21, 22, 23, 24, 25, 26, 27, 28, 29, 30, 31, 32, 33, 34, 35, 36, 37, 38, 39, 40, 41, 42, 43, 44, 45, 46, 47, 48, 49, 50, 51, 52, 53, 54, 55, 56, 57, 58, 59, 60, 61, 62, 63, 64, 65, 66, 67, 68, 69, 70, 71, 72, 73, 74, 75, 76, 77, 78, 79, 80, 81, 82, 83, 84, 85, 86, 87, 88, 89, 90, 91, 92, 93, 94, 95, 96, 97, 98, 99, 100, 101, 102, 103, 104, 105, 106, 107, 108, 109, 110, 111, 112, 113] (by decide +kernel) (by decide +kernel)) (goodIn_sub (fun _ h => List.mem_cons_of_mem _ (List.mem_append_left _ (List.mem_append_left _ (List.mem_append_left _ (List.mem_append_right _ h))))) (by decide +kernel))) (goodIn_sub (fun _ h => List.mem_cons_of_mem _ (List.mem_append_left _ (List.mem_append_left _ (List.mem_append_right _ h)))) (by decide +kernel))) (goodIn_sub (fun _ h => List.mem_cons_of_mem _ (List.mem_append_left _ (List.mem_append_right _ h))) (by decide +kernel))) (goodIn_sub (fun _ h => List.mem_cons_of_mem _ (List.mem_append_right _ h)) (by decide +kernel))
set_option maxRecDepth 20000 in
theorem gL_move_X2_move : GoodIn wsL_move (wsV RL 31 RX2 yX2_move wsX2_move) := goodIn_app (goodIn_of _ (by decide +kernel)) ggL_move_X2_move
theorem dL_move_0 : decode cL_move 0 = .ok (.aload 5, 2) := by decide +kernel
theorem dL_move_2 : decode cL_move 2 = .ok (.iconst 0, 1) := by decide +kernel
theorem dL_move_3 : decode cL_move 3 = .ok (.aload_n 0, 1) := by decide +kernel
theorem dL_move_4 : decode cL_move 4 = .ok (.iload_n 1, 1) := by decide +kernel
theorem dL_move_5 : decode cL_move 5 = .ok (.iload_n 2, 1) := by decide +kernel
theorem dL_move_6 : decode cL_move 6 = .ok (.iload_n 3, 1) := by decide +kernel
theorem dL_move_7 : decode cL_move 7 = .ok (.iload 4, 2) := by decide +kernel
theorem dL_move_9 : decode cL_move 9 = .ok (.invokevirtual 31, 3) := by decide +kernel
theorem dL_move_12 : decode cL_move 12 = .ok (.lastore, 1) := by decide +kernel
theorem dL_move_13 : decode cL_move 13 = .ok (.goto 15, 3) := by decide +kernel
theorem dL_move_16 : decode cL_move 16 = .ok (.astore 6, 2) := by decide +kernel
theorem dL_move_18 : decode cL_move 18 = .ok (.iconst 1, 1) := by decide +kernel
theorem dL_move_19 : decode cL_move 19 = .ok (.ireturn, 1) := by decide +kernel
theorem dL_move_20 : decode cL_move 20 = .ok (.astore 6, 2) := by decide +kernel
theorem dL_move_22 : decode cL_move 22 = .ok (.iconst 2, 1) := by decide +kernel
theorem dL_move_23 : decode cL_move 23 = .ok (.ireturn, 1) := by decide +kernel
theorem dL_move_24 : decode cL_move 24 = .ok (.astore 6, 2) := by decide +kernel
theorem dL_move_26 : decode cL_move 26 = .ok (.iconst 3, 1) := by decide +kernel
theorem dL_move_27 : decode cL_move 27 = .ok (.ireturn, 1) := by decide +kernel
theorem dL_move_28 : decode cL_move 28 = .ok (.iconst 0, 1) := by decide +kernel
theorem dL_move_29 : decode cL_move 29 = .ok (.ireturn, 1) := by decide +kernel
set_option maxRecDepth 20000 in
theorem ggL_with_X2_with : GoodIn wsL_with wsX2_with := goodIn_ca (goodIn_ca (goodIn_ca (goodIn_ca (goodIn_r _ [7, 8, 9, 10, 11, 12, 13, 6, 14, 15, 16, 17, 18, 19, 20, 21, 22, 23, 24, 25, 26, 27, 28, 29, 30, 31, 32, 33, 34, 35, 36, 37, 38, 39, 40, 41, 42, 43, 44, 45, 46, 47, 48, 49, 50, 51, 52, 53, 54, 55, 56, 57, 58, 59, 60, 61, 62, 63, 64, 65, 66, 67, 68, 69, 70, 71, 72, 73, 74, 75, 76, 77, 78, 79, 80, 81, 82, 83, 84, 85, 86, 87, 88, 89, 90, 91, 92, 93, 94, 95, 96, 97, 98, 99, 100, 101, 102, 103, 104, 105, 106, 107, 108, 109, 110, 111, 112, 113, 114, 115, 116, 117, 118] (by decide +kernel) (by decide +kernel)) (goodIn_sub (fun _ h => List.mem_cons_of_mem _ (List.mem_append_left _ (List.mem_append_left _ (List.mem_append_left _ (List.mem_append_right _ h))))) (by decide +kernel))) (goodIn_sub (fun _ h => List.mem_cons_of_mem _ (List.mem_append_left _ (List.mem_append_left _ (List.mem_append_right _ h)))) (by decide +kernel))) (goodIn_sub (fun _ h => List.mem_cons_of_mem _ (List.mem_append_left _ (List.mem_append_right _ h))) (by decide +kernel))) (goodIn_sub (fun _ h => List.mem_cons_of_mem _ (List.mem_append_right _ h)) (by decide +kernel))
set_option maxRecDepth 20000 in
theorem gL_with_X2_with : GoodIn wsL_with (wsV RL 35 RX2 yX2_with wsX2_with) := goodIn_app (goodIn_of _ (by decide +kernel)) ggL_with_X2_with
theorem dL_with_0 : decode cL_with 0 = .ok (.aload 5, 2) := by decide +kernel
theorem dL_with_2 : decode cL_with 2 = .ok (.iconst 0, 1) := by decide +kernel
theorem dL_with_3 : decode cL_with 3 = .ok (.aload_n 0, 1) := by decide +kernel
theorem dL_with_4 : decode cL_with 4 = .ok (.iload_n 1, 1) := by decide +kernel
theorem dL_with_5 : decode cL_with 5 = .ok (.iload_n 2, 1) := by decide +kernel
theorem dL_with_6 : decode cL_with 6 = .ok (.iload_n 3, 1) := by decide +kernel
theorem dL_with_7 : decode cL_with 7 = .ok (.iload 4, 2) := by decide +kernel
theorem dL_with_9 : decode cL_with 9 = .ok (.invokevirtual 35, 3) := by decide +kernel
theorem dL_with_12 : decode cL_with 12 = .ok (.lastore, 1) := by decide +kernel
theorem dL_with_13 : decode cL_with 13 = .ok (.goto 11, 3) := by decide +kernel
theorem dL_with_16 : decode cL_with 16 = .ok (.astore 6, 2) := by decide +kernel
theorem dL_with_18 : decode cL_with 18 = .ok (.iconst 1, 1) := by decide +kernel
theorem dL_with_19 : decode cL_with 19 = .ok (.ireturn, 1) := by decide +kernel
theorem dL_with_20 : decode cL_with 20 = .ok (.astore 6, 2) := by decide +kernel
theorem dL_with_22 : decode cL_with 22 = .ok (.iconst 2, 1) := by decide +kernel
theorem dL_with_23 : decode cL_with 23 = .ok (.ireturn, 1) := by decide +kernel
theorem dL_with_24 : decode cL_with 24 = .ok (.iconst 0, 1) := by decide +kernel
theorem dL_with_25 : decode cL_with 25 = .ok (.ireturn, 1) := by decide +kernel
set_option maxRecDepth 20000 in
theorem ggL_adjust_X2_adjust : GoodIn wsL_adjust wsX2_adjust := goodIn_ca (goodIn_ca (goodIn_ca (goodIn_ca (goodIn_r _ [8, 9, 10, 11, 12, 13, 7, 14, 15, 16, 17, 18, 19, 20, 21, 22, 23, 24, 25, 26, 27, 28, 29, 30, 31, 32, 33, 34, 35, 36, 37, 38, 39, 40, 41, 42, 43, 44, 45, 46, 47, 48, 49, 50, 51, 52, 53, 54, 55, 56, 57, 58, 59, 60, 61, 62, 63, 64, 65, 66, 67, 68, 69, 70, 71, 72, 73, 74, 75, 76, 77, 78, 79, 80, 81, 82, 83, 84, 85, 86, 87] (by decide +kernel) (by decide +kernel)) (goodIn_sub (fun _ h => List.mem_cons_of_mem _ (List.mem_append_left _ (List.mem_append_left _ (List.mem_append_left _ (List.mem_append_right _ h))))) (by decide +kernel))) (goodIn_sub (fun _ h => List.mem_cons_of_mem _ (List.mem_append_left _ (List.mem_append_left _ (List.mem_append_right _ h)))) (by decide +kernel))) (goodIn_sub (fun _ h => List.mem_cons_of_mem _ (List.mem_append_left _ (List.mem_append_right _ h))) (by decide +kernel))) (goodIn_sub (fun _ h => List.mem_cons_of_mem _ (List.mem_append_right _ h)) (by decide +kernel))
set_option maxRecDepth 20000 in
theorem gL_adjust_X2_adjust : GoodIn wsL_adjust (wsV RL 38 RX2 yX2_adjust wsX2_adjust) := goodIn_app (goodIn_of _ (by decide +kernel)) ggL_adjust_X2_adjust
theorem dL_adjust_0 : decode cL_adjust 0 = .ok (.aload 4, 2) := by decide +kernel
theorem dL_adjust_2 : decode cL_adjust 2 = .ok (.iconst 0, 1) := by decide +kernel
theorem dL_adjust_3 : decode cL_adjust 3 = .ok (.aload_n 0, 1) := by decide +kernel
theorem dL_adjust_4 : decode cL_adjust 4 = .ok (.iload_n 1, 1) := by decide +kernel
theorem dL_adjust_5 : decode cL_adjust 5 = .ok (.iload_n 2, 1) := by decide +kernel
theorem dL_adjust_6 : decode cL_adjust 6 = .ok (.iload_n 3, 1) := by decide +kernel
theorem dL_adjust_7 : decode cL_adjust 7 = .ok (.invokevirtual 38, 3) := by decide +kernel
theorem dL_adjust_10 : decode cL_adjust 10 = .ok (.lastore, 1) := by decide +kernel
theorem dL_adjust_11 : decode cL_adjust 11 = .ok (.goto 15, 3) := by decide +kernel
theorem dL_adjust_14 : decode cL_adjust 14 = .ok (.astore 5, 2) := by decide +kernel
theorem dL_adjust_16 : decode cL_adjust 16 = .ok (.iconst 1, 1) := by decide +kernel
theorem dL_adjust_17 : decode cL_adjust 17 = .ok (.ireturn, 1) := by decide +kernel
theorem dL_adjust_18 : decode cL_adjust 18 = .ok (.astore 5, 2) := by decide +kernel
theorem dL_adjust_20 : decode cL_adjust 20 = .ok (.iconst 2, 1) := by decide +kernel
theorem dL_adjust_21 : decode cL_adjust 21 = .ok (.ireturn, 1) := by decide +kernel
theorem dL_adjust_22 : decode cL_adjust 22 = .ok (.astore 5, 2) := by decide +kernel
theorem dL_adjust_24 : decode cL_adjust 24 = .ok (.iconst 3, 1) := by decide +kernel
theorem dL_adjust_25 : decode cL_adjust 25 = .ok (.ireturn, 1) := by decide +kernel
theorem dL_adjust_26 : decode cL_adjust 26 = .ok (.iconst 0, 1) := by decide +kernel
theorem dL_adjust_27 : decode cL_adjust 27 = .ok (.ireturn, 1) := by decide +kernel
set_option maxRecDepth 20000 in
theorem ggL_weekday_X2_weekday : GoodIn wsL_weekday wsX2_weekday := goodIn_ca (goodIn_ca (goodIn_ca (goodIn_ca (goodIn_r _ [8, 9, 10, 11, 12, 13, 14, 7, 15, 16, 17, 18, 19, 20, 21, 22, 23, 24, 25, 26, 27, 28, 29, 30, 31, 32, 33, 34, 35, 36, 37, 38, 39, 40, 41, 42, 43, 44, 45, 46, 47, 48, 49, 50, 51, 52, 53, 54, 55, 56, 57, 58, 59, 60, 61, 62, 63, 64, 65, 66, 67, 68, 69, 70, 71, 72, 73, 74, 75, 76, 77, 78, 79, 80, 81, 82, 83, 84, 85, 86, 87, 88, 89, 90, 91, 92, 93, 94, 95, 96, 97, 98, 99, 100, 101, 102, 103, 104, 105] (by decide +kernel) (by decide +kernel)) (goodIn_sub (fun _ h => List.mem_cons_of_mem _ (List.mem_append_left _ (List.mem_append_left _ (List.mem_append_left _ (List.mem_append_right _ h))))) (by decide +kernel))) (goodIn_sub (fun _ h => List.mem_cons_of_mem _ (List.mem_append_left _ (List.mem_append_left _ (List.mem_append_right _ h)))) (by decide +kernel))) (goodIn_sub (fun _ h => List.mem_cons_of_mem _ (List.mem_append_left _ (List.mem_append_right _ h))) (by decide +kernel))) (goodIn_sub (fun _ h => List.mem_cons_of_mem _ (List.mem_append_right _ h)) (by decide +kernel))
set_option maxRecDepth 20000 in
theorem gL_weekday_X2_weekday : GoodIn wsL_weekday (wsV RL 42 RX2 yX2_weekday wsX2_weekday) := goodIn_app (goodIn_of _ (by decide +kernel)) ggL_weekday_X2_weekday
theorem dL_weekday_0 : decode cL_weekday 0 = .ok (.aload 5, 2) := by decide +kernel
theorem dL_weekday_2 : decode cL_weekday 2 = .ok (.iconst 0, 1) := by decide +kernel
theorem dL_weekday_3 : decode cL_weekday 3 = .ok (.aload_n 0, 1) := by decide +kernel
theorem dL_weekday_4 : decode cL_weekday 4 = .ok (.iload_n 1, 1) := by decide +kernel
theorem dL_weekday_5 : decode cL_weekday 5 = .ok (.iload_n 2, 1) := by decide +kernel
theorem dL_weekday_6 : decode cL_weekday 6 = .ok (.iload_n 3, 1) := by decide +kernel
theorem dL_weekday_7 : decode cL_weekday 7 = .ok (.iload 4, 2) := by decide +kernel
theorem dL_weekday_9 : decode cL_weekday 9 = .ok (.invokevirtual 42, 3) := by decide +kernel
theorem dL_weekday_12 : decode cL_weekday 12 = .ok (.lastore, 1) := by decide +kernel
theorem dL_weekday_13 : decode cL_weekday 13 = .ok (.goto 15, 3) := by decide +kernel
theorem dL_weekday_16 : decode cL_weekday 16 = .ok (.astore 6, 2) := by decide +kernel
theorem dL_weekday_18 : decode cL_weekday 18 = .ok (.iconst 1, 1) := by decide +kernel
theorem dL_weekday_19 : decode cL_weekday 19 = .ok (.ireturn, 1) := by decide +kernel
theorem dL_weekday_20 : decode cL_weekday 20 = .ok (.astore 6, 2) := by decide +kernel
theorem dL_weekday_22 : decode cL_weekday 22 = .ok (.iconst 2, 1) := by decide +kernel
theorem dL_weekday_23 : decode cL_weekday 23 = .ok (.ireturn, 1) := by decide +kernel
theorem dL_weekday_24 : decode cL_weekday 24 = .ok (.astore 6, 2) := by decide +kernel
theorem dL_weekday_26 : decode cL_weekday 26 = .ok (.iconst 3, 1) := by decide +kernel
theorem dL_weekday_27 : decode cL_weekday 27 = .ok (.ireturn, 1) := by decide +kernel
theorem dL_weekday_28 : decode cL_weekday 28 = .ok (.iconst 0, 1) := by decide +kernel
theorem dL_weekday_29 : decode cL_weekday 29 = .ok (.ireturn, 1) := by decide +kernel
set_option maxRecDepth 20000 in
theorem ggL_inMonth_X2_inMonth : GoodIn wsL_inMonth wsX2_inMonth := goodIn_ca (goodIn_ca (goodIn_ca (goodIn_ca (goodIn_r _ [8, 9, 10, 11, 12, 13, 14, 7, 15, 16, 17, 18, 19, 20, 21, 22, 23, 24, 25, 26, 27, 28, 29, 30, 31, 32, 33, 34, 35, 36, 37, 38, 39, 40, 41, 42, 43, 44, 45, 46, 47, 48, 49, 50, 51, 52, 53, 54, 55, 56, 57, 58, 59, 60, 61, 62, 63, 64, 65, 66, 67, 68, 69, 70, 71, 72, 73, 74, 75, 76, 77, 78, 79, 80, 81, 82, 83, 84, 85, 86, 87, 88, 89, 90, 91, 92, 93, 94, 95, 96, 97, 98, 99, 100, 101, 102, 103, 104, 105, 106, 107] (by decide +kernel) (by decide +kernel)) (goodIn_sub (fun _ h => List.mem_cons_of_mem _ (List.mem_append_left _ (List.mem_append_left _ (List.mem_append_left _ (List.mem_append_right _ h))))) (by decide +kernel))) (goodIn_sub (fun _ h => List.mem_cons_of_mem _ (List.mem_append_left _ (List.mem_append_left _ (List.mem_append_right _ h)))) (by decide +kernel))) (goodIn_sub (fun _ h => List.mem_cons_of_mem _ (List.mem_append_left _ (List.mem_append_right _ h))) (by decide +kernel))) (goodIn_sub (fun _ h => List.mem_cons_of_mem _ (List.mem_append_right _ h)) (by decide +kernel))
set_option maxRecDepth 20000 in
theorem gL_inMonth_X2_inMonth : GoodIn wsL_inMonth (wsV RL 45 RX2 yX2_inMonth wsX2_inMonth) := goodIn_app (goodIn_of _ (by decide +kernel)) ggL_inMonth_X2_inMonth
theorem dL_inMonth_0 : decode cL_inMonth 0 = .ok (.aload 5, 2) := by decide +kernel
theorem dL_inMonth_2 : decode cL_inMonth 2 = .ok (.iconst 0, 1) := by decide +kernel
theorem dL_inMonth_3 : decode cL_inMonth 3 = .ok (.aload_n 0, 1) := by decide +kernel
theorem dL_inMonth_4 : decode cL_inMonth 4 = .ok (.iload_n 1, 1) := by decide +kernel
theorem dL_inMonth_5 : decode cL_inMonth 5 = .ok (.iload_n 2, 1) := by decide +kernel
theorem dL_inMonth_6 : decode cL_inMonth 6 = .ok (.iload_n 3, 1) := by decide +kernel
theorem dL_inMonth_7 : decode cL_inMonth 7 = .ok (.iload 4, 2) := by decide +kernel
theorem dL_inMonth_9 : decode cL_inMonth 9 = .ok (.invokevirtual 45, 3) := by decide +kernel
theorem dL_inMonth_12 : decode cL_inMonth 12 = .ok (.lastore, 1) := by decide +kernel
theorem dL_inMonth_13 : decode cL_inMonth 13 = .ok (.goto 15, 3) := by decide +kernel
theorem dL_inMonth_16 : decode cL_inMonth 16 = .ok (.astore 6, 2) := by decide +kernel
theorem dL_inMonth_18 : decode cL_inMonth 18 = .ok (.iconst 1, 1) := by decide +kernel
theorem dL_inMonth_19 : decode cL_inMonth 19 = .ok (.ireturn, 1) := by decide +kernel
theorem dL_inMonth_20 : decode cL_inMonth 20 = .ok (.astore 6, 2) := by decide +kernel
theorem dL_inMonth_22 : decode cL_inMonth 22 = .ok (.iconst 2, 1) := by decide +kernel
theorem dL_inMonth_23 : decode cL_inMonth 23 = .ok (.ireturn, 1) := by decide +kernel
theorem dL_inMonth_24 : decode cL_inMonth 24 = .ok (.astore 6, 2) := by decide +kernel
theorem dL_inMonth_26 : decode cL_inMonth 26 = .ok (.iconst 3, 1) := by decide +kernel
theorem dL_inMonth_27 : decode cL_inMonth 27 = .ok (.ireturn, 1) := by decide +kernel
theorem dL_inMonth_28 : decode cL_inMonth 28 = .ok (.iconst 0, 1) := by decide +kernel
theorem dL_inMonth_29 : decode cL_inMonth 29 = .ok (.ireturn, 1) := by decide +kernel
set_option maxRecDepth 20000 in
theorem ggL_atYear_X2_atYear : GoodIn wsL_atYear wsX2_atYear := goodIn_ca (goodIn_ca (goodIn_ca (goodIn_ca (goodIn_r _ [7, 8, 9, 10, 6, 11, 12, 13, 14, 15, 16, 17, 18, 19, 20, 21, 22, 23, 24, 25, 26, 27, 28, 29, 30, 31, 32, 33, 34, 35, 36, 37, 38, 39, 40, 41, 42, 43, 44, 45, 46, 47, 48, 49, 50, 51, 52, 53, 54, 55, 56, 57, 58, 59, 60, 61, 62, 63, 64, 65, 66, 67, 68, 69, 70, 71, 72, 73, 74, 75, 76, 77, 78, 79, 80, 81, 82, 83, 84, 85, 86, 87, 88, 89, 90, 91, 92, 93, 94, 95, 96, 97, 98] (by decide +kernel) (by decide +kernel)) (goodIn_sub (fun _ h => List.mem_cons_of_mem _ (List.mem_append_left _ (List.mem_append_left _ (List.mem_append_right _ h)))) (by decide +kernel))) (goodIn_sub (fun _ h => List.mem_cons_of_mem _ (List.mem_append_left _ (List.mem_append_right _ h))) (by decide +kernel))) (goodIn_sub (fun _ h => List.mem_cons_of_mem _ (List.mem_append_left _ (List.mem_append_left _ (List.mem_append_left _ (List.mem_append_right _ h))))) (by decide +kernel))) (goodIn_sub (fun _ h => List.mem_cons_of_mem _ (List.mem_append_right _ h)) (by decide +kernel))
set_option maxRecDepth 20000 in
theorem gL_atYear_X2_atYear : GoodIn wsL_atYear (wsV RL 48 RX2 yX2_atYear wsX2_atYear) := goodIn_app (goodIn_of _ (by decide +kernel)) ggL_atYear_X2_atYear
theorem dL_atYear_0 : decode cL_atYear 0 = .ok (.aload 5, 2) := by decide +kernel
theorem dL_atYear_2 : decode cL_atYear 2 = .ok (.iconst 0, 1) := by decide +kernel
theorem dL_atYear_3 : decode cL_atYear 3 = .ok (.aload_n 0, 1) := by decide +kernel
theorem dL_atYear_4 : decode cL_atYear 4 = .ok (.iload_n 1, 1) := by decide +kernel
theorem dL_atYear_5 : decode cL_atYear 5 = .ok (.iload_n 2, 1) := by decide +kernel
theorem dL_atYear_6 : decode cL_atYear 6 = .ok (.iload_n 3, 1) := by decide +kernel
theorem dL_atYear_7 : decode cL_atYear 7 = .ok (.iload 4, 2) := by decide +kernel
theorem dL_atYear_9 : decode cL_atYear 9 = .ok (.invokevirtual 48, 3) := by decide +kernel
theorem dL_atYear_12 : decode cL_atYear 12 = .ok (.lastore, 1) := by decide +kernel
theorem dL_atYear_13 : decode cL_atYear 13 = .ok (.goto 11, 3) := by decide +kernel
theorem dL_atYear_16 : decode cL_atYear 16 = .ok (.astore 6, 2) := by decide +kernel
theorem dL_atYear_18 : decode cL_atYear 18 = .ok (.iconst 1, 1) := by decide +kernel
theorem dL_atYear_19 : decode cL_atYear 19 = .ok (.ireturn, 1) := by decide +kernel
theorem dL_atYear_20 : decode cL_atYear 20 = .ok (.astore 6, 2) := by decide +kernel
theorem dL_atYear_22 : decode cL_atYear 22 = .ok (.iconst 2, 1) := by decide +kernel
theorem dL_atYear_23 : decode cL_atYear 23 = .ok (.ireturn, 1) := by decide +kernel
theorem dL_atYear_24 : decode cL_atYear 24 = .ok (.iconst 0, 1) := by decide +kernel
theorem dL_atYear_25 : decode cL_atYear 25 = .ok (.ireturn, 1) := by decide +kernel
set_option maxRecDepth 20000 in
theorem ggL_order_X2_order : GoodIn wsL_order wsX2_order := goodIn_ca (goodIn_ca (goodIn_r _ [6, 7, 8, 9, 5, 10, 11, 12, 13, 14, 15, 16, 17, 18, 19, 20, 21, 22, 23, 24, 25] (by decide +kernel) (by decide +kernel)) (goodIn_sub (fun _ h => List.mem_cons_of_mem _ (List.mem_append_left _ (List.mem_append_right _ h))) (by decide +kernel))) (goodIn_sub (fun _ h => List.mem_cons_of_mem _ (List.mem_append_right _ h)) (by decide +kernel))
set_option maxRecDepth 20000 in
theorem gL_order_X2_order : GoodIn wsL_order (wsV RL 51 RX2 yX2_order wsX2_order) := goodIn_app (goodIn_of _ (by decide +kernel)) ggL_order_X2_order
theorem dL_order_0 : decode cL_order 0 = .ok (.aload_n 3, 1) := by decide +kernel
theorem dL_order_1 : decode cL_order 1 = .ok (.iconst 0, 1) := by decide +kernel
theorem dL_order_2 : decode cL_order 2 = .ok (.aload_n 0, 1) := by decide +kernel
theorem dL_order_3 : decode cL_order 3 = .ok (.iload_n 1, 1) := by decide +kernel
theorem dL_order_4 : decode cL_order 4 = .ok (.iload_n 2, 1) := by decide +kernel
theorem dL_order_5 : decode cL_order 5 = .ok (.invokevirtual 51, 3) := by decide +kernel
theorem dL_order_8 : decode cL_order 8 = .ok (.i2l, 1) := by decide +kernel
theorem dL_order_9 : decode cL_order 9 = .ok (.lastore, 1) := by decide +kernel
theorem dL_order_10 : decode cL_order 10 = .ok (.goto 7, 3) := by decide +kernel
theorem dL_order_13 : decode cL_order 13 = .ok (.astore 4, 2) := by decide +kernel
theorem dL_order_15 : decode cL_order 15 = .ok (.iconst 1, 1) := by decide +kernel
theorem dL_order_16 : decode cL_order 16 = .ok (.ireturn, 1) := by decide +kernel
theorem dL_order_17 : decode cL_order 17 = .ok (.iconst 0, 1) := by decide +kernel
theorem dL_order_18 : decode cL_order 18 = .ok (.ireturn, 1) := by decide +kernel
set_option maxRecDepth 20000 in
theorem ggL_between_X2_between : GoodIn wsL_between wsX2_between := goodIn_ca (goodIn_ca (goodIn_ca (goodIn_r _ [7, 8, 9, 10, 11, 12, 13, 14, 6, 15, 16, 17, 18, 19, 20, 21, 22, 23, 24, 25, 26, 27, 28, 29, 30, 31, 32, 33, 34, 35, 36, 37, 38, 39, 40, 41, 42, 43, 44, 45, 46, 47, 48, 49, 50, 51, 52, 53, 54, 55, 56, 57, 58, 59, 60, 61, 62, 63, 64, 65, 66, 67, 68, 69, 70, 71, 72, 73, 74, 75, 76, 77, 78, 79, 80, 81, 82] (by decide +kernel) (by decide +kernel)) (goodIn_sub (fun _ h => List.mem_cons_of_mem _ (List.mem_append_left _ (List.mem_append_left _ (List.mem_append_right _ h)))) (by decide +kernel))) (goodIn_sub (fun _ h => List.mem_cons_of_mem _ (List.mem_append_left _ (List.mem_append_right _ h))) (by decide +kernel))) (goodIn_sub (fun _ h => List.mem_cons_of_mem _ (List.mem_append_right _ h)) (by decide +kernel))
set_option maxRecDepth 20000 in
theorem gL_between_X2_between : GoodIn wsL_between (wsV RL 55 RX2 yX2_between wsX2_between) := goodIn_app (goodIn_of _ (by decide +kernel)) ggL_between_X2_between
theorem dL_between_0 : decode cL_between 0 = .ok (.aload 4, 2) := by decide +kernel
theorem dL_between_2 : decode cL_between 2 = .ok (.iconst 0, 1) := by decide +kernel
theorem dL_between_3 : decode cL_between 3 = .ok (.aload_n 0, 1) := by decide +kernel
theorem dL_between_4 : decode cL_between 4 = .ok (.iload_n 1, 1) := by decide +kernel
theorem dL_between_5 : decode cL_between 5 = .ok (.iload_n 2, 1) := by decide +kernel
theorem dL_between_6 : decode cL_between 6 = .ok (.iload_n 3, 1) := by decide +kernel
theorem dL_between_7 : decode cL_between 7 = .ok (.invokevirtual 55, 3) := by decide +kernel
theorem dL_between_10 : decode cL_between 10 = .ok (.lastore, 1) := by decide +kernel
theorem dL_between_11 : decode cL_between 11 = .ok (.goto 11, 3) := by decide +kernel
theorem dL_between_14 : decode cL_between 14 = .ok (.astore 5, 2) := by decide +kernel
theorem dL_between_16 : decode cL_between 16 = .ok (.iconst 1, 1) := by decide +kernel
theorem dL_between_17 : decode cL_between 17 = .ok (.ireturn, 1) := by decide +kernel
theorem dL_between_18 : decode cL_between 18 = .ok (.astore 5, 2) := by decide +kernel
theorem dL_between_20 : decode cL_between 20 = .ok (.iconst 2, 1) := by decide +kernel
theorem dL_between_21 : decode cL_between 21 = .ok (.ireturn, 1) := by decide +kernel
theorem dL_between_22 : decode cL_between 22 = .ok (.iconst 0, 1) := by decide +kernel
theorem dL_between_23 : decode cL_between 23 = .ok (.ireturn, 1) := by decide +kernel
set_option maxRecDepth 20000 in
theorem ggL_span_X2_span : GoodIn wsL_span wsX2_span := goodIn_ca (goodIn_ca (goodIn_ca (goodIn_ca (goodIn_r _ [7, 8, 9, 6, 10, 11, 12, 13, 14, 15, 16, 17, 18, 19, 20, 21, 22, 23, 24, 25, 26, 27, 28, 29, 30, 31, 32, 33, 34, 35, 36, 37, 38, 39, 40, 41, 42, 43, 44, 45, 46, 47, 48, 49, 50, 51, 52] (by decide +kernel) (by decide +kernel)) (goodIn_sub (fun _ h => List.mem_cons_of_mem _ (List.mem_append_left _ (List.mem_append_left _ (List.mem_append_right _ h)))) (by decide +kernel))) (goodIn_sub (fun _ h => List.mem_cons_of_mem _ (List.mem_append_left _ (List.mem_append_right _ h))) (by decide +kernel))) (goodIn_sub (fun _ h => List.mem_cons_of_mem _ (List.mem_append_left _ (List.mem_append_left _ (List.mem_append_left _ (List.mem_append_right _ h))))) (by decide +kernel))) (goodIn_sub (fun _ h => List.mem_cons_of_mem _ (List.mem_append_right _ h)) (by decide +kernel))
set_option maxRecDepth 20000 in
theorem gL_span_X2_span : GoodIn wsL_span (wsV RL 59 RX2 yX2_span wsX2_span) := goodIn_app (goodIn_of _ (by decide +kernel)) ggL_span_X2_span
theorem dL_span_0 : decode cL_span 0 = .ok (.aload 5, 2) := by decide +kernel
theorem dL_span_2 : decode cL_span 2 = .ok (.iconst 0, 1) := by decide +kernel
theorem dL_span_3 : decode cL_span 3 = .ok (.aload_n 0, 1) := by decide +kernel
theorem dL_span_4 : decode cL_span 4 = .ok (.iload_n 1, 1) := by decide +kernel
theorem dL_span_5 : decode cL_span 5 = .ok (.iload_n 2, 1) := by decide +kernel
theorem dL_span_6 : decode cL_span 6 = .ok (.iload_n 3, 1) := by decide +kernel
theorem dL_span_7 : decode cL_span 7 = .ok (.iload 4, 2) := by decide +kernel
theorem dL_span_9 : decode cL_span 9 = .ok (.invokevirtual 59, 3) := by decide +kernel
theorem dL_span_12 : decode cL_span 12 = .ok (.lastore, 1) := by decide +kernel
theorem dL_span_13 : decode cL_span 13 = .ok (.goto 11, 3) := by decide +kernel
theorem dL_span_16 : decode cL_span 16 = .ok (.astore 6, 2) := by decide +kernel
theorem dL_span_18 : decode cL_span 18 = .ok (.iconst 1, 1) := by decide +kernel
theorem dL_span_19 : decode cL_span 19 = .ok (.ireturn, 1) := by decide +kernel
theorem dL_span_20 : decode cL_span 20 = .ok (.astore 6, 2) := by decide +kernel
theorem dL_span_22 : decode cL_span 22 = .ok (.iconst 2, 1) := by decide +kernel
theorem dL_span_23 : decode cL_span 23 = .ok (.ireturn, 1) := by decide +kernel
theorem dL_span_24 : decode cL_span 24 = .ok (.iconst 0, 1) := by decide +kernel
theorem dL_span_25 : decode cL_span 25 = .ok (.ireturn, 1) := by decide +kernel
set_option maxRecDepth 20000 in
theorem ggL_until_X2_until : GoodIn wsL_until wsX2_until := goodIn_ca (goodIn_ca (goodIn_ca (goodIn_r _ [7, 8, 9, 10, 11, 6, 12, 13, 14, 15, 16, 17, 18, 19, 20, 21, 22, 23, 24, 25, 26, 27, 28, 29, 30, 31, 32, 33, 34, 35, 36, 37, 38, 39, 40, 41, 42, 43, 44, 45, 46, 47, 48, 49, 50, 51, 52, 53, 54, 55, 56, 57, 58, 59, 60, 61, 62, 63, 64, 65, 66, 67, 68, 69, 70, 71, 72, 73, 74, 75, 76, 77, 78, 79, 80, 81, 82, 83, 84, 85, 86, 87, 88, 89, 90, 91, 92, 93, 94, 95, 96, 97, 98, 99, 100, 101, 102, 103, 104, 105, 106, 107, 108, 109, 110, 111, 112] (by decide +kernel) (by decide +kernel)) (goodIn_sub (fun _ h => List.mem_cons_of_mem _ (List.mem_append_left _ (List.mem_append_left _ (List.mem_append_right _ h)))) (by decide +kernel))) (goodIn_sub (fun _ h => List.mem_cons_of_mem _ (List.mem_append_left _ (List.mem_append_right _ h))) (by decide +kernel))) (goodIn_sub (fun _ h => List.mem_cons_of_mem _ (List.mem_append_right _ h)) (by decide +kernel))
set_option maxRecDepth 20000 in
theorem gL_until_X2_until : GoodIn wsL_until (wsV RL 62 RX2 yX2_until wsX2_until) := goodIn_app (goodIn_of _ (by decide +kernel)) ggL_until_X2_until
theorem dL_until_0 : decode cL_until 0 = .ok (.aload 4, 2) := by decide +kernel
theorem dL_until_2 : decode cL_until 2 = .ok (.iconst 0, 1) := by decide +kernel
theorem dL_until_3 : decode cL_until 3 = .ok (.aload_n 0, 1) := by decide +kernel
theorem dL_until_4 : decode cL_until 4 = .ok (.iload_n 1, 1) := by decide +kernel
theorem dL_until_5 : decode cL_until 5 = .ok (.iload_n 2, 1) := by decide +kernel
theorem dL_until_6 : decode cL_until 6 = .ok (.iload_n 3, 1) := by decide +kernel
theorem dL_until_7 : decode cL_until 7 = .ok (.invokevirtual 62, 3) := by decide +kernel
theorem dL_until_10 : decode cL_until 10 = .ok (.lastore, 1) := by decide +kernel
theorem dL_until_11 : decode cL_until 11 = .ok (.goto 11, 3) := by decide +kernel
theorem dL_until_14 : decode cL_until 14 = .ok (.astore 5, 2) := by decide +kernel
theorem dL_until_16 : decode cL_until 16 = .ok (.iconst 1, 1) := by decide +kernel
theorem dL_until_17 : decode cL_until 17 = .ok (.ireturn, 1) := by decide +kernel
theorem dL_until_18 : decode cL_until 18 = .ok (.astore 5, 2) := by decide +kernel
theorem dL_until_20 : decode cL_until 20 = .ok (.iconst 2, 1) := by decide +kernel
theorem dL_until_21 : decode cL_until 21 = .ok (.ireturn, 1) := by decide +kernel
theorem dL_until_22 : decode cL_until 22 = .ok (.iconst 0, 1) := by decide +kernel
theorem dL_until_23 : decode cL_until 23 = .ok (.ireturn, 1) := by decide +kernel
set_option maxRecDepth 20000 in
theorem ggL_go_X2_go : GoodIn wsL_go wsX2_go := goodIn_ca (goodIn_ca (goodIn_ca (goodIn_r _ [7, 8, 9, 10, 11, 6, 12, 13, 14, 15, 16, 17, 18, 19, 20, 21, 22, 23, 24, 25, 26, 27, 28, 29, 30, 31, 32, 33, 34, 35, 36, 37, 38, 39, 40, 41, 42, 43, 44, 45, 46, 47, 48, 49, 50, 51, 52, 53, 54, 55, 56, 57, 58, 59, 60, 61, 62, 63, 64, 65, 66, 67, 68, 69, 70, 71, 72, 73, 74, 75, 76, 77, 78, 79, 80, 81, 82, 83, 84, 85, 86, 87, 88, 89, 90, 91, 92, 93, 94, 95, 96, 97, 98, 99, 100, 101, 102, 103] (by decide +kernel) (by decide +kernel)) (goodIn_sub (fun _ h => List.mem_cons_of_mem _ (List.mem_append_left _ (List.mem_append_left _ (List.mem_append_right _ h)))) (by decide +kernel))) (goodIn_sub (fun _ h => List.mem_cons_of_mem _ (List.mem_append_left _ (List.mem_append_right _ h))) (by decide +kernel))) (goodIn_sub (fun _ h => List.mem_cons_of_mem _ (List.mem_append_right _ h)) (by decide +kernel))
set_option maxRecDepth 20000 in
theorem gL_go_X2_go : GoodIn wsL_go (wsV RL 66 RX2 yX2_go wsX2_go) := goodIn_app (goodIn_of _ (by decide +kernel)) ggL_go_X2_go
theorem dL_go_0 : decode cL_go 0 = .ok (.aload 5, 2) := by decide +kernel
theorem dL_go_2 : decode cL_go 2 = .ok (.iconst 0, 1) := by decide +kernel
theorem dL_go_3 : decode cL_go 3 = .ok (.aload_n 0, 1) := by decide +kernel
theorem dL_go_4 : decode cL_go 4 = .ok (.iload_n 1, 1) := by decide +kernel
theorem dL_go_5 : decode cL_go 5 = .ok (.iload_n 2, 1) := by decide +kernel
theorem dL_go_6 : decode cL_go 6 = .ok (.iload_n 3, 1) := by decide +kernel
theorem dL_go_7 : decode cL_go 7 = .ok (.iload 4, 2) := by decide +kernel
theorem dL_go_9 : decode cL_go 9 = .ok (.invokevirtual 66, 3) := by decide +kernel
theorem dL_go_12 : decode cL_go 12 = .ok (.lastore, 1) := by decide +kernel
theorem dL_go_13 : decode cL_go 13 = .ok (.goto 11, 3) := by decide +kernel
theorem dL_go_16 : decode cL_go 16 = .ok (.astore 6, 2) := by decide +kernel
theorem dL_go_18 : decode cL_go 18 = .ok (.iconst 1, 1) := by decide +kernel
theorem dL_go_19 : decode cL_go 19 = .ok (.ireturn, 1) := by decide +kernel
theorem dL_go_20 : decode cL_go 20 = .ok (.astore 6, 2) := by decide +kernel
theorem dL_go_22 : decode cL_go 22 = .ok (.iconst 2, 1) := by decide +kernel
theorem dL_go_23 : decode cL_go 23 = .ok (.ireturn, 1) := by decide +kernel
theorem dL_go_24 : decode cL_go 24 = .ok (.iconst 0, 1) := by decide +kernel
theorem dL_go_25 : decode cL_go 25 = .ok (.ireturn, 1) := by decide +kernel
set_option maxRecDepth 20000 in
theorem ggL_spanPart_X2_spanPart : GoodIn wsL_spanPart wsX2_spanPart := goodIn_ca (goodIn_ca (goodIn_ca (goodIn_r _ [7, 8, 9, 10, 11, 12, 13, 14, 6, 15, 16, 17, 18, 19, 20, 21, 22, 23, 24, 25, 26, 27] (by decide +kernel) (by decide +kernel)) (goodIn_sub (fun _ h => List.mem_cons_of_mem _ (List.mem_append_left _ (List.mem_append_left _ (List.mem_append_right _ h)))) (by decide +kernel))) (goodIn_sub (fun _ h => List.mem_cons_of_mem _ (List.mem_append_left _ (List.mem_append_right _ h))) (by decide +kernel))) (goodIn_sub (fun _ h => List.mem_cons_of_mem _ (List.mem_append_right _ h)) (by decide +kernel))
set_option maxRecDepth 20000 in
theorem gL_spanPart_X2_spanPart : GoodIn wsL_spanPart (wsV RL 70 RX2 yX2_spanPart wsX2_spanPart) := goodIn_app (goodIn_of _ (by decide +kernel)) ggL_spanPart_X2_spanPart
theorem dL_spanPart_0 : decode cL_spanPart 0 = .ok (.aload_n 3, 1) := by decide +kernel
theorem dL_spanPart_1 : decode cL_spanPart 1 = .ok (.iconst 0, 1) := by decide +kernel
theorem dL_spanPart_2 : decode cL_spanPart 2 = .ok (.aload_n 0, 1) := by decide +kernel
theorem dL_spanPart_3 : decode cL_spanPart 3 = .ok (.iload_n 1, 1) := by decide +kernel
theorem dL_spanPart_4 : decode cL_spanPart 4 = .ok (.iload_n 2, 1) := by decide +kernel
theorem dL_spanPart_5 : decode cL_spanPart 5 = .ok (.invokevirtual 70, 3) := by decide +kernel
theorem dL_spanPart_8 : decode cL_spanPart 8 = .ok (.i2l, 1) := by decide +kernel
theorem dL_spanPart_9 : decode cL_spanPart 9 = .ok (.lastore, 1) := by decide +kernel
theorem dL_spanPart_10 : decode cL_spanPart 10 = .ok (.goto 11, 3) := by decide +kernel
theorem dL_spanPart_13 : decode cL_spanPart 13 = .ok (.astore 4, 2) := by decide +kernel
theorem dL_spanPart_15 : decode cL_spanPart 15 = .ok (.iconst 1, 1) := by decide +kernel
theorem dL_spanPart_16 : decode cL_spanPart 16 = .ok (.ireturn, 1) := by decide +kernel
theorem dL_spanPart_17 : decode cL_spanPart 17 = .ok (.astore 4, 2) := by decide +kernel
theorem dL_spanPart_19 : decode cL_spanPart 19 = .ok (.iconst 2, 1) := by decide +kernel
theorem dL_spanPart_20 : decode cL_spanPart 20 = .ok (.ireturn, 1) := by decide +kernel
theorem dL_spanPart_21 : decode cL_spanPart 21 = .ok (.iconst 0, 1) := by decide +kernel
theorem dL_spanPart_22 : decode cL_spanPart 22 = .ok (.ireturn, 1) := by decide +kernel
set_option maxRecDepth 20000 in
theorem ggL_addSpan_X2_addSpan : GoodIn wsL_addSpan wsX2_addSpan := goodIn_ca (goodIn_ca (goodIn_ca (goodIn_r _ [7, 8, 9, 10, 11, 12, 13, 6, 14, 15, 16, 17, 18, 19, 20, 21, 22, 23, 24, 25, 26, 27, 28, 29, 30, 31, 32, 33, 34, 35, 36, 37, 38, 39, 40, 41, 42, 43, 44, 45, 46, 47, 48] (by decide +kernel) (by decide +kernel)) (goodIn_sub (fun _ h => List.mem_cons_of_mem _ (List.mem_append_left _ (List.mem_append_left _ (List.mem_append_right _ h)))) (by decide +kernel))) (goodIn_sub (fun _ h => List.mem_cons_of_mem _ (List.mem_append_left _ (List.mem_append_right _ h))) (by decide +kernel))) (goodIn_sub (fun _ h => List.mem_cons_of_mem _ (List.mem_append_right _ h)) (by decide +kernel))
set_option maxRecDepth 20000 in
theorem gL_addSpan_X2_addSpan : GoodIn wsL_addSpan (wsV RL 73 RX2 yX2_addSpan wsX2_addSpan) := goodIn_app (goodIn_of _ (by decide +kernel)) ggL_addSpan_X2_addSpan
theorem dL_addSpan_0 : decode cL_addSpan 0 = .ok (.aload 5, 2) := by decide +kernel
theorem dL_addSpan_2 : decode cL_addSpan 2 = .ok (.iconst 0, 1) := by decide +kernel
theorem dL_addSpan_3 : decode cL_addSpan 3 = .ok (.aload_n 0, 1) := by decide +kernel
theorem dL_addSpan_4 : decode cL_addSpan 4 = .ok (.iload_n 1, 1) := by decide +kernel
theorem dL_addSpan_5 : decode cL_addSpan 5 = .ok (.iload_n 2, 1) := by decide +kernel
theorem dL_addSpan_6 : decode cL_addSpan 6 = .ok (.iload_n 3, 1) := by decide +kernel
theorem dL_addSpan_7 : decode cL_addSpan 7 = .ok (.iload 4, 2) := by decide +kernel
theorem dL_addSpan_9 : decode cL_addSpan 9 = .ok (.invokevirtual 73, 3) := by decide +kernel
theorem dL_addSpan_12 : decode cL_addSpan 12 = .ok (.lastore, 1) := by decide +kernel
theorem dL_addSpan_13 : decode cL_addSpan 13 = .ok (.goto 11, 3) := by decide +kernel
theorem dL_addSpan_16 : decode cL_addSpan 16 = .ok (.astore 6, 2) := by decide +kernel
theorem dL_addSpan_18 : decode cL_addSpan 18 = .ok (.iconst 1, 1) := by decide +kernel
theorem dL_addSpan_19 : decode cL_addSpan 19 = .ok (.ireturn, 1) := by decide +kernel
theorem dL_addSpan_20 : decode cL_addSpan 20 = .ok (.astore 6, 2) := by decide +kernel
theorem dL_addSpan_22 : decode cL_addSpan 22 = .ok (.iconst 2, 1) := by decide +kernel
theorem dL_addSpan_23 : decode cL_addSpan 23 = .ok (.ireturn, 1) := by decide +kernel
theorem dL_addSpan_24 : decode cL_addSpan 24 = .ok (.iconst 0, 1) := by decide +kernel
theorem dL_addSpan_25 : decode cL_addSpan 25 = .ok (.ireturn, 1) := by decide +kernel
set_option maxRecDepth 20000 in
theorem ggL_timesSpan_X2_timesSpan : GoodIn wsL_timesSpan wsX2_timesSpan := goodIn_ca (goodIn_ca (goodIn_ca (goodIn_ca (goodIn_r _ [8, 9, 10, 11, 12, 13, 14, 15, 7, 16, 17, 18, 19, 20, 21, 22, 23, 24, 25, 26, 27, 28, 29, 30, 31, 32, 33, 34, 35, 36, 37, 38, 39, 40, 41, 42, 43, 44, 45, 46, 47, 48, 49, 50, 51, 52, 53, 54, 55] (by decide +kernel) (by decide +kernel)) (goodIn_sub (fun _ h => List.mem_cons_of_mem _ (List.mem_append_left _ (List.mem_append_left _ (List.mem_append_left _ (List.mem_append_right _ h))))) (by decide +kernel))) (goodIn_sub (fun _ h => List.mem_cons_of_mem _ (List.mem_append_left _ (List.mem_append_left _ (List.mem_append_right _ h)))) (by decide +kernel))) (goodIn_sub (fun _ h => List.mem_cons_of_mem _ (List.mem_append_left _ (List.mem_append_right _ h))) (by decide +kernel))) (goodIn_sub (fun _ h => List.mem_cons_of_mem _ (List.mem_append_right _ h)) (by decide +kernel))
set_option maxRecDepth 20000 in
theorem gL_timesSpan_X2_timesSpan : GoodIn wsL_timesSpan (wsV RL 76 RX2 yX2_timesSpan wsX2_timesSpan) := goodIn_app (goodIn_of _ (by decide +kernel)) ggL_timesSpan_X2_timesSpan
theorem dL_timesSpan_0 : decode cL_timesSpan 0 = .ok (.aload 4, 2) := by decide +kernel
theorem dL_timesSpan_2 : decode cL_timesSpan 2 = .ok (.iconst 0, 1) := by decide +kernel
theorem dL_timesSpan_3 : decode cL_timesSpan 3 = .ok (.aload_n 0, 1) := by decide +kernel
theorem dL_timesSpan_4 : decode cL_timesSpan 4 = .ok (.iload_n 1, 1) := by decide +kernel
theorem dL_timesSpan_5 : decode cL_timesSpan 5 = .ok (.iload_n 2, 1) := by decide +kernel
theorem dL_timesSpan_6 : decode cL_timesSpan 6 = .ok (.iload_n 3, 1) := by decide +kernel
theorem dL_timesSpan_7 : decode cL_timesSpan 7 = .ok (.invokevirtual 76, 3) := by decide +kernel
theorem dL_timesSpan_10 : decode cL_timesSpan 10 = .ok (.lastore, 1) := by decide +kernel
theorem dL_timesSpan_11 : decode cL_timesSpan 11 = .ok (.goto 15, 3) := by decide +kernel
theorem dL_timesSpan_14 : decode cL_timesSpan 14 = .ok (.astore 5, 2) := by decide +kernel
theorem dL_timesSpan_16 : decode cL_timesSpan 16 = .ok (.iconst 1, 1) := by decide +kernel
theorem dL_timesSpan_17 : decode cL_timesSpan 17 = .ok (.ireturn, 1) := by decide +kernel
theorem dL_timesSpan_18 : decode cL_timesSpan 18 = .ok (.astore 5, 2) := by decide +kernel
theorem dL_timesSpan_20 : decode cL_timesSpan 20 = .ok (.iconst 2, 1) := by decide +kernel
theorem dL_timesSpan_21 : decode cL_timesSpan 21 = .ok (.ireturn, 1) := by decide +kernel
theorem dL_timesSpan_22 : decode cL_timesSpan 22 = .ok (.astore 5, 2) := by decide +kernel
theorem dL_timesSpan_24 : decode cL_timesSpan 24 = .ok (.iconst 3, 1) := by decide +kernel
theorem dL_timesSpan_25 : decode cL_timesSpan 25 = .ok (.ireturn, 1) := by decide +kernel
theorem dL_timesSpan_26 : decode cL_timesSpan 26 = .ok (.iconst 0, 1) := by decide +kernel
theorem dL_timesSpan_27 : decode cL_timesSpan 27 = .ok (.ireturn, 1) := by decide +kernel
set_option maxRecDepth 20000 in
theorem ggL_plainSpan_X2_plainSpan : GoodIn wsL_plainSpan wsX2_plainSpan := goodIn_ca (goodIn_ca (goodIn_ca (goodIn_r _ [7, 8, 9, 10, 11, 6, 12, 13, 14, 15, 16, 17, 18, 19, 20, 21, 22, 23, 24, 25, 26, 27, 28, 29, 30, 31, 32, 33, 34, 35, 36, 37, 38, 39, 40, 41, 42, 43, 44, 45, 46, 47] (by decide +kernel) (by decide +kernel)) (goodIn_sub (fun _ h => List.mem_cons_of_mem _ (List.mem_append_left _ (List.mem_append_left _ (List.mem_append_right _ h)))) (by decide +kernel))) (goodIn_sub (fun _ h => List.mem_cons_of_mem _ (List.mem_append_left _ (List.mem_append_right _ h))) (by decide +kernel))) (goodIn_sub (fun _ h => List.mem_cons_of_mem _ (List.mem_append_right _ h)) (by decide +kernel))
set_option maxRecDepth 20000 in
theorem gL_plainSpan_X2_plainSpan : GoodIn wsL_plainSpan (wsV RL 79 RX2 yX2_plainSpan wsX2_plainSpan) := goodIn_app (goodIn_of _ (by decide +kernel)) ggL_plainSpan_X2_plainSpan
theorem dL_plainSpan_0 : decode cL_plainSpan 0 = .ok (.aload_n 3, 1) := by decide +kernel
theorem dL_plainSpan_1 : decode cL_plainSpan 1 = .ok (.iconst 0, 1) := by decide +kernel
theorem dL_plainSpan_2 : decode cL_plainSpan 2 = .ok (.aload_n 0, 1) := by decide +kernel
theorem dL_plainSpan_3 : decode cL_plainSpan 3 = .ok (.iload_n 1, 1) := by decide +kernel
theorem dL_plainSpan_4 : decode cL_plainSpan 4 = .ok (.iload_n 2, 1) := by decide +kernel
theorem dL_plainSpan_5 : decode cL_plainSpan 5 = .ok (.invokevirtual 79, 3) := by decide +kernel
theorem dL_plainSpan_8 : decode cL_plainSpan 8 = .ok (.lastore, 1) := by decide +kernel
theorem dL_plainSpan_9 : decode cL_plainSpan 9 = .ok (.goto 11, 3) := by decide +kernel
theorem dL_plainSpan_12 : decode cL_plainSpan 12 = .ok (.astore 4, 2) := by decide +kernel
theorem dL_plainSpan_14 : decode cL_plainSpan 14 = .ok (.iconst 1, 1) := by decide +kernel
theorem dL_plainSpan_15 : decode cL_plainSpan 15 = .ok (.ireturn, 1) := by decide +kernel
theorem dL_plainSpan_16 : decode cL_plainSpan 16 = .ok (.astore 4, 2) := by decide +kernel
theorem dL_plainSpan_18 : decode cL_plainSpan 18 = .ok (.iconst 2, 1) := by decide +kernel
theorem dL_plainSpan_19 : decode cL_plainSpan 19 = .ok (.ireturn, 1) := by decide +kernel
theorem dL_plainSpan_20 : decode cL_plainSpan 20 = .ok (.iconst 0, 1) := by decide +kernel
theorem dL_plainSpan_21 : decode cL_plainSpan 21 = .ok (.ireturn, 1) := by decide +kernel
set_option maxRecDepth 20000 in
theorem ggL_month_X2_month : GoodIn wsL_month wsX2_month := goodIn_ca (goodIn_ca (goodIn_ca (goodIn_ca (goodIn_r _ [7, 8, 9, 10, 6, 11, 12, 13, 14, 15, 16, 17, 18, 19, 20, 21, 22, 23, 24, 25, 26, 27, 28, 29, 30, 31, 32, 33, 34, 35, 36, 37, 38, 39, 40, 41, 42, 43, 44, 45, 46, 47, 48, 49, 50, 51, 52, 53, 54, 55, 56, 57, 58, 59, 60, 61, 62, 63, 64, 65, 66, 67, 68, 69, 70, 71, 72, 73, 74] (by decide +kernel) (by decide +kernel)) (goodIn_sub (fun _ h => List.mem_cons_of_mem _ (List.mem_append_left _ (List.mem_append_left _ (List.mem_append_right _ h)))) (by decide +kernel))) (goodIn_sub (fun _ h => List.mem_cons_of_mem _ (List.mem_append_left _ (List.mem_append_right _ h))) (by decide +kernel))) (goodIn_sub (fun _ h => List.mem_cons_of_mem _ (List.mem_append_left _ (List.mem_append_left _ (List.mem_append_left _ (List.mem_append_right _ h))))) (by decide +kernel))) (goodIn_sub (fun _ h => List.mem_cons_of_mem _ (List.mem_append_right _ h)) (by decide +kernel))
set_option maxRecDepth 20000 in
theorem gL_month_X2_month : GoodIn wsL_month (wsV RL 83 RX2 yX2_month wsX2_month) := goodIn_app (goodIn_of _ (by decide +kernel)) ggL_month_X2_month
theorem dL_month_0 : decode cL_month 0 = .ok (.aload 4, 2) := by decide +kernel
theorem dL_month_2 : decode cL_month 2 = .ok (.iconst 0, 1) := by decide +kernel
theorem dL_month_3 : decode cL_month 3 = .ok (.aload_n 0, 1) := by decide +kernel
theorem dL_month_4 : decode cL_month 4 = .ok (.iload_n 1, 1) := by decide +kernel
theorem dL_month_5 : decode cL_month 5 = .ok (.iload_n 2, 1) := by decide +kernel
theorem dL_month_6 : decode cL_month 6 = .ok (.iload_n 3, 1) := by decide +kernel
theorem dL_month_7 : decode cL_month 7 = .ok (.invokevirtual 83, 3) := by decide +kernel
theorem dL_month_10 : decode cL_month 10 = .ok (.i2l, 1) := by decide +kernel
theorem dL_month_11 : decode cL_month 11 = .ok (.lastore, 1) := by decide +kernel
theorem dL_month_12 : decode cL_month 12 = .ok (.goto 11, 3) := by decide +kernel
theorem dL_month_15 : decode cL_month 15 = .ok (.astore 5, 2) := by decide +kernel
theorem dL_month_17 : decode cL_month 17 = .ok (.iconst 1, 1) := by decide +kernel
theorem dL_month_18 : decode cL_month 18 = .ok (.ireturn, 1) := by decide +kernel
theorem dL_month_19 : decode cL_month 19 = .ok (.astore 5, 2) := by decide +kernel
theorem dL_month_21 : decode cL_month 21 = .ok (.iconst 2, 1) := by decide +kernel
theorem dL_month_22 : decode cL_month 22 = .ok (.ireturn, 1) := by decide +kernel
theorem dL_month_23 : decode cL_month 23 = .ok (.iconst 0, 1) := by decide +kernel
theorem dL_month_24 : decode cL_month 24 = .ok (.ireturn, 1) := by decide +kernel
set_option maxRecDepth 20000 in
theorem ggL_moveMonth_X2_moveMonth : GoodIn wsL_moveMonth wsX2_moveMonth := goodIn_ca (goodIn_ca (goodIn_ca (goodIn_ca (goodIn_r _ [8, 9, 10, 11, 12, 13, 14, 7, 15, 16, 17, 18, 19, 20, 21, 22, 23, 24, 25, 26, 27, 28, 29, 30, 31, 32, 33, 34, 35, 36, 37, 38, 39, 40, 41, 42, 43, 44, 45, 46, 47, 48, 49, 50, 51, 52, 53, 54, 55, 56, 57, 58, 59, 60, 61, 62, 63, 64, 65, 66, 67, 68, 69, 70, 71, 72, 73, 74] (by decide +kernel) (by decide +kernel)) (goodIn_sub (fun _ h => List.mem_cons_of_mem _ (List.mem_append_left _ (List.mem_append_left _ (List.mem_append_left _ (List.mem_append_right _ h))))) (by decide +kernel))) (goodIn_sub (fun _ h => List.mem_cons_of_mem _ (List.mem_append_left _ (List.mem_append_left _ (List.mem_append_right _ h)))) (by decide +kernel))) (goodIn_sub (fun _ h => List.mem_cons_of_mem _ (List.mem_append_left _ (List.mem_append_right _ h))) (by decide +kernel))) (goodIn_sub (fun _ h => List.mem_cons_of_mem _ (List.mem_append_right _ h)) (by decide +kernel))
set_option maxRecDepth 20000 in
theorem gL_moveMonth_X2_moveMonth : GoodIn wsL_moveMonth (wsV RL 87 RX2 yX2_moveMonth wsX2_moveMonth) := goodIn_app (goodIn_of _ (by decide +kernel)) ggL_moveMonth_X2_moveMonth
theorem dL_moveMonth_0 : decode cL_moveMonth 0 = .ok (.aload 5, 2) := by decide +kernel
theorem dL_moveMonth_2 : decode cL_moveMonth 2 = .ok (.iconst 0, 1) := by decide +kernel
theorem dL_moveMonth_3 : decode cL_moveMonth 3 = .ok (.aload_n 0, 1) := by decide +kernel
theorem dL_moveMonth_4 : decode cL_moveMonth 4 = .ok (.iload_n 1, 1) := by decide +kernel
theorem dL_moveMonth_5 : decode cL_moveMonth 5 = .ok (.iload_n 2, 1) := by decide +kernel
theorem dL_moveMonth_6 : decode cL_moveMonth 6 = .ok (.iload_n 3, 1) := by decide +kernel
theorem dL_moveMonth_7 : decode cL_moveMonth 7 = .ok (.iload 4, 2) := by decide +kernel
theorem dL_moveMonth_9 : decode cL_moveMonth 9 = .ok (.invokevirtual 87, 3) := by decide +kernel
theorem dL_moveMonth_12 : decode cL_moveMonth 12 = .ok (.i2l, 1) := by decide +kernel
theorem dL_moveMonth_13 : decode cL_moveMonth 13 = .ok (.lastore, 1) := by decide +kernel
theorem dL_moveMonth_14 : decode cL_moveMonth 14 = .ok (.goto 15, 3) := by decide +kernel
theorem dL_moveMonth_17 : decode cL_moveMonth 17 = .ok (.astore 6, 2) := by decide +kernel
theorem dL_moveMonth_19 : decode cL_moveMonth 19 = .ok (.iconst 1, 1) := by decide +kernel
theorem dL_moveMonth_20 : decode cL_moveMonth 20 = .ok (.ireturn, 1) := by decide +kernel
theorem dL_moveMonth_21 : decode cL_moveMonth 21 = .ok (.astore 6, 2) := by decide +kernel
theorem dL_moveMonth_23 : decode cL_moveMonth 23 = .ok (.iconst 2, 1) := by decide +kernel
theorem dL_moveMonth_24 : decode cL_moveMonth 24 = .ok (.ireturn, 1) := by decide +kernel
theorem dL_moveMonth_25 : decode cL_moveMonth 25 = .ok (.astore 6, 2) := by decide +kernel
theorem dL_moveMonth_27 : decode cL_moveMonth 27 = .ok (.iconst 3, 1) := by decide +kernel
theorem dL_moveMonth_28 : decode cL_moveMonth 28 = .ok (.ireturn, 1) := by decide +kernel
theorem dL_moveMonth_29 : decode cL_moveMonth 29 = .ok (.iconst 0, 1) := by decide +kernel
theorem dL_moveMonth_30 : decode cL_moveMonth 30 = .ok (.ireturn, 1) := by decide +kernel
set_option maxRecDepth 20000 in
theorem ggL_monthPart_X2_monthPart : GoodIn wsL_monthPart wsX2_monthPart := goodIn_ca (goodIn_ca (goodIn_ca (goodIn_r _ [7, 8, 9, 10, 11, 12, 6, 13, 14, 15, 16, 17, 18, 19, 20, 21, 22, 23, 24, 25, 26, 27, 28, 29, 30, 31, 32, 33, 34, 35, 36, 37, 38, 39, 40, 41, 42, 43, 44, 45, 46, 47, 48, 49, 50, 51, 52, 53, 54] (by decide +kernel) (by decide +kernel)) (goodIn_sub (fun _ h => List.mem_cons_of_mem _ (List.mem_append_left _ (List.mem_append_left _ (List.mem_append_right _ h)))) (by decide +kernel))) (goodIn_sub (fun _ h => List.mem_cons_of_mem _ (List.mem_append_left _ (List.mem_append_right _ h))) (by decide +kernel))) (goodIn_sub (fun _ h => List.mem_cons_of_mem _ (List.mem_append_right _ h)) (by decide +kernel))
set_option maxRecDepth 20000 in
theorem gL_monthPart_X2_monthPart : GoodIn wsL_monthPart (wsV RL 91 RX2 yX2_monthPart wsX2_monthPart) := goodIn_app (goodIn_of _ (by decide +kernel)) ggL_monthPart_X2_monthPart
theorem dL_monthPart_0 : decode cL_monthPart 0 = .ok (.aload_n 3, 1) := by decide +kernel
theorem dL_monthPart_1 : decode cL_monthPart 1 = .ok (.iconst 0, 1) := by decide +kernel
theorem dL_monthPart_2 : decode cL_monthPart 2 = .ok (.aload_n 0, 1) := by decide +kernel
theorem dL_monthPart_3 : decode cL_monthPart 3 = .ok (.iload_n 1, 1) := by decide +kernel
theorem dL_monthPart_4 : decode cL_monthPart 4 = .ok (.iload_n 2, 1) := by decide +kernel
theorem dL_monthPart_5 : decode cL_monthPart 5 = .ok (.invokevirtual 91, 3) := by decide +kernel
theorem dL_monthPart_8 : decode cL_monthPart 8 = .ok (.i2l, 1) := by decide +kernel
theorem dL_monthPart_9 : decode cL_monthPart 9 = .ok (.lastore, 1) := by decide +kernel
theorem dL_monthPart_10 : decode cL_monthPart 10 = .ok (.goto 11, 3) := by decide +kernel
theorem dL_monthPart_13 : decode cL_monthPart 13 = .ok (.astore 4, 2) := by decide +kernel
theorem dL_monthPart_15 : decode cL_monthPart 15 = .ok (.iconst 1, 1) := by decide +kernel
theorem dL_monthPart_16 : decode cL_monthPart 16 = .ok (.ireturn, 1) := by decide +kernel
theorem dL_monthPart_17 : decode cL_monthPart 17 = .ok (.astore 4, 2) := by decide +kernel
theorem dL_monthPart_19 : decode cL_monthPart 19 = .ok (.iconst 2, 1) := by decide +kernel
theorem dL_monthPart_20 : decode cL_monthPart 20 = .ok (.ireturn, 1) := by decide +kernel
theorem dL_monthPart_21 : decode cL_monthPart 21 = .ok (.iconst 0, 1) := by decide +kernel
theorem dL_monthPart_22 : decode cL_monthPart 22 = .ok (.ireturn, 1) := by decide +kernel
set_option maxRecDepth 20000 in
theorem ggL_atDay_X2_atDay : GoodIn wsL_atDay wsX2_atDay := goodIn_ca (goodIn_ca (goodIn_ca (goodIn_ca (goodIn_r _ [7, 8, 9, 10, 6, 11, 12, 13, 14, 15, 16, 17, 18, 19, 20, 21, 22, 23, 24, 25, 26, 27, 28, 29, 30, 31, 32, 33, 34, 35, 36, 37, 38, 39, 40, 41, 42, 43, 44, 45, 46, 47, 48, 49, 50, 51, 52, 53, 54, 55, 56, 57, 58, 59, 60, 61, 62, 63, 64, 65, 66, 67, 68, 69, 70, 71, 72, 73, 74, 75, 76, 77, 78, 79, 80, 81, 82] (by decide +kernel) (by decide +kernel)) (goodIn_sub (fun _ h => List.mem_cons_of_mem _ (List.mem_append_left _ (List.mem_append_left _ (List.mem_append_left _ (List.mem_append_right _ h))))) (by decide +kernel))) (goodIn_sub (fun _ h => List.mem_cons_of_mem _ (List.mem_append_left _ (List.mem_append_left _ (List.mem_append_right _ h)))) (by decide +kernel))) (goodIn_sub (fun _ h => List.mem_cons_of_mem _ (List.mem_append_left _ (List.mem_append_right _ h))) (by decide +kernel))) (goodIn_sub (fun _ h => List.mem_cons_of_mem _ (List.mem_append_right _ h)) (by decide +kernel))
set_option maxRecDepth 20000 in
theorem gL_atDay_X2_atDay : GoodIn wsL_atDay (wsV RL 94 RX2 yX2_atDay wsX2_atDay) := goodIn_app (goodIn_of _ (by decide +kernel)) ggL_atDay_X2_atDay
theorem dL_atDay_0 : decode cL_atDay 0 = .ok (.aload 4, 2) := by decide +kernel
theorem dL_atDay_2 : decode cL_atDay 2 = .ok (.iconst 0, 1) := by decide +kernel
theorem dL_atDay_3 : decode cL_atDay 3 = .ok (.aload_n 0, 1) := by decide +kernel
theorem dL_atDay_4 : decode cL_atDay 4 = .ok (.iload_n 1, 1) := by decide +kernel
theorem dL_atDay_5 : decode cL_atDay 5 = .ok (.iload_n 2, 1) := by decide +kernel
theorem dL_atDay_6 : decode cL_atDay 6 = .ok (.iload_n 3, 1) := by decide +kernel
theorem dL_atDay_7 : decode cL_atDay 7 = .ok (.invokevirtual 94, 3) := by decide +kernel
theorem dL_atDay_10 : decode cL_atDay 10 = .ok (.lastore, 1) := by decide +kernel
theorem dL_atDay_11 : decode cL_atDay 11 = .ok (.goto 11, 3) := by decide +kernel
theorem dL_atDay_14 : decode cL_atDay 14 = .ok (.astore 5, 2) := by decide +kernel
theorem dL_atDay_16 : decode cL_atDay 16 = .ok (.iconst 1, 1) := by decide +kernel
theorem dL_atDay_17 : decode cL_atDay 17 = .ok (.ireturn, 1) := by decide +kernel
theorem dL_atDay_18 : decode cL_atDay 18 = .ok (.astore 5, 2) := by decide +kernel
theorem dL_atDay_20 : decode cL_atDay 20 = .ok (.iconst 2, 1) := by decide +kernel
theorem dL_atDay_21 : decode cL_atDay 21 = .ok (.ireturn, 1) := by decide +kernel
theorem dL_atDay_22 : decode cL_atDay 22 = .ok (.iconst 0, 1) := by decide +kernel
theorem dL_atDay_23 : decode cL_atDay 23 = .ok (.ireturn, 1) := by decide +kernel
set_option maxRecDepth 20000 in
theorem ggL_orderMonths_X2_orderMonths : GoodIn wsL_orderMonths wsX2_orderMonths := goodIn_ca (goodIn_ca (goodIn_r _ [6, 7, 8, 9, 5, 10, 11, 12, 13, 14, 15, 16, 17, 18, 19, 20, 21, 22, 23, 24, 25] (by decide +kernel) (by decide +kernel)) (goodIn_sub (fun _ h => List.mem_cons_of_mem _ (List.mem_append_left _ (List.mem_append_right _ h))) (by decide +kernel))) (goodIn_sub (fun _ h => List.mem_cons_of_mem _ (List.mem_append_right _ h)) (by decide +kernel))
set_option maxRecDepth 20000 in
theorem gL_orderMonths_X2_orderMonths : GoodIn wsL_orderMonths (wsV RL 97 RX2 yX2_orderMonths wsX2_orderMonths) := goodIn_app (goodIn_of _ (by decide +kernel)) ggL_orderMonths_X2_orderMonths
theorem dL_orderMonths_0 : decode cL_orderMonths 0 = .ok (.aload_n 3, 1) := by decide +kernel
theorem dL_orderMonths_1 : decode cL_orderMonths 1 = .ok (.iconst 0, 1) := by decide +kernel
theorem dL_orderMonths_2 : decode cL_orderMonths 2 = .ok (.aload_n 0, 1) := by decide +kernel
theorem dL_orderMonths_3 : decode cL_orderMonths 3 = .ok (.iload_n 1, 1) := by decide +kernel
theorem dL_orderMonths_4 : decode cL_orderMonths 4 = .ok (.iload_n 2, 1) := by decide +kernel
theorem dL_orderMonths_5 : decode cL_orderMonths 5 = .ok (.invokevirtual 97, 3) := by decide +kernel
theorem dL_orderMonths_8 : decode cL_orderMonths 8 = .ok (.i2l, 1) := by decide +kernel
theorem dL_orderMonths_9 : decode cL_orderMonths 9 = .ok (.lastore, 1) := by decide +kernel
theorem dL_orderMonths_10 : decode cL_orderMonths 10 = .ok (.goto 7, 3) := by decide +kernel
theorem dL_orderMonths_13 : decode cL_orderMonths 13 = .ok (.astore 4, 2) := by decide +kernel
theorem dL_orderMonths_15 : decode cL_orderMonths 15 = .ok (.iconst 1, 1) := by decide +kernel
theorem dL_orderMonths_16 : decode cL_orderMonths 16 = .ok (.ireturn, 1) := by decide +kernel
theorem dL_orderMonths_17 : decode cL_orderMonths 17 = .ok (.iconst 0, 1) := by decide +kernel
theorem dL_orderMonths_18 : decode cL_orderMonths 18 = .ok (.ireturn, 1) := by decide +kernel
set_option maxRecDepth 20000 in
theorem ggL_time_X2_time : GoodIn wsL_time wsX2_time := goodIn_ca (goodIn_ca (goodIn_ca (goodIn_r _ [7, 8, 9, 10, 11, 12, 13, 14, 15, 16, 6, 17, 18, 19, 20, 21, 22, 23, 24, 25, 26, 27, 28, 29, 30, 31, 32, 33, 34, 35, 36, 37] (by decide +kernel) (by decide +kernel)) (goodIn_sub (fun _ h => List.mem_cons_of_mem _ (List.mem_append_left _ (List.mem_append_left _ (List.mem_append_right _ h)))) (by decide +kernel))) (goodIn_sub (fun _ h => List.mem_cons_of_mem _ (List.mem_append_left _ (List.mem_append_right _ h))) (by decide +kernel))) (goodIn_sub (fun _ h => List.mem_cons_of_mem _ (List.mem_append_right _ h)) (by decide +kernel))
set_option maxRecDepth 20000 in
theorem gL_time_X2_time : GoodIn wsL_time (wsV RL 100 RX2 yX2_time wsX2_time) := goodIn_app (goodIn_of _ (by decide +kernel)) ggL_time_X2_time
theorem dL_time_0 : decode cL_time 0 = .ok (.aload 6, 2) := by decide +kernel
theorem dL_time_2 : decode cL_time 2 = .ok (.iconst 0, 1) := by decide +kernel
theorem dL_time_3 : decode cL_time 3 = .ok (.aload_n 0, 1) := by decide +kernel
theorem dL_time_4 : decode cL_time 4 = .ok (.iload_n 1, 1) := by decide +kernel
theorem dL_time_5 : decode cL_time 5 = .ok (.iload_n 2, 1) := by decide +kernel
theorem dL_time_6 : decode cL_time 6 = .ok (.iload_n 3, 1) := by decide +kernel
theorem dL_time_7 : decode cL_time 7 = .ok (.iload 4, 2) := by decide +kernel
theorem dL_time_9 : decode cL_time 9 = .ok (.iload 5, 2) := by decide +kernel
theorem dL_time_11 : decode cL_time 11 = .ok (.invokevirtual 100, 3) := by decide +kernel
theorem dL_time_14 : decode cL_time 14 = .ok (.lastore, 1) := by decide +kernel
theorem dL_time_15 : decode cL_time 15 = .ok (.goto 11, 3) := by decide +kernel
theorem dL_time_18 : decode cL_time 18 = .ok (.astore 7, 2) := by decide +kernel
theorem dL_time_20 : decode cL_time 20 = .ok (.iconst 1, 1) := by decide +kernel
theorem dL_time_21 : decode cL_time 21 = .ok (.ireturn, 1) := by decide +kernel
theorem dL_time_22 : decode cL_time 22 = .ok (.astore 7, 2) := by decide +kernel
theorem dL_time_24 : decode cL_time 24 = .ok (.iconst 2, 1) := by decide +kernel
theorem dL_time_25 : decode cL_time 25 = .ok (.ireturn, 1) := by decide +kernel
theorem dL_time_26 : decode cL_time 26 = .ok (.iconst 0, 1) := by decide +kernel
theorem dL_time_27 : decode cL_time 27 = .ok (.ireturn, 1) := by decide +kernel
set_option maxRecDepth 20000 in
theorem ggL_ofBillionths_X2_ofBillionths : GoodIn wsL_ofBillionths wsX2_ofBillionths := goodIn_ca (goodIn_ca (goodIn_ca (goodIn_r _ [7, 8, 9, 10, 11, 12, 6, 13, 14, 15, 16, 17, 18, 19, 20, 21, 22, 23, 24, 25, 26, 27, 28, 29, 30, 31, 32, 33] (by decide +kernel) (by decide +kernel)) (goodIn_sub (fun _ h => List.mem_cons_of_mem _ (List.mem_append_left _ (List.mem_append_left _ (List.mem_append_right _ h)))) (by decide +kernel))) (goodIn_sub (fun _ h => List.mem_cons_of_mem _ (List.mem_append_left _ (List.mem_append_right _ h))) (by decide +kernel))) (goodIn_sub (fun _ h => List.mem_cons_of_mem _ (List.mem_append_right _ h)) (by decide +kernel))
set_option maxRecDepth 20000 in
theorem gL_ofBillionths_X2_ofBillionths : GoodIn wsL_ofBillionths (wsV RL 104 RX2 yX2_ofBillionths wsX2_ofBillionths) := goodIn_app (goodIn_of _ (by decide +kernel)) ggL_ofBillionths_X2_ofBillionths
theorem dL_ofBillionths_0 : decode cL_ofBillionths 0 = .ok (.aload 4, 2) := by decide +kernel
theorem dL_ofBillionths_2 : decode cL_ofBillionths 2 = .ok (.iconst 0, 1) := by decide +kernel
theorem dL_ofBillionths_3 : decode cL_ofBillionths 3 = .ok (.aload_n 0, 1) := by decide +kernel
theorem dL_ofBillionths_4 : decode cL_ofBillionths 4 = .ok (.iload_n 1, 1) := by decide +kernel
theorem dL_ofBillionths_5 : decode cL_ofBillionths 5 = .ok (.lload_n 2, 1) := by decide +kernel
theorem dL_ofBillionths_6 : decode cL_ofBillionths 6 = .ok (.invokevirtual 104, 3) := by decide +kernel
theorem dL_ofBillionths_9 : decode cL_ofBillionths 9 = .ok (.i2l, 1) := by decide +kernel
theorem dL_ofBillionths_10 : decode cL_ofBillionths 10 = .ok (.lastore, 1) := by decide +kernel
theorem dL_ofBillionths_11 : decode cL_ofBillionths 11 = .ok (.goto 11, 3) := by decide +kernel
theorem dL_ofBillionths_14 : decode cL_ofBillionths 14 = .ok (.astore 5, 2) := by decide +kernel
theorem dL_ofBillionths_16 : decode cL_ofBillionths 16 = .ok (.iconst 1, 1) := by decide +kernel
theorem dL_ofBillionths_17 : decode cL_ofBillionths 17 = .ok (.ireturn, 1) := by decide +kernel
theorem dL_ofBillionths_18 : decode cL_ofBillionths 18 = .ok (.astore 5, 2) := by decide +kernel
theorem dL_ofBillionths_20 : decode cL_ofBillionths 20 = .ok (.iconst 2, 1) := by decide +kernel
theorem dL_ofBillionths_21 : decode cL_ofBillionths 21 = .ok (.ireturn, 1) := by decide +kernel
theorem dL_ofBillionths_22 : decode cL_ofBillionths 22 = .ok (.iconst 0, 1) := by decide +kernel
theorem dL_ofBillionths_23 : decode cL_ofBillionths 23 = .ok (.ireturn, 1) := by decide +kernel
set_option maxRecDepth 20000 in
theorem ggL_timePart_X2_timePart : GoodIn wsL_timePart wsX2_timePart := goodIn_ca (goodIn_ca (goodIn_ca (goodIn_r _ [7, 8, 9, 10, 11, 12, 13, 14, 15, 16, 6, 17, 18, 19, 20, 21, 22, 23, 24, 25, 26, 27, 28, 29] (by decide +kernel) (by decide +kernel)) (goodIn_sub (fun _ h => List.mem_cons_of_mem _ (List.mem_append_left _ (List.mem_append_left _ (List.mem_append_right _ h)))) (by decide +kernel))) (goodIn_sub (fun _ h => List.mem_cons_of_mem _ (List.mem_append_left _ (List.mem_append_right _ h))) (by decide +kernel))) (goodIn_sub (fun _ h => List.mem_cons_of_mem _ (List.mem_append_right _ h)) (by decide +kernel))
set_option maxRecDepth 20000 in
theorem gL_timePart_X2_timePart : GoodIn wsL_timePart (wsV RL 107 RX2 yX2_timePart wsX2_timePart) := goodIn_app (goodIn_of _ (by decide +kernel)) ggL_timePart_X2_timePart
theorem dL_timePart_0 : decode cL_timePart 0 = .ok (.aload_n 3, 1) := by decide +kernel
theorem dL_timePart_1 : decode cL_timePart 1 = .ok (.iconst 0, 1) := by decide +kernel
theorem dL_timePart_2 : decode cL_timePart 2 = .ok (.aload_n 0, 1) := by decide +kernel
theorem dL_timePart_3 : decode cL_timePart 3 = .ok (.iload_n 1, 1) := by decide +kernel
theorem dL_timePart_4 : decode cL_timePart 4 = .ok (.iload_n 2, 1) := by decide +kernel
theorem dL_timePart_5 : decode cL_timePart 5 = .ok (.invokevirtual 107, 3) := by decide +kernel
theorem dL_timePart_8 : decode cL_timePart 8 = .ok (.i2l, 1) := by decide +kernel
theorem dL_timePart_9 : decode cL_timePart 9 = .ok (.lastore, 1) := by decide +kernel
theorem dL_timePart_10 : decode cL_timePart 10 = .ok (.goto 11, 3) := by decide +kernel
theorem dL_timePart_13 : decode cL_timePart 13 = .ok (.astore 4, 2) := by decide +kernel
theorem dL_timePart_15 : decode cL_timePart 15 = .ok (.iconst 1, 1) := by decide +kernel
theorem dL_timePart_16 : decode cL_timePart 16 = .ok (.ireturn, 1) := by decide +kernel
theorem dL_timePart_17 : decode cL_timePart 17 = .ok (.astore 4, 2) := by decide +kernel
theorem dL_timePart_19 : decode cL_timePart 19 = .ok (.iconst 2, 1) := by decide +kernel
theorem dL_timePart_20 : decode cL_timePart 20 = .ok (.ireturn, 1) := by decide +kernel
theorem dL_timePart_21 : decode cL_timePart 21 = .ok (.iconst 0, 1) := by decide +kernel
theorem dL_timePart_22 : decode cL_timePart 22 = .ok (.ireturn, 1) := by decide +kernel
set_option maxRecDepth 20000 in
theorem ggL_moveTime_X2_moveTime : GoodIn wsL_moveTime wsX2_moveTime := goodIn_ca (goodIn_ca (goodIn_ca (goodIn_r _ [7, 8, 9, 10, 11, 12, 6, 13, 14, 15, 16, 17, 18, 19, 20, 21, 22, 23, 24, 25, 26, 27, 28, 29, 30, 31, 32, 33, 34, 35, 36, 37, 38, 39, 40, 41, 42, 43, 44, 45, 46, 47, 48, 49, 50, 51] (by decide +kernel) (by decide +kernel)) (goodIn_sub (fun _ h => List.mem_cons_of_mem _ (List.mem_append_left _ (List.mem_append_left _ (List.mem_append_right _ h)))) (by decide +kernel))) (goodIn_sub (fun _ h => List.mem_cons_of_mem _ (List.mem_append_left _ (List.mem_append_right _ h))) (by decide +kernel))) (goodIn_sub (fun _ h => List.mem_cons_of_mem _ (List.mem_append_right _ h)) (by decide +kernel))
set_option maxRecDepth 20000 in
theorem gL_moveTime_X2_moveTime : GoodIn wsL_moveTime (wsV RL 110 RX2 yX2_moveTime wsX2_moveTime) := goodIn_app (goodIn_of _ (by decide +kernel)) ggL_moveTime_X2_moveTime
theorem dL_moveTime_0 : decode cL_moveTime 0 = .ok (.aload 6, 2) := by decide +kernel
theorem dL_moveTime_2 : decode cL_moveTime 2 = .ok (.iconst 0, 1) := by decide +kernel
theorem dL_moveTime_3 : decode cL_moveTime 3 = .ok (.aload_n 0, 1) := by decide +kernel
theorem dL_moveTime_4 : decode cL_moveTime 4 = .ok (.iload_n 1, 1) := by decide +kernel
theorem dL_moveTime_5 : decode cL_moveTime 5 = .ok (.iload_n 2, 1) := by decide +kernel
theorem dL_moveTime_6 : decode cL_moveTime 6 = .ok (.lload_n 3, 1) := by decide +kernel
theorem dL_moveTime_7 : decode cL_moveTime 7 = .ok (.iload 5, 2) := by decide +kernel
theorem dL_moveTime_9 : decode cL_moveTime 9 = .ok (.invokevirtual 110, 3) := by decide +kernel
theorem dL_moveTime_12 : decode cL_moveTime 12 = .ok (.lastore, 1) := by decide +kernel
theorem dL_moveTime_13 : decode cL_moveTime 13 = .ok (.goto 11, 3) := by decide +kernel
theorem dL_moveTime_16 : decode cL_moveTime 16 = .ok (.astore 7, 2) := by decide +kernel
theorem dL_moveTime_18 : decode cL_moveTime 18 = .ok (.iconst 1, 1) := by decide +kernel
theorem dL_moveTime_19 : decode cL_moveTime 19 = .ok (.ireturn, 1) := by decide +kernel
theorem dL_moveTime_20 : decode cL_moveTime 20 = .ok (.astore 7, 2) := by decide +kernel
theorem dL_moveTime_22 : decode cL_moveTime 22 = .ok (.iconst 2, 1) := by decide +kernel
theorem dL_moveTime_23 : decode cL_moveTime 23 = .ok (.ireturn, 1) := by decide +kernel
theorem dL_moveTime_24 : decode cL_moveTime 24 = .ok (.iconst 0, 1) := by decide +kernel
theorem dL_moveTime_25 : decode cL_moveTime 25 = .ok (.ireturn, 1) := by decide +kernel
set_option maxRecDepth 20000 in
theorem ggL_cutTime_X2_cutTime : GoodIn wsL_cutTime wsX2_cutTime := goodIn_ca (goodIn_ca (goodIn_ca (goodIn_r _ [7, 8, 9, 10, 11, 12, 13, 14, 15, 6, 16, 17, 18, 19, 20, 21, 22, 23, 24, 25, 26, 27, 28] (by decide +kernel) (by decide +kernel)) (goodIn_sub (fun _ h => List.mem_cons_of_mem _ (List.mem_append_left _ (List.mem_append_left _ (List.mem_append_right _ h)))) (by decide +kernel))) (goodIn_sub (fun _ h => List.mem_cons_of_mem _ (List.mem_append_left _ (List.mem_append_right _ h))) (by decide +kernel))) (goodIn_sub (fun _ h => List.mem_cons_of_mem _ (List.mem_append_right _ h)) (by decide +kernel))
set_option maxRecDepth 20000 in
theorem gL_cutTime_X2_cutTime : GoodIn wsL_cutTime (wsV RL 114 RX2 yX2_cutTime wsX2_cutTime) := goodIn_app (goodIn_of _ (by decide +kernel)) ggL_cutTime_X2_cutTime
theorem dL_cutTime_0 : decode cL_cutTime 0 = .ok (.aload 4, 2) := by decide +kernel
theorem dL_cutTime_2 : decode cL_cutTime 2 = .ok (.iconst 0, 1) := by decide +kernel
theorem dL_cutTime_3 : decode cL_cutTime 3 = .ok (.aload_n 0, 1) := by decide +kernel
theorem dL_cutTime_4 : decode cL_cutTime 4 = .ok (.iload_n 1, 1) := by decide +kernel
theorem dL_cutTime_5 : decode cL_cutTime 5 = .ok (.iload_n 2, 1) := by decide +kernel
theorem dL_cutTime_6 : decode cL_cutTime 6 = .ok (.iload_n 3, 1) := by decide +kernel
theorem dL_cutTime_7 : decode cL_cutTime 7 = .ok (.invokevirtual 114, 3) := by decide +kernel
theorem dL_cutTime_10 : decode cL_cutTime 10 = .ok (.lastore, 1) := by decide +kernel
theorem dL_cutTime_11 : decode cL_cutTime 11 = .ok (.goto 11, 3) := by decide +kernel
theorem dL_cutTime_14 : decode cL_cutTime 14 = .ok (.astore 5, 2) := by decide +kernel
theorem dL_cutTime_16 : decode cL_cutTime 16 = .ok (.iconst 1, 1) := by decide +kernel
theorem dL_cutTime_17 : decode cL_cutTime 17 = .ok (.ireturn, 1) := by decide +kernel
theorem dL_cutTime_18 : decode cL_cutTime 18 = .ok (.astore 5, 2) := by decide +kernel
theorem dL_cutTime_20 : decode cL_cutTime 20 = .ok (.iconst 2, 1) := by decide +kernel
theorem dL_cutTime_21 : decode cL_cutTime 21 = .ok (.ireturn, 1) := by decide +kernel
theorem dL_cutTime_22 : decode cL_cutTime 22 = .ok (.iconst 0, 1) := by decide +kernel
theorem dL_cutTime_23 : decode cL_cutTime 23 = .ok (.ireturn, 1) := by decide +kernel
set_option maxRecDepth 20000 in
theorem ggL_goTime_X2_goTime : GoodIn wsL_goTime wsX2_goTime := goodIn_ca (goodIn_ca (goodIn_r _ [6, 7, 8, 9, 10, 11, 12, 5, 13, 14, 15, 16, 17, 18, 19, 20, 21, 22, 23, 24, 25, 26, 27, 28, 29, 30, 31, 32, 33, 34, 35, 36, 37] (by decide +kernel) (by decide +kernel)) (goodIn_sub (fun _ h => List.mem_cons_of_mem _ (List.mem_append_left _ (List.mem_append_right _ h))) (by decide +kernel))) (goodIn_sub (fun _ h => List.mem_cons_of_mem _ (List.mem_append_right _ h)) (by decide +kernel))
set_option maxRecDepth 20000 in
theorem gL_goTime_X2_goTime : GoodIn wsL_goTime (wsV RL 117 RX2 yX2_goTime wsX2_goTime) := goodIn_app (goodIn_of _ (by decide +kernel)) ggL_goTime_X2_goTime
theorem dL_goTime_0 : decode cL_goTime 0 = .ok (.aload 5, 2) := by decide +kernel
theorem dL_goTime_2 : decode cL_goTime 2 = .ok (.iconst 0, 1) := by decide +kernel
theorem dL_goTime_3 : decode cL_goTime 3 = .ok (.aload_n 0, 1) := by decide +kernel
theorem dL_goTime_4 : decode cL_goTime 4 = .ok (.iload_n 1, 1) := by decide +kernel
theorem dL_goTime_5 : decode cL_goTime 5 = .ok (.iload_n 2, 1) := by decide +kernel
theorem dL_goTime_6 : decode cL_goTime 6 = .ok (.iload_n 3, 1) := by decide +kernel
theorem dL_goTime_7 : decode cL_goTime 7 = .ok (.iload 4, 2) := by decide +kernel
theorem dL_goTime_9 : decode cL_goTime 9 = .ok (.invokevirtual 117, 3) := by decide +kernel
theorem dL_goTime_12 : decode cL_goTime 12 = .ok (.lastore, 1) := by decide +kernel
theorem dL_goTime_13 : decode cL_goTime 13 = .ok (.goto 7, 3) := by decide +kernel
theorem dL_goTime_16 : decode cL_goTime 16 = .ok (.astore 6, 2) := by decide +kernel
theorem dL_goTime_18 : decode cL_goTime 18 = .ok (.iconst 1, 1) := by decide +kernel
theorem dL_goTime_19 : decode cL_goTime 19 = .ok (.ireturn, 1) := by decide +kernel
theorem dL_goTime_20 : decode cL_goTime 20 = .ok (.iconst 0, 1) := by decide +kernel
theorem dL_goTime_21 : decode cL_goTime 21 = .ok (.ireturn, 1) := by decide +kernel
set_option maxRecDepth 20000 in
theorem ggL_orderTimes_X2_orderTimes : GoodIn wsL_orderTimes wsX2_orderTimes := goodIn_ca (goodIn_ca (goodIn_r _ [6, 7, 8, 9, 5, 10, 11, 12, 13, 14, 15, 16, 17, 18, 19, 20, 21, 22, 23, 24, 25] (by decide +kernel) (by decide +kernel)) (goodIn_sub (fun _ h => List.mem_cons_of_mem _ (List.mem_append_left _ (List.mem_append_right _ h))) (by decide +kernel))) (goodIn_sub (fun _ h => List.mem_cons_of_mem _ (List.mem_append_right _ h)) (by decide +kernel))
set_option maxRecDepth 20000 in
theorem gL_orderTimes_X2_orderTimes : GoodIn wsL_orderTimes (wsV RL 120 RX2 yX2_orderTimes wsX2_orderTimes) := goodIn_app (goodIn_of _ (by decide +kernel)) ggL_orderTimes_X2_orderTimes
theorem dL_orderTimes_0 : decode cL_orderTimes 0 = .ok (.aload_n 3, 1) := by decide +kernel
theorem dL_orderTimes_1 : decode cL_orderTimes 1 = .ok (.iconst 0, 1) := by decide +kernel
theorem dL_orderTimes_2 : decode cL_orderTimes 2 = .ok (.aload_n 0, 1) := by decide +kernel
theorem dL_orderTimes_3 : decode cL_orderTimes 3 = .ok (.iload_n 1, 1) := by decide +kernel
theorem dL_orderTimes_4 : decode cL_orderTimes 4 = .ok (.iload_n 2, 1) := by decide +kernel
theorem dL_orderTimes_5 : decode cL_orderTimes 5 = .ok (.invokevirtual 120, 3) := by decide +kernel
theorem dL_orderTimes_8 : decode cL_orderTimes 8 = .ok (.i2l, 1) := by decide +kernel
theorem dL_orderTimes_9 : decode cL_orderTimes 9 = .ok (.lastore, 1) := by decide +kernel
theorem dL_orderTimes_10 : decode cL_orderTimes 10 = .ok (.goto 7, 3) := by decide +kernel
theorem dL_orderTimes_13 : decode cL_orderTimes 13 = .ok (.astore 4, 2) := by decide +kernel
theorem dL_orderTimes_15 : decode cL_orderTimes 15 = .ok (.iconst 1, 1) := by decide +kernel
theorem dL_orderTimes_16 : decode cL_orderTimes 16 = .ok (.ireturn, 1) := by decide +kernel
theorem dL_orderTimes_17 : decode cL_orderTimes 17 = .ok (.iconst 0, 1) := by decide +kernel
theorem dL_orderTimes_18 : decode cL_orderTimes 18 = .ok (.ireturn, 1) := by decide +kernel
set_option maxRecDepth 20000 in
theorem ggL_length_X2_length : GoodIn wsL_length wsX2_length := goodIn_ca (goodIn_ca (goodIn_ca (goodIn_ca (goodIn_r _ [8, 9, 10, 11, 12, 13, 14, 7, 15, 16, 17, 18, 19, 20, 21, 22, 23, 24, 25, 26, 27, 28, 29, 30, 31, 32, 33, 34, 35, 36, 37, 38, 39, 40, 41, 42, 43, 44, 45, 46, 47, 48, 49, 50, 51, 52, 53, 54] (by decide +kernel) (by decide +kernel)) (goodIn_sub (fun _ h => List.mem_cons_of_mem _ (List.mem_append_left _ (List.mem_append_left _ (List.mem_append_right _ h)))) (by decide +kernel))) (goodIn_sub (fun _ h => List.mem_cons_of_mem _ (List.mem_append_left _ (List.mem_append_right _ h))) (by decide +kernel))) (goodIn_sub (fun _ h => List.mem_cons_of_mem _ (List.mem_append_left _ (List.mem_append_left _ (List.mem_append_left _ (List.mem_append_right _ h))))) (by decide +kernel))) (goodIn_sub (fun _ h => List.mem_cons_of_mem _ (List.mem_append_right _ h)) (by decide +kernel))
set_option maxRecDepth 20000 in
theorem gL_length_X2_length : GoodIn wsL_length (wsV RL 123 RX2 yX2_length wsX2_length) := goodIn_app (goodIn_of _ (by decide +kernel)) ggL_length_X2_length
theorem dL_length_0 : decode cL_length 0 = .ok (.aload 6, 2) := by decide +kernel
theorem dL_length_2 : decode cL_length 2 = .ok (.iconst 0, 1) := by decide +kernel
theorem dL_length_3 : decode cL_length 3 = .ok (.aload_n 0, 1) := by decide +kernel
theorem dL_length_4 : decode cL_length 4 = .ok (.iload_n 1, 1) := by decide +kernel
theorem dL_length_5 : decode cL_length 5 = .ok (.lload_n 2, 1) := by decide +kernel
theorem dL_length_6 : decode cL_length 6 = .ok (.lload 4, 2) := by decide +kernel
theorem dL_length_8 : decode cL_length 8 = .ok (.invokevirtual 123, 3) := by decide +kernel
theorem dL_length_11 : decode cL_length 11 = .ok (.lastore, 1) := by decide +kernel
theorem dL_length_12 : decode cL_length 12 = .ok (.goto 15, 3) := by decide +kernel
theorem dL_length_15 : decode cL_length 15 = .ok (.astore 7, 2) := by decide +kernel
theorem dL_length_17 : decode cL_length 17 = .ok (.iconst 1, 1) := by decide +kernel
theorem dL_length_18 : decode cL_length 18 = .ok (.ireturn, 1) := by decide +kernel
theorem dL_length_19 : decode cL_length 19 = .ok (.astore 7, 2) := by decide +kernel
theorem dL_length_21 : decode cL_length 21 = .ok (.iconst 2, 1) := by decide +kernel
theorem dL_length_22 : decode cL_length 22 = .ok (.ireturn, 1) := by decide +kernel
theorem dL_length_23 : decode cL_length 23 = .ok (.astore 7, 2) := by decide +kernel
theorem dL_length_25 : decode cL_length 25 = .ok (.iconst 3, 1) := by decide +kernel
theorem dL_length_26 : decode cL_length 26 = .ok (.ireturn, 1) := by decide +kernel
theorem dL_length_27 : decode cL_length 27 = .ok (.iconst 0, 1) := by decide +kernel
theorem dL_length_28 : decode cL_length 28 = .ok (.ireturn, 1) := by decide +kernel
set_option maxRecDepth 20000 in
theorem ggL_lengthPart_X2_lengthPart : GoodIn wsL_lengthPart wsX2_lengthPart := goodIn_ca (goodIn_ca (goodIn_ca (goodIn_r _ [7, 8, 9, 10, 11, 12, 13, 6, 14, 15, 16, 17, 18, 19, 20, 21, 22, 23, 24, 25, 26] (by decide +kernel) (by decide +kernel)) (goodIn_sub (fun _ h => List.mem_cons_of_mem _ (List.mem_append_left _ (List.mem_append_left _ (List.mem_append_right _ h)))) (by decide +kernel))) (goodIn_sub (fun _ h => List.mem_cons_of_mem _ (List.mem_append_left _ (List.mem_append_right _ h))) (by decide +kernel))) (goodIn_sub (fun _ h => List.mem_cons_of_mem _ (List.mem_append_right _ h)) (by decide +kernel))
set_option maxRecDepth 20000 in
theorem gL_lengthPart_X2_lengthPart : GoodIn wsL_lengthPart (wsV RL 127 RX2 yX2_lengthPart wsX2_lengthPart) := goodIn_app (goodIn_of _ (by decide +kernel)) ggL_lengthPart_X2_lengthPart
theorem dL_lengthPart_0 : decode cL_lengthPart 0 = .ok (.aload_n 3, 1) := by decide +kernel
theorem dL_lengthPart_1 : decode cL_lengthPart 1 = .ok (.iconst 0, 1) := by decide +kernel
theorem dL_lengthPart_2 : decode cL_lengthPart 2 = .ok (.aload_n 0, 1) := by decide +kernel
theorem dL_lengthPart_3 : decode cL_lengthPart 3 = .ok (.iload_n 1, 1) := by decide +kernel
theorem dL_lengthPart_4 : decode cL_lengthPart 4 = .ok (.iload_n 2, 1) := by decide +kernel
theorem dL_lengthPart_5 : decode cL_lengthPart 5 = .ok (.invokevirtual 127, 3) := by decide +kernel
theorem dL_lengthPart_8 : decode cL_lengthPart 8 = .ok (.lastore, 1) := by decide +kernel
theorem dL_lengthPart_9 : decode cL_lengthPart 9 = .ok (.goto 11, 3) := by decide +kernel
theorem dL_lengthPart_12 : decode cL_lengthPart 12 = .ok (.astore 4, 2) := by decide +kernel
theorem dL_lengthPart_14 : decode cL_lengthPart 14 = .ok (.iconst 1, 1) := by decide +kernel
theorem dL_lengthPart_15 : decode cL_lengthPart 15 = .ok (.ireturn, 1) := by decide +kernel
theorem dL_lengthPart_16 : decode cL_lengthPart 16 = .ok (.astore 4, 2) := by decide +kernel
theorem dL_lengthPart_18 : decode cL_lengthPart 18 = .ok (.iconst 2, 1) := by decide +kernel
theorem dL_lengthPart_19 : decode cL_lengthPart 19 = .ok (.ireturn, 1) := by decide +kernel
theorem dL_lengthPart_20 : decode cL_lengthPart 20 = .ok (.iconst 0, 1) := by decide +kernel
theorem dL_lengthPart_21 : decode cL_lengthPart 21 = .ok (.ireturn, 1) := by decide +kernel
set_option maxRecDepth 20000 in
theorem ggL_addLength_X2_addLength : GoodIn wsL_addLength wsX2_addLength := goodIn_ca (goodIn_ca (goodIn_ca (goodIn_r _ [7, 8, 9, 10, 11, 6, 12, 13, 14, 15, 16, 17, 18, 19, 20, 21, 22, 23, 24, 25, 26, 27, 28, 29, 30, 31, 32, 33, 34, 35, 36, 37, 38, 39, 40, 41, 42, 43, 44, 45, 46] (by decide +kernel) (by decide +kernel)) (goodIn_sub (fun _ h => List.mem_cons_of_mem _ (List.mem_append_left _ (List.mem_append_left _ (List.mem_append_right _ h)))) (by decide +kernel))) (goodIn_sub (fun _ h => List.mem_cons_of_mem _ (List.mem_append_left _ (List.mem_append_right _ h))) (by decide +kernel))) (goodIn_sub (fun _ h => List.mem_cons_of_mem _ (List.mem_append_right _ h)) (by decide +kernel))
set_option maxRecDepth 20000 in
theorem gL_addLength_X2_addLength : GoodIn wsL_addLength (wsV RL 131 RX2 yX2_addLength wsX2_addLength) := goodIn_app (goodIn_of _ (by decide +kernel)) ggL_addLength_X2_addLength
theorem dL_addLength_0 : decode cL_addLength 0 = .ok (.aload 5, 2) := by decide +kernel
theorem dL_addLength_2 : decode cL_addLength 2 = .ok (.iconst 0, 1) := by decide +kernel
theorem dL_addLength_3 : decode cL_addLength 3 = .ok (.aload_n 0, 1) := by decide +kernel
theorem dL_addLength_4 : decode cL_addLength 4 = .ok (.iload_n 1, 1) := by decide +kernel
theorem dL_addLength_5 : decode cL_addLength 5 = .ok (.iload_n 2, 1) := by decide +kernel
theorem dL_addLength_6 : decode cL_addLength 6 = .ok (.iload_n 3, 1) := by decide +kernel
theorem dL_addLength_7 : decode cL_addLength 7 = .ok (.iload 4, 2) := by decide +kernel
theorem dL_addLength_9 : decode cL_addLength 9 = .ok (.invokevirtual 131, 3) := by decide +kernel
theorem dL_addLength_12 : decode cL_addLength 12 = .ok (.lastore, 1) := by decide +kernel
theorem dL_addLength_13 : decode cL_addLength 13 = .ok (.goto 11, 3) := by decide +kernel
theorem dL_addLength_16 : decode cL_addLength 16 = .ok (.astore 6, 2) := by decide +kernel
theorem dL_addLength_18 : decode cL_addLength 18 = .ok (.iconst 1, 1) := by decide +kernel
theorem dL_addLength_19 : decode cL_addLength 19 = .ok (.ireturn, 1) := by decide +kernel
theorem dL_addLength_20 : decode cL_addLength 20 = .ok (.astore 6, 2) := by decide +kernel
theorem dL_addLength_22 : decode cL_addLength 22 = .ok (.iconst 2, 1) := by decide +kernel
theorem dL_addLength_23 : decode cL_addLength 23 = .ok (.ireturn, 1) := by decide +kernel
theorem dL_addLength_24 : decode cL_addLength 24 = .ok (.iconst 0, 1) := by decide +kernel
theorem dL_addLength_25 : decode cL_addLength 25 = .ok (.ireturn, 1) := by decide +kernel
set_option maxRecDepth 20000 in
theorem ggL_timesLength_X2_timesLength : GoodIn wsL_timesLength wsX2_timesLength := goodIn_ca (goodIn_ca (goodIn_ca (goodIn_ca (goodIn_r _ [8, 9, 10, 11, 12, 13, 14, 7, 15, 16, 17, 18, 19, 20, 21, 22, 23, 24, 25, 26, 27, 28, 29, 30, 31, 32, 33, 34, 35, 36, 37, 38, 39, 40, 41, 42, 43, 44, 45, 46, 47, 48, 49, 50, 51, 52, 53, 54] (by decide +kernel) (by decide +kernel)) (goodIn_sub (fun _ h => List.mem_cons_of_mem _ (List.mem_append_left _ (List.mem_append_left _ (List.mem_append_left _ (List.mem_append_right _ h))))) (by decide +kernel))) (goodIn_sub (fun _ h => List.mem_cons_of_mem _ (List.mem_append_left _ (List.mem_append_left _ (List.mem_append_right _ h)))) (by decide +kernel))) (goodIn_sub (fun _ h => List.mem_cons_of_mem _ (List.mem_append_left _ (List.mem_append_right _ h))) (by decide +kernel))) (goodIn_sub (fun _ h => List.mem_cons_of_mem _ (List.mem_append_right _ h)) (by decide +kernel))
set_option maxRecDepth 20000 in
theorem gL_timesLength_X2_timesLength : GoodIn wsL_timesLength (wsV RL 134 RX2 yX2_timesLength wsX2_timesLength) := goodIn_app (goodIn_of _ (by decide +kernel)) ggL_timesLength_X2_timesLength
theorem dL_timesLength_0 : decode cL_timesLength 0 = .ok (.aload 4, 2) := by decide +kernel
theorem dL_timesLength_2 : decode cL_timesLength 2 = .ok (.iconst 0, 1) := by decide +kernel
theorem dL_timesLength_3 : decode cL_timesLength 3 = .ok (.aload_n 0, 1) := by decide +kernel
theorem dL_timesLength_4 : decode cL_timesLength 4 = .ok (.iload_n 1, 1) := by decide +kernel
theorem dL_timesLength_5 : decode cL_timesLength 5 = .ok (.iload_n 2, 1) := by decide +kernel
theorem dL_timesLength_6 : decode cL_timesLength 6 = .ok (.iload_n 3, 1) := by decide +kernel
theorem dL_timesLength_7 : decode cL_timesLength 7 = .ok (.invokevirtual 134, 3) := by decide +kernel
theorem dL_timesLength_10 : decode cL_timesLength 10 = .ok (.lastore, 1) := by decide +kernel
theorem dL_timesLength_11 : decode cL_timesLength 11 = .ok (.goto 15, 3) := by decide +kernel
theorem dL_timesLength_14 : decode cL_timesLength 14 = .ok (.astore 5, 2) := by decide +kernel
theorem dL_timesLength_16 : decode cL_timesLength 16 = .ok (.iconst 1, 1) := by decide +kernel
theorem dL_timesLength_17 : decode cL_timesLength 17 = .ok (.ireturn, 1) := by decide +kernel
theorem dL_timesLength_18 : decode cL_timesLength 18 = .ok (.astore 5, 2) := by decide +kernel
theorem dL_timesLength_20 : decode cL_timesLength 20 = .ok (.iconst 2, 1) := by decide +kernel
theorem dL_timesLength_21 : decode cL_timesLength 21 = .ok (.ireturn, 1) := by decide +kernel
theorem dL_timesLength_22 : decode cL_timesLength 22 = .ok (.astore 5, 2) := by decide +kernel
theorem dL_timesLength_24 : decode cL_timesLength 24 = .ok (.iconst 3, 1) := by decide +kernel
theorem dL_timesLength_25 : decode cL_timesLength 25 = .ok (.ireturn, 1) := by decide +kernel
theorem dL_timesLength_26 : decode cL_timesLength 26 = .ok (.iconst 0, 1) := by decide +kernel
theorem dL_timesLength_27 : decode cL_timesLength 27 = .ok (.ireturn, 1) := by decide +kernel
set_option maxRecDepth 20000 in
theorem ggL_lengthOfTimes_X2_lengthOfTimes : GoodIn wsL_lengthOfTimes wsX2_lengthOfTimes := goodIn_ca (goodIn_ca (goodIn_ca (goodIn_r _ [6, 7, 8, 9, 5, 10, 11, 12, 13, 14, 15, 16, 17, 18, 19, 20, 21, 22, 23, 24, 25, 26, 27, 28, 29, 30, 31, 32, 33, 34, 35, 36, 37, 38, 39, 40, 41, 42, 43, 44, 45, 46] (by decide +kernel) (by decide +kernel)) (goodIn_sub (fun _ h => List.mem_cons_of_mem _ (List.mem_append_left _ (List.mem_append_left _ (List.mem_append_right _ h)))) (by decide +kernel))) (goodIn_sub (fun _ h => List.mem_cons_of_mem _ (List.mem_append_left _ (List.mem_append_right _ h))) (by decide +kernel))) (goodIn_sub (fun _ h => List.mem_cons_of_mem _ (List.mem_append_right _ h)) (by decide +kernel))
set_option maxRecDepth 20000 in
theorem gL_lengthOfTimes_X2_lengthOfTimes : GoodIn wsL_lengthOfTimes (wsV RL 137 RX2 yX2_lengthOfTimes wsX2_lengthOfTimes) := goodIn_app (goodIn_of _ (by decide +kernel)) ggL_lengthOfTimes_X2_lengthOfTimes
theorem dL_lengthOfTimes_0 : decode cL_lengthOfTimes 0 = .ok (.aload 4, 2) := by decide +kernel
theorem dL_lengthOfTimes_2 : decode cL_lengthOfTimes 2 = .ok (.iconst 0, 1) := by decide +kernel
theorem dL_lengthOfTimes_3 : decode cL_lengthOfTimes 3 = .ok (.aload_n 0, 1) := by decide +kernel
theorem dL_lengthOfTimes_4 : decode cL_lengthOfTimes 4 = .ok (.iload_n 1, 1) := by decide +kernel
theorem dL_lengthOfTimes_5 : decode cL_lengthOfTimes 5 = .ok (.iload_n 2, 1) := by decide +kernel
theorem dL_lengthOfTimes_6 : decode cL_lengthOfTimes 6 = .ok (.iload_n 3, 1) := by decide +kernel
theorem dL_lengthOfTimes_7 : decode cL_lengthOfTimes 7 = .ok (.invokevirtual 137, 3) := by decide +kernel
theorem dL_lengthOfTimes_10 : decode cL_lengthOfTimes 10 = .ok (.lastore, 1) := by decide +kernel
theorem dL_lengthOfTimes_11 : decode cL_lengthOfTimes 11 = .ok (.goto 7, 3) := by decide +kernel
theorem dL_lengthOfTimes_14 : decode cL_lengthOfTimes 14 = .ok (.astore 5, 2) := by decide +kernel
theorem dL_lengthOfTimes_16 : decode cL_lengthOfTimes 16 = .ok (.iconst 1, 1) := by decide +kernel
theorem dL_lengthOfTimes_17 : decode cL_lengthOfTimes 17 = .ok (.ireturn, 1) := by decide +kernel
theorem dL_lengthOfTimes_18 : decode cL_lengthOfTimes 18 = .ok (.iconst 0, 1) := by decide +kernel
theorem dL_lengthOfTimes_19 : decode cL_lengthOfTimes 19 = .ok (.ireturn, 1) := by decide +kernel
set_option maxRecDepth 20000 in
theorem ggL_orderLengths_X2_orderLengths : GoodIn wsL_orderLengths wsX2_orderLengths := goodIn_ca (goodIn_ca (goodIn_r _ [6, 7, 8, 9, 10, 5, 11, 12, 13, 14, 15, 16, 17, 18, 19, 20, 21, 22, 23, 24, 25, 26] (by decide +kernel) (by decide +kernel)) (goodIn_sub (fun _ h => List.mem_cons_of_mem _ (List.mem_append_left _ (List.mem_append_right _ h))) (by decide +kernel))) (goodIn_sub (fun _ h => List.mem_cons_of_mem _ (List.mem_append_right _ h)) (by decide +kernel))
set_option maxRecDepth 20000 in
theorem gL_orderLengths_X2_orderLengths : GoodIn wsL_orderLengths (wsV RL 140 RX2 yX2_orderLengths wsX2_orderLengths) := goodIn_app (goodIn_of _ (by decide +kernel)) ggL_orderLengths_X2_orderLengths
theorem dL_orderLengths_0 : decode cL_orderLengths 0 = .ok (.aload_n 3, 1) := by decide +kernel
theorem dL_orderLengths_1 : decode cL_orderLengths 1 = .ok (.iconst 0, 1) := by decide +kernel
theorem dL_orderLengths_2 : decode cL_orderLengths 2 = .ok (.aload_n 0, 1) := by decide +kernel
theorem dL_orderLengths_3 : decode cL_orderLengths 3 = .ok (.iload_n 1, 1) := by decide +kernel
theorem dL_orderLengths_4 : decode cL_orderLengths 4 = .ok (.iload_n 2, 1) := by decide +kernel
theorem dL_orderLengths_5 : decode cL_orderLengths 5 = .ok (.invokevirtual 140, 3) := by decide +kernel
theorem dL_orderLengths_8 : decode cL_orderLengths 8 = .ok (.i2l, 1) := by decide +kernel
theorem dL_orderLengths_9 : decode cL_orderLengths 9 = .ok (.lastore, 1) := by decide +kernel
theorem dL_orderLengths_10 : decode cL_orderLengths 10 = .ok (.goto 7, 3) := by decide +kernel
theorem dL_orderLengths_13 : decode cL_orderLengths 13 = .ok (.astore 4, 2) := by decide +kernel
theorem dL_orderLengths_15 : decode cL_orderLengths 15 = .ok (.iconst 1, 1) := by decide +kernel
theorem dL_orderLengths_16 : decode cL_orderLengths 16 = .ok (.ireturn, 1) := by decide +kernel
theorem dL_orderLengths_17 : decode cL_orderLengths 17 = .ok (.iconst 0, 1) := by decide +kernel
theorem dL_orderLengths_18 : decode cL_orderLengths 18 = .ok (.ireturn, 1) := by decide +kernel
set_option maxRecDepth 20000 in
theorem ggL_moment_X2_moment : GoodIn wsL_moment wsX2_moment := goodIn_ca (goodIn_ca (goodIn_ca (goodIn_r _ [6, 7, 8, 9, 10, 5, 11, 12, 13, 14, 15, 16, 17, 18, 19, 20, 21, 22, 23, 24, 25, 26, 27, 28, 29, 30, 31, 32, 33, 34, 35, 36, 37, 38, 39, 40, 41, 42, 43, 44, 45, 46, 47, 48, 49, 50, 51, 52, 53] (by decide +kernel) (by decide +kernel)) (goodIn_sub (fun _ h => List.mem_cons_of_mem _ (List.mem_append_left _ (List.mem_append_left _ (List.mem_append_right _ h)))) (by decide +kernel))) (goodIn_sub (fun _ h => List.mem_cons_of_mem _ (List.mem_append_left _ (List.mem_append_right _ h))) (by decide +kernel))) (goodIn_sub (fun _ h => List.mem_cons_of_mem _ (List.mem_append_right _ h)) (by decide +kernel))
set_option maxRecDepth 20000 in
theorem gL_moment_X2_moment : GoodIn wsL_moment (wsV RL 143 RX2 yX2_moment wsX2_moment) := goodIn_app (goodIn_of _ (by decide +kernel)) ggL_moment_X2_moment
theorem dL_moment_0 : decode cL_moment 0 = .ok (.aload 4, 2) := by decide +kernel
theorem dL_moment_2 : decode cL_moment 2 = .ok (.iconst 0, 1) := by decide +kernel
theorem dL_moment_3 : decode cL_moment 3 = .ok (.aload_n 0, 1) := by decide +kernel
theorem dL_moment_4 : decode cL_moment 4 = .ok (.iload_n 1, 1) := by decide +kernel
theorem dL_moment_5 : decode cL_moment 5 = .ok (.iload_n 2, 1) := by decide +kernel
theorem dL_moment_6 : decode cL_moment 6 = .ok (.iload_n 3, 1) := by decide +kernel
theorem dL_moment_7 : decode cL_moment 7 = .ok (.invokevirtual 143, 3) := by decide +kernel
theorem dL_moment_10 : decode cL_moment 10 = .ok (.lastore, 1) := by decide +kernel
theorem dL_moment_11 : decode cL_moment 11 = .ok (.goto 7, 3) := by decide +kernel
theorem dL_moment_14 : decode cL_moment 14 = .ok (.astore 5, 2) := by decide +kernel
theorem dL_moment_16 : decode cL_moment 16 = .ok (.iconst 1, 1) := by decide +kernel
theorem dL_moment_17 : decode cL_moment 17 = .ok (.ireturn, 1) := by decide +kernel
theorem dL_moment_18 : decode cL_moment 18 = .ok (.iconst 0, 1) := by decide +kernel
theorem dL_moment_19 : decode cL_moment 19 = .ok (.ireturn, 1) := by decide +kernel
set_option maxRecDepth 20000 in
theorem ggL_dateOf_X2_dateOf : GoodIn wsL_dateOf wsX2_dateOf := goodIn_ca (goodIn_ca (goodIn_ca (goodIn_r _ [6, 7, 8, 9, 5, 10, 11, 12, 13, 14, 15, 16, 17, 18, 19, 20, 21, 22, 23, 24, 25, 26, 27, 28, 29, 30, 31, 32, 33, 34, 35, 36, 37, 38] (by decide +kernel) (by decide +kernel)) (goodIn_sub (fun _ h => List.mem_cons_of_mem _ (List.mem_append_left _ (List.mem_append_left _ (List.mem_append_right _ h)))) (by decide +kernel))) (goodIn_sub (fun _ h => List.mem_cons_of_mem _ (List.mem_append_left _ (List.mem_append_right _ h))) (by decide +kernel))) (goodIn_sub (fun _ h => List.mem_cons_of_mem _ (List.mem_append_right _ h)) (by decide +kernel))
set_option maxRecDepth 20000 in
theorem gL_dateOf_X2_dateOf : GoodIn wsL_dateOf (wsV RL 146 RX2 yX2_dateOf wsX2_dateOf) := goodIn_app (goodIn_of _ (by decide +kernel)) ggL_dateOf_X2_dateOf
theorem dL_dateOf_0 : decode cL_dateOf 0 = .ok (.aload_n 3, 1) := by decide +kernel
theorem dL_dateOf_1 : decode cL_dateOf 1 = .ok (.iconst 0, 1) := by decide +kernel
theorem dL_dateOf_2 : decode cL_dateOf 2 = .ok (.aload_n 0, 1) := by decide +kernel
theorem dL_dateOf_3 : decode cL_dateOf 3 = .ok (.iload_n 1, 1) := by decide +kernel
theorem dL_dateOf_4 : decode cL_dateOf 4 = .ok (.iload_n 2, 1) := by decide +kernel
theorem dL_dateOf_5 : decode cL_dateOf 5 = .ok (.invokevirtual 146, 3) := by decide +kernel
theorem dL_dateOf_8 : decode cL_dateOf 8 = .ok (.lastore, 1) := by decide +kernel
theorem dL_dateOf_9 : decode cL_dateOf 9 = .ok (.goto 7, 3) := by decide +kernel
theorem dL_dateOf_12 : decode cL_dateOf 12 = .ok (.astore 4, 2) := by decide +kernel
theorem dL_dateOf_14 : decode cL_dateOf 14 = .ok (.iconst 1, 1) := by decide +kernel
theorem dL_dateOf_15 : decode cL_dateOf 15 = .ok (.ireturn, 1) := by decide +kernel
theorem dL_dateOf_16 : decode cL_dateOf 16 = .ok (.iconst 0, 1) := by decide +kernel
theorem dL_dateOf_17 : decode cL_dateOf 17 = .ok (.ireturn, 1) := by decide +kernel
set_option maxRecDepth 20000 in
theorem ggL_timeOf_X2_timeOf : GoodIn wsL_timeOf wsX2_timeOf := goodIn_ca (goodIn_ca (goodIn_r _ [6, 7, 8, 9, 10, 5, 11, 12, 13, 14, 15, 16, 17, 18, 19, 20, 21, 22, 23] (by decide +kernel) (by decide +kernel)) (goodIn_sub (fun _ h => List.mem_cons_of_mem _ (List.mem_append_left _ (List.mem_append_right _ h))) (by decide +kernel))) (goodIn_sub (fun _ h => List.mem_cons_of_mem _ (List.mem_append_right _ h)) (by decide +kernel))
set_option maxRecDepth 20000 in
theorem gL_timeOf_X2_timeOf : GoodIn wsL_timeOf (wsV RL 149 RX2 yX2_timeOf wsX2_timeOf) := goodIn_app (goodIn_of _ (by decide +kernel)) ggL_timeOf_X2_timeOf
theorem dL_timeOf_0 : decode cL_timeOf 0 = .ok (.aload_n 3, 1) := by decide +kernel
theorem dL_timeOf_1 : decode cL_timeOf 1 = .ok (.iconst 0, 1) := by decide +kernel
theorem dL_timeOf_2 : decode cL_timeOf 2 = .ok (.aload_n 0, 1) := by decide +kernel
theorem dL_timeOf_3 : decode cL_timeOf 3 = .ok (.iload_n 1, 1) := by decide +kernel
theorem dL_timeOf_4 : decode cL_timeOf 4 = .ok (.iload_n 2, 1) := by decide +kernel
theorem dL_timeOf_5 : decode cL_timeOf 5 = .ok (.invokevirtual 149, 3) := by decide +kernel
theorem dL_timeOf_8 : decode cL_timeOf 8 = .ok (.lastore, 1) := by decide +kernel
theorem dL_timeOf_9 : decode cL_timeOf 9 = .ok (.goto 7, 3) := by decide +kernel
theorem dL_timeOf_12 : decode cL_timeOf 12 = .ok (.astore 4, 2) := by decide +kernel
theorem dL_timeOf_14 : decode cL_timeOf 14 = .ok (.iconst 1, 1) := by decide +kernel
theorem dL_timeOf_15 : decode cL_timeOf 15 = .ok (.ireturn, 1) := by decide +kernel
theorem dL_timeOf_16 : decode cL_timeOf 16 = .ok (.iconst 0, 1) := by decide +kernel
theorem dL_timeOf_17 : decode cL_timeOf 17 = .ok (.ireturn, 1) := by decide +kernel
set_option maxRecDepth 20000 in
theorem ggL_moveMoment_X2_moveMoment : GoodIn wsL_moveMoment wsX2_moveMoment := goodIn_ca (goodIn_ca (goodIn_ca (goodIn_ca (goodIn_r _ [8, 9, 10, 11, 12, 13, 14, 15, 16, 7, 17, 18, 19, 20, 21, 22, 23, 24, 25, 26, 27, 28, 29, 30, 31, 32, 33, 34, 35, 36, 37, 38, 39, 40, 41, 42, 43, 44, 45, 46, 47, 48, 49, 50, 51, 52, 53, 54, 55, 56, 57, 58, 59, 60, 61, 62, 63, 64, 65, 66, 67, 68, 69, 70, 71, 72, 73, 74, 75, 76, 77, 78, 79, 80, 81, 82, 83, 84, 85, 86, 87, 88, 89, 90, 91, 92, 93, 94, 95, 96, 97, 98, 99, 100, 101, 102, 103, 104, 105, 106, 107, 108, 109, 110, 111, 112, 113, 114, 115, 116, 117, 118, 119, 120, 121, 122, 123, 124, 125, 126, 127, 128, 129, 130, 131, 132, 133, 134, 135, 136, 137] (by decide +kernel) (by decide +kernel)) (goodIn_sub (fun _ h => List.mem_cons_of_mem _ (List.mem_append_left _ (List.mem_append_left _ (List.mem_append_left _ (List.mem_append_right _ h))))) (by decide +kernel))) (goodIn_sub (fun _ h => List.mem_cons_of_mem _ (List.mem_append_left _ (List.mem_append_left _ (List.mem_append_right _ h)))) (by decide +kernel))) (goodIn_sub (fun _ h => List.mem_cons_of_mem _ (List.mem_append_left _ (List.mem_append_right _ h))) (by decide +kernel))) (goodIn_sub (fun _ h => List.mem_cons_of_mem _ (List.mem_append_right _ h)) (by decide +kernel))
set_option maxRecDepth 20000 in
theorem gL_moveMoment_X2_moveMoment : GoodIn wsL_moveMoment (wsV RL 152 RX2 yX2_moveMoment wsX2_moveMoment) := goodIn_app (goodIn_of _ (by decide +kernel)) ggL_moveMoment_X2_moveMoment
theorem dL_moveMoment_0 : decode cL_moveMoment 0 = .ok (.aload 6, 2) := by decide +kernel
theorem dL_moveMoment_2 : decode cL_moveMoment 2 = .ok (.iconst 0, 1) := by decide +kernel
theorem dL_moveMoment_3 : decode cL_moveMoment 3 = .ok (.aload_n 0, 1) := by decide +kernel
theorem dL_moveMoment_4 : decode cL_moveMoment 4 = .ok (.iload_n 1, 1) := by decide +kernel
theorem dL_moveMoment_5 : decode cL_moveMoment 5 = .ok (.iload_n 2, 1) := by decide +kernel
theorem dL_moveMoment_6 : decode cL_moveMoment 6 = .ok (.lload_n 3, 1) := by decide +kernel
theorem dL_moveMoment_7 : decode cL_moveMoment 7 = .ok (.iload 5, 2) := by decide +kernel
theorem dL_moveMoment_9 : decode cL_moveMoment 9 = .ok (.invokevirtual 152, 3) := by decide +kernel
theorem dL_moveMoment_12 : decode cL_moveMoment 12 = .ok (.lastore, 1) := by decide +kernel
theorem dL_moveMoment_13 : decode cL_moveMoment 13 = .ok (.goto 15, 3) := by decide +kernel
theorem dL_moveMoment_16 : decode cL_moveMoment 16 = .ok (.astore 7, 2) := by decide +kernel
theorem dL_moveMoment_18 : decode cL_moveMoment 18 = .ok (.iconst 1, 1) := by decide +kernel
theorem dL_moveMoment_19 : decode cL_moveMoment 19 = .ok (.ireturn, 1) := by decide +kernel
theorem dL_moveMoment_20 : decode cL_moveMoment 20 = .ok (.astore 7, 2) := by decide +kernel
theorem dL_moveMoment_22 : decode cL_moveMoment 22 = .ok (.iconst 2, 1) := by decide +kernel
theorem dL_moveMoment_23 : decode cL_moveMoment 23 = .ok (.ireturn, 1) := by decide +kernel
theorem dL_moveMoment_24 : decode cL_moveMoment 24 = .ok (.astore 7, 2) := by decide +kernel
theorem dL_moveMoment_26 : decode cL_moveMoment 26 = .ok (.iconst 3, 1) := by decide +kernel
theorem dL_moveMoment_27 : decode cL_moveMoment 27 = .ok (.ireturn, 1) := by decide +kernel
theorem dL_moveMoment_28 : decode cL_moveMoment 28 = .ok (.iconst 0, 1) := by decide +kernel
theorem dL_moveMoment_29 : decode cL_moveMoment 29 = .ok (.ireturn, 1) := by decide +kernel
set_option maxRecDepth 20000 in
theorem ggL_goMoment_X2_goMoment : GoodIn wsL_goMoment wsX2_goMoment := goodIn_ca (goodIn_ca (goodIn_ca (goodIn_r _ [7, 8, 9, 10, 11, 12, 13, 14, 6, 15, 16, 17, 18, 19, 20, 21, 22, 23, 24, 25, 26, 27, 28, 29, 30, 31, 32, 33, 34, 35, 36, 37, 38, 39, 40, 41, 42, 43, 44, 45, 46, 47, 48, 49, 50, 51, 52, 53, 54, 55, 56, 57, 58, 59, 60, 61, 62] (by decide +kernel) (by decide +kernel)) (goodIn_sub (fun _ h => List.mem_cons_of_mem _ (List.mem_append_left _ (List.mem_append_left _ (List.mem_append_right _ h)))) (by decide +kernel))) (goodIn_sub (fun _ h => List.mem_cons_of_mem _ (List.mem_append_left _ (List.mem_append_right _ h))) (by decide +kernel))) (goodIn_sub (fun _ h => List.mem_cons_of_mem _ (List.mem_append_right _ h)) (by decide +kernel))
set_option maxRecDepth 20000 in
theorem gL_goMoment_X2_goMoment : GoodIn wsL_goMoment (wsV RL 155 RX2 yX2_goMoment wsX2_goMoment) := goodIn_app (goodIn_of _ (by decide +kernel)) ggL_goMoment_X2_goMoment
theorem dL_goMoment_0 : decode cL_goMoment 0 = .ok (.aload 5, 2) := by decide +kernel
theorem dL_goMoment_2 : decode cL_goMoment 2 = .ok (.iconst 0, 1) := by decide +kernel
theorem dL_goMoment_3 : decode cL_goMoment 3 = .ok (.aload_n 0, 1) := by decide +kernel
theorem dL_goMoment_4 : decode cL_goMoment 4 = .ok (.iload_n 1, 1) := by decide +kernel
theorem dL_goMoment_5 : decode cL_goMoment 5 = .ok (.iload_n 2, 1) := by decide +kernel
theorem dL_goMoment_6 : decode cL_goMoment 6 = .ok (.iload_n 3, 1) := by decide +kernel
theorem dL_goMoment_7 : decode cL_goMoment 7 = .ok (.iload 4, 2) := by decide +kernel
theorem dL_goMoment_9 : decode cL_goMoment 9 = .ok (.invokevirtual 155, 3) := by decide +kernel
theorem dL_goMoment_12 : decode cL_goMoment 12 = .ok (.lastore, 1) := by decide +kernel
theorem dL_goMoment_13 : decode cL_goMoment 13 = .ok (.goto 11, 3) := by decide +kernel
theorem dL_goMoment_16 : decode cL_goMoment 16 = .ok (.astore 6, 2) := by decide +kernel
theorem dL_goMoment_18 : decode cL_goMoment 18 = .ok (.iconst 1, 1) := by decide +kernel
theorem dL_goMoment_19 : decode cL_goMoment 19 = .ok (.ireturn, 1) := by decide +kernel
theorem dL_goMoment_20 : decode cL_goMoment 20 = .ok (.astore 6, 2) := by decide +kernel
theorem dL_goMoment_22 : decode cL_goMoment 22 = .ok (.iconst 2, 1) := by decide +kernel
theorem dL_goMoment_23 : decode cL_goMoment 23 = .ok (.ireturn, 1) := by decide +kernel
theorem dL_goMoment_24 : decode cL_goMoment 24 = .ok (.iconst 0, 1) := by decide +kernel
theorem dL_goMoment_25 : decode cL_goMoment 25 = .ok (.ireturn, 1) := by decide +kernel
set_option maxRecDepth 20000 in
theorem ggL_lengthOfMoments_X2_lengthOfMoments : GoodIn wsL_lengthOfMoments wsX2_lengthOfMoments := goodIn_ca (goodIn_ca (goodIn_ca (goodIn_r _ [6, 7, 8, 9, 10, 11, 5, 12, 13, 14, 15, 16, 17, 18, 19, 20, 21, 22, 23, 24, 25, 26, 27, 28, 29, 30, 31, 32, 33, 34, 35, 36, 37, 38, 39, 40, 41, 42, 43, 44, 45, 46, 47, 48] (by decide +kernel) (by decide +kernel)) (goodIn_sub (fun _ h => List.mem_cons_of_mem _ (List.mem_append_left _ (List.mem_append_left _ (List.mem_append_right _ h)))) (by decide +kernel))) (goodIn_sub (fun _ h => List.mem_cons_of_mem _ (List.mem_append_left _ (List.mem_append_right _ h))) (by decide +kernel))) (goodIn_sub (fun _ h => List.mem_cons_of_mem _ (List.mem_append_right _ h)) (by decide +kernel))
set_option maxRecDepth 20000 in
theorem gL_lengthOfMoments_X2_lengthOfMoments : GoodIn wsL_lengthOfMoments (wsV RL 158 RX2 yX2_lengthOfMoments wsX2_lengthOfMoments) := goodIn_app (goodIn_of _ (by decide +kernel)) ggL_lengthOfMoments_X2_lengthOfMoments
theorem dL_lengthOfMoments_0 : decode cL_lengthOfMoments 0 = .ok (.aload 4, 2) := by decide +kernel
theorem dL_lengthOfMoments_2 : decode cL_lengthOfMoments 2 = .ok (.iconst 0, 1) := by decide +kernel
theorem dL_lengthOfMoments_3 : decode cL_lengthOfMoments 3 = .ok (.aload_n 0, 1) := by decide +kernel
theorem dL_lengthOfMoments_4 : decode cL_lengthOfMoments 4 = .ok (.iload_n 1, 1) := by decide +kernel
theorem dL_lengthOfMoments_5 : decode cL_lengthOfMoments 5 = .ok (.iload_n 2, 1) := by decide +kernel
theorem dL_lengthOfMoments_6 : decode cL_lengthOfMoments 6 = .ok (.iload_n 3, 1) := by decide +kernel
theorem dL_lengthOfMoments_7 : decode cL_lengthOfMoments 7 = .ok (.invokevirtual 158, 3) := by decide +kernel
theorem dL_lengthOfMoments_10 : decode cL_lengthOfMoments 10 = .ok (.lastore, 1) := by decide +kernel
theorem dL_lengthOfMoments_11 : decode cL_lengthOfMoments 11 = .ok (.goto 7, 3) := by decide +kernel
theorem dL_lengthOfMoments_14 : decode cL_lengthOfMoments 14 = .ok (.astore 5, 2) := by decide +kernel
theorem dL_lengthOfMoments_16 : decode cL_lengthOfMoments 16 = .ok (.iconst 1, 1) := by decide +kernel
theorem dL_lengthOfMoments_17 : decode cL_lengthOfMoments 17 = .ok (.ireturn, 1) := by decide +kernel
theorem dL_lengthOfMoments_18 : decode cL_lengthOfMoments 18 = .ok (.iconst 0, 1) := by decide +kernel
theorem dL_lengthOfMoments_19 : decode cL_lengthOfMoments 19 = .ok (.ireturn, 1) := by decide +kernel
set_option maxRecDepth 20000 in
theorem ggL_whole_X2_whole : GoodIn wsL_whole wsX2_whole := goodIn_ca (goodIn_ca (goodIn_ca (goodIn_r _ [7, 8, 9, 10, 11, 12, 13, 14, 15, 6, 16, 17, 18, 19, 20, 21, 22, 23, 24, 25, 26, 27, 28, 29, 30, 31, 32, 33, 34, 35, 36, 37, 38] (by decide +kernel) (by decide +kernel)) (goodIn_sub (fun _ h => List.mem_cons_of_mem _ (List.mem_append_left _ (List.mem_append_left _ (List.mem_append_right _ h)))) (by decide +kernel))) (goodIn_sub (fun _ h => List.mem_cons_of_mem _ (List.mem_append_left _ (List.mem_append_right _ h))) (by decide +kernel))) (goodIn_sub (fun _ h => List.mem_cons_of_mem _ (List.mem_append_right _ h)) (by decide +kernel))
set_option maxRecDepth 20000 in
theorem gL_whole_X2_whole : GoodIn wsL_whole (wsV RL 161 RX2 yX2_whole wsX2_whole) := goodIn_app (goodIn_of _ (by decide +kernel)) ggL_whole_X2_whole
theorem dL_whole_0 : decode cL_whole 0 = .ok (.aload 4, 2) := by decide +kernel
theorem dL_whole_2 : decode cL_whole 2 = .ok (.iconst 0, 1) := by decide +kernel
theorem dL_whole_3 : decode cL_whole 3 = .ok (.aload_n 0, 1) := by decide +kernel
theorem dL_whole_4 : decode cL_whole 4 = .ok (.iload_n 1, 1) := by decide +kernel
theorem dL_whole_5 : decode cL_whole 5 = .ok (.iload_n 2, 1) := by decide +kernel
theorem dL_whole_6 : decode cL_whole 6 = .ok (.iload_n 3, 1) := by decide +kernel
theorem dL_whole_7 : decode cL_whole 7 = .ok (.invokevirtual 161, 3) := by decide +kernel
theorem dL_whole_10 : decode cL_whole 10 = .ok (.lastore, 1) := by decide +kernel
theorem dL_whole_11 : decode cL_whole 11 = .ok (.goto 11, 3) := by decide +kernel
theorem dL_whole_14 : decode cL_whole 14 = .ok (.astore 5, 2) := by decide +kernel
theorem dL_whole_16 : decode cL_whole 16 = .ok (.iconst 1, 1) := by decide +kernel
theorem dL_whole_17 : decode cL_whole 17 = .ok (.ireturn, 1) := by decide +kernel
theorem dL_whole_18 : decode cL_whole 18 = .ok (.astore 5, 2) := by decide +kernel
theorem dL_whole_20 : decode cL_whole 20 = .ok (.iconst 2, 1) := by decide +kernel
theorem dL_whole_21 : decode cL_whole 21 = .ok (.ireturn, 1) := by decide +kernel
theorem dL_whole_22 : decode cL_whole 22 = .ok (.iconst 0, 1) := by decide +kernel
theorem dL_whole_23 : decode cL_whole 23 = .ok (.ireturn, 1) := by decide +kernel
set_option maxRecDepth 20000 in
theorem ggL_orderMoments_X2_orderMoments : GoodIn wsL_orderMoments wsX2_orderMoments := goodIn_ca (goodIn_ca (goodIn_r _ [6, 7, 8, 9, 10, 5, 11, 12, 13, 14, 15, 16, 17, 18, 19, 20, 21, 22, 23, 24, 25, 26] (by decide +kernel) (by decide +kernel)) (goodIn_sub (fun _ h => List.mem_cons_of_mem _ (List.mem_append_left _ (List.mem_append_right _ h))) (by decide +kernel))) (goodIn_sub (fun _ h => List.mem_cons_of_mem _ (List.mem_append_right _ h)) (by decide +kernel))
set_option maxRecDepth 20000 in
theorem gL_orderMoments_X2_orderMoments : GoodIn wsL_orderMoments (wsV RL 164 RX2 yX2_orderMoments wsX2_orderMoments) := goodIn_app (goodIn_of _ (by decide +kernel)) ggL_orderMoments_X2_orderMoments
theorem dL_orderMoments_0 : decode cL_orderMoments 0 = .ok (.aload_n 3, 1) := by decide +kernel
theorem dL_orderMoments_1 : decode cL_orderMoments 1 = .ok (.iconst 0, 1) := by decide +kernel
theorem dL_orderMoments_2 : decode cL_orderMoments 2 = .ok (.aload_n 0, 1) := by decide +kernel
theorem dL_orderMoments_3 : decode cL_orderMoments 3 = .ok (.iload_n 1, 1) := by decide +kernel
theorem dL_orderMoments_4 : decode cL_orderMoments 4 = .ok (.iload_n 2, 1) := by decide +kernel
theorem dL_orderMoments_5 : decode cL_orderMoments 5 = .ok (.invokevirtual 164, 3) := by decide +kernel
theorem dL_orderMoments_8 : decode cL_orderMoments 8 = .ok (.i2l, 1) := by decide +kernel
theorem dL_orderMoments_9 : decode cL_orderMoments 9 = .ok (.lastore, 1) := by decide +kernel
theorem dL_orderMoments_10 : decode cL_orderMoments 10 = .ok (.goto 7, 3) := by decide +kernel
theorem dL_orderMoments_13 : decode cL_orderMoments 13 = .ok (.astore 4, 2) := by decide +kernel
theorem dL_orderMoments_15 : decode cL_orderMoments 15 = .ok (.iconst 1, 1) := by decide +kernel
theorem dL_orderMoments_16 : decode cL_orderMoments 16 = .ok (.ireturn, 1) := by decide +kernel
theorem dL_orderMoments_17 : decode cL_orderMoments 17 = .ok (.iconst 0, 1) := by decide +kernel
theorem dL_orderMoments_18 : decode cL_orderMoments 18 = .ok (.ireturn, 1) := by decide +kernel
set_option maxRecDepth 20000 in
theorem ggL_law_X2_init : GoodIn wsL_law wsX2_init := goodIn_ca (goodIn_r _ [10, 11, 12, 13, 6, 14, 15, 16, 17, 18, 19, 20, 21, 22, 23, 24, 953, 954, 955, 956, 957, 958, 959, 960, 961, 962] (by decide +kernel) (by decide +kernel)) (goodIn_sub (fun _ h => List.mem_append_left _ (List.mem_append_left _ (List.mem_append_left _ (List.mem_append_right _ h)))) (by decide +kernel))
set_option maxRecDepth 20000 in
theorem gL_law_X2_init : GoodIn wsL_law (wsX2_init) := ggL_law_X2_init
set_option maxRecDepth 20000 in
theorem ggL_law_X3_init : GoodIn wsL_law wsX3_init := goodIn_ca (goodIn_r _ [27, 28, 12, 13, 6, 29, 30, 31, 32, 33, 34, 35, 36, 37, 38, 39, 963, 964, 965, 966, 967, 968, 969, 970, 971, 972, 973, 974, 975, 976] (by decide +kernel) (by decide +kernel)) (goodIn_sub (fun _ h => List.mem_append_left _ (List.mem_append_left _ (List.mem_append_left _ (List.mem_append_right _ h)))) (by decide +kernel))
set_option maxRecDepth 20000 in
theorem gL_law_X3_init : GoodIn wsL_law (wsX3_init) := ggL_law_X3_init
set_option maxRecDepth 20000 in
theorem ggL_law_L_date : GoodIn wsL_law wsL_date := goodIn_ca (goodIn_ca (goodIn_ca (goodIn_ca (goodIn_r _ [43, 44, 45, 46, 47, 48, 2, 49, 50, 51, 52, 53, 54, 55, 56, 57, 58, 59, 60, 61, 62, 63, 64, 65, 66, 67, 68, 69, 70, 71, 72, 73, 74, 75, 76, 77, 78, 79, 80, 81, 82, 83, 84, 85, 86, 87, 88, 89, 90, 91, 92, 93, 94, 95, 96, 97, 98, 99, 100, 101, 102, 103, 104, 105, 106, 107, 108, 109, 110, 111, 14, 112, 113, 114, 115, 116, 117, 118, 119, 120, 121, 953, 954, 955, 956, 957, 958, 959, 960, 961, 962] (by decide +kernel) (by decide +kernel)) (goodIn_sub (fun _ h => List.mem_append_left _ (List.mem_append_left _ (List.mem_append_left _ (List.mem_append_right _ h)))) (by decide +kernel))) (goodIn_sub (fun _ h => List.mem_append_left _ (List.mem_append_left _ (List.mem_append_right _ h))) (by decide +kernel))) (goodIn_sub (fun _ h => List.mem_append_left _ (List.mem_append_right _ h)) (by decide +kernel))) (goodIn_sub (fun _ h => List.mem_append_right _ h) (by decide +kernel))
set_option maxRecDepth 20000 in
theorem gL_law_L_date : GoodIn wsL_law (va_wsS RL 171 yL_date wsL_date) := goodIn_app (goodIn_of _ (by decide +kernel)) ggL_law_L_date
set_option maxRecDepth 20000 in
theorem ggL_law_X3_date : GoodIn wsL_law wsX3_date := goodIn_ca (goodIn_r _ [125, 126, 29, 127, 128, 5, 129, 130, 131, 132, 133, 134, 135, 136, 137, 138, 139, 140, 141, 142, 143, 144, 145, 146, 147, 148, 149, 150, 151, 152, 153, 154, 155, 156, 157, 158, 159, 160, 161, 162, 163, 164, 165, 166, 167, 168, 169, 170, 171, 172, 963, 964, 965, 966, 967, 968, 969, 970, 971, 972, 973, 974, 975, 976] (by decide +kernel) (by decide +kernel)) (goodIn_sub (fun _ h => List.mem_append_left _ (List.mem_append_left _ (List.mem_append_left _ (List.mem_append_right _ h)))) (by decide +kernel))
set_option maxRecDepth 20000 in
theorem gL_law_X3_date : GoodIn wsL_law (wsV RL 176 RX3 yX3_date wsX3_date) := goodIn_app (goodIn_of _ (by decide +kernel)) ggL_law_X3_date
set_option maxRecDepth 20000 in
theorem ggL_law_X3_thrown : GoodIn wsL_law wsX3_thrown := goodIn_r _ [176, 158, 963, 964, 965, 966, 967, 968, 969, 970, 971, 972, 973, 974, 975, 976] (by decide +kernel) (by decide +kernel)
set_option maxRecDepth 20000 in
theorem gL_law_X3_thrown : GoodIn wsL_law (wsV RL 177 RX3 yX3_thrown wsX3_thrown) := goodIn_app (goodIn_of _ (by decide +kernel)) ggL_law_X3_thrown
set_option maxRecDepth 20000 in
theorem ggL_law_L_ofDay : GoodIn wsL_law wsL_ofDay := goodIn_ca (goodIn_ca (goodIn_ca (goodIn_r _ [179, 44, 180, 181, 182, 183, 2, 184, 51, 52, 53, 54, 55, 108, 109, 110, 111, 14, 112, 113, 71, 114, 115, 116, 117, 118, 119, 120, 121, 185, 186, 187, 95, 107, 188, 87, 88, 82, 89, 100, 101, 102, 103, 93, 104, 94, 105, 106, 953, 954, 955, 956, 957, 958, 959, 960, 961, 962] (by decide +kernel) (by decide +kernel)) (goodIn_sub (fun _ h => List.mem_append_left _ (List.mem_append_left _ (List.mem_append_left _ (List.mem_append_right _ h)))) (by decide +kernel))) (goodIn_sub (fun _ h => List.mem_append_left _ (List.mem_append_left _ (List.mem_append_right _ h))) (by decide +kernel))) (goodIn_sub (fun _ h => List.mem_append_right _ h) (by decide +kernel))
set_option maxRecDepth 20000 in
theorem gL_law_L_ofDay : GoodIn wsL_law (va_wsS RL 183 yL_ofDay wsL_ofDay) := goodIn_app (goodIn_of _ (by decide +kernel)) ggL_law_L_ofDay
set_option maxRecDepth 20000 in
theorem ggL_law_X3_ofDay : GoodIn wsL_law wsX3_ofDay := goodIn_ca (goodIn_r _ [192, 137, 193, 29, 194, 127, 128, 5, 129, 130, 131, 132, 133, 162, 163, 164, 165, 166, 167, 168, 169, 170, 145, 171, 146, 172, 147, 151, 152, 153, 154, 155, 156, 157, 158, 195, 196, 197, 198, 199, 200, 201, 139, 140, 141, 142, 143, 144, 148, 149, 150, 963, 964, 965, 966, 967, 968, 969, 970, 971, 972, 973, 974, 975, 976] (by decide +kernel) (by decide +kernel)) (goodIn_sub (fun _ h => List.mem_append_left _ (List.mem_append_left _ (List.mem_append_left _ (List.mem_append_right _ h)))) (by decide +kernel))
set_option maxRecDepth 20000 in
theorem gL_law_X3_ofDay : GoodIn wsL_law (wsV RL 186 RX3 yX3_ofDay wsX3_ofDay) := goodIn_app (goodIn_of _ (by decide +kernel)) ggL_law_X3_ofDay
set_option maxRecDepth 20000 in
theorem ggL_law_L_day : GoodIn wsL_law wsL_day := goodIn_ca (goodIn_ca (goodIn_r _ [204, 44, 205, 206, 207, 2, 208, 14, 51, 52, 53, 54, 55, 953, 954, 955, 956, 957, 958, 959, 960, 961, 962] (by decide +kernel) (by decide +kernel)) (goodIn_sub (fun _ h => List.mem_append_left _ (List.mem_append_left _ (List.mem_append_left _ (List.mem_append_right _ h)))) (by decide +kernel))) (goodIn_sub (fun _ h => List.mem_append_left _ (List.mem_append_left _ (List.mem_append_right _ h))) (by decide +kernel))
set_option maxRecDepth 20000 in
theorem gL_law_L_day : GoodIn wsL_law (va_wsS RL 187 yL_day wsL_day) := goodIn_app (goodIn_of _ (by decide +kernel)) ggL_law_L_day
set_option maxRecDepth 20000 in
theorem ggL_law_X3_day : GoodIn wsL_law wsX3_day := goodIn_ca (goodIn_r _ [212, 29, 127, 128, 5, 129, 130, 131, 132, 133, 154, 155, 156, 157, 158, 963, 964, 965, 966, 967, 968, 969, 970, 971, 972, 973, 974, 975, 976] (by decide +kernel) (by decide +kernel)) (goodIn_sub (fun _ h => List.mem_append_left _ (List.mem_append_left _ (List.mem_append_left _ (List.mem_append_right _ h)))) (by decide +kernel))
set_option maxRecDepth 20000 in
theorem gL_law_X3_day : GoodIn wsL_law (wsV RL 190 RX3 yX3_day wsX3_day) := goodIn_app (goodIn_of _ (by decide +kernel)) ggL_law_X3_day
set_option maxRecDepth 20000 in
theorem ggL_law_L_part : GoodIn wsL_law wsL_part := goodIn_ca (goodIn_ca (goodIn_ca (goodIn_r _ [215, 44, 45, 216, 217, 218, 2, 219, 67, 68, 14, 51, 52, 53, 54, 55, 185, 186, 71, 187, 95, 107, 188, 87, 88, 82, 89, 100, 101, 102, 103, 93, 104, 94, 105, 106, 220, 221, 222, 73, 223, 224, 225, 90, 91, 92, 226, 70, 72, 227, 78, 79, 80, 81, 83, 228, 229, 230, 231, 232, 97, 98, 99, 84, 85, 86, 77, 233, 234, 235, 236, 237, 74, 75, 76, 238, 239, 240, 241, 953, 954, 955, 956, 957, 958, 959, 960, 961, 962] (by decide +kernel) (by decide +kernel)) (goodIn_sub (fun _ h => List.mem_append_left _ (List.mem_append_left _ (List.mem_append_left _ (List.mem_append_right _ h)))) (by decide +kernel))) (goodIn_sub (fun _ h => List.mem_append_left _ (List.mem_append_right _ h)) (by decide +kernel))) (goodIn_sub (fun _ h => List.mem_append_left _ (List.mem_append_left _ (List.mem_append_right _ h))) (by decide +kernel))
set_option maxRecDepth 20000 in
theorem gL_law_L_part : GoodIn wsL_law (va_wsS RL 191 yL_part wsL_part) := goodIn_app (goodIn_of _ (by decide +kernel)) ggL_law_L_part
set_option maxRecDepth 20000 in
theorem ggL_law_X3_part : GoodIn wsL_law wsX3_part := goodIn_ca (goodIn_r _ [245, 29, 194, 200, 201, 127, 128, 5, 129, 130, 131, 132, 133, 154, 155, 156, 157, 158, 195, 196, 197, 198, 165, 147, 199, 151, 152, 153, 162, 163, 164, 166, 167, 168, 169, 170, 145, 171, 146, 172, 139, 140, 141, 142, 143, 144, 148, 149, 150, 246, 247, 248, 249, 963, 964, 965, 966, 967, 968, 969, 970, 971, 972, 973, 974, 975, 976] (by decide +kernel) (by decide +kernel)) (goodIn_sub (fun _ h => List.mem_append_left _ (List.mem_append_left _ (List.mem_append_left _ (List.mem_append_right _ h)))) (by decide +kernel))
set_option maxRecDepth 20000 in
theorem gL_law_X3_part : GoodIn wsL_law (wsV RL 194 RX3 yX3_part wsX3_part) := goodIn_app (goodIn_of _ (by decide +kernel)) ggL_law_X3_part
set_option maxRecDepth 20000 in
theorem ggL_law_L_move : GoodIn wsL_law wsL_move := goodIn_ca (goodIn_ca (goodIn_ca (goodIn_ca (goodIn_r _ [252, 44, 45, 180, 253, 254, 255, 2, 256, 257, 258, 14, 51, 52, 53, 54, 55, 259, 260, 71, 261, 64, 65, 66, 67, 68, 61, 62, 63, 262, 263, 264, 237, 73, 265, 266, 267, 231, 221, 222, 223, 224, 225, 186, 187, 95, 107, 188, 87, 88, 82, 89, 100, 101, 102, 103, 93, 104, 94, 105, 106, 90, 91, 92, 226, 70, 72, 232, 97, 98, 99, 84, 85, 86, 77, 78, 79, 80, 81, 83, 268, 269, 270, 271, 272, 273, 274, 275, 75, 76, 108, 109, 110, 111, 112, 113, 114, 115, 116, 117, 118, 119, 120, 121, 953, 954, 955, 956, 957, 958, 959, 960, 961, 962] (by decide +kernel) (by decide +kernel)) (goodIn_sub (fun _ h => List.mem_append_left _ (List.mem_append_left _ (List.mem_append_left _ (List.mem_append_right _ h)))) (by decide +kernel))) (goodIn_sub (fun _ h => List.mem_append_left _ (List.mem_append_left _ (List.mem_append_right _ h))) (by decide +kernel))) (goodIn_sub (fun _ h => List.mem_append_left _ (List.mem_append_right _ h)) (by decide +kernel))) (goodIn_sub (fun _ h => List.mem_append_right _ h) (by decide +kernel))
