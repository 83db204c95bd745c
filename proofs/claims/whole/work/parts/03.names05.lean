theorem wsL_law_x0 : ∀ w ∈ (vx_atM "java/lang/ArrayIndexOutOfBoundsException" ["java/lang/IndexOutOfBoundsException", "java/lang/RuntimeException", "java/lang/Exception"]).filter goodWord, w ∈ lw_tbl := by decide +kernel
theorem wsL_law_x1 : ∀ w ∈ (vx_atS RX2 293 "java/lang/IndexOutOfBoundsException" ["java/lang/RuntimeException", "java/lang/Exception"]).filter goodWord, w ∈ lw_tbl := by decide +kernel
theorem wsL_law_x2 : ∀ w ∈ (vx_atS RX2 105 "java/lang/IllegalArgumentException" ["java/lang/RuntimeException", "java/lang/Exception"]).filter goodWord, w ∈ lw_tbl := by decide +kernel
theorem wsL_law_x3 : ∀ w ∈ (vx_atS RX2 300 "java/lang/UnsupportedOperationException" ["java/lang/RuntimeException", "java/lang/Exception"]).filter goodWord, w ∈ lw_tbl := by decide +kernel
theorem wsL_law_in : ∀ w ∈ wsL_law, w ∈ lw_tbl := fun w h => (List.mem_append.mp h).elim (fun h => (List.mem_append.mp h).elim (fun h => (List.mem_append.mp h).elim (fun h => (List.mem_append.mp h).elim (fun h => wsL_law_in0 w h) (fun h => wsL_law_x0 w h)) (fun h => wsL_law_x1 w h)) (fun h => wsL_law_x2 w h)) (fun h => wsL_law_x3 w h)
theorem inX0 : ∀ w ∈ wsX00, w ∈ lw_tbl := by decide +kernel
theorem inX1 : ∀ w ∈ wsX10, w ∈ lw_tbl := by decide +kernel
theorem inlX2 : ∀ w ∈ wsX20, w ∈ wsL_law := fun _ h => List.mem_append_left _ (List.mem_append_left _ (List.mem_append_left _ (List.mem_append_left _ (List.mem_append_left _ (List.mem_append_left _ (List.mem_append_right _ h))))))
theorem inX2 : ∀ w ∈ wsX20, w ∈ lw_tbl := fun w h => wsL_law_in w (inlX2 w h)
theorem inlX3 : ∀ w ∈ wsX30, w ∈ wsL_law := fun _ h => List.mem_append_left _ (List.mem_append_left _ (List.mem_append_left _ (List.mem_append_left _ (List.mem_append_left _ (List.mem_append_right _ h)))))
theorem inX3 : ∀ w ∈ wsX30, w ∈ lw_tbl := fun w h => wsL_law_in w (inlX3 w h)
theorem inJx00060 : ∀ w ∈ wsJx000600, w ∈ lw_tbl := by decide +kernel
theorem inJ9 : ∀ w ∈ wsJ90, w ∈ lw_tbl := by decide +kernel
theorem inJ0 : ∀ w ∈ wsJ00, w ∈ lw_tbl := by decide +kernel
theorem dX0_countInDay_0 : decode cX0_countInDay 0 = .ok (.iload_n 0, 1) := by decide +kernel
theorem dX0_countInDay_1 : decode cX0_countInDay 1 = .ok (.lookupswitch 59 #[(104, 43), (105, 47), (110, 55), (115, 51)], 43) := by decide +kernel
theorem dX0_countInDay_44 : decode cX0_countInDay 44 = .ok (.ldc2_w 7, 3) := by decide +kernel
theorem dX0_countInDay_47 : decode cX0_countInDay 47 = .ok (.lreturn, 1) := by decide +kernel
theorem dX0_countInDay_48 : decode cX0_countInDay 48 = .ok (.ldc2_w 9, 3) := by decide +kernel
theorem dX0_countInDay_51 : decode cX0_countInDay 51 = .ok (.lreturn, 1) := by decide +kernel
theorem dX0_countInDay_52 : decode cX0_countInDay 52 = .ok (.ldc2_w 13, 3) := by decide +kernel
theorem dX0_countInDay_55 : decode cX0_countInDay 55 = .ok (.lreturn, 1) := by decide +kernel
theorem dX0_countInDay_56 : decode cX0_countInDay 56 = .ok (.ldc2_w 15, 3) := by decide +kernel
theorem dX0_countInDay_59 : decode cX0_countInDay 59 = .ok (.lreturn, 1) := by decide +kernel
theorem dX0_countInDay_60 : decode cX0_countInDay 60 = .ok (.lconst 0, 1) := by decide +kernel
theorem dX0_countInDay_61 : decode cX0_countInDay 61 = .ok (.lreturn, 1) := by decide +kernel
set_option maxRecDepth 20000 in
theorem ggX0_roundDay_J9_floorMod_f86c9 : GoodIn wsX0_roundDay wsJ9_floorMod_f86c9 := goodIn_r _ [5] (by decide +kernel) (by decide +kernel)
set_option maxRecDepth 20000 in
theorem gX0_roundDay_J9_floorMod_f86c9 : GoodIn wsX0_roundDay (va_wsS RX0 17 yJ9_floorMod_f86c9 wsJ9_floorMod_f86c9) := goodIn_app (goodIn_of _ (by decide +kernel)) ggX0_roundDay_J9_floorMod_f86c9
theorem dX0_roundDay_0 : decode cX0_roundDay 0 = .ok (.lload_n 0, 1) := by decide +kernel
theorem dX0_roundDay_1 : decode cX0_roundDay 1 = .ok (.ldc2_w 15, 3) := by decide +kernel
theorem dX0_roundDay_4 : decode cX0_roundDay 4 = .ok (.invokestatic 17, 3) := by decide +kernel
theorem dX0_roundDay_7 : decode cX0_roundDay 7 = .ok (.lreturn, 1) := by decide +kernel
set_option maxRecDepth 20000 in
theorem ggX0_daysOf_J9_floorDiv_f86c9 : GoodIn wsX0_daysOf wsJ9_floorDiv_f86c9 := goodIn_r _ [4] (by decide +kernel) (by decide +kernel)
set_option maxRecDepth 20000 in
theorem gX0_daysOf_J9_floorDiv_f86c9 : GoodIn wsX0_daysOf (va_wsS RX0 23 yJ9_floorDiv_f86c9 wsJ9_floorDiv_f86c9) := goodIn_app (goodIn_of _ (by decide +kernel)) ggX0_daysOf_J9_floorDiv_f86c9
theorem dX0_daysOf_0 : decode cX0_daysOf 0 = .ok (.lload_n 2, 1) := by decide +kernel
theorem dX0_daysOf_1 : decode cX0_daysOf 1 = .ok (.lconst 0, 1) := by decide +kernel
theorem dX0_daysOf_2 : decode cX0_daysOf 2 = .ok (.lcmp, 1) := by decide +kernel
theorem dX0_daysOf_3 : decode cX0_daysOf 3 = .ok (.ifCond .le 11, 3) := by decide +kernel
theorem dX0_daysOf_6 : decode cX0_daysOf 6 = .ok (.lload_n 0, 1) := by decide +kernel
theorem dX0_daysOf_7 : decode cX0_daysOf 7 = .ok (.lload_n 2, 1) := by decide +kernel
theorem dX0_daysOf_8 : decode cX0_daysOf 8 = .ok (.invokestatic 23, 3) := by decide +kernel
theorem dX0_daysOf_11 : decode cX0_daysOf 11 = .ok (.goto 4, 3) := by decide +kernel
theorem dX0_daysOf_14 : decode cX0_daysOf 14 = .ok (.lconst 0, 1) := by decide +kernel
theorem dX0_daysOf_15 : decode cX0_daysOf 15 = .ok (.lreturn, 1) := by decide +kernel
set_option maxRecDepth 20000 in
theorem ggX0_restOfDay_J9_floorMod_f86c9 : GoodIn wsX0_restOfDay wsJ9_floorMod_f86c9 := goodIn_r _ [5] (by decide +kernel) (by decide +kernel)
set_option maxRecDepth 20000 in
theorem gX0_restOfDay_J9_floorMod_f86c9 : GoodIn wsX0_restOfDay (va_wsS RX0 17 yJ9_floorMod_f86c9 wsJ9_floorMod_f86c9) := goodIn_app (goodIn_of _ (by decide +kernel)) ggX0_restOfDay_J9_floorMod_f86c9
theorem dX0_restOfDay_0 : decode cX0_restOfDay 0 = .ok (.lload_n 2, 1) := by decide +kernel
theorem dX0_restOfDay_1 : decode cX0_restOfDay 1 = .ok (.lconst 0, 1) := by decide +kernel
theorem dX0_restOfDay_2 : decode cX0_restOfDay 2 = .ok (.lcmp, 1) := by decide +kernel
theorem dX0_restOfDay_3 : decode cX0_restOfDay 3 = .ok (.ifCond .le 17, 3) := by decide +kernel
theorem dX0_restOfDay_6 : decode cX0_restOfDay 6 = .ok (.lload_n 0, 1) := by decide +kernel
theorem dX0_restOfDay_7 : decode cX0_restOfDay 7 = .ok (.lload_n 2, 1) := by decide +kernel
theorem dX0_restOfDay_8 : decode cX0_restOfDay 8 = .ok (.invokestatic 17, 3) := by decide +kernel
theorem dX0_restOfDay_11 : decode cX0_restOfDay 11 = .ok (.ldc2_w 15, 3) := by decide +kernel
theorem dX0_restOfDay_14 : decode cX0_restOfDay 14 = .ok (.lload_n 2, 1) := by decide +kernel
theorem dX0_restOfDay_15 : decode cX0_restOfDay 15 = .ok (.ldiv, 1) := by decide +kernel
theorem dX0_restOfDay_16 : decode cX0_restOfDay 16 = .ok (.lmul, 1) := by decide +kernel
theorem dX0_restOfDay_17 : decode cX0_restOfDay 17 = .ok (.goto 4, 3) := by decide +kernel
theorem dX0_restOfDay_20 : decode cX0_restOfDay 20 = .ok (.lconst 0, 1) := by decide +kernel
theorem dX0_restOfDay_21 : decode cX0_restOfDay 21 = .ok (.lreturn, 1) := by decide +kernel
theorem dX0_cut_0 : decode cX0_cut 0 = .ok (.lload_n 0, 1) := by decide +kernel
theorem dX0_cut_1 : decode cX0_cut 1 = .ok (.lconst 0, 1) := by decide +kernel
theorem dX0_cut_2 : decode cX0_cut 2 = .ok (.lcmp, 1) := by decide +kernel
theorem dX0_cut_3 : decode cX0_cut 3 = .ok (.ifCond .le 13, 3) := by decide +kernel
theorem dX0_cut_6 : decode cX0_cut 6 = .ok (.lload_n 2, 1) := by decide +kernel
theorem dX0_cut_7 : decode cX0_cut 7 = .ok (.lconst 0, 1) := by decide +kernel
theorem dX0_cut_8 : decode cX0_cut 8 = .ok (.lcmp, 1) := by decide +kernel
theorem dX0_cut_9 : decode cX0_cut 9 = .ok (.ifCond .ge 7, 3) := by decide +kernel
theorem dX0_cut_12 : decode cX0_cut 12 = .ok (.lload_n 0, 1) := by decide +kernel
theorem dX0_cut_13 : decode cX0_cut 13 = .ok (.lconst 1, 1) := by decide +kernel
theorem dX0_cut_14 : decode cX0_cut 14 = .ok (.lsub, 1) := by decide +kernel
theorem dX0_cut_15 : decode cX0_cut 15 = .ok (.lreturn, 1) := by decide +kernel
theorem dX0_cut_16 : decode cX0_cut 16 = .ok (.lload_n 0, 1) := by decide +kernel
theorem dX0_cut_17 : decode cX0_cut 17 = .ok (.lconst 0, 1) := by decide +kernel
theorem dX0_cut_18 : decode cX0_cut 18 = .ok (.lcmp, 1) := by decide +kernel
theorem dX0_cut_19 : decode cX0_cut 19 = .ok (.ifCond .ge 15, 3) := by decide +kernel
theorem dX0_cut_22 : decode cX0_cut 22 = .ok (.lload_n 2, 1) := by decide +kernel
theorem dX0_cut_23 : decode cX0_cut 23 = .ok (.lconst 0, 1) := by decide +kernel
theorem dX0_cut_24 : decode cX0_cut 24 = .ok (.lcmp, 1) := by decide +kernel
theorem dX0_cut_25 : decode cX0_cut 25 = .ok (.ifCond .le 9, 3) := by decide +kernel
theorem dX0_cut_28 : decode cX0_cut 28 = .ok (.lload_n 0, 1) := by decide +kernel
theorem dX0_cut_29 : decode cX0_cut 29 = .ok (.lconst 1, 1) := by decide +kernel
theorem dX0_cut_30 : decode cX0_cut 30 = .ok (.ladd, 1) := by decide +kernel
theorem dX0_cut_31 : decode cX0_cut 31 = .ok (.goto 4, 3) := by decide +kernel
theorem dX0_cut_34 : decode cX0_cut 34 = .ok (.lload_n 0, 1) := by decide +kernel
theorem dX0_cut_35 : decode cX0_cut 35 = .ok (.lreturn, 1) := by decide +kernel
set_option maxRecDepth 20000 in
theorem ggX0_wholeSeconds_X0_cut : GoodIn wsX0_wholeSeconds wsX0_cut := goodIn_r _ [6] (by decide +kernel) (by decide +kernel)
set_option maxRecDepth 20000 in
theorem gX0_wholeSeconds_X0_cut : GoodIn wsX0_wholeSeconds (va_wsS RX0 28 yX0_cut wsX0_cut) := goodIn_app (goodIn_of _ (by decide +kernel)) ggX0_wholeSeconds_X0_cut
theorem dX0_wholeSeconds_0 : decode cX0_wholeSeconds 0 = .ok (.lload_n 0, 1) := by decide +kernel
theorem dX0_wholeSeconds_1 : decode cX0_wholeSeconds 1 = .ok (.ldc2_w 13, 3) := by decide +kernel
theorem dX0_wholeSeconds_4 : decode cX0_wholeSeconds 4 = .ok (.lmul, 1) := by decide +kernel
theorem dX0_wholeSeconds_5 : decode cX0_wholeSeconds 5 = .ok (.lload_n 2, 1) := by decide +kernel
theorem dX0_wholeSeconds_6 : decode cX0_wholeSeconds 6 = .ok (.ldc2_w 26, 3) := by decide +kernel
theorem dX0_wholeSeconds_9 : decode cX0_wholeSeconds 9 = .ok (.ldiv, 1) := by decide +kernel
theorem dX0_wholeSeconds_10 : decode cX0_wholeSeconds 10 = .ok (.ladd, 1) := by decide +kernel
theorem dX0_wholeSeconds_11 : decode cX0_wholeSeconds 11 = .ok (.lload_n 2, 1) := by decide +kernel
theorem dX0_wholeSeconds_12 : decode cX0_wholeSeconds 12 = .ok (.ldc2_w 26, 3) := by decide +kernel
theorem dX0_wholeSeconds_15 : decode cX0_wholeSeconds 15 = .ok (.lrem, 1) := by decide +kernel
theorem dX0_wholeSeconds_16 : decode cX0_wholeSeconds 16 = .ok (.invokestatic 28, 3) := by decide +kernel
theorem dX0_wholeSeconds_19 : decode cX0_wholeSeconds 19 = .ok (.lreturn, 1) := by decide +kernel
theorem dX1_isDay_0 : decode cX1_isDay 0 = .ok (.ldc2_w 9, 3) := by decide +kernel
theorem dX1_isDay_3 : decode cX1_isDay 3 = .ok (.lload_n 0, 1) := by decide +kernel
theorem dX1_isDay_4 : decode cX1_isDay 4 = .ok (.lcmp, 1) := by decide +kernel
theorem dX1_isDay_5 : decode cX1_isDay 5 = .ok (.ifCond .gt 15, 3) := by decide +kernel
theorem dX1_isDay_8 : decode cX1_isDay 8 = .ok (.lload_n 0, 1) := by decide +kernel
theorem dX1_isDay_9 : decode cX1_isDay 9 = .ok (.ldc2_w 11, 3) := by decide +kernel
theorem dX1_isDay_12 : decode cX1_isDay 12 = .ok (.lcmp, 1) := by decide +kernel
theorem dX1_isDay_13 : decode cX1_isDay 13 = .ok (.ifCond .gt 7, 3) := by decide +kernel
theorem dX1_isDay_16 : decode cX1_isDay 16 = .ok (.iconst 1, 1) := by decide +kernel
theorem dX1_isDay_17 : decode cX1_isDay 17 = .ok (.goto 4, 3) := by decide +kernel
theorem dX1_isDay_20 : decode cX1_isDay 20 = .ok (.iconst 0, 1) := by decide +kernel
theorem dX1_isDay_21 : decode cX1_isDay 21 = .ok (.ireturn, 1) := by decide +kernel
theorem dX1_isUnit_0 : decode cX1_isUnit 0 = .ok (.iload_n 0, 1) := by decide +kernel
theorem dX1_isUnit_1 : decode cX1_isUnit 1 = .ok (.bipush 100, 2) := by decide +kernel
theorem dX1_isUnit_3 : decode cX1_isUnit 3 = .ok (.if_icmp .eq 21, 3) := by decide +kernel
theorem dX1_isUnit_6 : decode cX1_isUnit 6 = .ok (.iload_n 0, 1) := by decide +kernel
theorem dX1_isUnit_7 : decode cX1_isUnit 7 = .ok (.bipush 119, 2) := by decide +kernel
theorem dX1_isUnit_9 : decode cX1_isUnit 9 = .ok (.if_icmp .eq 15, 3) := by decide +kernel
theorem dX1_isUnit_12 : decode cX1_isUnit 12 = .ok (.iload_n 0, 1) := by decide +kernel
theorem dX1_isUnit_13 : decode cX1_isUnit 13 = .ok (.bipush 109, 2) := by decide +kernel
theorem dX1_isUnit_15 : decode cX1_isUnit 15 = .ok (.if_icmp .eq 9, 3) := by decide +kernel
theorem dX1_isUnit_18 : decode cX1_isUnit 18 = .ok (.iload_n 0, 1) := by decide +kernel
theorem dX1_isUnit_19 : decode cX1_isUnit 19 = .ok (.bipush 121, 2) := by decide +kernel
theorem dX1_isUnit_21 : decode cX1_isUnit 21 = .ok (.if_icmp .ne 7, 3) := by decide +kernel
theorem dX1_isUnit_24 : decode cX1_isUnit 24 = .ok (.iconst 1, 1) := by decide +kernel
theorem dX1_isUnit_25 : decode cX1_isUnit 25 = .ok (.goto 4, 3) := by decide +kernel
theorem dX1_isUnit_28 : decode cX1_isUnit 28 = .ok (.iconst 0, 1) := by decide +kernel
theorem dX1_isUnit_29 : decode cX1_isUnit 29 = .ok (.ireturn, 1) := by decide +kernel
theorem dX1_isLongYear_0 : decode cX1_isLongYear 0 = .ok (.lload_n 0, 1) := by decide +kernel
theorem dX1_isLongYear_1 : decode cX1_isLongYear 1 = .ok (.ldc2_w 13, 3) := by decide +kernel
theorem dX1_isLongYear_4 : decode cX1_isLongYear 4 = .ok (.lrem, 1) := by decide +kernel
theorem dX1_isLongYear_5 : decode cX1_isLongYear 5 = .ok (.lconst 0, 1) := by decide +kernel
theorem dX1_isLongYear_6 : decode cX1_isLongYear 6 = .ok (.lcmp, 1) := by decide +kernel
theorem dX1_isLongYear_7 : decode cX1_isLongYear 7 = .ok (.ifCond .ne 27, 3) := by decide +kernel
theorem dX1_isLongYear_10 : decode cX1_isLongYear 10 = .ok (.lload_n 0, 1) := by decide +kernel
theorem dX1_isLongYear_11 : decode cX1_isLongYear 11 = .ok (.ldc2_w 15, 3) := by decide +kernel
theorem dX1_isLongYear_14 : decode cX1_isLongYear 14 = .ok (.lrem, 1) := by decide +kernel
theorem dX1_isLongYear_15 : decode cX1_isLongYear 15 = .ok (.lconst 0, 1) := by decide +kernel
theorem dX1_isLongYear_16 : decode cX1_isLongYear 16 = .ok (.lcmp, 1) := by decide +kernel
theorem dX1_isLongYear_17 : decode cX1_isLongYear 17 = .ok (.ifCond .ne 13, 3) := by decide +kernel
theorem dX1_isLongYear_20 : decode cX1_isLongYear 20 = .ok (.lload_n 0, 1) := by decide +kernel
theorem dX1_isLongYear_21 : decode cX1_isLongYear 21 = .ok (.ldc2_w 17, 3) := by decide +kernel
theorem dX1_isLongYear_24 : decode cX1_isLongYear 24 = .ok (.lrem, 1) := by decide +kernel
theorem dX1_isLongYear_25 : decode cX1_isLongYear 25 = .ok (.lconst 0, 1) := by decide +kernel
theorem dX1_isLongYear_26 : decode cX1_isLongYear 26 = .ok (.lcmp, 1) := by decide +kernel
theorem dX1_isLongYear_27 : decode cX1_isLongYear 27 = .ok (.ifCond .ne 7, 3) := by decide +kernel
theorem dX1_isLongYear_30 : decode cX1_isLongYear 30 = .ok (.iconst 1, 1) := by decide +kernel
theorem dX1_isLongYear_31 : decode cX1_isLongYear 31 = .ok (.goto 4, 3) := by decide +kernel
theorem dX1_isLongYear_34 : decode cX1_isLongYear 34 = .ok (.iconst 0, 1) := by decide +kernel
theorem dX1_isLongYear_35 : decode cX1_isLongYear 35 = .ok (.ireturn, 1) := by decide +kernel
set_option maxRecDepth 20000 in
theorem ggX1_lengthOfYear_X1_isLongYear : GoodIn wsX1_lengthOfYear wsX1_isLongYear := goodIn_r _ [4, 5, 6, 7] (by decide +kernel) (by decide +kernel)
set_option maxRecDepth 20000 in
theorem gX1_lengthOfYear_X1_isLongYear : GoodIn wsX1_lengthOfYear (va_wsS RX1 19 yX1_isLongYear wsX1_isLongYear) := goodIn_app (goodIn_of _ (by decide +kernel)) ggX1_lengthOfYear_X1_isLongYear
theorem dX1_lengthOfYear_0 : decode cX1_lengthOfYear 0 = .ok (.lload_n 0, 1) := by decide +kernel
theorem dX1_lengthOfYear_1 : decode cX1_lengthOfYear 1 = .ok (.invokestatic 19, 3) := by decide +kernel
theorem dX1_lengthOfYear_4 : decode cX1_lengthOfYear 4 = .ok (.ifCond .eq 9, 3) := by decide +kernel
theorem dX1_lengthOfYear_7 : decode cX1_lengthOfYear 7 = .ok (.sipush 366, 3) := by decide +kernel
theorem dX1_lengthOfYear_10 : decode cX1_lengthOfYear 10 = .ok (.goto 6, 3) := by decide +kernel
theorem dX1_lengthOfYear_13 : decode cX1_lengthOfYear 13 = .ok (.sipush 365, 3) := by decide +kernel
theorem dX1_lengthOfYear_16 : decode cX1_lengthOfYear 16 = .ok (.ireturn, 1) := by decide +kernel
theorem dX1_monthIndex_0 : decode cX1_monthIndex 0 = .ok (.ldc2_w 23, 3) := by decide +kernel
theorem dX1_monthIndex_3 : decode cX1_monthIndex 3 = .ok (.lload_n 0, 1) := by decide +kernel
theorem dX1_monthIndex_4 : decode cX1_monthIndex 4 = .ok (.lmul, 1) := by decide +kernel
theorem dX1_monthIndex_5 : decode cX1_monthIndex 5 = .ok (.lload_n 2, 1) := by decide +kernel
theorem dX1_monthIndex_6 : decode cX1_monthIndex 6 = .ok (.ladd, 1) := by decide +kernel
theorem dX1_monthIndex_7 : decode cX1_monthIndex 7 = .ok (.lconst 1, 1) := by decide +kernel
theorem dX1_monthIndex_8 : decode cX1_monthIndex 8 = .ok (.lsub, 1) := by decide +kernel
theorem dX1_monthIndex_9 : decode cX1_monthIndex 9 = .ok (.lreturn, 1) := by decide +kernel
set_option maxRecDepth 20000 in
theorem ggX1_yearOfMonth_J9_floorDiv_f86c9 : GoodIn wsX1_yearOfMonth wsJ9_floorDiv_f86c9 := goodIn_r _ [5] (by decide +kernel) (by decide +kernel)
set_option maxRecDepth 20000 in
theorem gX1_yearOfMonth_J9_floorDiv_f86c9 : GoodIn wsX1_yearOfMonth (va_wsS RX1 25 yJ9_floorDiv_f86c9 wsJ9_floorDiv_f86c9) := goodIn_app (goodIn_of _ (by decide +kernel)) ggX1_yearOfMonth_J9_floorDiv_f86c9
theorem dX1_yearOfMonth_0 : decode cX1_yearOfMonth 0 = .ok (.lload_n 0, 1) := by decide +kernel
theorem dX1_yearOfMonth_1 : decode cX1_yearOfMonth 1 = .ok (.ldc2_w 23, 3) := by decide +kernel
theorem dX1_yearOfMonth_4 : decode cX1_yearOfMonth 4 = .ok (.invokestatic 25, 3) := by decide +kernel
theorem dX1_yearOfMonth_7 : decode cX1_yearOfMonth 7 = .ok (.lreturn, 1) := by decide +kernel
set_option maxRecDepth 20000 in
theorem ggX1_monthInYear_J9_floorMod_f86c9 : GoodIn wsX1_monthInYear wsJ9_floorMod_f86c9 := goodIn_r _ [5] (by decide +kernel) (by decide +kernel)
set_option maxRecDepth 20000 in
theorem gX1_monthInYear_J9_floorMod_f86c9 : GoodIn wsX1_monthInYear (va_wsS RX1 31 yJ9_floorMod_f86c9 wsJ9_floorMod_f86c9) := goodIn_app (goodIn_of _ (by decide +kernel)) ggX1_monthInYear_J9_floorMod_f86c9
theorem dX1_monthInYear_0 : decode cX1_monthInYear 0 = .ok (.lload_n 0, 1) := by decide +kernel
theorem dX1_monthInYear_1 : decode cX1_monthInYear 1 = .ok (.ldc2_w 23, 3) := by decide +kernel
theorem dX1_monthInYear_4 : decode cX1_monthInYear 4 = .ok (.invokestatic 31, 3) := by decide +kernel
theorem dX1_monthInYear_7 : decode cX1_monthInYear 7 = .ok (.l2i, 1) := by decide +kernel
theorem dX1_monthInYear_8 : decode cX1_monthInYear 8 = .ok (.iconst 1, 1) := by decide +kernel
theorem dX1_monthInYear_9 : decode cX1_monthInYear 9 = .ok (.iadd, 1) := by decide +kernel
theorem dX1_monthInYear_10 : decode cX1_monthInYear 10 = .ok (.ireturn, 1) := by decide +kernel
set_option maxRecDepth 20000 in
theorem ggX1_lengthOfMonth_X1_monthInYear : GoodIn wsX1_lengthOfMonth wsX1_monthInYear := goodIn_r _ [4, 5, 6, 7, 8, 9] (by decide +kernel) (by decide +kernel)
set_option maxRecDepth 20000 in
theorem gX1_lengthOfMonth_X1_monthInYear : GoodIn wsX1_lengthOfMonth (va_wsS RX1 34 yX1_monthInYear wsX1_monthInYear) := goodIn_app (goodIn_of _ (by decide +kernel)) ggX1_lengthOfMonth_X1_monthInYear
set_option maxRecDepth 20000 in
theorem ggX1_lengthOfMonth_X1_yearOfMonth : GoodIn wsX1_lengthOfMonth wsX1_yearOfMonth := goodIn_r _ [12, 5, 13, 14, 8, 15] (by decide +kernel) (by decide +kernel)
set_option maxRecDepth 20000 in
theorem gX1_lengthOfMonth_X1_yearOfMonth : GoodIn wsX1_lengthOfMonth (va_wsS RX1 38 yX1_yearOfMonth wsX1_yearOfMonth) := goodIn_app (goodIn_of _ (by decide +kernel)) ggX1_lengthOfMonth_X1_yearOfMonth
set_option maxRecDepth 20000 in
theorem ggX1_lengthOfMonth_X1_isLongYear : GoodIn wsX1_lengthOfMonth wsX1_isLongYear := goodIn_r _ [18, 19, 20, 21] (by decide +kernel) (by decide +kernel)
set_option maxRecDepth 20000 in
theorem gX1_lengthOfMonth_X1_isLongYear : GoodIn wsX1_lengthOfMonth (va_wsS RX1 19 yX1_isLongYear wsX1_isLongYear) := goodIn_app (goodIn_of _ (by decide +kernel)) ggX1_lengthOfMonth_X1_isLongYear
theorem dX1_lengthOfMonth_0 : decode cX1_lengthOfMonth 0 = .ok (.lload_n 0, 1) := by decide +kernel
theorem dX1_lengthOfMonth_1 : decode cX1_lengthOfMonth 1 = .ok (.invokestatic 34, 3) := by decide +kernel
theorem dX1_lengthOfMonth_4 : decode cX1_lengthOfMonth 4 = .ok (.tableswitch 77 2 11 #[56, 77, 74, 77, 74, 77, 77, 74, 77, 74], 56) := by decide +kernel
theorem dX1_lengthOfMonth_60 : decode cX1_lengthOfMonth 60 = .ok (.lload_n 0, 1) := by decide +kernel
theorem dX1_lengthOfMonth_61 : decode cX1_lengthOfMonth 61 = .ok (.invokestatic 38, 3) := by decide +kernel
theorem dX1_lengthOfMonth_64 : decode cX1_lengthOfMonth 64 = .ok (.invokestatic 19, 3) := by decide +kernel
theorem dX1_lengthOfMonth_67 : decode cX1_lengthOfMonth 67 = .ok (.ifCond .eq 8, 3) := by decide +kernel
theorem dX1_lengthOfMonth_70 : decode cX1_lengthOfMonth 70 = .ok (.bipush 29, 2) := by decide +kernel
theorem dX1_lengthOfMonth_72 : decode cX1_lengthOfMonth 72 = .ok (.goto 5, 3) := by decide +kernel
theorem dX1_lengthOfMonth_75 : decode cX1_lengthOfMonth 75 = .ok (.bipush 28, 2) := by decide +kernel
theorem dX1_lengthOfMonth_77 : decode cX1_lengthOfMonth 77 = .ok (.ireturn, 1) := by decide +kernel
theorem dX1_lengthOfMonth_78 : decode cX1_lengthOfMonth 78 = .ok (.bipush 30, 2) := by decide +kernel
theorem dX1_lengthOfMonth_80 : decode cX1_lengthOfMonth 80 = .ok (.ireturn, 1) := by decide +kernel
theorem dX1_lengthOfMonth_81 : decode cX1_lengthOfMonth 81 = .ok (.bipush 31, 2) := by decide +kernel
theorem dX1_lengthOfMonth_83 : decode cX1_lengthOfMonth 83 = .ok (.ireturn, 1) := by decide +kernel
set_option maxRecDepth 20000 in
theorem ggX1_firstOfYear_J9_floorDiv_f86c9 : GoodIn wsX1_firstOfYear wsJ9_floorDiv_f86c9 := goodIn_r _ [12] (by decide +kernel) (by decide +kernel)
set_option maxRecDepth 20000 in
theorem gX1_firstOfYear_J9_floorDiv_f86c9 : GoodIn wsX1_firstOfYear (va_wsS RX1 25 yJ9_floorDiv_f86c9 wsJ9_floorDiv_f86c9) := goodIn_app (goodIn_of _ (by decide +kernel)) ggX1_firstOfYear_J9_floorDiv_f86c9
theorem dX1_firstOfYear_0 : decode cX1_firstOfYear 0 = .ok (.lload_n 0, 1) := by decide +kernel
theorem dX1_firstOfYear_1 : decode cX1_firstOfYear 1 = .ok (.ldc2_w 42, 3) := by decide +kernel
theorem dX1_firstOfYear_4 : decode cX1_firstOfYear 4 = .ok (.ladd, 1) := by decide +kernel
theorem dX1_firstOfYear_5 : decode cX1_firstOfYear 5 = .ok (.ldc2_w 13, 3) := by decide +kernel
theorem dX1_firstOfYear_8 : decode cX1_firstOfYear 8 = .ok (.invokestatic 25, 3) := by decide +kernel
theorem dX1_firstOfYear_11 : decode cX1_firstOfYear 11 = .ok (.lload_n 0, 1) := by decide +kernel
theorem dX1_firstOfYear_12 : decode cX1_firstOfYear 12 = .ok (.ldc2_w 44, 3) := by decide +kernel
theorem dX1_firstOfYear_15 : decode cX1_firstOfYear 15 = .ok (.ladd, 1) := by decide +kernel
theorem dX1_firstOfYear_16 : decode cX1_firstOfYear 16 = .ok (.ldc2_w 15, 3) := by decide +kernel
theorem dX1_firstOfYear_19 : decode cX1_firstOfYear 19 = .ok (.invokestatic 25, 3) := by decide +kernel
theorem dX1_firstOfYear_22 : decode cX1_firstOfYear 22 = .ok (.lsub, 1) := by decide +kernel
theorem dX1_firstOfYear_23 : decode cX1_firstOfYear 23 = .ok (.lload_n 0, 1) := by decide +kernel
theorem dX1_firstOfYear_24 : decode cX1_firstOfYear 24 = .ok (.ldc2_w 46, 3) := by decide +kernel
theorem dX1_firstOfYear_27 : decode cX1_firstOfYear 27 = .ok (.ladd, 1) := by decide +kernel
theorem dX1_firstOfYear_28 : decode cX1_firstOfYear 28 = .ok (.ldc2_w 17, 3) := by decide +kernel
theorem dX1_firstOfYear_31 : decode cX1_firstOfYear 31 = .ok (.invokestatic 25, 3) := by decide +kernel
theorem dX1_firstOfYear_34 : decode cX1_firstOfYear 34 = .ok (.ladd, 1) := by decide +kernel
theorem dX1_firstOfYear_35 : decode cX1_firstOfYear 35 = .ok (.lstore_n 2, 1) := by decide +kernel
theorem dX1_firstOfYear_36 : decode cX1_firstOfYear 36 = .ok (.ldc2_w 48, 3) := by decide +kernel
theorem dX1_firstOfYear_39 : decode cX1_firstOfYear 39 = .ok (.lload_n 0, 1) := by decide +kernel
theorem dX1_firstOfYear_40 : decode cX1_firstOfYear 40 = .ok (.lmul, 1) := by decide +kernel
theorem dX1_firstOfYear_41 : decode cX1_firstOfYear 41 = .ok (.lload_n 2, 1) := by decide +kernel
theorem dX1_firstOfYear_42 : decode cX1_firstOfYear 42 = .ok (.ladd, 1) := by decide +kernel
theorem dX1_firstOfYear_43 : decode cX1_firstOfYear 43 = .ok (.ldc2_w 50, 3) := by decide +kernel
theorem dX1_firstOfYear_46 : decode cX1_firstOfYear 46 = .ok (.lsub, 1) := by decide +kernel
theorem dX1_firstOfYear_47 : decode cX1_firstOfYear 47 = .ok (.lreturn, 1) := by decide +kernel
set_option maxRecDepth 20000 in
theorem ggX1_firstOfMonth_X1_yearOfMonth : GoodIn wsX1_firstOfMonth wsX1_yearOfMonth := goodIn_r _ [5, 6, 7, 8, 9, 10] (by decide +kernel) (by decide +kernel)
set_option maxRecDepth 20000 in
theorem gX1_firstOfMonth_X1_yearOfMonth : GoodIn wsX1_firstOfMonth (va_wsS RX1 38 yX1_yearOfMonth wsX1_yearOfMonth) := goodIn_app (goodIn_of _ (by decide +kernel)) ggX1_firstOfMonth_X1_yearOfMonth
set_option maxRecDepth 20000 in
theorem ggX1_firstOfMonth_X1_monthInYear : GoodIn wsX1_firstOfMonth wsX1_monthInYear := goodIn_r _ [13, 6, 14, 15, 9, 16] (by decide +kernel) (by decide +kernel)
set_option maxRecDepth 20000 in
theorem gX1_firstOfMonth_X1_monthInYear : GoodIn wsX1_firstOfMonth (va_wsS RX1 34 yX1_monthInYear wsX1_monthInYear) := goodIn_app (goodIn_of _ (by decide +kernel)) ggX1_firstOfMonth_X1_monthInYear
set_option maxRecDepth 20000 in
theorem ggX1_firstOfMonth_X1_isLongYear : GoodIn wsX1_firstOfMonth wsX1_isLongYear := goodIn_r _ [19, 20, 21, 22] (by decide +kernel) (by decide +kernel)
set_option maxRecDepth 20000 in
theorem gX1_firstOfMonth_X1_isLongYear : GoodIn wsX1_firstOfMonth (va_wsS RX1 19 yX1_isLongYear wsX1_isLongYear) := goodIn_app (goodIn_of _ (by decide +kernel)) ggX1_firstOfMonth_X1_isLongYear
set_option maxRecDepth 20000 in
theorem ggX1_firstOfMonth_X1_firstOfYear : GoodIn wsX1_firstOfMonth wsX1_firstOfYear := goodIn_r _ [25, 26, 20, 27, 21, 28, 22, 29, 30, 7, 8, 9, 10] (by decide +kernel) (by decide +kernel)
set_option maxRecDepth 20000 in
theorem gX1_firstOfMonth_X1_firstOfYear : GoodIn wsX1_firstOfMonth (va_wsS RX1 54 yX1_firstOfYear wsX1_firstOfYear) := goodIn_app (goodIn_of _ (by decide +kernel)) ggX1_firstOfMonth_X1_firstOfYear
theorem dX1_firstOfMonth_0 : decode cX1_firstOfMonth 0 = .ok (.lload_n 0, 1) := by decide +kernel
theorem dX1_firstOfMonth_1 : decode cX1_firstOfMonth 1 = .ok (.invokestatic 38, 3) := by decide +kernel
theorem dX1_firstOfMonth_4 : decode cX1_firstOfMonth 4 = .ok (.lstore_n 2, 1) := by decide +kernel
theorem dX1_firstOfMonth_5 : decode cX1_firstOfMonth 5 = .ok (.lload_n 0, 1) := by decide +kernel
theorem dX1_firstOfMonth_6 : decode cX1_firstOfMonth 6 = .ok (.invokestatic 34, 3) := by decide +kernel
theorem dX1_firstOfMonth_9 : decode cX1_firstOfMonth 9 = .ok (.istore 4, 2) := by decide +kernel
theorem dX1_firstOfMonth_11 : decode cX1_firstOfMonth 11 = .ok (.sipush 367, 3) := by decide +kernel
theorem dX1_firstOfMonth_14 : decode cX1_firstOfMonth 14 = .ok (.iload 4, 2) := by decide +kernel
theorem dX1_firstOfMonth_16 : decode cX1_firstOfMonth 16 = .ok (.imul, 1) := by decide +kernel
theorem dX1_firstOfMonth_17 : decode cX1_firstOfMonth 17 = .ok (.sipush 362, 3) := by decide +kernel
theorem dX1_firstOfMonth_20 : decode cX1_firstOfMonth 20 = .ok (.isub, 1) := by decide +kernel
theorem dX1_firstOfMonth_21 : decode cX1_firstOfMonth 21 = .ok (.bipush 12, 2) := by decide +kernel
theorem dX1_firstOfMonth_23 : decode cX1_firstOfMonth 23 = .ok (.idiv, 1) := by decide +kernel
theorem dX1_firstOfMonth_24 : decode cX1_firstOfMonth 24 = .ok (.i2l, 1) := by decide +kernel
theorem dX1_firstOfMonth_25 : decode cX1_firstOfMonth 25 = .ok (.lstore 5, 2) := by decide +kernel
theorem dX1_firstOfMonth_27 : decode cX1_firstOfMonth 27 = .ok (.iload 4, 2) := by decide +kernel
theorem dX1_firstOfMonth_29 : decode cX1_firstOfMonth 29 = .ok (.iconst 2, 1) := by decide +kernel
theorem dX1_firstOfMonth_30 : decode cX1_firstOfMonth 30 = .ok (.if_icmp .le 22, 3) := by decide +kernel
theorem dX1_firstOfMonth_33 : decode cX1_firstOfMonth 33 = .ok (.lload 5, 2) := by decide +kernel
theorem dX1_firstOfMonth_35 : decode cX1_firstOfMonth 35 = .ok (.lload_n 2, 1) := by decide +kernel
theorem dX1_firstOfMonth_36 : decode cX1_firstOfMonth 36 = .ok (.invokestatic 19, 3) := by decide +kernel
theorem dX1_firstOfMonth_39 : decode cX1_firstOfMonth 39 = .ok (.ifCond .eq 7, 3) := by decide +kernel
theorem dX1_firstOfMonth_42 : decode cX1_firstOfMonth 42 = .ok (.lconst 1, 1) := by decide +kernel
theorem dX1_firstOfMonth_43 : decode cX1_firstOfMonth 43 = .ok (.goto 6, 3) := by decide +kernel
theorem dX1_firstOfMonth_46 : decode cX1_firstOfMonth 46 = .ok (.ldc2_w 52, 3) := by decide +kernel
theorem dX1_firstOfMonth_49 : decode cX1_firstOfMonth 49 = .ok (.lsub, 1) := by decide +kernel
theorem dX1_firstOfMonth_50 : decode cX1_firstOfMonth 50 = .ok (.lstore 5, 2) := by decide +kernel
theorem dX1_firstOfMonth_52 : decode cX1_firstOfMonth 52 = .ok (.lload_n 2, 1) := by decide +kernel
theorem dX1_firstOfMonth_53 : decode cX1_firstOfMonth 53 = .ok (.invokestatic 54, 3) := by decide +kernel
theorem dX1_firstOfMonth_56 : decode cX1_firstOfMonth 56 = .ok (.lload 5, 2) := by decide +kernel
theorem dX1_firstOfMonth_58 : decode cX1_firstOfMonth 58 = .ok (.ladd, 1) := by decide +kernel
theorem dX1_firstOfMonth_59 : decode cX1_firstOfMonth 59 = .ok (.lreturn, 1) := by decide +kernel
set_option maxRecDepth 20000 in
theorem ggX1_yearOfDay_J9_floorDiv_f86c9 : GoodIn wsX1_yearOfDay wsJ9_floorDiv_f86c9 := goodIn_r _ [7] (by decide +kernel) (by decide +kernel)
set_option maxRecDepth 20000 in
theorem gX1_yearOfDay_J9_floorDiv_f86c9 : GoodIn wsX1_yearOfDay (va_wsS RX1 25 yJ9_floorDiv_f86c9 wsJ9_floorDiv_f86c9) := goodIn_app (goodIn_of _ (by decide +kernel)) ggX1_yearOfDay_J9_floorDiv_f86c9
set_option maxRecDepth 20000 in
theorem ggX1_yearOfDay_X1_firstOfYear : GoodIn wsX1_yearOfDay wsX1_firstOfYear := goodIn_r _ [11, 12, 13, 14, 15, 16, 1, 17, 2, 4, 5, 6, 7] (by decide +kernel) (by decide +kernel)
set_option maxRecDepth 20000 in
theorem gX1_yearOfDay_X1_firstOfYear : GoodIn wsX1_yearOfDay (va_wsS RX1 54 yX1_firstOfYear wsX1_firstOfYear) := goodIn_app (goodIn_of _ (by decide +kernel)) ggX1_yearOfDay_X1_firstOfYear
theorem dX1_yearOfDay_0 : decode cX1_yearOfDay 0 = .ok (.ldc2_w 17, 3) := by decide +kernel
theorem dX1_yearOfDay_3 : decode cX1_yearOfDay 3 = .ok (.lload_n 0, 1) := by decide +kernel
theorem dX1_yearOfDay_4 : decode cX1_yearOfDay 4 = .ok (.ldc2_w 50, 3) := by decide +kernel
theorem dX1_yearOfDay_7 : decode cX1_yearOfDay 7 = .ok (.ladd, 1) := by decide +kernel
theorem dX1_yearOfDay_8 : decode cX1_yearOfDay 8 = .ok (.lmul, 1) := by decide +kernel
theorem dX1_yearOfDay_9 : decode cX1_yearOfDay 9 = .ok (.ldc2_w 57, 3) := by decide +kernel
theorem dX1_yearOfDay_12 : decode cX1_yearOfDay 12 = .ok (.invokestatic 25, 3) := by decide +kernel
theorem dX1_yearOfDay_15 : decode cX1_yearOfDay 15 = .ok (.lstore_n 2, 1) := by decide +kernel
theorem dX1_yearOfDay_16 : decode cX1_yearOfDay 16 = .ok (.lload_n 2, 1) := by decide +kernel
theorem dX1_yearOfDay_17 : decode cX1_yearOfDay 17 = .ok (.invokestatic 54, 3) := by decide +kernel
theorem dX1_yearOfDay_20 : decode cX1_yearOfDay 20 = .ok (.lload_n 0, 1) := by decide +kernel
theorem dX1_yearOfDay_21 : decode cX1_yearOfDay 21 = .ok (.lcmp, 1) := by decide +kernel
theorem dX1_yearOfDay_22 : decode cX1_yearOfDay 22 = .ok (.ifCond .le 7, 3) := by decide +kernel
theorem dX1_yearOfDay_25 : decode cX1_yearOfDay 25 = .ok (.lload_n 2, 1) := by decide +kernel
theorem dX1_yearOfDay_26 : decode cX1_yearOfDay 26 = .ok (.lconst 1, 1) := by decide +kernel
theorem dX1_yearOfDay_27 : decode cX1_yearOfDay 27 = .ok (.lsub, 1) := by decide +kernel
theorem dX1_yearOfDay_28 : decode cX1_yearOfDay 28 = .ok (.lreturn, 1) := by decide +kernel
theorem dX1_yearOfDay_29 : decode cX1_yearOfDay 29 = .ok (.lload_n 2, 1) := by decide +kernel
theorem dX1_yearOfDay_30 : decode cX1_yearOfDay 30 = .ok (.lconst 1, 1) := by decide +kernel
theorem dX1_yearOfDay_31 : decode cX1_yearOfDay 31 = .ok (.ladd, 1) := by decide +kernel
theorem dX1_yearOfDay_32 : decode cX1_yearOfDay 32 = .ok (.invokestatic 54, 3) := by decide +kernel
theorem dX1_yearOfDay_35 : decode cX1_yearOfDay 35 = .ok (.lload_n 0, 1) := by decide +kernel
theorem dX1_yearOfDay_36 : decode cX1_yearOfDay 36 = .ok (.lcmp, 1) := by decide +kernel
theorem dX1_yearOfDay_37 : decode cX1_yearOfDay 37 = .ok (.ifCond .gt 9, 3) := by decide +kernel
theorem dX1_yearOfDay_40 : decode cX1_yearOfDay 40 = .ok (.lload_n 2, 1) := by decide +kernel
theorem dX1_yearOfDay_41 : decode cX1_yearOfDay 41 = .ok (.lconst 1, 1) := by decide +kernel
theorem dX1_yearOfDay_42 : decode cX1_yearOfDay 42 = .ok (.ladd, 1) := by decide +kernel
theorem dX1_yearOfDay_43 : decode cX1_yearOfDay 43 = .ok (.goto 4, 3) := by decide +kernel
theorem dX1_yearOfDay_46 : decode cX1_yearOfDay 46 = .ok (.lload_n 2, 1) := by decide +kernel
theorem dX1_yearOfDay_47 : decode cX1_yearOfDay 47 = .ok (.lreturn, 1) := by decide +kernel
set_option maxRecDepth 20000 in
theorem ggX1_monthOfDay_X1_yearOfDay : GoodIn wsX1_monthOfDay wsX1_yearOfDay := goodIn_r _ [7, 8, 9, 10, 11, 12, 13, 14, 15, 16, 6, 17, 18, 19, 20, 21, 22, 23] (by decide +kernel) (by decide +kernel)
set_option maxRecDepth 20000 in
theorem gX1_monthOfDay_X1_yearOfDay : GoodIn wsX1_monthOfDay (va_wsS RX1 59 yX1_yearOfDay wsX1_yearOfDay) := goodIn_app (goodIn_of _ (by decide +kernel)) ggX1_monthOfDay_X1_yearOfDay
set_option maxRecDepth 20000 in
theorem ggX1_monthOfDay_X1_firstOfYear : GoodIn wsX1_monthOfDay wsX1_firstOfYear := goodIn_r _ [17, 18, 19, 20, 21, 22, 8, 23, 9, 11, 12, 13, 14] (by decide +kernel) (by decide +kernel)
set_option maxRecDepth 20000 in
theorem gX1_monthOfDay_X1_firstOfYear : GoodIn wsX1_monthOfDay (va_wsS RX1 54 yX1_firstOfYear wsX1_firstOfYear) := goodIn_app (goodIn_of _ (by decide +kernel)) ggX1_monthOfDay_X1_firstOfYear
set_option maxRecDepth 20000 in
theorem ggX1_monthOfDay_X1_isLongYear : GoodIn wsX1_monthOfDay wsX1_isLongYear := goodIn_r _ [26, 19, 21, 8] (by decide +kernel) (by decide +kernel)
set_option maxRecDepth 20000 in
theorem gX1_monthOfDay_X1_isLongYear : GoodIn wsX1_monthOfDay (va_wsS RX1 19 yX1_isLongYear wsX1_isLongYear) := goodIn_app (goodIn_of _ (by decide +kernel)) ggX1_monthOfDay_X1_isLongYear
set_option maxRecDepth 20000 in
theorem ggX1_monthOfDay_X1_monthIndex : GoodIn wsX1_monthOfDay wsX1_monthIndex := goodIn_r _ [29, 1] (by decide +kernel) (by decide +kernel)
set_option maxRecDepth 20000 in
theorem gX1_monthOfDay_X1_monthIndex : GoodIn wsX1_monthOfDay (va_wsS RX1 66 yX1_monthIndex wsX1_monthIndex) := goodIn_app (goodIn_of _ (by decide +kernel)) ggX1_monthOfDay_X1_monthIndex
theorem dX1_monthOfDay_0 : decode cX1_monthOfDay 0 = .ok (.lload_n 0, 1) := by decide +kernel
theorem dX1_monthOfDay_1 : decode cX1_monthOfDay 1 = .ok (.invokestatic 59, 3) := by decide +kernel
theorem dX1_monthOfDay_4 : decode cX1_monthOfDay 4 = .ok (.lstore_n 2, 1) := by decide +kernel
theorem dX1_monthOfDay_5 : decode cX1_monthOfDay 5 = .ok (.lload_n 0, 1) := by decide +kernel
theorem dX1_monthOfDay_6 : decode cX1_monthOfDay 6 = .ok (.lload_n 2, 1) := by decide +kernel
theorem dX1_monthOfDay_7 : decode cX1_monthOfDay 7 = .ok (.invokestatic 54, 3) := by decide +kernel
theorem dX1_monthOfDay_10 : decode cX1_monthOfDay 10 = .ok (.lsub, 1) := by decide +kernel
theorem dX1_monthOfDay_11 : decode cX1_monthOfDay 11 = .ok (.lstore 4, 2) := by decide +kernel
theorem dX1_monthOfDay_13 : decode cX1_monthOfDay 13 = .ok (.lload_n 2, 1) := by decide +kernel
theorem dX1_monthOfDay_14 : decode cX1_monthOfDay 14 = .ok (.invokestatic 19, 3) := by decide +kernel
theorem dX1_monthOfDay_17 : decode cX1_monthOfDay 17 = .ok (.ifCond .eq 7, 3) := by decide +kernel
theorem dX1_monthOfDay_20 : decode cX1_monthOfDay 20 = .ok (.iconst 1, 1) := by decide +kernel
theorem dX1_monthOfDay_21 : decode cX1_monthOfDay 21 = .ok (.goto 4, 3) := by decide +kernel
theorem dX1_monthOfDay_24 : decode cX1_monthOfDay 24 = .ok (.iconst 2, 1) := by decide +kernel
theorem dX1_monthOfDay_25 : decode cX1_monthOfDay 25 = .ok (.istore 6, 2) := by decide +kernel
theorem dX1_monthOfDay_27 : decode cX1_monthOfDay 27 = .ok (.lload 4, 2) := by decide +kernel
theorem dX1_monthOfDay_29 : decode cX1_monthOfDay 29 = .ok (.bipush 61, 2) := by decide +kernel
theorem dX1_monthOfDay_31 : decode cX1_monthOfDay 31 = .ok (.iload 6, 2) := by decide +kernel
theorem dX1_monthOfDay_33 : decode cX1_monthOfDay 33 = .ok (.isub, 1) := by decide +kernel
theorem dX1_monthOfDay_34 : decode cX1_monthOfDay 34 = .ok (.i2l, 1) := by decide +kernel
theorem dX1_monthOfDay_35 : decode cX1_monthOfDay 35 = .ok (.lcmp, 1) := by decide +kernel
theorem dX1_monthOfDay_36 : decode cX1_monthOfDay 36 = .ok (.ifCond .lt 11, 3) := by decide +kernel
theorem dX1_monthOfDay_39 : decode cX1_monthOfDay 39 = .ok (.lload 4, 2) := by decide +kernel
theorem dX1_monthOfDay_41 : decode cX1_monthOfDay 41 = .ok (.iload 6, 2) := by decide +kernel
theorem dX1_monthOfDay_43 : decode cX1_monthOfDay 43 = .ok (.i2l, 1) := by decide +kernel
theorem dX1_monthOfDay_44 : decode cX1_monthOfDay 44 = .ok (.ladd, 1) := by decide +kernel
theorem dX1_monthOfDay_45 : decode cX1_monthOfDay 45 = .ok (.lstore 4, 2) := by decide +kernel
theorem dX1_monthOfDay_47 : decode cX1_monthOfDay 47 = .ok (.lload_n 2, 1) := by decide +kernel
theorem dX1_monthOfDay_48 : decode cX1_monthOfDay 48 = .ok (.ldc2_w 23, 3) := by decide +kernel
theorem dX1_monthOfDay_51 : decode cX1_monthOfDay 51 = .ok (.lload 4, 2) := by decide +kernel
theorem dX1_monthOfDay_53 : decode cX1_monthOfDay 53 = .ok (.lmul, 1) := by decide +kernel
theorem dX1_monthOfDay_54 : decode cX1_monthOfDay 54 = .ok (.ldc2_w 62, 3) := by decide +kernel
theorem dX1_monthOfDay_57 : decode cX1_monthOfDay 57 = .ok (.ladd, 1) := by decide +kernel
theorem dX1_monthOfDay_58 : decode cX1_monthOfDay 58 = .ok (.ldc2_w 64, 3) := by decide +kernel
theorem dX1_monthOfDay_61 : decode cX1_monthOfDay 61 = .ok (.ldiv, 1) := by decide +kernel
theorem dX1_monthOfDay_62 : decode cX1_monthOfDay 62 = .ok (.invokestatic 66, 3) := by decide +kernel
theorem dX1_monthOfDay_65 : decode cX1_monthOfDay 65 = .ok (.lreturn, 1) := by decide +kernel
set_option maxRecDepth 20000 in
theorem ggX1_dayInMonth_X1_monthOfDay : GoodIn wsX1_dayInMonth wsX1_monthOfDay := goodIn_r _ [4, 5, 6, 7, 8, 9, 3, 10, 11, 12, 13, 14, 15, 16, 17, 18, 19, 20, 21, 22, 23, 24, 25, 26, 27, 28, 29, 30, 31, 32] (by decide +kernel) (by decide +kernel)
set_option maxRecDepth 20000 in
theorem gX1_dayInMonth_X1_monthOfDay : GoodIn wsX1_dayInMonth (va_wsS RX1 69 yX1_monthOfDay wsX1_monthOfDay) := goodIn_app (goodIn_of _ (by decide +kernel)) ggX1_dayInMonth_X1_monthOfDay
set_option maxRecDepth 20000 in
theorem ggX1_dayInMonth_X1_firstOfMonth : GoodIn wsX1_dayInMonth wsX1_firstOfMonth := goodIn_r _ [35, 36, 37, 38, 3, 39, 5, 14, 15, 16, 17, 40, 41, 42, 43, 44, 45, 27, 28, 29, 22, 24, 11, 18, 19, 20, 21, 23, 25, 26, 12] (by decide +kernel) (by decide +kernel)
set_option maxRecDepth 20000 in
theorem gX1_dayInMonth_X1_firstOfMonth : GoodIn wsX1_dayInMonth (va_wsS RX1 72 yX1_firstOfMonth wsX1_firstOfMonth) := goodIn_app (goodIn_of _ (by decide +kernel)) ggX1_dayInMonth_X1_firstOfMonth
theorem dX1_dayInMonth_0 : decode cX1_dayInMonth 0 = .ok (.lload_n 0, 1) := by decide +kernel
theorem dX1_dayInMonth_1 : decode cX1_dayInMonth 1 = .ok (.lload_n 0, 1) := by decide +kernel
theorem dX1_dayInMonth_2 : decode cX1_dayInMonth 2 = .ok (.invokestatic 69, 3) := by decide +kernel
theorem dX1_dayInMonth_5 : decode cX1_dayInMonth 5 = .ok (.invokestatic 72, 3) := by decide +kernel
theorem dX1_dayInMonth_8 : decode cX1_dayInMonth 8 = .ok (.lsub, 1) := by decide +kernel
theorem dX1_dayInMonth_9 : decode cX1_dayInMonth 9 = .ok (.l2i, 1) := by decide +kernel
theorem dX1_dayInMonth_10 : decode cX1_dayInMonth 10 = .ok (.iconst 1, 1) := by decide +kernel
theorem dX1_dayInMonth_11 : decode cX1_dayInMonth 11 = .ok (.iadd, 1) := by decide +kernel
theorem dX1_dayInMonth_12 : decode cX1_dayInMonth 12 = .ok (.ireturn, 1) := by decide +kernel
set_option maxRecDepth 20000 in
theorem ggX1_weekdayOf_J9_floorMod_f86c9 : GoodIn wsX1_weekdayOf wsJ9_floorMod_f86c9 := goodIn_r _ [6] (by decide +kernel) (by decide +kernel)
set_option maxRecDepth 20000 in
theorem gX1_weekdayOf_J9_floorMod_f86c9 : GoodIn wsX1_weekdayOf (va_wsS RX1 31 yJ9_floorMod_f86c9 wsJ9_floorMod_f86c9) := goodIn_app (goodIn_of _ (by decide +kernel)) ggX1_weekdayOf_J9_floorMod_f86c9
theorem dX1_weekdayOf_0 : decode cX1_weekdayOf 0 = .ok (.lload_n 0, 1) := by decide +kernel
theorem dX1_weekdayOf_1 : decode cX1_weekdayOf 1 = .ok (.ldc2_w 42, 3) := by decide +kernel
theorem dX1_weekdayOf_4 : decode cX1_weekdayOf 4 = .ok (.ladd, 1) := by decide +kernel
theorem dX1_weekdayOf_5 : decode cX1_weekdayOf 5 = .ok (.ldc2_w 75, 3) := by decide +kernel
theorem dX1_weekdayOf_8 : decode cX1_weekdayOf 8 = .ok (.invokestatic 31, 3) := by decide +kernel
theorem dX1_weekdayOf_11 : decode cX1_weekdayOf 11 = .ok (.l2i, 1) := by decide +kernel
theorem dX1_weekdayOf_12 : decode cX1_weekdayOf 12 = .ok (.iconst 1, 1) := by decide +kernel
theorem dX1_weekdayOf_13 : decode cX1_weekdayOf 13 = .ok (.iadd, 1) := by decide +kernel
theorem dX1_weekdayOf_14 : decode cX1_weekdayOf 14 = .ok (.ireturn, 1) := by decide +kernel
set_option maxRecDepth 20000 in
theorem ggX1_weekdayFrom_X1_weekdayOf : GoodIn wsX1_weekdayFrom wsX1_weekdayOf := goodIn_r _ [4, 5, 6, 7, 8, 9, 10] (by decide +kernel) (by decide +kernel)
set_option maxRecDepth 20000 in
theorem gX1_weekdayFrom_X1_weekdayOf : GoodIn wsX1_weekdayFrom (va_wsS RX1 77 yX1_weekdayOf wsX1_weekdayOf) := goodIn_app (goodIn_of _ (by decide +kernel)) ggX1_weekdayFrom_X1_weekdayOf
set_option maxRecDepth 20000 in
theorem ggX1_weekdayFrom_J9_floorMod_7cf53 : GoodIn wsX1_weekdayFrom wsJ9_floorMod_7cf53 := goodIn_r _ [13] (by decide +kernel) (by decide +kernel)
set_option maxRecDepth 20000 in
theorem gX1_weekdayFrom_J9_floorMod_7cf53 : GoodIn wsX1_weekdayFrom (va_wsS RX1 80 yJ9_floorMod_7cf53 wsJ9_floorMod_7cf53) := goodIn_app (goodIn_of _ (by decide +kernel)) ggX1_weekdayFrom_J9_floorMod_7cf53
theorem dX1_weekdayFrom_0 : decode cX1_weekdayFrom 0 = .ok (.lload_n 0, 1) := by decide +kernel
theorem dX1_weekdayFrom_1 : decode cX1_weekdayFrom 1 = .ok (.iload_n 2, 1) := by decide +kernel
theorem dX1_weekdayFrom_2 : decode cX1_weekdayFrom 2 = .ok (.lload_n 0, 1) := by decide +kernel
theorem dX1_weekdayFrom_3 : decode cX1_weekdayFrom 3 = .ok (.invokestatic 77, 3) := by decide +kernel
theorem dX1_weekdayFrom_6 : decode cX1_weekdayFrom 6 = .ok (.isub, 1) := by decide +kernel
theorem dX1_weekdayFrom_7 : decode cX1_weekdayFrom 7 = .ok (.bipush 7, 2) := by decide +kernel
theorem dX1_weekdayFrom_9 : decode cX1_weekdayFrom 9 = .ok (.invokestatic 80, 3) := by decide +kernel
theorem dX1_weekdayFrom_12 : decode cX1_weekdayFrom 12 = .ok (.i2l, 1) := by decide +kernel
theorem dX1_weekdayFrom_13 : decode cX1_weekdayFrom 13 = .ok (.ladd, 1) := by decide +kernel
theorem dX1_weekdayFrom_14 : decode cX1_weekdayFrom 14 = .ok (.lreturn, 1) := by decide +kernel
set_option maxRecDepth 20000 in
theorem ggX1_weekdayUpTo_X1_weekdayOf : GoodIn wsX1_weekdayUpTo wsX1_weekdayOf := goodIn_r _ [4, 5, 6, 7, 8, 9, 10] (by decide +kernel) (by decide +kernel)
set_option maxRecDepth 20000 in
theorem gX1_weekdayUpTo_X1_weekdayOf : GoodIn wsX1_weekdayUpTo (va_wsS RX1 77 yX1_weekdayOf wsX1_weekdayOf) := goodIn_app (goodIn_of _ (by decide +kernel)) ggX1_weekdayUpTo_X1_weekdayOf
set_option maxRecDepth 20000 in
theorem ggX1_weekdayUpTo_J9_floorMod_7cf53 : GoodIn wsX1_weekdayUpTo wsJ9_floorMod_7cf53 := goodIn_r _ [13] (by decide +kernel) (by decide +kernel)
set_option maxRecDepth 20000 in
theorem gX1_weekdayUpTo_J9_floorMod_7cf53 : GoodIn wsX1_weekdayUpTo (va_wsS RX1 80 yJ9_floorMod_7cf53 wsJ9_floorMod_7cf53) := goodIn_app (goodIn_of _ (by decide +kernel)) ggX1_weekdayUpTo_J9_floorMod_7cf53
theorem dX1_weekdayUpTo_0 : decode cX1_weekdayUpTo 0 = .ok (.lload_n 0, 1) := by decide +kernel
theorem dX1_weekdayUpTo_1 : decode cX1_weekdayUpTo 1 = .ok (.lload_n 0, 1) := by decide +kernel
theorem dX1_weekdayUpTo_2 : decode cX1_weekdayUpTo 2 = .ok (.invokestatic 77, 3) := by decide +kernel
theorem dX1_weekdayUpTo_5 : decode cX1_weekdayUpTo 5 = .ok (.iload_n 2, 1) := by decide +kernel
theorem dX1_weekdayUpTo_6 : decode cX1_weekdayUpTo 6 = .ok (.isub, 1) := by decide +kernel
theorem dX1_weekdayUpTo_7 : decode cX1_weekdayUpTo 7 = .ok (.bipush 7, 2) := by decide +kernel
theorem dX1_weekdayUpTo_9 : decode cX1_weekdayUpTo 9 = .ok (.invokestatic 80, 3) := by decide +kernel
theorem dX1_weekdayUpTo_12 : decode cX1_weekdayUpTo 12 = .ok (.i2l, 1) := by decide +kernel
theorem dX1_weekdayUpTo_13 : decode cX1_weekdayUpTo 13 = .ok (.lsub, 1) := by decide +kernel
theorem dX1_weekdayUpTo_14 : decode cX1_weekdayUpTo 14 = .ok (.lreturn, 1) := by decide +kernel
set_option maxRecDepth 20000 in
theorem ggX1_dayOrLast_X1_firstOfMonth : GoodIn wsX1_dayOrLast wsX1_firstOfMonth := goodIn_r _ [8, 9, 10, 11, 7, 12, 13, 14, 15, 16, 17, 18, 19, 20, 21, 22, 23, 24, 25, 26, 27, 28, 29, 30, 31, 32, 33, 34, 35, 36, 37] (by decide +kernel) (by decide +kernel)
set_option maxRecDepth 20000 in
theorem gX1_dayOrLast_X1_firstOfMonth : GoodIn wsX1_dayOrLast (va_wsS RX1 72 yX1_firstOfMonth wsX1_firstOfMonth) := goodIn_app (goodIn_of _ (by decide +kernel)) ggX1_dayOrLast_X1_firstOfMonth
set_option maxRecDepth 20000 in
theorem ggX1_dayOrLast_X1_lengthOfMonth : GoodIn wsX1_dayOrLast wsX1_lengthOfMonth := goodIn_r _ [40, 18, 19, 7, 20, 13, 21, 22, 16, 23, 10, 11, 12, 14, 15, 17, 24, 25, 26, 27, 28, 29] (by decide +kernel) (by decide +kernel)
set_option maxRecDepth 20000 in
theorem gX1_dayOrLast_X1_lengthOfMonth : GoodIn wsX1_dayOrLast (va_wsS RX1 83 yX1_lengthOfMonth wsX1_lengthOfMonth) := goodIn_app (goodIn_of _ (by decide +kernel)) ggX1_dayOrLast_X1_lengthOfMonth
theorem dX1_dayOrLast_0 : decode cX1_dayOrLast 0 = .ok (.lload_n 0, 1) := by decide +kernel
theorem dX1_dayOrLast_1 : decode cX1_dayOrLast 1 = .ok (.invokestatic 72, 3) := by decide +kernel
theorem dX1_dayOrLast_4 : decode cX1_dayOrLast 4 = .ok (.lload_n 2, 1) := by decide +kernel
theorem dX1_dayOrLast_5 : decode cX1_dayOrLast 5 = .ok (.lload_n 0, 1) := by decide +kernel
theorem dX1_dayOrLast_6 : decode cX1_dayOrLast 6 = .ok (.invokestatic 83, 3) := by decide +kernel
theorem dX1_dayOrLast_9 : decode cX1_dayOrLast 9 = .ok (.i2l, 1) := by decide +kernel
theorem dX1_dayOrLast_10 : decode cX1_dayOrLast 10 = .ok (.invokestatic 86, 3) := by decide +kernel
theorem dX1_dayOrLast_13 : decode cX1_dayOrLast 13 = .ok (.ladd, 1) := by decide +kernel
theorem dX1_dayOrLast_14 : decode cX1_dayOrLast 14 = .ok (.lconst 1, 1) := by decide +kernel
theorem dX1_dayOrLast_15 : decode cX1_dayOrLast 15 = .ok (.lsub, 1) := by decide +kernel
theorem dX1_dayOrLast_16 : decode cX1_dayOrLast 16 = .ok (.lreturn, 1) := by decide +kernel
set_option maxRecDepth 20000 in
theorem ggX1_plusMonths_X1_monthOfDay : GoodIn wsX1_plusMonths wsX1_monthOfDay := goodIn_r _ [4, 5, 6, 7, 8, 9, 3, 10, 11, 12, 13, 14, 15, 16, 17, 18, 19, 20, 21, 22, 23, 24, 25, 26, 27, 28, 29, 30, 31, 32] (by decide +kernel) (by decide +kernel)
set_option maxRecDepth 20000 in
theorem gX1_plusMonths_X1_monthOfDay : GoodIn wsX1_plusMonths (va_wsS RX1 69 yX1_monthOfDay wsX1_monthOfDay) := goodIn_app (goodIn_of _ (by decide +kernel)) ggX1_plusMonths_X1_monthOfDay
set_option maxRecDepth 20000 in
theorem ggX1_plusMonths_X1_firstOfMonth : GoodIn wsX1_plusMonths wsX1_firstOfMonth := goodIn_r _ [35, 36, 37, 38, 3, 39, 5, 14, 15, 16, 17, 40, 41, 42, 43, 44, 45, 27, 28, 29, 22, 24, 11, 18, 19, 20, 21, 23, 25, 26, 12] (by decide +kernel) (by decide +kernel)
set_option maxRecDepth 20000 in
theorem gX1_plusMonths_X1_firstOfMonth : GoodIn wsX1_plusMonths (va_wsS RX1 72 yX1_firstOfMonth wsX1_firstOfMonth) := goodIn_app (goodIn_of _ (by decide +kernel)) ggX1_plusMonths_X1_firstOfMonth
set_option maxRecDepth 20000 in
theorem ggX1_plusMonths_X1_dayOrLast : GoodIn wsX1_plusMonths wsX1_dayOrLast := goodIn_r _ [48, 49, 50, 51, 52, 33, 34, 3, 35, 36, 37, 38, 39, 5, 14, 15, 16, 17, 40, 41, 42, 43, 44, 45, 27, 28, 29, 22, 24, 11, 18, 19, 20, 21, 23, 25, 26, 12, 53, 54, 55] (by decide +kernel) (by decide +kernel)
set_option maxRecDepth 20000 in
theorem gX1_plusMonths_X1_dayOrLast : GoodIn wsX1_plusMonths (va_wsS RX1 89 yX1_dayOrLast wsX1_dayOrLast) := goodIn_app (goodIn_of _ (by decide +kernel)) ggX1_plusMonths_X1_dayOrLast
theorem dX1_plusMonths_0 : decode cX1_plusMonths 0 = .ok (.lload_n 0, 1) := by decide +kernel
theorem dX1_plusMonths_1 : decode cX1_plusMonths 1 = .ok (.invokestatic 69, 3) := by decide +kernel
theorem dX1_plusMonths_4 : decode cX1_plusMonths 4 = .ok (.lstore 4, 2) := by decide +kernel
theorem dX1_plusMonths_6 : decode cX1_plusMonths 6 = .ok (.lload 4, 2) := by decide +kernel
theorem dX1_plusMonths_8 : decode cX1_plusMonths 8 = .ok (.lload_n 2, 1) := by decide +kernel
theorem dX1_plusMonths_9 : decode cX1_plusMonths 9 = .ok (.ladd, 1) := by decide +kernel
theorem dX1_plusMonths_10 : decode cX1_plusMonths 10 = .ok (.lload_n 0, 1) := by decide +kernel
theorem dX1_plusMonths_11 : decode cX1_plusMonths 11 = .ok (.lload 4, 2) := by decide +kernel
theorem dX1_plusMonths_13 : decode cX1_plusMonths 13 = .ok (.invokestatic 72, 3) := by decide +kernel
theorem dX1_plusMonths_16 : decode cX1_plusMonths 16 = .ok (.lsub, 1) := by decide +kernel
theorem dX1_plusMonths_17 : decode cX1_plusMonths 17 = .ok (.lconst 1, 1) := by decide +kernel
theorem dX1_plusMonths_18 : decode cX1_plusMonths 18 = .ok (.ladd, 1) := by decide +kernel
theorem dX1_plusMonths_19 : decode cX1_plusMonths 19 = .ok (.invokestatic 89, 3) := by decide +kernel
theorem dX1_plusMonths_22 : decode cX1_plusMonths 22 = .ok (.lreturn, 1) := by decide +kernel
set_option maxRecDepth 20000 in
theorem ggX1_moved_X1_plusMonths : GoodIn wsX1_moved wsX1_plusMonths := goodIn_r _ [6, 7, 8, 5, 9, 2, 10, 11, 12, 13, 14, 15, 16, 17, 18, 19, 20, 21, 22, 23, 24, 25, 26, 27, 28, 29, 30, 31, 32, 33, 34, 35, 36, 37, 38, 39, 40, 41, 42, 43, 44, 45, 46, 47, 48, 49, 50, 51, 52, 53, 54, 55, 56, 57, 58, 59] (by decide +kernel) (by decide +kernel)
set_option maxRecDepth 20000 in
theorem gX1_moved_X1_plusMonths : GoodIn wsX1_moved (va_wsS RX1 92 yX1_plusMonths wsX1_plusMonths) := goodIn_app (goodIn_of _ (by decide +kernel)) ggX1_moved_X1_plusMonths
theorem dX1_moved_0 : decode cX1_moved 0 = .ok (.iload_n 2, 1) := by decide +kernel
theorem dX1_moved_1 : decode cX1_moved 1 = .ok (.lookupswitch 53 #[(100, 35), (109, 47), (119, 39)], 35) := by decide +kernel
theorem dX1_moved_36 : decode cX1_moved 36 = .ok (.lload_n 0, 1) := by decide +kernel
theorem dX1_moved_37 : decode cX1_moved 37 = .ok (.lload_n 3, 1) := by decide +kernel
theorem dX1_moved_38 : decode cX1_moved 38 = .ok (.ladd, 1) := by decide +kernel
theorem dX1_moved_39 : decode cX1_moved 39 = .ok (.lreturn, 1) := by decide +kernel
theorem dX1_moved_40 : decode cX1_moved 40 = .ok (.lload_n 0, 1) := by decide +kernel
theorem dX1_moved_41 : decode cX1_moved 41 = .ok (.ldc2_w 75, 3) := by decide +kernel
theorem dX1_moved_44 : decode cX1_moved 44 = .ok (.lload_n 3, 1) := by decide +kernel
theorem dX1_moved_45 : decode cX1_moved 45 = .ok (.lmul, 1) := by decide +kernel
theorem dX1_moved_46 : decode cX1_moved 46 = .ok (.ladd, 1) := by decide +kernel
theorem dX1_moved_47 : decode cX1_moved 47 = .ok (.lreturn, 1) := by decide +kernel
theorem dX1_moved_48 : decode cX1_moved 48 = .ok (.lload_n 0, 1) := by decide +kernel
theorem dX1_moved_49 : decode cX1_moved 49 = .ok (.lload_n 3, 1) := by decide +kernel
theorem dX1_moved_50 : decode cX1_moved 50 = .ok (.invokestatic 92, 3) := by decide +kernel
theorem dX1_moved_53 : decode cX1_moved 53 = .ok (.lreturn, 1) := by decide +kernel
theorem dX1_moved_54 : decode cX1_moved 54 = .ok (.lload_n 0, 1) := by decide +kernel
theorem dX1_moved_55 : decode cX1_moved 55 = .ok (.ldc2_w 23, 3) := by decide +kernel
theorem dX1_moved_58 : decode cX1_moved 58 = .ok (.lload_n 3, 1) := by decide +kernel
theorem dX1_moved_59 : decode cX1_moved 59 = .ok (.lmul, 1) := by decide +kernel
theorem dX1_moved_60 : decode cX1_moved 60 = .ok (.invokestatic 92, 3) := by decide +kernel
theorem dX1_moved_63 : decode cX1_moved 63 = .ok (.lreturn, 1) := by decide +kernel
set_option maxRecDepth 20000 in
theorem ggX1_wholeMonths_X1_monthOfDay : GoodIn wsX1_wholeMonths wsX1_monthOfDay := goodIn_r _ [11, 12, 13, 14, 15, 16, 10, 17, 18, 19, 20, 21, 22, 23, 24, 25, 26, 27, 28, 29, 30, 31, 32, 33, 34, 35, 36, 37, 38, 39] (by decide +kernel) (by decide +kernel)
set_option maxRecDepth 20000 in
theorem gX1_wholeMonths_X1_monthOfDay : GoodIn wsX1_wholeMonths (va_wsS RX1 69 yX1_monthOfDay wsX1_monthOfDay) := goodIn_app (goodIn_of _ (by decide +kernel)) ggX1_wholeMonths_X1_monthOfDay
set_option maxRecDepth 20000 in
theorem ggX1_wholeMonths_X1_firstOfMonth : GoodIn wsX1_wholeMonths wsX1_firstOfMonth := goodIn_r _ [42, 43, 44, 45, 10, 46, 12, 21, 22, 23, 24, 47, 48, 49, 50, 51, 52, 34, 35, 36, 29, 31, 18, 25, 26, 27, 28, 30, 32, 33, 19] (by decide +kernel) (by decide +kernel)
set_option maxRecDepth 20000 in
theorem gX1_wholeMonths_X1_firstOfMonth : GoodIn wsX1_wholeMonths (va_wsS RX1 72 yX1_firstOfMonth wsX1_firstOfMonth) := goodIn_app (goodIn_of _ (by decide +kernel)) ggX1_wholeMonths_X1_firstOfMonth
theorem dX1_wholeMonths_0 : decode cX1_wholeMonths 0 = .ok (.lload_n 0, 1) := by decide +kernel
theorem dX1_wholeMonths_1 : decode cX1_wholeMonths 1 = .ok (.lload_n 2, 1) := by decide +kernel
theorem dX1_wholeMonths_2 : decode cX1_wholeMonths 2 = .ok (.invokestatic 86, 3) := by decide +kernel
theorem dX1_wholeMonths_5 : decode cX1_wholeMonths 5 = .ok (.lstore 4, 2) := by decide +kernel
theorem dX1_wholeMonths_7 : decode cX1_wholeMonths 7 = .ok (.lload_n 0, 1) := by decide +kernel
theorem dX1_wholeMonths_8 : decode cX1_wholeMonths 8 = .ok (.lload_n 2, 1) := by decide +kernel
theorem dX1_wholeMonths_9 : decode cX1_wholeMonths 9 = .ok (.invokestatic 95, 3) := by decide +kernel
theorem dX1_wholeMonths_12 : decode cX1_wholeMonths 12 = .ok (.lstore 6, 2) := by decide +kernel
theorem dX1_wholeMonths_14 : decode cX1_wholeMonths 14 = .ok (.lload 4, 2) := by decide +kernel
theorem dX1_wholeMonths_16 : decode cX1_wholeMonths 16 = .ok (.invokestatic 69, 3) := by decide +kernel
theorem dX1_wholeMonths_19 : decode cX1_wholeMonths 19 = .ok (.lstore 8, 2) := by decide +kernel
theorem dX1_wholeMonths_21 : decode cX1_wholeMonths 21 = .ok (.lload 6, 2) := by decide +kernel
theorem dX1_wholeMonths_23 : decode cX1_wholeMonths 23 = .ok (.invokestatic 69, 3) := by decide +kernel
theorem dX1_wholeMonths_26 : decode cX1_wholeMonths 26 = .ok (.lstore 10, 2) := by decide +kernel
theorem dX1_wholeMonths_28 : decode cX1_wholeMonths 28 = .ok (.lload 10, 2) := by decide +kernel
theorem dX1_wholeMonths_30 : decode cX1_wholeMonths 30 = .ok (.lload 8, 2) := by decide +kernel
theorem dX1_wholeMonths_32 : decode cX1_wholeMonths 32 = .ok (.lsub, 1) := by decide +kernel
theorem dX1_wholeMonths_33 : decode cX1_wholeMonths 33 = .ok (.lstore 12, 2) := by decide +kernel
theorem dX1_wholeMonths_35 : decode cX1_wholeMonths 35 = .ok (.lload 6, 2) := by decide +kernel
theorem dX1_wholeMonths_37 : decode cX1_wholeMonths 37 = .ok (.lload 10, 2) := by decide +kernel
theorem dX1_wholeMonths_39 : decode cX1_wholeMonths 39 = .ok (.invokestatic 72, 3) := by decide +kernel
theorem dX1_wholeMonths_42 : decode cX1_wholeMonths 42 = .ok (.lsub, 1) := by decide +kernel
theorem dX1_wholeMonths_43 : decode cX1_wholeMonths 43 = .ok (.lload 4, 2) := by decide +kernel
theorem dX1_wholeMonths_45 : decode cX1_wholeMonths 45 = .ok (.lload 8, 2) := by decide +kernel
theorem dX1_wholeMonths_47 : decode cX1_wholeMonths 47 = .ok (.invokestatic 72, 3) := by decide +kernel
theorem dX1_wholeMonths_50 : decode cX1_wholeMonths 50 = .ok (.lsub, 1) := by decide +kernel
theorem dX1_wholeMonths_51 : decode cX1_wholeMonths 51 = .ok (.lcmp, 1) := by decide +kernel
theorem dX1_wholeMonths_52 : decode cX1_wholeMonths 52 = .ok (.ifCond .ge 9, 3) := by decide +kernel
theorem dX1_wholeMonths_55 : decode cX1_wholeMonths 55 = .ok (.lload 12, 2) := by decide +kernel
theorem dX1_wholeMonths_57 : decode cX1_wholeMonths 57 = .ok (.lconst 1, 1) := by decide +kernel
theorem dX1_wholeMonths_58 : decode cX1_wholeMonths 58 = .ok (.lsub, 1) := by decide +kernel
theorem dX1_wholeMonths_59 : decode cX1_wholeMonths 59 = .ok (.lstore 12, 2) := by decide +kernel
theorem dX1_wholeMonths_61 : decode cX1_wholeMonths 61 = .ok (.lload_n 2, 1) := by decide +kernel
theorem dX1_wholeMonths_62 : decode cX1_wholeMonths 62 = .ok (.lload_n 0, 1) := by decide +kernel
theorem dX1_wholeMonths_63 : decode cX1_wholeMonths 63 = .ok (.lcmp, 1) := by decide +kernel
theorem dX1_wholeMonths_64 : decode cX1_wholeMonths 64 = .ok (.ifCond .ge 9, 3) := by decide +kernel
theorem dX1_wholeMonths_67 : decode cX1_wholeMonths 67 = .ok (.lload 12, 2) := by decide +kernel
theorem dX1_wholeMonths_69 : decode cX1_wholeMonths 69 = .ok (.lneg, 1) := by decide +kernel
theorem dX1_wholeMonths_70 : decode cX1_wholeMonths 70 = .ok (.goto 5, 3) := by decide +kernel
theorem dX1_wholeMonths_73 : decode cX1_wholeMonths 73 = .ok (.lload 12, 2) := by decide +kernel
theorem dX1_wholeMonths_75 : decode cX1_wholeMonths 75 = .ok (.lreturn, 1) := by decide +kernel
theorem dX2_init_0 : decode cX2_init 0 = .ok (.aload_n 0, 1) := by decide +kernel
theorem dX2_init_1 : decode cX2_init 1 = .ok (.invokespecial 1, 3) := by decide +kernel
theorem dX2_init_4 : decode cX2_init 4 = .ok (.aload_n 0, 1) := by decide +kernel
theorem dX2_init_5 : decode cX2_init 5 = .ok (.bipush 6, 2) := by decide +kernel
theorem dX2_init_7 : decode cX2_init 7 = .ok (.newarray .long, 2) := by decide +kernel
theorem dX2_init_9 : decode cX2_init 9 = .ok (.putfield 9, 3) := by decide +kernel
theorem dX2_init_12 : decode cX2_init 12 = .ok (.aload_n 0, 1) := by decide +kernel
theorem dX2_init_13 : decode cX2_init 13 = .ok (.iconst 4, 1) := by decide +kernel
theorem dX2_init_14 : decode cX2_init 14 = .ok (.newarray .int, 2) := by decide +kernel
theorem dX2_init_16 : decode cX2_init 16 = .ok (.putfield 13, 3) := by decide +kernel
theorem dX2_init_19 : decode cX2_init 19 = .ok (.aload_n 0, 1) := by decide +kernel
theorem dX2_init_20 : decode cX2_init 20 = .ok (.iconst 4, 1) := by decide +kernel
theorem dX2_init_21 : decode cX2_init 21 = .ok (.newarray .int, 2) := by decide +kernel
theorem dX2_init_23 : decode cX2_init 23 = .ok (.putfield 17, 3) := by decide +kernel
theorem dX2_init_26 : decode cX2_init 26 = .ok (.aload_n 0, 1) := by decide +kernel
theorem dX2_init_27 : decode cX2_init 27 = .ok (.iconst 4, 1) := by decide +kernel
theorem dX2_init_28 : decode cX2_init 28 = .ok (.newarray .int, 2) := by decide +kernel
theorem dX2_init_30 : decode cX2_init 30 = .ok (.putfield 20, 3) := by decide +kernel
theorem dX2_init_33 : decode cX2_init 33 = .ok (.aload_n 0, 1) := by decide +kernel
theorem dX2_init_34 : decode cX2_init 34 = .ok (.iconst 4, 1) := by decide +kernel
theorem dX2_init_35 : decode cX2_init 35 = .ok (.newarray .int, 2) := by decide +kernel
theorem dX2_init_37 : decode cX2_init 37 = .ok (.putfield 23, 3) := by decide +kernel
theorem dX2_init_40 : decode cX2_init 40 = .ok (.aload_n 0, 1) := by decide +kernel
theorem dX2_init_41 : decode cX2_init 41 = .ok (.iconst 4, 1) := by decide +kernel
theorem dX2_init_42 : decode cX2_init 42 = .ok (.newarray .long, 2) := by decide +kernel
theorem dX2_init_44 : decode cX2_init 44 = .ok (.putfield 26, 3) := by decide +kernel
theorem dX2_init_47 : decode cX2_init 47 = .ok (.aload_n 0, 1) := by decide +kernel
theorem dX2_init_48 : decode cX2_init 48 = .ok (.iconst 4, 1) := by decide +kernel
theorem dX2_init_49 : decode cX2_init 49 = .ok (.newarray .long, 2) := by decide +kernel
theorem dX2_init_51 : decode cX2_init 51 = .ok (.putfield 29, 3) := by decide +kernel
theorem dX2_init_54 : decode cX2_init 54 = .ok (.aload_n 0, 1) := by decide +kernel
theorem dX2_init_55 : decode cX2_init 55 = .ok (.iconst 4, 1) := by decide +kernel
theorem dX2_init_56 : decode cX2_init 56 = .ok (.newarray .long, 2) := by decide +kernel
theorem dX2_init_58 : decode cX2_init 58 = .ok (.putfield 32, 3) := by decide +kernel
theorem dX2_init_61 : decode cX2_init 61 = .ok (.aload_n 0, 1) := by decide +kernel
theorem dX2_init_62 : decode cX2_init 62 = .ok (.iconst 4, 1) := by decide +kernel
theorem dX2_init_63 : decode cX2_init 63 = .ok (.newarray .long, 2) := by decide +kernel
theorem dX2_init_65 : decode cX2_init 65 = .ok (.putfield 35, 3) := by decide +kernel
theorem dX2_init_68 : decode cX2_init 68 = .ok (.aload_n 0, 1) := by decide +kernel
theorem dX2_init_69 : decode cX2_init 69 = .ok (.iconst 4, 1) := by decide +kernel
theorem dX2_init_70 : decode cX2_init 70 = .ok (.newarray .long, 2) := by decide +kernel
theorem dX2_init_72 : decode cX2_init 72 = .ok (.putfield 38, 3) := by decide +kernel
theorem dX2_init_75 : decode cX2_init 75 = .ok (.iconst 0, 1) := by decide +kernel
theorem dX2_init_76 : decode cX2_init 76 = .ok (.istore_n 1, 1) := by decide +kernel
theorem dX2_init_77 : decode cX2_init 77 = .ok (.iload_n 1, 1) := by decide +kernel
theorem dX2_init_78 : decode cX2_init 78 = .ok (.iconst 4, 1) := by decide +kernel
theorem dX2_init_79 : decode cX2_init 79 = .ok (.if_icmp .ge 18, 3) := by decide +kernel
theorem dX2_init_82 : decode cX2_init 82 = .ok (.aload_n 0, 1) := by decide +kernel
theorem dX2_init_83 : decode cX2_init 83 = .ok (.getfield 23, 3) := by decide +kernel
theorem dX2_init_86 : decode cX2_init 86 = .ok (.iload_n 1, 1) := by decide +kernel
theorem dX2_init_87 : decode cX2_init 87 = .ok (.sipush 23640, 3) := by decide +kernel
theorem dX2_init_90 : decode cX2_init 90 = .ok (.iastore, 1) := by decide +kernel
theorem dX2_init_91 : decode cX2_init 91 = .ok (.iinc 1 1, 3) := by decide +kernel
theorem dX2_init_94 : decode cX2_init 94 = .ok (.goto (-17), 3) := by decide +kernel
theorem dX2_init_97 : decode cX2_init 97 = .ok (.return_, 1) := by decide +kernel
set_option maxRecDepth 20000 in
theorem ggX2_date_X2_checkSlot : GoodIn wsX2_date wsX2_checkSlot := goodIn_ca (goodIn_r _ [5, 6, 7] (by decide +kernel) (by decide +kernel)) (goodIn_sub (fun _ h => List.mem_cons_of_mem _ (List.mem_append_left _ (List.mem_append_left _ (List.mem_append_left _ (List.mem_append_right _ h))))) (by decide +kernel))
set_option maxRecDepth 20000 in
theorem gX2_date_X2_checkSlot : GoodIn wsX2_date (va_wsS RX2 41 yX2_checkSlot wsX2_checkSlot) := goodIn_app (goodIn_of _ (by decide +kernel)) ggX2_date_X2_checkSlot
set_option maxRecDepth 20000 in
theorem ggX2_date_X2_isYear : GoodIn wsX2_date wsX2_isYear := goodIn_r _ [10, 11, 12, 13, 14, 4, 15] (by decide +kernel) (by decide +kernel)
set_option maxRecDepth 20000 in
theorem gX2_date_X2_isYear : GoodIn wsX2_date (va_wsS RX2 45 yX2_isYear wsX2_isYear) := goodIn_app (goodIn_of _ (by decide +kernel)) ggX2_date_X2_isYear
set_option maxRecDepth 20000 in
theorem ggX2_date_X2_checkArgument : GoodIn wsX2_date wsX2_checkArgument := goodIn_ca (goodIn_r _ [18, 19, 20] (by decide +kernel) (by decide +kernel)) (goodIn_sub (fun _ h => List.mem_cons_of_mem _ (List.mem_append_left _ (List.mem_append_left _ (List.mem_append_right _ h)))) (by decide +kernel))
set_option maxRecDepth 20000 in
theorem gX2_date_X2_checkArgument : GoodIn wsX2_date (va_wsS RX2 49 yX2_checkArgument wsX2_checkArgument) := goodIn_app (goodIn_of _ (by decide +kernel)) ggX2_date_X2_checkArgument
set_option maxRecDepth 20000 in
theorem ggX2_date_X2_isIn : GoodIn wsX2_date wsX2_isIn := goodIn_r _ [15] (by decide +kernel) (by decide +kernel)
set_option maxRecDepth 20000 in
theorem gX2_date_X2_isIn : GoodIn wsX2_date (va_wsS RX2 55 yX2_isIn wsX2_isIn) := goodIn_app (goodIn_of _ (by decide +kernel)) ggX2_date_X2_isIn
set_option maxRecDepth 20000 in
theorem ggX2_date_X1_monthIndex : GoodIn wsX2_date wsX1_monthIndex := goodIn_r _ [24, 25] (by decide +kernel) (by decide +kernel)
set_option maxRecDepth 20000 in
theorem gX2_date_X1_monthIndex : GoodIn wsX2_date (va_wsS RX2 59 yX1_monthIndex wsX1_monthIndex) := goodIn_app (goodIn_of _ (by decide +kernel)) ggX2_date_X1_monthIndex
set_option maxRecDepth 20000 in
theorem ggX2_date_X1_lengthOfMonth : GoodIn wsX2_date wsX1_lengthOfMonth := goodIn_r _ [28, 29, 30, 23, 31, 25, 32, 33, 34, 35, 36, 37, 38, 39, 40, 41, 42, 43, 44, 45, 46, 47] (by decide +kernel) (by decide +kernel)
set_option maxRecDepth 20000 in
theorem gX2_date_X1_lengthOfMonth : GoodIn wsX2_date (va_wsS RX2 65 yX1_lengthOfMonth wsX1_lengthOfMonth) := goodIn_app (goodIn_of _ (by decide +kernel)) ggX2_date_X1_lengthOfMonth
set_option maxRecDepth 20000 in
theorem ggX2_date_X1_firstOfMonth : GoodIn wsX2_date wsX1_firstOfMonth := goodIn_r _ [50, 51, 36, 37, 23, 38, 25, 39, 40, 34, 41, 29, 30, 31, 32, 33, 35, 42, 43, 44, 45, 46, 47, 52, 53, 54, 55, 56, 57, 58, 59] (by decide +kernel) (by decide +kernel)
set_option maxRecDepth 20000 in
theorem gX2_date_X1_firstOfMonth : GoodIn wsX2_date (va_wsS RX2 69 yX1_firstOfMonth wsX1_firstOfMonth) := goodIn_app (goodIn_of _ (by decide +kernel)) ggX2_date_X1_firstOfMonth
set_option maxRecDepth 20000 in
theorem ggX2_date_X2_keepDate : GoodIn wsX2_date wsX2_keepDate := goodIn_ca (goodIn_ca (goodIn_r _ [63, 64, 65, 66, 23, 67, 68, 69, 70, 71, 4, 72, 73, 74, 75, 76, 77, 78, 79, 80, 81, 82, 83, 84] (by decide +kernel) (by decide +kernel)) (goodIn_sub (fun _ h => List.mem_cons_of_mem _ (List.mem_append_left _ (List.mem_append_right _ h))) (by decide +kernel))) (goodIn_sub (fun _ h => List.mem_cons_of_mem _ (List.mem_append_right _ h)) (by decide +kernel))
set_option maxRecDepth 20000 in
theorem gX2_date_X2_keepDate : GoodIn wsX2_date (wsV RX2 73 RX2 yX2_keepDate wsX2_keepDate) := goodIn_app (goodIn_of _ (by decide +kernel)) ggX2_date_X2_keepDate
theorem dX2_date_0 : decode cX2_date 0 = .ok (.iload_n 1, 1) := by decide +kernel
theorem dX2_date_1 : decode cX2_date 1 = .ok (.bipush 6, 2) := by decide +kernel
theorem dX2_date_3 : decode cX2_date 3 = .ok (.invokestatic 41, 3) := by decide +kernel
theorem dX2_date_6 : decode cX2_date 6 = .ok (.iload_n 2, 1) := by decide +kernel
theorem dX2_date_7 : decode cX2_date 7 = .ok (.i2l, 1) := by decide +kernel
theorem dX2_date_8 : decode cX2_date 8 = .ok (.invokestatic 45, 3) := by decide +kernel
theorem dX2_date_11 : decode cX2_date 11 = .ok (.invokestatic 49, 3) := by decide +kernel
theorem dX2_date_14 : decode cX2_date 14 = .ok (.iload_n 3, 1) := by decide +kernel
theorem dX2_date_15 : decode cX2_date 15 = .ok (.i2l, 1) := by decide +kernel
theorem dX2_date_16 : decode cX2_date 16 = .ok (.lconst 1, 1) := by decide +kernel
theorem dX2_date_17 : decode cX2_date 17 = .ok (.ldc2_w 53, 3) := by decide +kernel
theorem dX2_date_20 : decode cX2_date 20 = .ok (.invokestatic 55, 3) := by decide +kernel
theorem dX2_date_23 : decode cX2_date 23 = .ok (.invokestatic 49, 3) := by decide +kernel
theorem dX2_date_26 : decode cX2_date 26 = .ok (.iload_n 2, 1) := by decide +kernel
theorem dX2_date_27 : decode cX2_date 27 = .ok (.i2l, 1) := by decide +kernel
theorem dX2_date_28 : decode cX2_date 28 = .ok (.iload_n 3, 1) := by decide +kernel
theorem dX2_date_29 : decode cX2_date 29 = .ok (.i2l, 1) := by decide +kernel
theorem dX2_date_30 : decode cX2_date 30 = .ok (.invokestatic 59, 3) := by decide +kernel
theorem dX2_date_33 : decode cX2_date 33 = .ok (.lstore 5, 2) := by decide +kernel
theorem dX2_date_35 : decode cX2_date 35 = .ok (.iload 4, 2) := by decide +kernel
theorem dX2_date_37 : decode cX2_date 37 = .ok (.i2l, 1) := by decide +kernel
theorem dX2_date_38 : decode cX2_date 38 = .ok (.lconst 1, 1) := by decide +kernel
theorem dX2_date_39 : decode cX2_date 39 = .ok (.lload 5, 2) := by decide +kernel
theorem dX2_date_41 : decode cX2_date 41 = .ok (.invokestatic 65, 3) := by decide +kernel
theorem dX2_date_44 : decode cX2_date 44 = .ok (.i2l, 1) := by decide +kernel
theorem dX2_date_45 : decode cX2_date 45 = .ok (.invokestatic 55, 3) := by decide +kernel
theorem dX2_date_48 : decode cX2_date 48 = .ok (.invokestatic 49, 3) := by decide +kernel
theorem dX2_date_51 : decode cX2_date 51 = .ok (.aload_n 0, 1) := by decide +kernel
theorem dX2_date_52 : decode cX2_date 52 = .ok (.iload_n 1, 1) := by decide +kernel
theorem dX2_date_53 : decode cX2_date 53 = .ok (.lload 5, 2) := by decide +kernel
theorem dX2_date_55 : decode cX2_date 55 = .ok (.invokestatic 69, 3) := by decide +kernel
theorem dX2_date_58 : decode cX2_date 58 = .ok (.iload 4, 2) := by decide +kernel
theorem dX2_date_60 : decode cX2_date 60 = .ok (.i2l, 1) := by decide +kernel
theorem dX2_date_61 : decode cX2_date 61 = .ok (.ladd, 1) := by decide +kernel
theorem dX2_date_62 : decode cX2_date 62 = .ok (.lconst 1, 1) := by decide +kernel
theorem dX2_date_63 : decode cX2_date 63 = .ok (.lsub, 1) := by decide +kernel
theorem dX2_date_64 : decode cX2_date 64 = .ok (.invokevirtual 73, 3) := by decide +kernel
theorem dX2_date_67 : decode cX2_date 67 = .ok (.lreturn, 1) := by decide +kernel
set_option maxRecDepth 20000 in
theorem ggX2_ofDay_X2_checkSlot : GoodIn wsX2_ofDay wsX2_checkSlot := goodIn_ca (goodIn_r _ [4, 5, 6] (by decide +kernel) (by decide +kernel)) (goodIn_sub (fun _ h => List.mem_cons_of_mem _ (List.mem_append_left _ (List.mem_append_left _ (List.mem_append_right _ h)))) (by decide +kernel))
set_option maxRecDepth 20000 in
theorem gX2_ofDay_X2_checkSlot : GoodIn wsX2_ofDay (va_wsS RX2 41 yX2_checkSlot wsX2_checkSlot) := goodIn_app (goodIn_of _ (by decide +kernel)) ggX2_ofDay_X2_checkSlot
set_option maxRecDepth 20000 in
theorem ggX2_ofDay_X2_keepDate : GoodIn wsX2_ofDay wsX2_keepDate := goodIn_ca (goodIn_ca (goodIn_r _ [10, 11, 12, 13, 14, 15, 16, 17, 18, 19, 3, 20, 21, 22, 42, 43, 44, 45, 46, 47, 48, 49, 50, 51] (by decide +kernel) (by decide +kernel)) (goodIn_sub (fun _ h => List.mem_cons_of_mem _ (List.mem_append_left _ (List.mem_append_right _ h))) (by decide +kernel))) (goodIn_sub (fun _ h => List.mem_cons_of_mem _ (List.mem_append_right _ h)) (by decide +kernel))
set_option maxRecDepth 20000 in
theorem gX2_ofDay_X2_keepDate : GoodIn wsX2_ofDay (wsV RX2 73 RX2 yX2_keepDate wsX2_keepDate) := goodIn_app (goodIn_of _ (by decide +kernel)) ggX2_ofDay_X2_keepDate
set_option maxRecDepth 20000 in
theorem ggX2_ofDay_X1_yearOfDay : GoodIn wsX2_ofDay wsX1_yearOfDay := goodIn_r _ [25, 26, 27, 28, 29, 30, 31, 32, 33, 34, 14, 35, 36, 37, 38, 39, 40, 41] (by decide +kernel) (by decide +kernel)
set_option maxRecDepth 20000 in
theorem gX2_ofDay_X1_yearOfDay : GoodIn wsX2_ofDay (va_wsS RX2 77 yX1_yearOfDay wsX1_yearOfDay) := goodIn_app (goodIn_of _ (by decide +kernel)) ggX2_ofDay_X1_yearOfDay
theorem dX2_ofDay_0 : decode cX2_ofDay 0 = .ok (.iload_n 1, 1) := by decide +kernel
theorem dX2_ofDay_1 : decode cX2_ofDay 1 = .ok (.bipush 6, 2) := by decide +kernel
theorem dX2_ofDay_3 : decode cX2_ofDay 3 = .ok (.invokestatic 41, 3) := by decide +kernel
theorem dX2_ofDay_6 : decode cX2_ofDay 6 = .ok (.aload_n 0, 1) := by decide +kernel
theorem dX2_ofDay_7 : decode cX2_ofDay 7 = .ok (.iload_n 1, 1) := by decide +kernel
theorem dX2_ofDay_8 : decode cX2_ofDay 8 = .ok (.lload_n 2, 1) := by decide +kernel
theorem dX2_ofDay_9 : decode cX2_ofDay 9 = .ok (.invokevirtual 73, 3) := by decide +kernel
theorem dX2_ofDay_12 : decode cX2_ofDay 12 = .ok (.invokestatic 77, 3) := by decide +kernel
theorem dX2_ofDay_15 : decode cX2_ofDay 15 = .ok (.l2i, 1) := by decide +kernel
theorem dX2_ofDay_16 : decode cX2_ofDay 16 = .ok (.ireturn, 1) := by decide +kernel
set_option maxRecDepth 20000 in
theorem ggX2_day_X2_checkSlot : GoodIn wsX2_day wsX2_checkSlot := goodIn_ca (goodIn_r _ [5, 6, 7] (by decide +kernel) (by decide +kernel)) (goodIn_sub (fun _ h => List.mem_cons_of_mem _ (List.mem_append_right _ h)) (by decide +kernel))
set_option maxRecDepth 20000 in
theorem gX2_day_X2_checkSlot : GoodIn wsX2_day (va_wsS RX2 41 yX2_checkSlot wsX2_checkSlot) := goodIn_app (goodIn_of _ (by decide +kernel)) ggX2_day_X2_checkSlot
theorem dX2_day_0 : decode cX2_day 0 = .ok (.iload_n 1, 1) := by decide +kernel
theorem dX2_day_1 : decode cX2_day 1 = .ok (.bipush 6, 2) := by decide +kernel
theorem dX2_day_3 : decode cX2_day 3 = .ok (.invokestatic 41, 3) := by decide +kernel
theorem dX2_day_6 : decode cX2_day 6 = .ok (.aload_n 0, 1) := by decide +kernel
theorem dX2_day_7 : decode cX2_day 7 = .ok (.getfield 9, 3) := by decide +kernel
theorem dX2_day_10 : decode cX2_day 10 = .ok (.iload_n 1, 1) := by decide +kernel
theorem dX2_day_11 : decode cX2_day 11 = .ok (.laload, 1) := by decide +kernel
theorem dX2_day_12 : decode cX2_day 12 = .ok (.lreturn, 1) := by decide +kernel
set_option maxRecDepth 20000 in
theorem ggX2_part_X2_checkSlot : GoodIn wsX2_part wsX2_checkSlot := goodIn_ca (goodIn_r _ [7, 8, 9] (by decide +kernel) (by decide +kernel)) (goodIn_sub (fun _ h => List.mem_cons_of_mem _ (List.mem_append_right _ h)) (by decide +kernel))
set_option maxRecDepth 20000 in
theorem gX2_part_X2_checkSlot : GoodIn wsX2_part (va_wsS RX2 41 yX2_checkSlot wsX2_checkSlot) := goodIn_app (goodIn_of _ (by decide +kernel)) ggX2_part_X2_checkSlot
set_option maxRecDepth 20000 in
theorem ggX2_part_X1_yearOfDay : GoodIn wsX2_part wsX1_yearOfDay := goodIn_r _ [13, 14, 15, 16, 17, 18, 19, 20, 21, 22, 12, 23, 24, 25, 26, 27, 28, 29] (by decide +kernel) (by decide +kernel)
set_option maxRecDepth 20000 in
theorem gX2_part_X1_yearOfDay : GoodIn wsX2_part (va_wsS RX2 77 yX1_yearOfDay wsX1_yearOfDay) := goodIn_app (goodIn_of _ (by decide +kernel)) ggX2_part_X1_yearOfDay
set_option maxRecDepth 20000 in
theorem ggX2_part_X1_monthOfDay : GoodIn wsX2_part wsX1_monthOfDay := goodIn_r _ [32, 33, 34, 35, 36, 11, 12, 13, 14, 15, 16, 17, 18, 19, 20, 21, 22, 23, 24, 25, 26, 27, 28, 29, 37, 38, 39, 40, 41, 42] (by decide +kernel) (by decide +kernel)
set_option maxRecDepth 20000 in
theorem gX2_part_X1_monthOfDay : GoodIn wsX2_part (va_wsS RX2 80 yX1_monthOfDay wsX1_monthOfDay) := goodIn_app (goodIn_of _ (by decide +kernel)) ggX2_part_X1_monthOfDay
set_option maxRecDepth 20000 in
theorem ggX2_part_X1_monthInYear : GoodIn wsX2_part wsX1_monthInYear := goodIn_r _ [45, 33, 46, 47, 19, 48] (by decide +kernel) (by decide +kernel)
set_option maxRecDepth 20000 in
theorem gX2_part_X1_monthInYear : GoodIn wsX2_part (va_wsS RX2 83 yX1_monthInYear wsX1_monthInYear) := goodIn_app (goodIn_of _ (by decide +kernel)) ggX2_part_X1_monthInYear
set_option maxRecDepth 20000 in
theorem ggX2_part_X1_dayInMonth : GoodIn wsX2_part wsX1_dayInMonth := goodIn_r _ [51, 52, 31, 12, 32, 33, 34, 35, 36, 11, 13, 14, 15, 16, 17, 18, 19, 20, 21, 22, 23, 24, 25, 26, 27, 28, 29, 37, 38, 39, 40, 41, 42, 53, 54, 55, 56, 57, 58, 59, 60, 44, 45, 46, 47, 48] (by decide +kernel) (by decide +kernel)
set_option maxRecDepth 20000 in
theorem gX2_part_X1_dayInMonth : GoodIn wsX2_part (va_wsS RX2 86 yX1_dayInMonth wsX1_dayInMonth) := goodIn_app (goodIn_of _ (by decide +kernel)) ggX2_part_X1_dayInMonth
set_option maxRecDepth 20000 in
theorem ggX2_part_X1_firstOfYear : GoodIn wsX2_part wsX1_firstOfYear := goodIn_r _ [23, 24, 25, 26, 27, 28, 14, 29, 15, 17, 18, 19, 20] (by decide +kernel) (by decide +kernel)
set_option maxRecDepth 20000 in
theorem gX2_part_X1_firstOfYear : GoodIn wsX2_part (va_wsS RX2 89 yX1_firstOfYear wsX1_firstOfYear) := goodIn_app (goodIn_of _ (by decide +kernel)) ggX2_part_X1_firstOfYear
set_option maxRecDepth 20000 in
theorem ggX2_part_X1_weekdayOf : GoodIn wsX2_part wsX1_weekdayOf := goodIn_r _ [64, 24, 65, 46, 47, 19, 48] (by decide +kernel) (by decide +kernel)
set_option maxRecDepth 20000 in
theorem gX2_part_X1_weekdayOf : GoodIn wsX2_part (va_wsS RX2 92 yX1_weekdayOf wsX1_weekdayOf) := goodIn_app (goodIn_of _ (by decide +kernel)) ggX2_part_X1_weekdayOf
set_option maxRecDepth 20000 in
theorem ggX2_part_X1_lengthOfMonth : GoodIn wsX2_part wsX1_lengthOfMonth := goodIn_r _ [68, 60, 44, 12, 45, 33, 46, 47, 19, 48, 57, 58, 59, 17, 18, 20, 37, 38, 39, 25, 27, 14] (by decide +kernel) (by decide +kernel)
set_option maxRecDepth 20000 in
theorem gX2_part_X1_lengthOfMonth : GoodIn wsX2_part (va_wsS RX2 65 yX1_lengthOfMonth wsX1_lengthOfMonth) := goodIn_app (goodIn_of _ (by decide +kernel)) ggX2_part_X1_lengthOfMonth
set_option maxRecDepth 20000 in
theorem ggX2_part_X1_lengthOfYear : GoodIn wsX2_part wsX1_lengthOfYear := goodIn_r _ [71, 37, 38, 12, 39, 25, 27, 14] (by decide +kernel) (by decide +kernel)
set_option maxRecDepth 20000 in
theorem gX2_part_X1_lengthOfYear : GoodIn wsX2_part (va_wsS RX2 95 yX1_lengthOfYear wsX1_lengthOfYear) := goodIn_app (goodIn_of _ (by decide +kernel)) ggX2_part_X1_lengthOfYear
set_option maxRecDepth 20000 in
theorem ggX2_part_X1_isLongYear : GoodIn wsX2_part wsX1_isLongYear := goodIn_r _ [39, 25, 27, 14] (by decide +kernel) (by decide +kernel)
set_option maxRecDepth 20000 in
theorem gX2_part_X1_isLongYear : GoodIn wsX2_part (va_wsS RX2 98 yX1_isLongYear wsX1_isLongYear) := goodIn_app (goodIn_of _ (by decide +kernel)) ggX2_part_X1_isLongYear
theorem dX2_part_0 : decode cX2_part 0 = .ok (.iload_n 1, 1) := by decide +kernel
theorem dX2_part_1 : decode cX2_part 1 = .ok (.bipush 6, 2) := by decide +kernel
theorem dX2_part_3 : decode cX2_part 3 = .ok (.invokestatic 41, 3) := by decide +kernel
theorem dX2_part_6 : decode cX2_part 6 = .ok (.aload_n 0, 1) := by decide +kernel
theorem dX2_part_7 : decode cX2_part 7 = .ok (.getfield 9, 3) := by decide +kernel
theorem dX2_part_10 : decode cX2_part 10 = .ok (.iload_n 1, 1) := by decide +kernel
theorem dX2_part_11 : decode cX2_part 11 = .ok (.laload, 1) := by decide +kernel
theorem dX2_part_12 : decode cX2_part 12 = .ok (.lstore_n 3, 1) := by decide +kernel
theorem dX2_part_13 : decode cX2_part 13 = .ok (.lload_n 3, 1) := by decide +kernel
theorem dX2_part_14 : decode cX2_part 14 = .ok (.invokestatic 77, 3) := by decide +kernel
theorem dX2_part_17 : decode cX2_part 17 = .ok (.lstore 5, 2) := by decide +kernel
theorem dX2_part_19 : decode cX2_part 19 = .ok (.iload_n 2, 1) := by decide +kernel
theorem dX2_part_20 : decode cX2_part 20 = .ok (.lookupswitch 137 #[(76, 117), (98, 123), (100, 88), (108, 109), (109, 80), (110, 93), (119, 104), (121, 76)], 76) := by decide +kernel
theorem dX2_part_96 : decode cX2_part 96 = .ok (.lload 5, 2) := by decide +kernel
theorem dX2_part_98 : decode cX2_part 98 = .ok (.l2i, 1) := by decide +kernel
theorem dX2_part_99 : decode cX2_part 99 = .ok (.ireturn, 1) := by decide +kernel
theorem dX2_part_100 : decode cX2_part 100 = .ok (.lload_n 3, 1) := by decide +kernel
theorem dX2_part_101 : decode cX2_part 101 = .ok (.invokestatic 80, 3) := by decide +kernel
theorem dX2_part_104 : decode cX2_part 104 = .ok (.invokestatic 83, 3) := by decide +kernel
theorem dX2_part_107 : decode cX2_part 107 = .ok (.ireturn, 1) := by decide +kernel
theorem dX2_part_108 : decode cX2_part 108 = .ok (.lload_n 3, 1) := by decide +kernel
theorem dX2_part_109 : decode cX2_part 109 = .ok (.invokestatic 86, 3) := by decide +kernel
theorem dX2_part_112 : decode cX2_part 112 = .ok (.ireturn, 1) := by decide +kernel
theorem dX2_part_113 : decode cX2_part 113 = .ok (.lload_n 3, 1) := by decide +kernel
theorem dX2_part_114 : decode cX2_part 114 = .ok (.lload 5, 2) := by decide +kernel
theorem dX2_part_116 : decode cX2_part 116 = .ok (.invokestatic 89, 3) := by decide +kernel
theorem dX2_part_119 : decode cX2_part 119 = .ok (.lsub, 1) := by decide +kernel
theorem dX2_part_120 : decode cX2_part 120 = .ok (.l2i, 1) := by decide +kernel
theorem dX2_part_121 : decode cX2_part 121 = .ok (.iconst 1, 1) := by decide +kernel
theorem dX2_part_122 : decode cX2_part 122 = .ok (.iadd, 1) := by decide +kernel
theorem dX2_part_123 : decode cX2_part 123 = .ok (.ireturn, 1) := by decide +kernel
theorem dX2_part_124 : decode cX2_part 124 = .ok (.lload_n 3, 1) := by decide +kernel
theorem dX2_part_125 : decode cX2_part 125 = .ok (.invokestatic 92, 3) := by decide +kernel
theorem dX2_part_128 : decode cX2_part 128 = .ok (.ireturn, 1) := by decide +kernel
theorem dX2_part_129 : decode cX2_part 129 = .ok (.lload_n 3, 1) := by decide +kernel
theorem dX2_part_130 : decode cX2_part 130 = .ok (.invokestatic 80, 3) := by decide +kernel
theorem dX2_part_133 : decode cX2_part 133 = .ok (.invokestatic 65, 3) := by decide +kernel
theorem dX2_part_136 : decode cX2_part 136 = .ok (.ireturn, 1) := by decide +kernel
theorem dX2_part_137 : decode cX2_part 137 = .ok (.lload 5, 2) := by decide +kernel
theorem dX2_part_139 : decode cX2_part 139 = .ok (.invokestatic 95, 3) := by decide +kernel
theorem dX2_part_142 : decode cX2_part 142 = .ok (.ireturn, 1) := by decide +kernel
theorem dX2_part_143 : decode cX2_part 143 = .ok (.lload 5, 2) := by decide +kernel
theorem dX2_part_145 : decode cX2_part 145 = .ok (.invokestatic 98, 3) := by decide +kernel
theorem dX2_part_148 : decode cX2_part 148 = .ok (.ifCond .eq 7, 3) := by decide +kernel
theorem dX2_part_151 : decode cX2_part 151 = .ok (.iconst 1, 1) := by decide +kernel
theorem dX2_part_152 : decode cX2_part 152 = .ok (.goto 4, 3) := by decide +kernel
theorem dX2_part_155 : decode cX2_part 155 = .ok (.iconst 0, 1) := by decide +kernel
theorem dX2_part_156 : decode cX2_part 156 = .ok (.ireturn, 1) := by decide +kernel
theorem dX2_part_157 : decode cX2_part 157 = .ok (.new 101, 3) := by decide +kernel
theorem dX2_part_160 : decode cX2_part 160 = .ok (.dup, 1) := by decide +kernel
theorem dX2_part_161 : decode cX2_part 161 = .ok (.ldc 103, 2) := by decide +kernel
theorem dX2_part_163 : decode cX2_part 163 = .ok (.invokespecial 105, 3) := by decide +kernel
theorem dX2_part_166 : decode cX2_part 166 = .ok (.athrow, 1) := by decide +kernel
set_option maxRecDepth 20000 in
theorem ggX2_move_X2_checkSlot : GoodIn wsX2_move wsX2_checkSlot := goodIn_ca (goodIn_r _ [7, 8, 9] (by decide +kernel) (by decide +kernel)) (goodIn_sub (fun _ h => List.mem_cons_of_mem _ (List.mem_append_left _ (List.mem_append_left _ (List.mem_append_right _ h)))) (by decide +kernel))
set_option maxRecDepth 20000 in
theorem gX2_move_X2_checkSlot : GoodIn wsX2_move (va_wsS RX2 41 yX2_checkSlot wsX2_checkSlot) := goodIn_app (goodIn_of _ (by decide +kernel)) ggX2_move_X2_checkSlot
set_option maxRecDepth 20000 in
theorem ggX2_move_X1_isUnit : GoodIn wsX2_move wsX1_isUnit := goodIn_r _ [13] (by decide +kernel) (by decide +kernel)
set_option maxRecDepth 20000 in
theorem gX2_move_X1_isUnit : GoodIn wsX2_move (va_wsS RX2 108 yX1_isUnit wsX1_isUnit) := goodIn_app (goodIn_of _ (by decide +kernel)) ggX2_move_X1_isUnit
set_option maxRecDepth 20000 in
theorem ggX2_move_X2_checkArgument : GoodIn wsX2_move wsX2_checkArgument := goodIn_ca (goodIn_r _ [16, 17, 18] (by decide +kernel) (by decide +kernel)) (goodIn_sub (fun _ h => List.mem_cons_of_mem _ (List.mem_append_left _ (List.mem_append_right _ h))) (by decide +kernel))
set_option maxRecDepth 20000 in
theorem gX2_move_X2_checkArgument : GoodIn wsX2_move (va_wsS RX2 49 yX2_checkArgument wsX2_checkArgument) := goodIn_app (goodIn_of _ (by decide +kernel)) ggX2_move_X2_checkArgument
set_option maxRecDepth 20000 in
theorem ggX2_move_X2_isIn : GoodIn wsX2_move wsX2_isIn := goodIn_r _ [21] (by decide +kernel) (by decide +kernel)
set_option maxRecDepth 20000 in
theorem gX2_move_X2_isIn : GoodIn wsX2_move (va_wsS RX2 55 yX2_isIn wsX2_isIn) := goodIn_app (goodIn_of _ (by decide +kernel)) ggX2_move_X2_isIn
set_option maxRecDepth 20000 in
theorem ggX2_move_X1_moved : GoodIn wsX2_move wsX1_moved := goodIn_r _ [24, 25, 26, 27, 28, 12, 29, 30, 31, 32, 33, 34, 35, 36, 37, 38, 39, 40, 41, 42, 43, 44, 45, 46, 47, 48, 49, 50, 51, 52, 53, 54, 55, 56, 57, 58, 59, 60, 61, 62, 63, 64, 65, 66, 67, 68, 69, 70, 71, 72, 73, 74, 75, 76, 77, 78, 79, 80, 81, 82] (by decide +kernel) (by decide +kernel)
set_option maxRecDepth 20000 in
theorem gX2_move_X1_moved : GoodIn wsX2_move (va_wsS RX2 116 yX1_moved wsX1_moved) := goodIn_app (goodIn_of _ (by decide +kernel)) ggX2_move_X1_moved
set_option maxRecDepth 20000 in
theorem ggX2_move_X2_keepDate : GoodIn wsX2_move wsX2_keepDate := goodIn_ca (goodIn_ca (goodIn_r _ [86, 3, 87, 88, 12, 89, 90, 91, 92, 93, 6, 94, 95, 96, 97, 98, 99, 100, 101, 102, 103, 104, 105, 106] (by decide +kernel) (by decide +kernel)) (goodIn_sub (fun _ h => List.mem_cons_of_mem _ (List.mem_append_left _ (List.mem_append_left _ (List.mem_append_left _ (List.mem_append_right _ h))))) (by decide +kernel))) (goodIn_sub (fun _ h => List.mem_cons_of_mem _ (List.mem_append_right _ h)) (by decide +kernel))
set_option maxRecDepth 20000 in
theorem gX2_move_X2_keepDate : GoodIn wsX2_move (wsV RX2 73 RX2 yX2_keepDate wsX2_keepDate) := goodIn_app (goodIn_of _ (by decide +kernel)) ggX2_move_X2_keepDate
theorem dX2_move_0 : decode cX2_move 0 = .ok (.iload_n 1, 1) := by decide +kernel
theorem dX2_move_1 : decode cX2_move 1 = .ok (.bipush 6, 2) := by decide +kernel
theorem dX2_move_3 : decode cX2_move 3 = .ok (.invokestatic 41, 3) := by decide +kernel
theorem dX2_move_6 : decode cX2_move 6 = .ok (.iload 4, 2) := by decide +kernel
theorem dX2_move_8 : decode cX2_move 8 = .ok (.bipush 6, 2) := by decide +kernel
theorem dX2_move_10 : decode cX2_move 10 = .ok (.invokestatic 41, 3) := by decide +kernel
theorem dX2_move_13 : decode cX2_move 13 = .ok (.iload_n 2, 1) := by decide +kernel
theorem dX2_move_14 : decode cX2_move 14 = .ok (.invokestatic 108, 3) := by decide +kernel
theorem dX2_move_17 : decode cX2_move 17 = .ok (.invokestatic 49, 3) := by decide +kernel
theorem dX2_move_20 : decode cX2_move 20 = .ok (.iload_n 3, 1) := by decide +kernel
theorem dX2_move_21 : decode cX2_move 21 = .ok (.i2l, 1) := by decide +kernel
theorem dX2_move_22 : decode cX2_move 22 = .ok (.ldc2_w 112, 3) := by decide +kernel
theorem dX2_move_25 : decode cX2_move 25 = .ok (.ldc2_w 114, 3) := by decide +kernel
theorem dX2_move_28 : decode cX2_move 28 = .ok (.invokestatic 55, 3) := by decide +kernel
theorem dX2_move_31 : decode cX2_move 31 = .ok (.invokestatic 49, 3) := by decide +kernel
theorem dX2_move_34 : decode cX2_move 34 = .ok (.aload_n 0, 1) := by decide +kernel
theorem dX2_move_35 : decode cX2_move 35 = .ok (.iload 4, 2) := by decide +kernel
theorem dX2_move_37 : decode cX2_move 37 = .ok (.aload_n 0, 1) := by decide +kernel
theorem dX2_move_38 : decode cX2_move 38 = .ok (.getfield 9, 3) := by decide +kernel
theorem dX2_move_41 : decode cX2_move 41 = .ok (.iload_n 1, 1) := by decide +kernel
theorem dX2_move_42 : decode cX2_move 42 = .ok (.laload, 1) := by decide +kernel
theorem dX2_move_43 : decode cX2_move 43 = .ok (.iload_n 2, 1) := by decide +kernel
theorem dX2_move_44 : decode cX2_move 44 = .ok (.iload_n 3, 1) := by decide +kernel
theorem dX2_move_45 : decode cX2_move 45 = .ok (.i2l, 1) := by decide +kernel
theorem dX2_move_46 : decode cX2_move 46 = .ok (.invokestatic 116, 3) := by decide +kernel
theorem dX2_move_49 : decode cX2_move 49 = .ok (.invokevirtual 73, 3) := by decide +kernel
theorem dX2_move_52 : decode cX2_move 52 = .ok (.lreturn, 1) := by decide +kernel
set_option maxRecDepth 20000 in
theorem ggX2_with_X2_checkSlot : GoodIn wsX2_with wsX2_checkSlot := goodIn_ca (goodIn_r _ [8, 9, 10] (by decide +kernel) (by decide +kernel)) (goodIn_sub (fun _ h => List.mem_cons_of_mem _ (List.mem_append_left _ (List.mem_append_right _ h))) (by decide +kernel))
set_option maxRecDepth 20000 in
theorem gX2_with_X2_checkSlot : GoodIn wsX2_with (va_wsS RX2 41 yX2_checkSlot wsX2_checkSlot) := goodIn_app (goodIn_of _ (by decide +kernel)) ggX2_with_X2_checkSlot
set_option maxRecDepth 20000 in
theorem ggX2_with_X1_monthOfDay : GoodIn wsX2_with wsX1_monthOfDay := goodIn_r _ [14, 15, 16, 17, 18, 19, 13, 20, 21, 22, 23, 24, 25, 26, 27, 28, 29, 30, 31, 32, 33, 34, 35, 36, 37, 38, 39, 40, 41, 42] (by decide +kernel) (by decide +kernel)
set_option maxRecDepth 20000 in
theorem gX2_with_X1_monthOfDay : GoodIn wsX2_with (va_wsS RX2 80 yX1_monthOfDay wsX1_monthOfDay) := goodIn_app (goodIn_of _ (by decide +kernel)) ggX2_with_X1_monthOfDay
set_option maxRecDepth 20000 in
theorem ggX2_with_X1_yearOfMonth : GoodIn wsX2_with wsX1_yearOfMonth := goodIn_r _ [45, 15, 24, 25, 26, 27] (by decide +kernel) (by decide +kernel)
set_option maxRecDepth 20000 in
theorem gX2_with_X1_yearOfMonth : GoodIn wsX2_with (va_wsS RX2 120 yX1_yearOfMonth wsX1_yearOfMonth) := goodIn_app (goodIn_of _ (by decide +kernel)) ggX2_with_X1_yearOfMonth
set_option maxRecDepth 20000 in
theorem ggX2_with_X1_lengthOfMonth : GoodIn wsX2_with wsX1_lengthOfMonth := goodIn_r _ [48, 49, 50, 13, 51, 15, 52, 53, 26, 54, 55, 44, 45, 24, 25, 27, 37, 38, 39, 32, 34, 21] (by decide +kernel) (by decide +kernel)
set_option maxRecDepth 20000 in
theorem gX2_with_X1_lengthOfMonth : GoodIn wsX2_with (va_wsS RX2 65 yX1_lengthOfMonth wsX1_lengthOfMonth) := goodIn_app (goodIn_of _ (by decide +kernel)) ggX2_with_X1_lengthOfMonth
set_option maxRecDepth 20000 in
theorem ggX2_with_X2_isIn : GoodIn wsX2_with wsX2_isIn := goodIn_r _ [58] (by decide +kernel) (by decide +kernel)
set_option maxRecDepth 20000 in
theorem gX2_with_X2_isIn : GoodIn wsX2_with (va_wsS RX2 55 yX2_isIn wsX2_isIn) := goodIn_app (goodIn_of _ (by decide +kernel)) ggX2_with_X2_isIn
set_option maxRecDepth 20000 in
theorem ggX2_with_X2_checkArgument : GoodIn wsX2_with wsX2_checkArgument := goodIn_ca (goodIn_r _ [61, 1, 2] (by decide +kernel) (by decide +kernel)) (goodIn_sub (fun _ h => List.mem_cons_of_mem _ (List.mem_append_left _ (List.mem_append_left _ (List.mem_append_right _ h)))) (by decide +kernel))
set_option maxRecDepth 20000 in
theorem gX2_with_X2_checkArgument : GoodIn wsX2_with (va_wsS RX2 49 yX2_checkArgument wsX2_checkArgument) := goodIn_app (goodIn_of _ (by decide +kernel)) ggX2_with_X2_checkArgument
set_option maxRecDepth 20000 in
theorem ggX2_with_X1_firstOfMonth : GoodIn wsX2_with wsX1_firstOfMonth := goodIn_r _ [64, 65, 55, 44, 13, 45, 15, 24, 25, 26, 27, 49, 50, 51, 52, 53, 54, 37, 38, 39, 32, 34, 21, 28, 29, 30, 31, 33, 35, 36, 22] (by decide +kernel) (by decide +kernel)
set_option maxRecDepth 20000 in
theorem gX2_with_X1_firstOfMonth : GoodIn wsX2_with (va_wsS RX2 69 yX1_firstOfMonth wsX1_firstOfMonth) := goodIn_app (goodIn_of _ (by decide +kernel)) ggX2_with_X1_firstOfMonth
set_option maxRecDepth 20000 in
theorem ggX2_with_X2_keepDate : GoodIn wsX2_with wsX2_keepDate := goodIn_ca (goodIn_ca (goodIn_r _ [69, 3, 70, 71, 13, 72, 73, 74, 75, 76, 7, 77, 78, 79, 103, 104, 105, 106, 107, 108, 109, 110, 111, 112] (by decide +kernel) (by decide +kernel)) (goodIn_sub (fun _ h => List.mem_cons_of_mem _ (List.mem_append_left _ (List.mem_append_left _ (List.mem_append_left _ (List.mem_append_right _ h))))) (by decide +kernel))) (goodIn_sub (fun _ h => List.mem_cons_of_mem _ (List.mem_append_right _ h)) (by decide +kernel))
set_option maxRecDepth 20000 in
theorem gX2_with_X2_keepDate : GoodIn wsX2_with (wsV RX2 73 RX2 yX2_keepDate wsX2_keepDate) := goodIn_app (goodIn_of _ (by decide +kernel)) ggX2_with_X2_keepDate
set_option maxRecDepth 20000 in
theorem ggX2_with_X1_lengthOfYear : GoodIn wsX2_with wsX1_lengthOfYear := goodIn_r _ [82, 37, 38, 13, 39, 32, 34, 21] (by decide +kernel) (by decide +kernel)
set_option maxRecDepth 20000 in
theorem gX2_with_X1_lengthOfYear : GoodIn wsX2_with (va_wsS RX2 95 yX1_lengthOfYear wsX1_lengthOfYear) := goodIn_app (goodIn_of _ (by decide +kernel)) ggX2_with_X1_lengthOfYear
set_option maxRecDepth 20000 in
theorem ggX2_with_X1_firstOfYear : GoodIn wsX2_with wsX1_firstOfYear := goodIn_r _ [30, 31, 32, 33, 34, 35, 21, 36, 22, 24, 25, 26, 27] (by decide +kernel) (by decide +kernel)
set_option maxRecDepth 20000 in
theorem gX2_with_X1_firstOfYear : GoodIn wsX2_with (va_wsS RX2 89 yX1_firstOfYear wsX1_firstOfYear) := goodIn_app (goodIn_of _ (by decide +kernel)) ggX2_with_X1_firstOfYear
set_option maxRecDepth 20000 in
theorem ggX2_with_X1_monthInYear : GoodIn wsX2_with wsX1_monthInYear := goodIn_r _ [51, 15, 52, 53, 26, 54] (by decide +kernel) (by decide +kernel)
set_option maxRecDepth 20000 in
theorem gX2_with_X1_monthInYear : GoodIn wsX2_with (va_wsS RX2 83 yX1_monthInYear wsX1_monthInYear) := goodIn_app (goodIn_of _ (by decide +kernel)) ggX2_with_X1_monthInYear
set_option maxRecDepth 20000 in
theorem ggX2_with_X1_plusMonths : GoodIn wsX2_with wsX1_plusMonths := goodIn_r _ [87, 88, 12, 13, 14, 15, 16, 17, 18, 19, 20, 21, 22, 23, 24, 25, 26, 27, 28, 29, 30, 31, 32, 33, 34, 35, 36, 37, 38, 39, 40, 41, 42, 89, 63, 64, 65, 55, 44, 45, 49, 50, 51, 52, 53, 54, 90, 91, 92, 93, 94, 95, 96, 97, 47, 48] (by decide +kernel) (by decide +kernel)
set_option maxRecDepth 20000 in
theorem gX2_with_X1_plusMonths : GoodIn wsX2_with (va_wsS RX2 123 yX1_plusMonths wsX1_plusMonths) := goodIn_app (goodIn_of _ (by decide +kernel)) ggX2_with_X1_plusMonths
set_option maxRecDepth 20000 in
theorem ggX2_with_X2_isYear : GoodIn wsX2_with wsX2_isYear := goodIn_r _ [100, 101, 102, 56, 57, 7, 58] (by decide +kernel) (by decide +kernel)
set_option maxRecDepth 20000 in
theorem gX2_with_X2_isYear : GoodIn wsX2_with (va_wsS RX2 45 yX2_isYear wsX2_isYear) := goodIn_app (goodIn_of _ (by decide +kernel)) ggX2_with_X2_isYear
theorem dX2_with_0 : decode cX2_with 0 = .ok (.iload_n 1, 1) := by decide +kernel
theorem dX2_with_1 : decode cX2_with 1 = .ok (.bipush 6, 2) := by decide +kernel
theorem dX2_with_3 : decode cX2_with 3 = .ok (.invokestatic 41, 3) := by decide +kernel
theorem dX2_with_6 : decode cX2_with 6 = .ok (.iload 4, 2) := by decide +kernel
theorem dX2_with_8 : decode cX2_with 8 = .ok (.bipush 6, 2) := by decide +kernel
theorem dX2_with_10 : decode cX2_with 10 = .ok (.invokestatic 41, 3) := by decide +kernel
theorem dX2_with_13 : decode cX2_with 13 = .ok (.aload_n 0, 1) := by decide +kernel
theorem dX2_with_14 : decode cX2_with 14 = .ok (.getfield 9, 3) := by decide +kernel
theorem dX2_with_17 : decode cX2_with 17 = .ok (.iload_n 1, 1) := by decide +kernel
theorem dX2_with_18 : decode cX2_with 18 = .ok (.laload, 1) := by decide +kernel
theorem dX2_with_19 : decode cX2_with 19 = .ok (.lstore 5, 2) := by decide +kernel
theorem dX2_with_21 : decode cX2_with 21 = .ok (.lload 5, 2) := by decide +kernel
theorem dX2_with_23 : decode cX2_with 23 = .ok (.invokestatic 80, 3) := by decide +kernel
theorem dX2_with_26 : decode cX2_with 26 = .ok (.lstore 7, 2) := by decide +kernel
theorem dX2_with_28 : decode cX2_with 28 = .ok (.lload 7, 2) := by decide +kernel
theorem dX2_with_30 : decode cX2_with 30 = .ok (.invokestatic 120, 3) := by decide +kernel
theorem dX2_with_33 : decode cX2_with 33 = .ok (.lstore 9, 2) := by decide +kernel
theorem dX2_with_35 : decode cX2_with 35 = .ok (.iload_n 2, 1) := by decide +kernel
theorem dX2_with_36 : decode cX2_with 36 = .ok (.lookupswitch 169 #[(100, 44), (109, 108), (110, 76), (121, 140)], 44) := by decide +kernel
theorem dX2_with_80 : decode cX2_with 80 = .ok (.iload_n 3, 1) := by decide +kernel
theorem dX2_with_81 : decode cX2_with 81 = .ok (.i2l, 1) := by decide +kernel
theorem dX2_with_82 : decode cX2_with 82 = .ok (.lconst 1, 1) := by decide +kernel
theorem dX2_with_83 : decode cX2_with 83 = .ok (.lload 7, 2) := by decide +kernel
theorem dX2_with_85 : decode cX2_with 85 = .ok (.invokestatic 65, 3) := by decide +kernel
theorem dX2_with_88 : decode cX2_with 88 = .ok (.i2l, 1) := by decide +kernel
theorem dX2_with_89 : decode cX2_with 89 = .ok (.invokestatic 55, 3) := by decide +kernel
theorem dX2_with_92 : decode cX2_with 92 = .ok (.invokestatic 49, 3) := by decide +kernel
theorem dX2_with_95 : decode cX2_with 95 = .ok (.aload_n 0, 1) := by decide +kernel
theorem dX2_with_96 : decode cX2_with 96 = .ok (.iload 4, 2) := by decide +kernel
theorem dX2_with_98 : decode cX2_with 98 = .ok (.lload 7, 2) := by decide +kernel
theorem dX2_with_100 : decode cX2_with 100 = .ok (.invokestatic 69, 3) := by decide +kernel
theorem dX2_with_103 : decode cX2_with 103 = .ok (.iload_n 3, 1) := by decide +kernel
theorem dX2_with_104 : decode cX2_with 104 = .ok (.i2l, 1) := by decide +kernel
theorem dX2_with_105 : decode cX2_with 105 = .ok (.ladd, 1) := by decide +kernel
theorem dX2_with_106 : decode cX2_with 106 = .ok (.lconst 1, 1) := by decide +kernel
theorem dX2_with_107 : decode cX2_with 107 = .ok (.lsub, 1) := by decide +kernel
theorem dX2_with_108 : decode cX2_with 108 = .ok (.invokevirtual 73, 3) := by decide +kernel
theorem dX2_with_111 : decode cX2_with 111 = .ok (.lreturn, 1) := by decide +kernel
theorem dX2_with_112 : decode cX2_with 112 = .ok (.iload_n 3, 1) := by decide +kernel
theorem dX2_with_113 : decode cX2_with 113 = .ok (.i2l, 1) := by decide +kernel
theorem dX2_with_114 : decode cX2_with 114 = .ok (.lconst 1, 1) := by decide +kernel
theorem dX2_with_115 : decode cX2_with 115 = .ok (.lload 9, 2) := by decide +kernel
theorem dX2_with_117 : decode cX2_with 117 = .ok (.invokestatic 95, 3) := by decide +kernel
theorem dX2_with_120 : decode cX2_with 120 = .ok (.i2l, 1) := by decide +kernel
theorem dX2_with_121 : decode cX2_with 121 = .ok (.invokestatic 55, 3) := by decide +kernel
theorem dX2_with_124 : decode cX2_with 124 = .ok (.invokestatic 49, 3) := by decide +kernel
theorem dX2_with_127 : decode cX2_with 127 = .ok (.aload_n 0, 1) := by decide +kernel
theorem dX2_with_128 : decode cX2_with 128 = .ok (.iload 4, 2) := by decide +kernel
theorem dX2_with_130 : decode cX2_with 130 = .ok (.lload 9, 2) := by decide +kernel
theorem dX2_with_132 : decode cX2_with 132 = .ok (.invokestatic 89, 3) := by decide +kernel
theorem dX2_with_135 : decode cX2_with 135 = .ok (.iload_n 3, 1) := by decide +kernel
theorem dX2_with_136 : decode cX2_with 136 = .ok (.i2l, 1) := by decide +kernel
theorem dX2_with_137 : decode cX2_with 137 = .ok (.ladd, 1) := by decide +kernel
theorem dX2_with_138 : decode cX2_with 138 = .ok (.lconst 1, 1) := by decide +kernel
theorem dX2_with_139 : decode cX2_with 139 = .ok (.lsub, 1) := by decide +kernel
theorem dX2_with_140 : decode cX2_with 140 = .ok (.invokevirtual 73, 3) := by decide +kernel
theorem dX2_with_143 : decode cX2_with 143 = .ok (.lreturn, 1) := by decide +kernel
theorem dX2_with_144 : decode cX2_with 144 = .ok (.iload_n 3, 1) := by decide +kernel
theorem dX2_with_145 : decode cX2_with 145 = .ok (.i2l, 1) := by decide +kernel
theorem dX2_with_146 : decode cX2_with 146 = .ok (.lconst 1, 1) := by decide +kernel
theorem dX2_with_147 : decode cX2_with 147 = .ok (.ldc2_w 53, 3) := by decide +kernel
theorem dX2_with_150 : decode cX2_with 150 = .ok (.invokestatic 55, 3) := by decide +kernel
theorem dX2_with_153 : decode cX2_with 153 = .ok (.invokestatic 49, 3) := by decide +kernel
theorem dX2_with_156 : decode cX2_with 156 = .ok (.aload_n 0, 1) := by decide +kernel
theorem dX2_with_157 : decode cX2_with 157 = .ok (.iload 4, 2) := by decide +kernel
theorem dX2_with_159 : decode cX2_with 159 = .ok (.lload 5, 2) := by decide +kernel
theorem dX2_with_161 : decode cX2_with 161 = .ok (.iload_n 3, 1) := by decide +kernel
theorem dX2_with_162 : decode cX2_with 162 = .ok (.lload 7, 2) := by decide +kernel
theorem dX2_with_164 : decode cX2_with 164 = .ok (.invokestatic 83, 3) := by decide +kernel
theorem dX2_with_167 : decode cX2_with 167 = .ok (.isub, 1) := by decide +kernel
theorem dX2_with_168 : decode cX2_with 168 = .ok (.i2l, 1) := by decide +kernel
theorem dX2_with_169 : decode cX2_with 169 = .ok (.invokestatic 123, 3) := by decide +kernel
theorem dX2_with_172 : decode cX2_with 172 = .ok (.invokevirtual 73, 3) := by decide +kernel
theorem dX2_with_175 : decode cX2_with 175 = .ok (.lreturn, 1) := by decide +kernel
theorem dX2_with_176 : decode cX2_with 176 = .ok (.iload_n 3, 1) := by decide +kernel
theorem dX2_with_177 : decode cX2_with 177 = .ok (.i2l, 1) := by decide +kernel
theorem dX2_with_178 : decode cX2_with 178 = .ok (.invokestatic 45, 3) := by decide +kernel
theorem dX2_with_181 : decode cX2_with 181 = .ok (.invokestatic 49, 3) := by decide +kernel
theorem dX2_with_184 : decode cX2_with 184 = .ok (.aload_n 0, 1) := by decide +kernel
theorem dX2_with_185 : decode cX2_with 185 = .ok (.iload 4, 2) := by decide +kernel
theorem dX2_with_187 : decode cX2_with 187 = .ok (.lload 5, 2) := by decide +kernel
theorem dX2_with_189 : decode cX2_with 189 = .ok (.ldc2_w 53, 3) := by decide +kernel
theorem dX2_with_192 : decode cX2_with 192 = .ok (.iload_n 3, 1) := by decide +kernel
theorem dX2_with_193 : decode cX2_with 193 = .ok (.i2l, 1) := by decide +kernel
theorem dX2_with_194 : decode cX2_with 194 = .ok (.lload 9, 2) := by decide +kernel
theorem dX2_with_196 : decode cX2_with 196 = .ok (.lsub, 1) := by decide +kernel
theorem dX2_with_197 : decode cX2_with 197 = .ok (.lmul, 1) := by decide +kernel
theorem dX2_with_198 : decode cX2_with 198 = .ok (.invokestatic 123, 3) := by decide +kernel
theorem dX2_with_201 : decode cX2_with 201 = .ok (.invokevirtual 73, 3) := by decide +kernel
theorem dX2_with_204 : decode cX2_with 204 = .ok (.lreturn, 1) := by decide +kernel
theorem dX2_with_205 : decode cX2_with 205 = .ok (.new 101, 3) := by decide +kernel
theorem dX2_with_208 : decode cX2_with 208 = .ok (.dup, 1) := by decide +kernel
theorem dX2_with_209 : decode cX2_with 209 = .ok (.ldc 126, 2) := by decide +kernel
theorem dX2_with_211 : decode cX2_with 211 = .ok (.invokespecial 105, 3) := by decide +kernel
theorem dX2_with_214 : decode cX2_with 214 = .ok (.athrow, 1) := by decide +kernel
set_option maxRecDepth 20000 in
theorem ggX2_adjust_X2_checkSlot : GoodIn wsX2_adjust wsX2_checkSlot := goodIn_ca (goodIn_r _ [7, 8, 9] (by decide +kernel) (by decide +kernel)) (goodIn_sub (fun _ h => List.mem_cons_of_mem _ (List.mem_append_left _ (List.mem_append_right _ h))) (by decide +kernel))
set_option maxRecDepth 20000 in
theorem gX2_adjust_X2_checkSlot : GoodIn wsX2_adjust (va_wsS RX2 41 yX2_checkSlot wsX2_checkSlot) := goodIn_app (goodIn_of _ (by decide +kernel)) ggX2_adjust_X2_checkSlot
set_option maxRecDepth 20000 in
theorem ggX2_adjust_X1_monthOfDay : GoodIn wsX2_adjust wsX1_monthOfDay := goodIn_r _ [13, 14, 15, 16, 17, 18, 12, 19, 20, 21, 22, 23, 24, 25, 26, 27, 28, 29, 30, 31, 32, 33, 34, 35, 36, 37, 38, 39, 40, 41] (by decide +kernel) (by decide +kernel)
set_option maxRecDepth 20000 in
theorem gX2_adjust_X1_monthOfDay : GoodIn wsX2_adjust (va_wsS RX2 80 yX1_monthOfDay wsX1_monthOfDay) := goodIn_app (goodIn_of _ (by decide +kernel)) ggX2_adjust_X1_monthOfDay
set_option maxRecDepth 20000 in
theorem ggX2_adjust_X1_yearOfMonth : GoodIn wsX2_adjust wsX1_yearOfMonth := goodIn_r _ [44, 14, 23, 24, 25, 26] (by decide +kernel) (by decide +kernel)
set_option maxRecDepth 20000 in
theorem gX2_adjust_X1_yearOfMonth : GoodIn wsX2_adjust (va_wsS RX2 120 yX1_yearOfMonth wsX1_yearOfMonth) := goodIn_app (goodIn_of _ (by decide +kernel)) ggX2_adjust_X1_yearOfMonth
set_option maxRecDepth 20000 in
theorem ggX2_adjust_X1_firstOfMonth : GoodIn wsX2_adjust wsX1_firstOfMonth := goodIn_r _ [47, 48, 49, 43, 12, 44, 14, 23, 24, 25, 26, 50, 51, 52, 53, 54, 55, 36, 37, 38, 31, 33, 20, 27, 28, 29, 30, 32, 34, 35, 21] (by decide +kernel) (by decide +kernel)
set_option maxRecDepth 20000 in
theorem gX2_adjust_X1_firstOfMonth : GoodIn wsX2_adjust (va_wsS RX2 69 yX1_firstOfMonth wsX1_firstOfMonth) := goodIn_app (goodIn_of _ (by decide +kernel)) ggX2_adjust_X1_firstOfMonth
set_option maxRecDepth 20000 in
theorem ggX2_adjust_X2_keepDate : GoodIn wsX2_adjust wsX2_keepDate := goodIn_ca (goodIn_ca (goodIn_r _ [59, 3, 60, 61, 12, 62, 63, 64, 65, 66, 6, 67, 68, 69, 71, 72, 73, 74, 75, 76, 77, 78, 79, 80] (by decide +kernel) (by decide +kernel)) (goodIn_sub (fun _ h => List.mem_cons_of_mem _ (List.mem_append_left _ (List.mem_append_left _ (List.mem_append_left _ (List.mem_append_right _ h))))) (by decide +kernel))) (goodIn_sub (fun _ h => List.mem_cons_of_mem _ (List.mem_append_right _ h)) (by decide +kernel))
set_option maxRecDepth 20000 in
theorem gX2_adjust_X2_keepDate : GoodIn wsX2_adjust (wsV RX2 73 RX2 yX2_keepDate wsX2_keepDate) := goodIn_app (goodIn_of _ (by decide +kernel)) ggX2_adjust_X2_keepDate
set_option maxRecDepth 20000 in
theorem ggX2_adjust_X1_firstOfYear : GoodIn wsX2_adjust wsX1_firstOfYear := goodIn_r _ [29, 30, 31, 32, 33, 34, 20, 35, 21, 23, 24, 25, 26] (by decide +kernel) (by decide +kernel)
set_option maxRecDepth 20000 in
theorem gX2_adjust_X1_firstOfYear : GoodIn wsX2_adjust (va_wsS RX2 89 yX1_firstOfYear wsX1_firstOfYear) := goodIn_app (goodIn_of _ (by decide +kernel)) ggX2_adjust_X1_firstOfYear
theorem dX2_adjust_0 : decode cX2_adjust 0 = .ok (.iload_n 1, 1) := by decide +kernel
theorem dX2_adjust_1 : decode cX2_adjust 1 = .ok (.bipush 6, 2) := by decide +kernel
theorem dX2_adjust_3 : decode cX2_adjust 3 = .ok (.invokestatic 41, 3) := by decide +kernel
theorem dX2_adjust_6 : decode cX2_adjust 6 = .ok (.iload_n 3, 1) := by decide +kernel
theorem dX2_adjust_7 : decode cX2_adjust 7 = .ok (.bipush 6, 2) := by decide +kernel
theorem dX2_adjust_9 : decode cX2_adjust 9 = .ok (.invokestatic 41, 3) := by decide +kernel
theorem dX2_adjust_12 : decode cX2_adjust 12 = .ok (.aload_n 0, 1) := by decide +kernel
theorem dX2_adjust_13 : decode cX2_adjust 13 = .ok (.getfield 9, 3) := by decide +kernel
theorem dX2_adjust_16 : decode cX2_adjust 16 = .ok (.iload_n 1, 1) := by decide +kernel
theorem dX2_adjust_17 : decode cX2_adjust 17 = .ok (.laload, 1) := by decide +kernel
theorem dX2_adjust_18 : decode cX2_adjust 18 = .ok (.invokestatic 80, 3) := by decide +kernel
theorem dX2_adjust_21 : decode cX2_adjust 21 = .ok (.lstore 4, 2) := by decide +kernel
theorem dX2_adjust_23 : decode cX2_adjust 23 = .ok (.lload 4, 2) := by decide +kernel
theorem dX2_adjust_25 : decode cX2_adjust 25 = .ok (.invokestatic 120, 3) := by decide +kernel
theorem dX2_adjust_28 : decode cX2_adjust 28 = .ok (.lstore 6, 2) := by decide +kernel
theorem dX2_adjust_30 : decode cX2_adjust 30 = .ok (.iload_n 2, 1) := by decide +kernel
theorem dX2_adjust_31 : decode cX2_adjust 31 = .ok (.lookupswitch 135 #[(70, 96), (76, 107), (78, 122), (102, 57), (108, 68), (110, 83)], 57) := by decide +kernel
theorem dX2_adjust_88 : decode cX2_adjust 88 = .ok (.aload_n 0, 1) := by decide +kernel
theorem dX2_adjust_89 : decode cX2_adjust 89 = .ok (.iload_n 3, 1) := by decide +kernel
theorem dX2_adjust_90 : decode cX2_adjust 90 = .ok (.lload 4, 2) := by decide +kernel
theorem dX2_adjust_92 : decode cX2_adjust 92 = .ok (.invokestatic 69, 3) := by decide +kernel
theorem dX2_adjust_95 : decode cX2_adjust 95 = .ok (.invokevirtual 73, 3) := by decide +kernel
theorem dX2_adjust_98 : decode cX2_adjust 98 = .ok (.lreturn, 1) := by decide +kernel
theorem dX2_adjust_99 : decode cX2_adjust 99 = .ok (.aload_n 0, 1) := by decide +kernel
theorem dX2_adjust_100 : decode cX2_adjust 100 = .ok (.iload_n 3, 1) := by decide +kernel
theorem dX2_adjust_101 : decode cX2_adjust 101 = .ok (.lload 4, 2) := by decide +kernel
theorem dX2_adjust_103 : decode cX2_adjust 103 = .ok (.lconst 1, 1) := by decide +kernel
theorem dX2_adjust_104 : decode cX2_adjust 104 = .ok (.ladd, 1) := by decide +kernel
theorem dX2_adjust_105 : decode cX2_adjust 105 = .ok (.invokestatic 69, 3) := by decide +kernel
theorem dX2_adjust_108 : decode cX2_adjust 108 = .ok (.lconst 1, 1) := by decide +kernel
theorem dX2_adjust_109 : decode cX2_adjust 109 = .ok (.lsub, 1) := by decide +kernel
theorem dX2_adjust_110 : decode cX2_adjust 110 = .ok (.invokevirtual 73, 3) := by decide +kernel
theorem dX2_adjust_113 : decode cX2_adjust 113 = .ok (.lreturn, 1) := by decide +kernel
theorem dX2_adjust_114 : decode cX2_adjust 114 = .ok (.aload_n 0, 1) := by decide +kernel
theorem dX2_adjust_115 : decode cX2_adjust 115 = .ok (.iload_n 3, 1) := by decide +kernel
theorem dX2_adjust_116 : decode cX2_adjust 116 = .ok (.lload 4, 2) := by decide +kernel
theorem dX2_adjust_118 : decode cX2_adjust 118 = .ok (.lconst 1, 1) := by decide +kernel
theorem dX2_adjust_119 : decode cX2_adjust 119 = .ok (.ladd, 1) := by decide +kernel
theorem dX2_adjust_120 : decode cX2_adjust 120 = .ok (.invokestatic 69, 3) := by decide +kernel
theorem dX2_adjust_123 : decode cX2_adjust 123 = .ok (.invokevirtual 73, 3) := by decide +kernel
theorem dX2_adjust_126 : decode cX2_adjust 126 = .ok (.lreturn, 1) := by decide +kernel
theorem dX2_adjust_127 : decode cX2_adjust 127 = .ok (.aload_n 0, 1) := by decide +kernel
theorem dX2_adjust_128 : decode cX2_adjust 128 = .ok (.iload_n 3, 1) := by decide +kernel
theorem dX2_adjust_129 : decode cX2_adjust 129 = .ok (.lload 6, 2) := by decide +kernel
theorem dX2_adjust_131 : decode cX2_adjust 131 = .ok (.invokestatic 89, 3) := by decide +kernel
theorem dX2_adjust_134 : decode cX2_adjust 134 = .ok (.invokevirtual 73, 3) := by decide +kernel
theorem dX2_adjust_137 : decode cX2_adjust 137 = .ok (.lreturn, 1) := by decide +kernel
theorem dX2_adjust_138 : decode cX2_adjust 138 = .ok (.aload_n 0, 1) := by decide +kernel
theorem dX2_adjust_139 : decode cX2_adjust 139 = .ok (.iload_n 3, 1) := by decide +kernel
theorem dX2_adjust_140 : decode cX2_adjust 140 = .ok (.lload 6, 2) := by decide +kernel
theorem dX2_adjust_142 : decode cX2_adjust 142 = .ok (.lconst 1, 1) := by decide +kernel
theorem dX2_adjust_143 : decode cX2_adjust 143 = .ok (.ladd, 1) := by decide +kernel
theorem dX2_adjust_144 : decode cX2_adjust 144 = .ok (.invokestatic 89, 3) := by decide +kernel
theorem dX2_adjust_147 : decode cX2_adjust 147 = .ok (.lconst 1, 1) := by decide +kernel
theorem dX2_adjust_148 : decode cX2_adjust 148 = .ok (.lsub, 1) := by decide +kernel
theorem dX2_adjust_149 : decode cX2_adjust 149 = .ok (.invokevirtual 73, 3) := by decide +kernel
theorem dX2_adjust_152 : decode cX2_adjust 152 = .ok (.lreturn, 1) := by decide +kernel
theorem dX2_adjust_153 : decode cX2_adjust 153 = .ok (.aload_n 0, 1) := by decide +kernel
theorem dX2_adjust_154 : decode cX2_adjust 154 = .ok (.iload_n 3, 1) := by decide +kernel
theorem dX2_adjust_155 : decode cX2_adjust 155 = .ok (.lload 6, 2) := by decide +kernel
theorem dX2_adjust_157 : decode cX2_adjust 157 = .ok (.lconst 1, 1) := by decide +kernel
theorem dX2_adjust_158 : decode cX2_adjust 158 = .ok (.ladd, 1) := by decide +kernel
theorem dX2_adjust_159 : decode cX2_adjust 159 = .ok (.invokestatic 89, 3) := by decide +kernel
theorem dX2_adjust_162 : decode cX2_adjust 162 = .ok (.invokevirtual 73, 3) := by decide +kernel
theorem dX2_adjust_165 : decode cX2_adjust 165 = .ok (.lreturn, 1) := by decide +kernel
theorem dX2_adjust_166 : decode cX2_adjust 166 = .ok (.new 101, 3) := by decide +kernel
