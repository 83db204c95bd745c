set_option maxRecDepth 20000 in
theorem gX2_timesLength_X2_checkArgument : GoodIn wsX2_timesLength (va_wsS RX2 49 yX2_checkArgument wsX2_checkArgument) := goodIn_app (goodIn_of _ (by decide +kernel)) ggX2_timesLength_X2_checkArgument
set_option maxRecDepth 20000 in
theorem ggX2_timesLength_X2_keepLength : GoodIn wsX2_timesLength wsX2_keepLength := goodIn_ca (goodIn_ca (goodIn_r _ [22, 23, 24, 25, 3, 4, 26, 27, 28, 29, 30, 31, 32, 11, 12, 7, 13, 33, 34, 35, 36, 37, 38, 39, 40, 41, 42, 43, 44, 45, 46, 47] (by decide +kernel) (by decide +kernel)) (goodIn_sub (fun _ h => List.mem_cons_of_mem _ (List.mem_append_left _ (List.mem_append_left _ (List.mem_append_left _ (List.mem_append_right _ h))))) (by decide +kernel))) (goodIn_sub (fun _ h => List.mem_cons_of_mem _ (List.mem_append_right _ h)) (by decide +kernel))
set_option maxRecDepth 20000 in
theorem gX2_timesLength_X2_keepLength : GoodIn wsX2_timesLength (wsV RX2 227 RX2 yX2_keepLength wsX2_keepLength) := goodIn_app (goodIn_of _ (by decide +kernel)) ggX2_timesLength_X2_keepLength
theorem dX2_timesLength_0 : decode cX2_timesLength 0 = .ok (.iload_n 1, 1) := by decide +kernel
theorem dX2_timesLength_1 : decode cX2_timesLength 1 = .ok (.iconst 4, 1) := by decide +kernel
theorem dX2_timesLength_2 : decode cX2_timesLength 2 = .ok (.invokestatic 41, 3) := by decide +kernel
theorem dX2_timesLength_5 : decode cX2_timesLength 5 = .ok (.iload_n 3, 1) := by decide +kernel
theorem dX2_timesLength_6 : decode cX2_timesLength 6 = .ok (.iconst 4, 1) := by decide +kernel
theorem dX2_timesLength_7 : decode cX2_timesLength 7 = .ok (.invokestatic 41, 3) := by decide +kernel
theorem dX2_timesLength_10 : decode cX2_timesLength 10 = .ok (.iload_n 2, 1) := by decide +kernel
theorem dX2_timesLength_11 : decode cX2_timesLength 11 = .ok (.i2l, 1) := by decide +kernel
theorem dX2_timesLength_12 : decode cX2_timesLength 12 = .ok (.ldc2_w 233, 3) := by decide +kernel
theorem dX2_timesLength_15 : decode cX2_timesLength 15 = .ok (.ldc2_w 235, 3) := by decide +kernel
theorem dX2_timesLength_18 : decode cX2_timesLength 18 = .ok (.invokestatic 55, 3) := by decide +kernel
theorem dX2_timesLength_21 : decode cX2_timesLength 21 = .ok (.invokestatic 49, 3) := by decide +kernel
theorem dX2_timesLength_24 : decode cX2_timesLength 24 = .ok (.aload_n 0, 1) := by decide +kernel
theorem dX2_timesLength_25 : decode cX2_timesLength 25 = .ok (.iload_n 3, 1) := by decide +kernel
theorem dX2_timesLength_26 : decode cX2_timesLength 26 = .ok (.iload_n 2, 1) := by decide +kernel
theorem dX2_timesLength_27 : decode cX2_timesLength 27 = .ok (.i2l, 1) := by decide +kernel
theorem dX2_timesLength_28 : decode cX2_timesLength 28 = .ok (.aload_n 0, 1) := by decide +kernel
theorem dX2_timesLength_29 : decode cX2_timesLength 29 = .ok (.getfield 29, 3) := by decide +kernel
theorem dX2_timesLength_32 : decode cX2_timesLength 32 = .ok (.iload_n 1, 1) := by decide +kernel
theorem dX2_timesLength_33 : decode cX2_timesLength 33 = .ok (.laload, 1) := by decide +kernel
theorem dX2_timesLength_34 : decode cX2_timesLength 34 = .ok (.lmul, 1) := by decide +kernel
theorem dX2_timesLength_35 : decode cX2_timesLength 35 = .ok (.iload_n 2, 1) := by decide +kernel
theorem dX2_timesLength_36 : decode cX2_timesLength 36 = .ok (.i2l, 1) := by decide +kernel
theorem dX2_timesLength_37 : decode cX2_timesLength 37 = .ok (.aload_n 0, 1) := by decide +kernel
theorem dX2_timesLength_38 : decode cX2_timesLength 38 = .ok (.getfield 32, 3) := by decide +kernel
theorem dX2_timesLength_41 : decode cX2_timesLength 41 = .ok (.iload_n 1, 1) := by decide +kernel
theorem dX2_timesLength_42 : decode cX2_timesLength 42 = .ok (.laload, 1) := by decide +kernel
theorem dX2_timesLength_43 : decode cX2_timesLength 43 = .ok (.lmul, 1) := by decide +kernel
theorem dX2_timesLength_44 : decode cX2_timesLength 44 = .ok (.invokevirtual 227, 3) := by decide +kernel
theorem dX2_timesLength_47 : decode cX2_timesLength 47 = .ok (.lreturn, 1) := by decide +kernel
set_option maxRecDepth 20000 in
theorem ggX2_lengthOfTimes_X2_checkSlot : GoodIn wsX2_lengthOfTimes wsX2_checkSlot := goodIn_ca (goodIn_r _ [5, 6, 7] (by decide +kernel) (by decide +kernel)) (goodIn_sub (fun _ h => List.mem_cons_of_mem _ (List.mem_append_left _ (List.mem_append_right _ h))) (by decide +kernel))
set_option maxRecDepth 20000 in
theorem gX2_lengthOfTimes_X2_checkSlot : GoodIn wsX2_lengthOfTimes (va_wsS RX2 41 yX2_checkSlot wsX2_checkSlot) := goodIn_app (goodIn_of _ (by decide +kernel)) ggX2_lengthOfTimes_X2_checkSlot
set_option maxRecDepth 20000 in
theorem ggX2_lengthOfTimes_X2_keepLength : GoodIn wsX2_lengthOfTimes wsX2_keepLength := goodIn_ca (goodIn_ca (goodIn_r _ [11, 12, 13, 14, 15, 16, 17, 18, 19, 20, 21, 22, 23, 24, 25, 4, 26, 27, 28, 29, 30, 31, 32, 33, 34, 35, 36, 37, 38, 39, 40, 41] (by decide +kernel) (by decide +kernel)) (goodIn_sub (fun _ h => List.mem_cons_of_mem _ (List.mem_append_left _ (List.mem_append_left _ (List.mem_append_right _ h)))) (by decide +kernel))) (goodIn_sub (fun _ h => List.mem_cons_of_mem _ (List.mem_append_right _ h)) (by decide +kernel))
set_option maxRecDepth 20000 in
theorem gX2_lengthOfTimes_X2_keepLength : GoodIn wsX2_lengthOfTimes (wsV RX2 227 RX2 yX2_keepLength wsX2_keepLength) := goodIn_app (goodIn_of _ (by decide +kernel)) ggX2_lengthOfTimes_X2_keepLength
theorem dX2_lengthOfTimes_0 : decode cX2_lengthOfTimes 0 = .ok (.iload_n 1, 1) := by decide +kernel
theorem dX2_lengthOfTimes_1 : decode cX2_lengthOfTimes 1 = .ok (.iconst 4, 1) := by decide +kernel
theorem dX2_lengthOfTimes_2 : decode cX2_lengthOfTimes 2 = .ok (.invokestatic 41, 3) := by decide +kernel
theorem dX2_lengthOfTimes_5 : decode cX2_lengthOfTimes 5 = .ok (.iload_n 2, 1) := by decide +kernel
theorem dX2_lengthOfTimes_6 : decode cX2_lengthOfTimes 6 = .ok (.iconst 4, 1) := by decide +kernel
theorem dX2_lengthOfTimes_7 : decode cX2_lengthOfTimes 7 = .ok (.invokestatic 41, 3) := by decide +kernel
theorem dX2_lengthOfTimes_10 : decode cX2_lengthOfTimes 10 = .ok (.iload_n 3, 1) := by decide +kernel
theorem dX2_lengthOfTimes_11 : decode cX2_lengthOfTimes 11 = .ok (.iconst 4, 1) := by decide +kernel
theorem dX2_lengthOfTimes_12 : decode cX2_lengthOfTimes 12 = .ok (.invokestatic 41, 3) := by decide +kernel
theorem dX2_lengthOfTimes_15 : decode cX2_lengthOfTimes 15 = .ok (.aload_n 0, 1) := by decide +kernel
theorem dX2_lengthOfTimes_16 : decode cX2_lengthOfTimes 16 = .ok (.iload_n 3, 1) := by decide +kernel
theorem dX2_lengthOfTimes_17 : decode cX2_lengthOfTimes 17 = .ok (.lconst 0, 1) := by decide +kernel
theorem dX2_lengthOfTimes_18 : decode cX2_lengthOfTimes 18 = .ok (.aload_n 0, 1) := by decide +kernel
theorem dX2_lengthOfTimes_19 : decode cX2_lengthOfTimes 19 = .ok (.getfield 26, 3) := by decide +kernel
theorem dX2_lengthOfTimes_22 : decode cX2_lengthOfTimes 22 = .ok (.iload_n 2, 1) := by decide +kernel
theorem dX2_lengthOfTimes_23 : decode cX2_lengthOfTimes 23 = .ok (.laload, 1) := by decide +kernel
theorem dX2_lengthOfTimes_24 : decode cX2_lengthOfTimes 24 = .ok (.aload_n 0, 1) := by decide +kernel
theorem dX2_lengthOfTimes_25 : decode cX2_lengthOfTimes 25 = .ok (.getfield 26, 3) := by decide +kernel
theorem dX2_lengthOfTimes_28 : decode cX2_lengthOfTimes 28 = .ok (.iload_n 1, 1) := by decide +kernel
theorem dX2_lengthOfTimes_29 : decode cX2_lengthOfTimes 29 = .ok (.laload, 1) := by decide +kernel
theorem dX2_lengthOfTimes_30 : decode cX2_lengthOfTimes 30 = .ok (.lsub, 1) := by decide +kernel
theorem dX2_lengthOfTimes_31 : decode cX2_lengthOfTimes 31 = .ok (.invokevirtual 227, 3) := by decide +kernel
theorem dX2_lengthOfTimes_34 : decode cX2_lengthOfTimes 34 = .ok (.lreturn, 1) := by decide +kernel
set_option maxRecDepth 20000 in
theorem ggX2_orderLengths_X2_checkSlot : GoodIn wsX2_orderLengths wsX2_checkSlot := goodIn_ca (goodIn_r _ [6, 7, 8] (by decide +kernel) (by decide +kernel)) (goodIn_sub (fun _ h => List.mem_cons_of_mem _ (List.mem_append_right _ h)) (by decide +kernel))
set_option maxRecDepth 20000 in
theorem gX2_orderLengths_X2_checkSlot : GoodIn wsX2_orderLengths (va_wsS RX2 41 yX2_checkSlot wsX2_checkSlot) := goodIn_app (goodIn_of _ (by decide +kernel)) ggX2_orderLengths_X2_checkSlot
set_option maxRecDepth 20000 in
theorem ggX2_orderLengths_X2_sign : GoodIn wsX2_orderLengths wsX2_sign := goodIn_r _ [11] (by decide +kernel) (by decide +kernel)
set_option maxRecDepth 20000 in
theorem gX2_orderLengths_X2_sign : GoodIn wsX2_orderLengths (va_wsS RX2 148 yX2_sign wsX2_sign) := goodIn_app (goodIn_of _ (by decide +kernel)) ggX2_orderLengths_X2_sign
theorem dX2_orderLengths_0 : decode cX2_orderLengths 0 = .ok (.iload_n 1, 1) := by decide +kernel
theorem dX2_orderLengths_1 : decode cX2_orderLengths 1 = .ok (.iconst 4, 1) := by decide +kernel
theorem dX2_orderLengths_2 : decode cX2_orderLengths 2 = .ok (.invokestatic 41, 3) := by decide +kernel
theorem dX2_orderLengths_5 : decode cX2_orderLengths 5 = .ok (.iload_n 2, 1) := by decide +kernel
theorem dX2_orderLengths_6 : decode cX2_orderLengths 6 = .ok (.iconst 4, 1) := by decide +kernel
theorem dX2_orderLengths_7 : decode cX2_orderLengths 7 = .ok (.invokestatic 41, 3) := by decide +kernel
theorem dX2_orderLengths_10 : decode cX2_orderLengths 10 = .ok (.aload_n 0, 1) := by decide +kernel
theorem dX2_orderLengths_11 : decode cX2_orderLengths 11 = .ok (.getfield 29, 3) := by decide +kernel
theorem dX2_orderLengths_14 : decode cX2_orderLengths 14 = .ok (.iload_n 1, 1) := by decide +kernel
theorem dX2_orderLengths_15 : decode cX2_orderLengths 15 = .ok (.laload, 1) := by decide +kernel
theorem dX2_orderLengths_16 : decode cX2_orderLengths 16 = .ok (.aload_n 0, 1) := by decide +kernel
theorem dX2_orderLengths_17 : decode cX2_orderLengths 17 = .ok (.getfield 29, 3) := by decide +kernel
theorem dX2_orderLengths_20 : decode cX2_orderLengths 20 = .ok (.iload_n 2, 1) := by decide +kernel
theorem dX2_orderLengths_21 : decode cX2_orderLengths 21 = .ok (.laload, 1) := by decide +kernel
theorem dX2_orderLengths_22 : decode cX2_orderLengths 22 = .ok (.invokestatic 148, 3) := by decide +kernel
theorem dX2_orderLengths_25 : decode cX2_orderLengths 25 = .ok (.istore_n 3, 1) := by decide +kernel
theorem dX2_orderLengths_26 : decode cX2_orderLengths 26 = .ok (.iload_n 3, 1) := by decide +kernel
theorem dX2_orderLengths_27 : decode cX2_orderLengths 27 = .ok (.ifCond .eq 7, 3) := by decide +kernel
theorem dX2_orderLengths_30 : decode cX2_orderLengths 30 = .ok (.iload_n 3, 1) := by decide +kernel
theorem dX2_orderLengths_31 : decode cX2_orderLengths 31 = .ok (.goto 18, 3) := by decide +kernel
theorem dX2_orderLengths_34 : decode cX2_orderLengths 34 = .ok (.aload_n 0, 1) := by decide +kernel
theorem dX2_orderLengths_35 : decode cX2_orderLengths 35 = .ok (.getfield 32, 3) := by decide +kernel
theorem dX2_orderLengths_38 : decode cX2_orderLengths 38 = .ok (.iload_n 1, 1) := by decide +kernel
theorem dX2_orderLengths_39 : decode cX2_orderLengths 39 = .ok (.laload, 1) := by decide +kernel
theorem dX2_orderLengths_40 : decode cX2_orderLengths 40 = .ok (.aload_n 0, 1) := by decide +kernel
theorem dX2_orderLengths_41 : decode cX2_orderLengths 41 = .ok (.getfield 32, 3) := by decide +kernel
theorem dX2_orderLengths_44 : decode cX2_orderLengths 44 = .ok (.iload_n 2, 1) := by decide +kernel
theorem dX2_orderLengths_45 : decode cX2_orderLengths 45 = .ok (.laload, 1) := by decide +kernel
theorem dX2_orderLengths_46 : decode cX2_orderLengths 46 = .ok (.invokestatic 148, 3) := by decide +kernel
theorem dX2_orderLengths_49 : decode cX2_orderLengths 49 = .ok (.ireturn, 1) := by decide +kernel
set_option maxRecDepth 20000 in
theorem ggX2_moment_X2_checkSlot : GoodIn wsX2_moment wsX2_checkSlot := goodIn_ca (goodIn_r _ [6, 7, 8] (by decide +kernel) (by decide +kernel)) (goodIn_sub (fun _ h => List.mem_cons_of_mem _ (List.mem_append_left _ (List.mem_append_right _ h))) (by decide +kernel))
set_option maxRecDepth 20000 in
theorem gX2_moment_X2_checkSlot : GoodIn wsX2_moment (va_wsS RX2 41 yX2_checkSlot wsX2_checkSlot) := goodIn_app (goodIn_of _ (by decide +kernel)) ggX2_moment_X2_checkSlot
set_option maxRecDepth 20000 in
theorem ggX2_moment_X2_keepMoment : GoodIn wsX2_moment wsX2_keepMoment := goodIn_ca (goodIn_ca (goodIn_r _ [12, 13, 14, 15, 16, 17, 18, 19, 20, 21, 22, 23, 24, 25, 26, 27, 5, 28, 29, 30, 31, 32, 33, 34, 35, 36, 37, 38, 39, 40, 41, 42, 43, 44, 45, 46, 47, 48] (by decide +kernel) (by decide +kernel)) (goodIn_sub (fun _ h => List.mem_cons_of_mem _ (List.mem_append_left _ (List.mem_append_left _ (List.mem_append_right _ h)))) (by decide +kernel))) (goodIn_sub (fun _ h => List.mem_cons_of_mem _ (List.mem_append_right _ h)) (by decide +kernel))
set_option maxRecDepth 20000 in
theorem gX2_moment_X2_keepMoment : GoodIn wsX2_moment (wsV RX2 237 RX2 yX2_keepMoment wsX2_keepMoment) := goodIn_app (goodIn_of _ (by decide +kernel)) ggX2_moment_X2_keepMoment
theorem dX2_moment_0 : decode cX2_moment 0 = .ok (.iload_n 1, 1) := by decide +kernel
theorem dX2_moment_1 : decode cX2_moment 1 = .ok (.iconst 4, 1) := by decide +kernel
theorem dX2_moment_2 : decode cX2_moment 2 = .ok (.invokestatic 41, 3) := by decide +kernel
theorem dX2_moment_5 : decode cX2_moment 5 = .ok (.iload_n 2, 1) := by decide +kernel
theorem dX2_moment_6 : decode cX2_moment 6 = .ok (.bipush 6, 2) := by decide +kernel
theorem dX2_moment_8 : decode cX2_moment 8 = .ok (.invokestatic 41, 3) := by decide +kernel
theorem dX2_moment_11 : decode cX2_moment 11 = .ok (.iload_n 3, 1) := by decide +kernel
theorem dX2_moment_12 : decode cX2_moment 12 = .ok (.iconst 4, 1) := by decide +kernel
theorem dX2_moment_13 : decode cX2_moment 13 = .ok (.invokestatic 41, 3) := by decide +kernel
theorem dX2_moment_16 : decode cX2_moment 16 = .ok (.aload_n 0, 1) := by decide +kernel
theorem dX2_moment_17 : decode cX2_moment 17 = .ok (.iload_n 1, 1) := by decide +kernel
theorem dX2_moment_18 : decode cX2_moment 18 = .ok (.aload_n 0, 1) := by decide +kernel
theorem dX2_moment_19 : decode cX2_moment 19 = .ok (.getfield 9, 3) := by decide +kernel
theorem dX2_moment_22 : decode cX2_moment 22 = .ok (.iload_n 2, 1) := by decide +kernel
theorem dX2_moment_23 : decode cX2_moment 23 = .ok (.laload, 1) := by decide +kernel
theorem dX2_moment_24 : decode cX2_moment 24 = .ok (.aload_n 0, 1) := by decide +kernel
theorem dX2_moment_25 : decode cX2_moment 25 = .ok (.getfield 26, 3) := by decide +kernel
theorem dX2_moment_28 : decode cX2_moment 28 = .ok (.iload_n 3, 1) := by decide +kernel
theorem dX2_moment_29 : decode cX2_moment 29 = .ok (.laload, 1) := by decide +kernel
theorem dX2_moment_30 : decode cX2_moment 30 = .ok (.invokevirtual 237, 3) := by decide +kernel
theorem dX2_moment_33 : decode cX2_moment 33 = .ok (.lreturn, 1) := by decide +kernel
set_option maxRecDepth 20000 in
theorem ggX2_dateOf_X2_checkSlot : GoodIn wsX2_dateOf wsX2_checkSlot := goodIn_ca (goodIn_r _ [5, 6, 7] (by decide +kernel) (by decide +kernel)) (goodIn_sub (fun _ h => List.mem_cons_of_mem _ (List.mem_append_left _ (List.mem_append_right _ h))) (by decide +kernel))
set_option maxRecDepth 20000 in
theorem gX2_dateOf_X2_checkSlot : GoodIn wsX2_dateOf (va_wsS RX2 41 yX2_checkSlot wsX2_checkSlot) := goodIn_app (goodIn_of _ (by decide +kernel)) ggX2_dateOf_X2_checkSlot
set_option maxRecDepth 20000 in
theorem ggX2_dateOf_X2_keepDate : GoodIn wsX2_dateOf wsX2_keepDate := goodIn_ca (goodIn_ca (goodIn_r _ [11, 12, 13, 14, 15, 16, 17, 18, 19, 20, 4, 21, 22, 23, 24, 25, 26, 27, 28, 29, 30, 31, 32, 33] (by decide +kernel) (by decide +kernel)) (goodIn_sub (fun _ h => List.mem_cons_of_mem _ (List.mem_append_left _ (List.mem_append_left _ (List.mem_append_right _ h)))) (by decide +kernel))) (goodIn_sub (fun _ h => List.mem_cons_of_mem _ (List.mem_append_right _ h)) (by decide +kernel))
set_option maxRecDepth 20000 in
theorem gX2_dateOf_X2_keepDate : GoodIn wsX2_dateOf (wsV RX2 73 RX2 yX2_keepDate wsX2_keepDate) := goodIn_app (goodIn_of _ (by decide +kernel)) ggX2_dateOf_X2_keepDate
theorem dX2_dateOf_0 : decode cX2_dateOf 0 = .ok (.iload_n 1, 1) := by decide +kernel
theorem dX2_dateOf_1 : decode cX2_dateOf 1 = .ok (.iconst 4, 1) := by decide +kernel
theorem dX2_dateOf_2 : decode cX2_dateOf 2 = .ok (.invokestatic 41, 3) := by decide +kernel
theorem dX2_dateOf_5 : decode cX2_dateOf 5 = .ok (.iload_n 2, 1) := by decide +kernel
theorem dX2_dateOf_6 : decode cX2_dateOf 6 = .ok (.bipush 6, 2) := by decide +kernel
theorem dX2_dateOf_8 : decode cX2_dateOf 8 = .ok (.invokestatic 41, 3) := by decide +kernel
theorem dX2_dateOf_11 : decode cX2_dateOf 11 = .ok (.aload_n 0, 1) := by decide +kernel
theorem dX2_dateOf_12 : decode cX2_dateOf 12 = .ok (.iload_n 2, 1) := by decide +kernel
theorem dX2_dateOf_13 : decode cX2_dateOf 13 = .ok (.aload_n 0, 1) := by decide +kernel
theorem dX2_dateOf_14 : decode cX2_dateOf 14 = .ok (.getfield 35, 3) := by decide +kernel
theorem dX2_dateOf_17 : decode cX2_dateOf 17 = .ok (.iload_n 1, 1) := by decide +kernel
theorem dX2_dateOf_18 : decode cX2_dateOf 18 = .ok (.laload, 1) := by decide +kernel
theorem dX2_dateOf_19 : decode cX2_dateOf 19 = .ok (.invokevirtual 73, 3) := by decide +kernel
theorem dX2_dateOf_22 : decode cX2_dateOf 22 = .ok (.lreturn, 1) := by decide +kernel
set_option maxRecDepth 20000 in
theorem ggX2_timeOf_X2_checkSlot : GoodIn wsX2_timeOf wsX2_checkSlot := goodIn_ca (goodIn_r _ [6, 7, 8] (by decide +kernel) (by decide +kernel)) (goodIn_sub (fun _ h => List.mem_cons_of_mem _ (List.mem_append_right _ h)) (by decide +kernel))
set_option maxRecDepth 20000 in
theorem gX2_timeOf_X2_checkSlot : GoodIn wsX2_timeOf (va_wsS RX2 41 yX2_checkSlot wsX2_checkSlot) := goodIn_app (goodIn_of _ (by decide +kernel)) ggX2_timeOf_X2_checkSlot
theorem dX2_timeOf_0 : decode cX2_timeOf 0 = .ok (.iload_n 1, 1) := by decide +kernel
theorem dX2_timeOf_1 : decode cX2_timeOf 1 = .ok (.iconst 4, 1) := by decide +kernel
theorem dX2_timeOf_2 : decode cX2_timeOf 2 = .ok (.invokestatic 41, 3) := by decide +kernel
theorem dX2_timeOf_5 : decode cX2_timeOf 5 = .ok (.iload_n 2, 1) := by decide +kernel
theorem dX2_timeOf_6 : decode cX2_timeOf 6 = .ok (.iconst 4, 1) := by decide +kernel
theorem dX2_timeOf_7 : decode cX2_timeOf 7 = .ok (.invokestatic 41, 3) := by decide +kernel
theorem dX2_timeOf_10 : decode cX2_timeOf 10 = .ok (.aload_n 0, 1) := by decide +kernel
theorem dX2_timeOf_11 : decode cX2_timeOf 11 = .ok (.getfield 26, 3) := by decide +kernel
theorem dX2_timeOf_14 : decode cX2_timeOf 14 = .ok (.iload_n 2, 1) := by decide +kernel
theorem dX2_timeOf_15 : decode cX2_timeOf 15 = .ok (.aload_n 0, 1) := by decide +kernel
theorem dX2_timeOf_16 : decode cX2_timeOf 16 = .ok (.getfield 38, 3) := by decide +kernel
theorem dX2_timeOf_19 : decode cX2_timeOf 19 = .ok (.iload_n 1, 1) := by decide +kernel
theorem dX2_timeOf_20 : decode cX2_timeOf 20 = .ok (.laload, 1) := by decide +kernel
theorem dX2_timeOf_21 : decode cX2_timeOf 21 = .ok (.lastore, 1) := by decide +kernel
theorem dX2_timeOf_22 : decode cX2_timeOf 22 = .ok (.aload_n 0, 1) := by decide +kernel
theorem dX2_timeOf_23 : decode cX2_timeOf 23 = .ok (.getfield 26, 3) := by decide +kernel
theorem dX2_timeOf_26 : decode cX2_timeOf 26 = .ok (.iload_n 2, 1) := by decide +kernel
theorem dX2_timeOf_27 : decode cX2_timeOf 27 = .ok (.laload, 1) := by decide +kernel
theorem dX2_timeOf_28 : decode cX2_timeOf 28 = .ok (.lreturn, 1) := by decide +kernel
set_option maxRecDepth 20000 in
theorem ggX2_moveMoment_X2_checkSlot : GoodIn wsX2_moveMoment wsX2_checkSlot := goodIn_ca (goodIn_r _ [10, 11, 12] (by decide +kernel) (by decide +kernel)) (goodIn_sub (fun _ h => List.mem_cons_of_mem _ (List.mem_append_left _ (List.mem_append_left _ (List.mem_append_right _ h)))) (by decide +kernel))
set_option maxRecDepth 20000 in
theorem gX2_moveMoment_X2_checkSlot : GoodIn wsX2_moveMoment (va_wsS RX2 41 yX2_checkSlot wsX2_checkSlot) := goodIn_app (goodIn_of _ (by decide +kernel)) ggX2_moveMoment_X2_checkSlot
set_option maxRecDepth 20000 in
theorem ggX2_moveMoment_X1_isUnit : GoodIn wsX2_moveMoment wsX1_isUnit := goodIn_r _ [16] (by decide +kernel) (by decide +kernel)
set_option maxRecDepth 20000 in
theorem gX2_moveMoment_X1_isUnit : GoodIn wsX2_moveMoment (va_wsS RX2 108 yX1_isUnit wsX1_isUnit) := goodIn_app (goodIn_of _ (by decide +kernel)) ggX2_moveMoment_X1_isUnit
set_option maxRecDepth 20000 in
theorem ggX2_moveMoment_X2_isIn : GoodIn wsX2_moveMoment wsX2_isIn := goodIn_r _ [19] (by decide +kernel) (by decide +kernel)
set_option maxRecDepth 20000 in
theorem gX2_moveMoment_X2_isIn : GoodIn wsX2_moveMoment (va_wsS RX2 55 yX2_isIn wsX2_isIn) := goodIn_app (goodIn_of _ (by decide +kernel)) ggX2_moveMoment_X2_isIn
set_option maxRecDepth 20000 in
theorem ggX2_moveMoment_X2_checkArgument : GoodIn wsX2_moveMoment wsX2_checkArgument := goodIn_ca (goodIn_r _ [22, 23, 24] (by decide +kernel) (by decide +kernel)) (goodIn_sub (fun _ h => List.mem_cons_of_mem _ (List.mem_append_left _ (List.mem_append_right _ h))) (by decide +kernel))
set_option maxRecDepth 20000 in
theorem gX2_moveMoment_X2_checkArgument : GoodIn wsX2_moveMoment (va_wsS RX2 49 yX2_checkArgument wsX2_checkArgument) := goodIn_app (goodIn_of _ (by decide +kernel)) ggX2_moveMoment_X2_checkArgument
set_option maxRecDepth 20000 in
theorem ggX2_moveMoment_X1_moved : GoodIn wsX2_moveMoment wsX1_moved := goodIn_r _ [27, 28, 29, 30, 31, 15, 32, 33, 34, 35, 36, 37, 38, 39, 40, 41, 42, 43, 44, 45, 46, 47, 48, 49, 50, 51, 52, 53, 54, 55, 56, 57, 58, 59, 60, 61, 62, 63, 64, 65, 66, 67, 68, 69, 70, 71, 72, 73, 74, 75, 76, 77, 78, 79, 80, 81, 82, 83, 84, 85] (by decide +kernel) (by decide +kernel)
set_option maxRecDepth 20000 in
theorem gX2_moveMoment_X1_moved : GoodIn wsX2_moveMoment (va_wsS RX2 116 yX1_moved wsX1_moved) := goodIn_app (goodIn_of _ (by decide +kernel)) ggX2_moveMoment_X1_moved
set_option maxRecDepth 20000 in
theorem ggX2_moveMoment_X2_keepMoment : GoodIn wsX2_moveMoment wsX2_keepMoment := goodIn_ca (goodIn_ca (goodIn_r _ [89, 90, 3, 4, 91, 45, 46, 47, 92, 93, 15, 94, 95, 96, 97, 98, 9, 99, 100, 101, 102, 103, 104, 105, 106, 107, 74, 75, 121, 122, 123, 124, 125, 126, 127, 128, 129, 130] (by decide +kernel) (by decide +kernel)) (goodIn_sub (fun _ h => List.mem_cons_of_mem _ (List.mem_append_left _ (List.mem_append_left _ (List.mem_append_left _ (List.mem_append_right _ h))))) (by decide +kernel))) (goodIn_sub (fun _ h => List.mem_cons_of_mem _ (List.mem_append_right _ h)) (by decide +kernel))
set_option maxRecDepth 20000 in
theorem gX2_moveMoment_X2_keepMoment : GoodIn wsX2_moveMoment (wsV RX2 237 RX2 yX2_keepMoment wsX2_keepMoment) := goodIn_app (goodIn_of _ (by decide +kernel)) ggX2_moveMoment_X2_keepMoment
set_option maxRecDepth 20000 in
theorem ggX2_moveMoment_X0_countInDay : GoodIn wsX2_moveMoment wsX0_countInDay := goodIn_r _ [110, 111, 112, 113, 106] (by decide +kernel) (by decide +kernel)
set_option maxRecDepth 20000 in
theorem gX2_moveMoment_X0_countInDay : GoodIn wsX2_moveMoment (va_wsS RX2 205 yX0_countInDay wsX0_countInDay) := goodIn_app (goodIn_of _ (by decide +kernel)) ggX2_moveMoment_X0_countInDay
set_option maxRecDepth 20000 in
theorem ggX2_moveMoment_X0_daysOf : GoodIn wsX2_moveMoment wsX0_daysOf := goodIn_r _ [116, 117, 45, 46, 47] (by decide +kernel) (by decide +kernel)
set_option maxRecDepth 20000 in
theorem gX2_moveMoment_X0_daysOf : GoodIn wsX2_moveMoment (va_wsS RX2 240 yX0_daysOf wsX0_daysOf) := goodIn_app (goodIn_of _ (by decide +kernel)) ggX2_moveMoment_X0_daysOf
set_option maxRecDepth 20000 in
theorem ggX2_moveMoment_X0_restOfDay : GoodIn wsX2_moveMoment wsX0_restOfDay := goodIn_r _ [120, 106, 107, 74, 46, 75] (by decide +kernel) (by decide +kernel)
set_option maxRecDepth 20000 in
theorem gX2_moveMoment_X0_restOfDay : GoodIn wsX2_moveMoment (va_wsS RX2 213 yX0_restOfDay wsX0_restOfDay) := goodIn_app (goodIn_of _ (by decide +kernel)) ggX2_moveMoment_X0_restOfDay
theorem dX2_moveMoment_0 : decode cX2_moveMoment 0 = .ok (.iload_n 1, 1) := by decide +kernel
theorem dX2_moveMoment_1 : decode cX2_moveMoment 1 = .ok (.iconst 4, 1) := by decide +kernel
theorem dX2_moveMoment_2 : decode cX2_moveMoment 2 = .ok (.invokestatic 41, 3) := by decide +kernel
theorem dX2_moveMoment_5 : decode cX2_moveMoment 5 = .ok (.iload 5, 2) := by decide +kernel
theorem dX2_moveMoment_7 : decode cX2_moveMoment 7 = .ok (.iconst 4, 1) := by decide +kernel
theorem dX2_moveMoment_8 : decode cX2_moveMoment 8 = .ok (.invokestatic 41, 3) := by decide +kernel
theorem dX2_moveMoment_11 : decode cX2_moveMoment 11 = .ok (.iload_n 2, 1) := by decide +kernel
theorem dX2_moveMoment_12 : decode cX2_moveMoment 12 = .ok (.invokestatic 108, 3) := by decide +kernel
theorem dX2_moveMoment_15 : decode cX2_moveMoment 15 = .ok (.ifCond .eq 40, 3) := by decide +kernel
theorem dX2_moveMoment_18 : decode cX2_moveMoment 18 = .ok (.lload_n 3, 1) := by decide +kernel
theorem dX2_moveMoment_19 : decode cX2_moveMoment 19 = .ok (.ldc2_w 112, 3) := by decide +kernel
theorem dX2_moveMoment_22 : decode cX2_moveMoment 22 = .ok (.ldc2_w 114, 3) := by decide +kernel
theorem dX2_moveMoment_25 : decode cX2_moveMoment 25 = .ok (.invokestatic 55, 3) := by decide +kernel
theorem dX2_moveMoment_28 : decode cX2_moveMoment 28 = .ok (.invokestatic 49, 3) := by decide +kernel
theorem dX2_moveMoment_31 : decode cX2_moveMoment 31 = .ok (.aload_n 0, 1) := by decide +kernel
theorem dX2_moveMoment_32 : decode cX2_moveMoment 32 = .ok (.iload 5, 2) := by decide +kernel
theorem dX2_moveMoment_34 : decode cX2_moveMoment 34 = .ok (.aload_n 0, 1) := by decide +kernel
theorem dX2_moveMoment_35 : decode cX2_moveMoment 35 = .ok (.getfield 35, 3) := by decide +kernel
theorem dX2_moveMoment_38 : decode cX2_moveMoment 38 = .ok (.iload_n 1, 1) := by decide +kernel
theorem dX2_moveMoment_39 : decode cX2_moveMoment 39 = .ok (.laload, 1) := by decide +kernel
theorem dX2_moveMoment_40 : decode cX2_moveMoment 40 = .ok (.iload_n 2, 1) := by decide +kernel
theorem dX2_moveMoment_41 : decode cX2_moveMoment 41 = .ok (.lload_n 3, 1) := by decide +kernel
theorem dX2_moveMoment_42 : decode cX2_moveMoment 42 = .ok (.invokestatic 116, 3) := by decide +kernel
theorem dX2_moveMoment_45 : decode cX2_moveMoment 45 = .ok (.aload_n 0, 1) := by decide +kernel
theorem dX2_moveMoment_46 : decode cX2_moveMoment 46 = .ok (.getfield 38, 3) := by decide +kernel
theorem dX2_moveMoment_49 : decode cX2_moveMoment 49 = .ok (.iload_n 1, 1) := by decide +kernel
theorem dX2_moveMoment_50 : decode cX2_moveMoment 50 = .ok (.laload, 1) := by decide +kernel
theorem dX2_moveMoment_51 : decode cX2_moveMoment 51 = .ok (.invokevirtual 237, 3) := by decide +kernel
theorem dX2_moveMoment_54 : decode cX2_moveMoment 54 = .ok (.lreturn, 1) := by decide +kernel
theorem dX2_moveMoment_55 : decode cX2_moveMoment 55 = .ok (.iload_n 2, 1) := by decide +kernel
theorem dX2_moveMoment_56 : decode cX2_moveMoment 56 = .ok (.invokestatic 205, 3) := by decide +kernel
theorem dX2_moveMoment_59 : decode cX2_moveMoment 59 = .ok (.lstore 6, 2) := by decide +kernel
theorem dX2_moveMoment_61 : decode cX2_moveMoment 61 = .ok (.lload 6, 2) := by decide +kernel
theorem dX2_moveMoment_63 : decode cX2_moveMoment 63 = .ok (.lconst 0, 1) := by decide +kernel
theorem dX2_moveMoment_64 : decode cX2_moveMoment 64 = .ok (.lcmp, 1) := by decide +kernel
theorem dX2_moveMoment_65 : decode cX2_moveMoment 65 = .ok (.ifCond .le 7, 3) := by decide +kernel
theorem dX2_moveMoment_68 : decode cX2_moveMoment 68 = .ok (.iconst 1, 1) := by decide +kernel
theorem dX2_moveMoment_69 : decode cX2_moveMoment 69 = .ok (.goto 4, 3) := by decide +kernel
theorem dX2_moveMoment_72 : decode cX2_moveMoment 72 = .ok (.iconst 0, 1) := by decide +kernel
theorem dX2_moveMoment_73 : decode cX2_moveMoment 73 = .ok (.invokestatic 49, 3) := by decide +kernel
theorem dX2_moveMoment_76 : decode cX2_moveMoment 76 = .ok (.lload_n 3, 1) := by decide +kernel
theorem dX2_moveMoment_77 : decode cX2_moveMoment 77 = .ok (.ldc2_w 209, 3) := by decide +kernel
theorem dX2_moveMoment_80 : decode cX2_moveMoment 80 = .ok (.ldc2_w 211, 3) := by decide +kernel
theorem dX2_moveMoment_83 : decode cX2_moveMoment 83 = .ok (.invokestatic 55, 3) := by decide +kernel
theorem dX2_moveMoment_86 : decode cX2_moveMoment 86 = .ok (.invokestatic 49, 3) := by decide +kernel
theorem dX2_moveMoment_89 : decode cX2_moveMoment 89 = .ok (.aload_n 0, 1) := by decide +kernel
theorem dX2_moveMoment_90 : decode cX2_moveMoment 90 = .ok (.getfield 35, 3) := by decide +kernel
theorem dX2_moveMoment_93 : decode cX2_moveMoment 93 = .ok (.iload_n 1, 1) := by decide +kernel
theorem dX2_moveMoment_94 : decode cX2_moveMoment 94 = .ok (.laload, 1) := by decide +kernel
theorem dX2_moveMoment_95 : decode cX2_moveMoment 95 = .ok (.lload_n 3, 1) := by decide +kernel
theorem dX2_moveMoment_96 : decode cX2_moveMoment 96 = .ok (.lload 6, 2) := by decide +kernel
theorem dX2_moveMoment_98 : decode cX2_moveMoment 98 = .ok (.invokestatic 240, 3) := by decide +kernel
theorem dX2_moveMoment_101 : decode cX2_moveMoment 101 = .ok (.ladd, 1) := by decide +kernel
theorem dX2_moveMoment_102 : decode cX2_moveMoment 102 = .ok (.lstore 8, 2) := by decide +kernel
theorem dX2_moveMoment_104 : decode cX2_moveMoment 104 = .ok (.aload_n 0, 1) := by decide +kernel
theorem dX2_moveMoment_105 : decode cX2_moveMoment 105 = .ok (.iload 5, 2) := by decide +kernel
theorem dX2_moveMoment_107 : decode cX2_moveMoment 107 = .ok (.lload 8, 2) := by decide +kernel
theorem dX2_moveMoment_109 : decode cX2_moveMoment 109 = .ok (.aload_n 0, 1) := by decide +kernel
theorem dX2_moveMoment_110 : decode cX2_moveMoment 110 = .ok (.getfield 38, 3) := by decide +kernel
theorem dX2_moveMoment_113 : decode cX2_moveMoment 113 = .ok (.iload_n 1, 1) := by decide +kernel
theorem dX2_moveMoment_114 : decode cX2_moveMoment 114 = .ok (.laload, 1) := by decide +kernel
theorem dX2_moveMoment_115 : decode cX2_moveMoment 115 = .ok (.lload_n 3, 1) := by decide +kernel
theorem dX2_moveMoment_116 : decode cX2_moveMoment 116 = .ok (.lload 6, 2) := by decide +kernel
theorem dX2_moveMoment_118 : decode cX2_moveMoment 118 = .ok (.invokestatic 213, 3) := by decide +kernel
theorem dX2_moveMoment_121 : decode cX2_moveMoment 121 = .ok (.ladd, 1) := by decide +kernel
theorem dX2_moveMoment_122 : decode cX2_moveMoment 122 = .ok (.invokevirtual 237, 3) := by decide +kernel
theorem dX2_moveMoment_125 : decode cX2_moveMoment 125 = .ok (.lreturn, 1) := by decide +kernel
set_option maxRecDepth 20000 in
theorem ggX2_goMoment_X2_checkSlot : GoodIn wsX2_goMoment wsX2_checkSlot := goodIn_ca (goodIn_r _ [9, 10, 11] (by decide +kernel) (by decide +kernel)) (goodIn_sub (fun _ h => List.mem_cons_of_mem _ (List.mem_append_left _ (List.mem_append_right _ h))) (by decide +kernel))
set_option maxRecDepth 20000 in
theorem gX2_goMoment_X2_checkSlot : GoodIn wsX2_goMoment (va_wsS RX2 41 yX2_checkSlot wsX2_checkSlot) := goodIn_app (goodIn_of _ (by decide +kernel)) ggX2_goMoment_X2_checkSlot
set_option maxRecDepth 20000 in
theorem ggX2_goMoment_X0_daysOf : GoodIn wsX2_goMoment wsX0_daysOf := goodIn_r _ [15, 16, 17, 18, 19] (by decide +kernel) (by decide +kernel)
set_option maxRecDepth 20000 in
theorem gX2_goMoment_X0_daysOf : GoodIn wsX2_goMoment (va_wsS RX2 240 yX0_daysOf wsX0_daysOf) := goodIn_app (goodIn_of _ (by decide +kernel)) ggX2_goMoment_X0_daysOf
set_option maxRecDepth 20000 in
theorem ggX2_goMoment_X0_restOfDay : GoodIn wsX2_goMoment wsX0_restOfDay := goodIn_r _ [22, 23, 24, 25, 18, 26] (by decide +kernel) (by decide +kernel)
set_option maxRecDepth 20000 in
theorem gX2_goMoment_X0_restOfDay : GoodIn wsX2_goMoment (va_wsS RX2 213 yX0_restOfDay wsX0_restOfDay) := goodIn_app (goodIn_of _ (by decide +kernel)) ggX2_goMoment_X0_restOfDay
set_option maxRecDepth 20000 in
theorem ggX2_goMoment_X2_keepMoment : GoodIn wsX2_goMoment wsX2_keepMoment := goodIn_ca (goodIn_ca (goodIn_r _ [30, 31, 1, 5, 32, 17, 18, 19, 33, 34, 35, 36, 37, 38, 39, 40, 8, 41, 42, 43, 44, 45, 14, 46, 23, 24, 25, 26, 47, 48, 49, 50, 51, 52, 53, 54, 55, 56] (by decide +kernel) (by decide +kernel)) (goodIn_sub (fun _ h => List.mem_cons_of_mem _ (List.mem_append_left _ (List.mem_append_left _ (List.mem_append_right _ h)))) (by decide +kernel))) (goodIn_sub (fun _ h => List.mem_cons_of_mem _ (List.mem_append_right _ h)) (by decide +kernel))
set_option maxRecDepth 20000 in
theorem gX2_goMoment_X2_keepMoment : GoodIn wsX2_goMoment (wsV RX2 237 RX2 yX2_keepMoment wsX2_keepMoment) := goodIn_app (goodIn_of _ (by decide +kernel)) ggX2_goMoment_X2_keepMoment
theorem dX2_goMoment_0 : decode cX2_goMoment 0 = .ok (.iload_n 1, 1) := by decide +kernel
theorem dX2_goMoment_1 : decode cX2_goMoment 1 = .ok (.iconst 4, 1) := by decide +kernel
theorem dX2_goMoment_2 : decode cX2_goMoment 2 = .ok (.invokestatic 41, 3) := by decide +kernel
theorem dX2_goMoment_5 : decode cX2_goMoment 5 = .ok (.iload_n 2, 1) := by decide +kernel
theorem dX2_goMoment_6 : decode cX2_goMoment 6 = .ok (.iconst 4, 1) := by decide +kernel
theorem dX2_goMoment_7 : decode cX2_goMoment 7 = .ok (.invokestatic 41, 3) := by decide +kernel
theorem dX2_goMoment_10 : decode cX2_goMoment 10 = .ok (.iload 4, 2) := by decide +kernel
theorem dX2_goMoment_12 : decode cX2_goMoment 12 = .ok (.iconst 4, 1) := by decide +kernel
theorem dX2_goMoment_13 : decode cX2_goMoment 13 = .ok (.invokestatic 41, 3) := by decide +kernel
theorem dX2_goMoment_16 : decode cX2_goMoment 16 = .ok (.iload_n 3, 1) := by decide +kernel
theorem dX2_goMoment_17 : decode cX2_goMoment 17 = .ok (.ifCond .eq 7, 3) := by decide +kernel
theorem dX2_goMoment_20 : decode cX2_goMoment 20 = .ok (.iconst (-1), 1) := by decide +kernel
theorem dX2_goMoment_21 : decode cX2_goMoment 21 = .ok (.goto 4, 3) := by decide +kernel
theorem dX2_goMoment_24 : decode cX2_goMoment 24 = .ok (.iconst 1, 1) := by decide +kernel
theorem dX2_goMoment_25 : decode cX2_goMoment 25 = .ok (.istore 5, 2) := by decide +kernel
theorem dX2_goMoment_27 : decode cX2_goMoment 27 = .ok (.aload_n 0, 1) := by decide +kernel
theorem dX2_goMoment_28 : decode cX2_goMoment 28 = .ok (.getfield 35, 3) := by decide +kernel
theorem dX2_goMoment_31 : decode cX2_goMoment 31 = .ok (.iload_n 1, 1) := by decide +kernel
theorem dX2_goMoment_32 : decode cX2_goMoment 32 = .ok (.laload, 1) := by decide +kernel
theorem dX2_goMoment_33 : decode cX2_goMoment 33 = .ok (.iload 5, 2) := by decide +kernel
theorem dX2_goMoment_35 : decode cX2_goMoment 35 = .ok (.i2l, 1) := by decide +kernel
theorem dX2_goMoment_36 : decode cX2_goMoment 36 = .ok (.aload_n 0, 1) := by decide +kernel
theorem dX2_goMoment_37 : decode cX2_goMoment 37 = .ok (.getfield 29, 3) := by decide +kernel
theorem dX2_goMoment_40 : decode cX2_goMoment 40 = .ok (.iload_n 2, 1) := by decide +kernel
theorem dX2_goMoment_41 : decode cX2_goMoment 41 = .ok (.laload, 1) := by decide +kernel
theorem dX2_goMoment_42 : decode cX2_goMoment 42 = .ok (.ldc2_w 221, 3) := by decide +kernel
theorem dX2_goMoment_45 : decode cX2_goMoment 45 = .ok (.invokestatic 240, 3) := by decide +kernel
theorem dX2_goMoment_48 : decode cX2_goMoment 48 = .ok (.lmul, 1) := by decide +kernel
theorem dX2_goMoment_49 : decode cX2_goMoment 49 = .ok (.ladd, 1) := by decide +kernel
theorem dX2_goMoment_50 : decode cX2_goMoment 50 = .ok (.lstore 6, 2) := by decide +kernel
theorem dX2_goMoment_52 : decode cX2_goMoment 52 = .ok (.aload_n 0, 1) := by decide +kernel
theorem dX2_goMoment_53 : decode cX2_goMoment 53 = .ok (.getfield 29, 3) := by decide +kernel
theorem dX2_goMoment_56 : decode cX2_goMoment 56 = .ok (.iload_n 2, 1) := by decide +kernel
theorem dX2_goMoment_57 : decode cX2_goMoment 57 = .ok (.laload, 1) := by decide +kernel
theorem dX2_goMoment_58 : decode cX2_goMoment 58 = .ok (.ldc2_w 221, 3) := by decide +kernel
theorem dX2_goMoment_61 : decode cX2_goMoment 61 = .ok (.invokestatic 213, 3) := by decide +kernel
theorem dX2_goMoment_64 : decode cX2_goMoment 64 = .ok (.aload_n 0, 1) := by decide +kernel
theorem dX2_goMoment_65 : decode cX2_goMoment 65 = .ok (.getfield 32, 3) := by decide +kernel
theorem dX2_goMoment_68 : decode cX2_goMoment 68 = .ok (.iload_n 2, 1) := by decide +kernel
theorem dX2_goMoment_69 : decode cX2_goMoment 69 = .ok (.laload, 1) := by decide +kernel
theorem dX2_goMoment_70 : decode cX2_goMoment 70 = .ok (.ladd, 1) := by decide +kernel
theorem dX2_goMoment_71 : decode cX2_goMoment 71 = .ok (.lstore 8, 2) := by decide +kernel
theorem dX2_goMoment_73 : decode cX2_goMoment 73 = .ok (.aload_n 0, 1) := by decide +kernel
theorem dX2_goMoment_74 : decode cX2_goMoment 74 = .ok (.iload 4, 2) := by decide +kernel
theorem dX2_goMoment_76 : decode cX2_goMoment 76 = .ok (.lload 6, 2) := by decide +kernel
theorem dX2_goMoment_78 : decode cX2_goMoment 78 = .ok (.aload_n 0, 1) := by decide +kernel
theorem dX2_goMoment_79 : decode cX2_goMoment 79 = .ok (.getfield 38, 3) := by decide +kernel
theorem dX2_goMoment_82 : decode cX2_goMoment 82 = .ok (.iload_n 1, 1) := by decide +kernel
theorem dX2_goMoment_83 : decode cX2_goMoment 83 = .ok (.laload, 1) := by decide +kernel
theorem dX2_goMoment_84 : decode cX2_goMoment 84 = .ok (.iload 5, 2) := by decide +kernel
theorem dX2_goMoment_86 : decode cX2_goMoment 86 = .ok (.i2l, 1) := by decide +kernel
theorem dX2_goMoment_87 : decode cX2_goMoment 87 = .ok (.lload 8, 2) := by decide +kernel
theorem dX2_goMoment_89 : decode cX2_goMoment 89 = .ok (.lmul, 1) := by decide +kernel
theorem dX2_goMoment_90 : decode cX2_goMoment 90 = .ok (.ladd, 1) := by decide +kernel
theorem dX2_goMoment_91 : decode cX2_goMoment 91 = .ok (.invokevirtual 237, 3) := by decide +kernel
theorem dX2_goMoment_94 : decode cX2_goMoment 94 = .ok (.lreturn, 1) := by decide +kernel
set_option maxRecDepth 20000 in
theorem ggX2_lengthOfMoments_X2_checkSlot : GoodIn wsX2_lengthOfMoments wsX2_checkSlot := goodIn_ca (goodIn_r _ [7, 8, 9] (by decide +kernel) (by decide +kernel)) (goodIn_sub (fun _ h => List.mem_cons_of_mem _ (List.mem_append_left _ (List.mem_append_right _ h))) (by decide +kernel))
set_option maxRecDepth 20000 in
theorem gX2_lengthOfMoments_X2_checkSlot : GoodIn wsX2_lengthOfMoments (va_wsS RX2 41 yX2_checkSlot wsX2_checkSlot) := goodIn_app (goodIn_of _ (by decide +kernel)) ggX2_lengthOfMoments_X2_checkSlot
set_option maxRecDepth 20000 in
theorem ggX2_lengthOfMoments_X2_keepLength : GoodIn wsX2_lengthOfMoments wsX2_keepLength := goodIn_ca (goodIn_ca (goodIn_r _ [13, 14, 15, 16, 17, 18, 19, 20, 21, 22, 23, 24, 25, 26, 27, 6, 28, 29, 30, 31, 32, 33, 34, 35, 36, 37, 38, 39, 40, 41, 42, 43] (by decide +kernel) (by decide +kernel)) (goodIn_sub (fun _ h => List.mem_cons_of_mem _ (List.mem_append_left _ (List.mem_append_left _ (List.mem_append_right _ h)))) (by decide +kernel))) (goodIn_sub (fun _ h => List.mem_cons_of_mem _ (List.mem_append_right _ h)) (by decide +kernel))
set_option maxRecDepth 20000 in
theorem gX2_lengthOfMoments_X2_keepLength : GoodIn wsX2_lengthOfMoments (wsV RX2 227 RX2 yX2_keepLength wsX2_keepLength) := goodIn_app (goodIn_of _ (by decide +kernel)) ggX2_lengthOfMoments_X2_keepLength
theorem dX2_lengthOfMoments_0 : decode cX2_lengthOfMoments 0 = .ok (.iload_n 1, 1) := by decide +kernel
theorem dX2_lengthOfMoments_1 : decode cX2_lengthOfMoments 1 = .ok (.iconst 4, 1) := by decide +kernel
theorem dX2_lengthOfMoments_2 : decode cX2_lengthOfMoments 2 = .ok (.invokestatic 41, 3) := by decide +kernel
theorem dX2_lengthOfMoments_5 : decode cX2_lengthOfMoments 5 = .ok (.iload_n 2, 1) := by decide +kernel
theorem dX2_lengthOfMoments_6 : decode cX2_lengthOfMoments 6 = .ok (.iconst 4, 1) := by decide +kernel
theorem dX2_lengthOfMoments_7 : decode cX2_lengthOfMoments 7 = .ok (.invokestatic 41, 3) := by decide +kernel
theorem dX2_lengthOfMoments_10 : decode cX2_lengthOfMoments 10 = .ok (.iload_n 3, 1) := by decide +kernel
theorem dX2_lengthOfMoments_11 : decode cX2_lengthOfMoments 11 = .ok (.iconst 4, 1) := by decide +kernel
theorem dX2_lengthOfMoments_12 : decode cX2_lengthOfMoments 12 = .ok (.invokestatic 41, 3) := by decide +kernel
theorem dX2_lengthOfMoments_15 : decode cX2_lengthOfMoments 15 = .ok (.aload_n 0, 1) := by decide +kernel
theorem dX2_lengthOfMoments_16 : decode cX2_lengthOfMoments 16 = .ok (.getfield 35, 3) := by decide +kernel
theorem dX2_lengthOfMoments_19 : decode cX2_lengthOfMoments 19 = .ok (.iload_n 2, 1) := by decide +kernel
theorem dX2_lengthOfMoments_20 : decode cX2_lengthOfMoments 20 = .ok (.laload, 1) := by decide +kernel
theorem dX2_lengthOfMoments_21 : decode cX2_lengthOfMoments 21 = .ok (.aload_n 0, 1) := by decide +kernel
theorem dX2_lengthOfMoments_22 : decode cX2_lengthOfMoments 22 = .ok (.getfield 35, 3) := by decide +kernel
theorem dX2_lengthOfMoments_25 : decode cX2_lengthOfMoments 25 = .ok (.iload_n 1, 1) := by decide +kernel
theorem dX2_lengthOfMoments_26 : decode cX2_lengthOfMoments 26 = .ok (.laload, 1) := by decide +kernel
theorem dX2_lengthOfMoments_27 : decode cX2_lengthOfMoments 27 = .ok (.lsub, 1) := by decide +kernel
theorem dX2_lengthOfMoments_28 : decode cX2_lengthOfMoments 28 = .ok (.lstore 4, 2) := by decide +kernel
theorem dX2_lengthOfMoments_30 : decode cX2_lengthOfMoments 30 = .ok (.aload_n 0, 1) := by decide +kernel
theorem dX2_lengthOfMoments_31 : decode cX2_lengthOfMoments 31 = .ok (.iload_n 3, 1) := by decide +kernel
theorem dX2_lengthOfMoments_32 : decode cX2_lengthOfMoments 32 = .ok (.lload 4, 2) := by decide +kernel
theorem dX2_lengthOfMoments_34 : decode cX2_lengthOfMoments 34 = .ok (.ldc2_w 221, 3) := by decide +kernel
theorem dX2_lengthOfMoments_37 : decode cX2_lengthOfMoments 37 = .ok (.lmul, 1) := by decide +kernel
theorem dX2_lengthOfMoments_38 : decode cX2_lengthOfMoments 38 = .ok (.aload_n 0, 1) := by decide +kernel
theorem dX2_lengthOfMoments_39 : decode cX2_lengthOfMoments 39 = .ok (.getfield 38, 3) := by decide +kernel
theorem dX2_lengthOfMoments_42 : decode cX2_lengthOfMoments 42 = .ok (.iload_n 2, 1) := by decide +kernel
theorem dX2_lengthOfMoments_43 : decode cX2_lengthOfMoments 43 = .ok (.laload, 1) := by decide +kernel
theorem dX2_lengthOfMoments_44 : decode cX2_lengthOfMoments 44 = .ok (.aload_n 0, 1) := by decide +kernel
theorem dX2_lengthOfMoments_45 : decode cX2_lengthOfMoments 45 = .ok (.getfield 38, 3) := by decide +kernel
theorem dX2_lengthOfMoments_48 : decode cX2_lengthOfMoments 48 = .ok (.iload_n 1, 1) := by decide +kernel
theorem dX2_lengthOfMoments_49 : decode cX2_lengthOfMoments 49 = .ok (.laload, 1) := by decide +kernel
theorem dX2_lengthOfMoments_50 : decode cX2_lengthOfMoments 50 = .ok (.lsub, 1) := by decide +kernel
theorem dX2_lengthOfMoments_51 : decode cX2_lengthOfMoments 51 = .ok (.invokevirtual 227, 3) := by decide +kernel
theorem dX2_lengthOfMoments_54 : decode cX2_lengthOfMoments 54 = .ok (.lreturn, 1) := by decide +kernel
set_option maxRecDepth 20000 in
theorem ggX2_whole_X2_checkSlot : GoodIn wsX2_whole wsX2_checkSlot := goodIn_ca (goodIn_r _ [10, 11, 12] (by decide +kernel) (by decide +kernel)) (goodIn_sub (fun _ h => List.mem_cons_of_mem _ (List.mem_append_right _ h)) (by decide +kernel))
set_option maxRecDepth 20000 in
theorem gX2_whole_X2_checkSlot : GoodIn wsX2_whole (va_wsS RX2 41 yX2_checkSlot wsX2_checkSlot) := goodIn_app (goodIn_of _ (by decide +kernel)) ggX2_whole_X2_checkSlot
set_option maxRecDepth 20000 in
theorem ggX2_whole_X0_cut : GoodIn wsX2_whole wsX0_cut := goodIn_r _ [16] (by decide +kernel) (by decide +kernel)
set_option maxRecDepth 20000 in
theorem gX2_whole_X0_cut : GoodIn wsX2_whole (va_wsS RX2 243 yX0_cut wsX0_cut) := goodIn_app (goodIn_of _ (by decide +kernel)) ggX2_whole_X0_cut
set_option maxRecDepth 20000 in
theorem ggX2_whole_X0_wholeSeconds : GoodIn wsX2_whole wsX0_wholeSeconds := goodIn_r _ [19, 20, 21, 22, 14, 15, 16] (by decide +kernel) (by decide +kernel)
set_option maxRecDepth 20000 in
theorem gX2_whole_X0_wholeSeconds : GoodIn wsX2_whole (va_wsS RX2 246 yX0_wholeSeconds wsX0_wholeSeconds) := goodIn_app (goodIn_of _ (by decide +kernel)) ggX2_whole_X0_wholeSeconds
theorem dX2_whole_0 : decode cX2_whole 0 = .ok (.iload_n 1, 1) := by decide +kernel
theorem dX2_whole_1 : decode cX2_whole 1 = .ok (.iconst 4, 1) := by decide +kernel
theorem dX2_whole_2 : decode cX2_whole 2 = .ok (.invokestatic 41, 3) := by decide +kernel
theorem dX2_whole_5 : decode cX2_whole 5 = .ok (.iload_n 2, 1) := by decide +kernel
theorem dX2_whole_6 : decode cX2_whole 6 = .ok (.iconst 4, 1) := by decide +kernel
theorem dX2_whole_7 : decode cX2_whole 7 = .ok (.invokestatic 41, 3) := by decide +kernel
theorem dX2_whole_10 : decode cX2_whole 10 = .ok (.aload_n 0, 1) := by decide +kernel
theorem dX2_whole_11 : decode cX2_whole 11 = .ok (.getfield 35, 3) := by decide +kernel
theorem dX2_whole_14 : decode cX2_whole 14 = .ok (.iload_n 2, 1) := by decide +kernel
theorem dX2_whole_15 : decode cX2_whole 15 = .ok (.laload, 1) := by decide +kernel
theorem dX2_whole_16 : decode cX2_whole 16 = .ok (.aload_n 0, 1) := by decide +kernel
theorem dX2_whole_17 : decode cX2_whole 17 = .ok (.getfield 35, 3) := by decide +kernel
theorem dX2_whole_20 : decode cX2_whole 20 = .ok (.iload_n 1, 1) := by decide +kernel
theorem dX2_whole_21 : decode cX2_whole 21 = .ok (.laload, 1) := by decide +kernel
theorem dX2_whole_22 : decode cX2_whole 22 = .ok (.lsub, 1) := by decide +kernel
theorem dX2_whole_23 : decode cX2_whole 23 = .ok (.lstore 4, 2) := by decide +kernel
theorem dX2_whole_25 : decode cX2_whole 25 = .ok (.aload_n 0, 1) := by decide +kernel
theorem dX2_whole_26 : decode cX2_whole 26 = .ok (.getfield 38, 3) := by decide +kernel
theorem dX2_whole_29 : decode cX2_whole 29 = .ok (.iload_n 2, 1) := by decide +kernel
theorem dX2_whole_30 : decode cX2_whole 30 = .ok (.laload, 1) := by decide +kernel
theorem dX2_whole_31 : decode cX2_whole 31 = .ok (.aload_n 0, 1) := by decide +kernel
theorem dX2_whole_32 : decode cX2_whole 32 = .ok (.getfield 38, 3) := by decide +kernel
theorem dX2_whole_35 : decode cX2_whole 35 = .ok (.iload_n 1, 1) := by decide +kernel
theorem dX2_whole_36 : decode cX2_whole 36 = .ok (.laload, 1) := by decide +kernel
theorem dX2_whole_37 : decode cX2_whole 37 = .ok (.lsub, 1) := by decide +kernel
theorem dX2_whole_38 : decode cX2_whole 38 = .ok (.lstore 6, 2) := by decide +kernel
theorem dX2_whole_40 : decode cX2_whole 40 = .ok (.iload_n 3, 1) := by decide +kernel
theorem dX2_whole_41 : decode cX2_whole 41 = .ok (.lookupswitch 83 #[(100, 43), (104, 51), (105, 63), (115, 75)], 43) := by decide +kernel
theorem dX2_whole_84 : decode cX2_whole 84 = .ok (.lload 4, 2) := by decide +kernel
theorem dX2_whole_86 : decode cX2_whole 86 = .ok (.lload 6, 2) := by decide +kernel
theorem dX2_whole_88 : decode cX2_whole 88 = .ok (.invokestatic 243, 3) := by decide +kernel
theorem dX2_whole_91 : decode cX2_whole 91 = .ok (.lreturn, 1) := by decide +kernel
theorem dX2_whole_92 : decode cX2_whole 92 = .ok (.lload 4, 2) := by decide +kernel
theorem dX2_whole_94 : decode cX2_whole 94 = .ok (.lload 6, 2) := by decide +kernel
theorem dX2_whole_96 : decode cX2_whole 96 = .ok (.invokestatic 246, 3) := by decide +kernel
theorem dX2_whole_99 : decode cX2_whole 99 = .ok (.ldc2_w 249, 3) := by decide +kernel
theorem dX2_whole_102 : decode cX2_whole 102 = .ok (.ldiv, 1) := by decide +kernel
theorem dX2_whole_103 : decode cX2_whole 103 = .ok (.lreturn, 1) := by decide +kernel
theorem dX2_whole_104 : decode cX2_whole 104 = .ok (.lload 4, 2) := by decide +kernel
theorem dX2_whole_106 : decode cX2_whole 106 = .ok (.lload 6, 2) := by decide +kernel
theorem dX2_whole_108 : decode cX2_whole 108 = .ok (.invokestatic 246, 3) := by decide +kernel
theorem dX2_whole_111 : decode cX2_whole 111 = .ok (.ldc2_w 201, 3) := by decide +kernel
theorem dX2_whole_114 : decode cX2_whole 114 = .ok (.ldiv, 1) := by decide +kernel
theorem dX2_whole_115 : decode cX2_whole 115 = .ok (.lreturn, 1) := by decide +kernel
theorem dX2_whole_116 : decode cX2_whole 116 = .ok (.lload 4, 2) := by decide +kernel
theorem dX2_whole_118 : decode cX2_whole 118 = .ok (.lload 6, 2) := by decide +kernel
theorem dX2_whole_120 : decode cX2_whole 120 = .ok (.invokestatic 246, 3) := by decide +kernel
theorem dX2_whole_123 : decode cX2_whole 123 = .ok (.lreturn, 1) := by decide +kernel
theorem dX2_whole_124 : decode cX2_whole 124 = .ok (.new 101, 3) := by decide +kernel
theorem dX2_whole_127 : decode cX2_whole 127 = .ok (.dup, 1) := by decide +kernel
theorem dX2_whole_128 : decode cX2_whole 128 = .ok (.ldc 251, 2) := by decide +kernel
theorem dX2_whole_130 : decode cX2_whole 130 = .ok (.invokespecial 105, 3) := by decide +kernel
theorem dX2_whole_133 : decode cX2_whole 133 = .ok (.athrow, 1) := by decide +kernel
set_option maxRecDepth 20000 in
theorem ggX2_orderMoments_X2_checkSlot : GoodIn wsX2_orderMoments wsX2_checkSlot := goodIn_ca (goodIn_r _ [6, 7, 8] (by decide +kernel) (by decide +kernel)) (goodIn_sub (fun _ h => List.mem_cons_of_mem _ (List.mem_append_right _ h)) (by decide +kernel))
set_option maxRecDepth 20000 in
theorem gX2_orderMoments_X2_checkSlot : GoodIn wsX2_orderMoments (va_wsS RX2 41 yX2_checkSlot wsX2_checkSlot) := goodIn_app (goodIn_of _ (by decide +kernel)) ggX2_orderMoments_X2_checkSlot
set_option maxRecDepth 20000 in
theorem ggX2_orderMoments_X2_sign : GoodIn wsX2_orderMoments wsX2_sign := goodIn_r _ [11] (by decide +kernel) (by decide +kernel)
set_option maxRecDepth 20000 in
theorem gX2_orderMoments_X2_sign : GoodIn wsX2_orderMoments (va_wsS RX2 148 yX2_sign wsX2_sign) := goodIn_app (goodIn_of _ (by decide +kernel)) ggX2_orderMoments_X2_sign
theorem dX2_orderMoments_0 : decode cX2_orderMoments 0 = .ok (.iload_n 1, 1) := by decide +kernel
theorem dX2_orderMoments_1 : decode cX2_orderMoments 1 = .ok (.iconst 4, 1) := by decide +kernel
theorem dX2_orderMoments_2 : decode cX2_orderMoments 2 = .ok (.invokestatic 41, 3) := by decide +kernel
theorem dX2_orderMoments_5 : decode cX2_orderMoments 5 = .ok (.iload_n 2, 1) := by decide +kernel
theorem dX2_orderMoments_6 : decode cX2_orderMoments 6 = .ok (.iconst 4, 1) := by decide +kernel
theorem dX2_orderMoments_7 : decode cX2_orderMoments 7 = .ok (.invokestatic 41, 3) := by decide +kernel
theorem dX2_orderMoments_10 : decode cX2_orderMoments 10 = .ok (.aload_n 0, 1) := by decide +kernel
theorem dX2_orderMoments_11 : decode cX2_orderMoments 11 = .ok (.getfield 35, 3) := by decide +kernel
theorem dX2_orderMoments_14 : decode cX2_orderMoments 14 = .ok (.iload_n 1, 1) := by decide +kernel
theorem dX2_orderMoments_15 : decode cX2_orderMoments 15 = .ok (.laload, 1) := by decide +kernel
theorem dX2_orderMoments_16 : decode cX2_orderMoments 16 = .ok (.aload_n 0, 1) := by decide +kernel
theorem dX2_orderMoments_17 : decode cX2_orderMoments 17 = .ok (.getfield 35, 3) := by decide +kernel
theorem dX2_orderMoments_20 : decode cX2_orderMoments 20 = .ok (.iload_n 2, 1) := by decide +kernel
theorem dX2_orderMoments_21 : decode cX2_orderMoments 21 = .ok (.laload, 1) := by decide +kernel
theorem dX2_orderMoments_22 : decode cX2_orderMoments 22 = .ok (.invokestatic 148, 3) := by decide +kernel
theorem dX2_orderMoments_25 : decode cX2_orderMoments 25 = .ok (.istore_n 3, 1) := by decide +kernel
theorem dX2_orderMoments_26 : decode cX2_orderMoments 26 = .ok (.iload_n 3, 1) := by decide +kernel
theorem dX2_orderMoments_27 : decode cX2_orderMoments 27 = .ok (.ifCond .eq 7, 3) := by decide +kernel
theorem dX2_orderMoments_30 : decode cX2_orderMoments 30 = .ok (.iload_n 3, 1) := by decide +kernel
theorem dX2_orderMoments_31 : decode cX2_orderMoments 31 = .ok (.goto 18, 3) := by decide +kernel
theorem dX2_orderMoments_34 : decode cX2_orderMoments 34 = .ok (.aload_n 0, 1) := by decide +kernel
theorem dX2_orderMoments_35 : decode cX2_orderMoments 35 = .ok (.getfield 38, 3) := by decide +kernel
theorem dX2_orderMoments_38 : decode cX2_orderMoments 38 = .ok (.iload_n 1, 1) := by decide +kernel
theorem dX2_orderMoments_39 : decode cX2_orderMoments 39 = .ok (.laload, 1) := by decide +kernel
theorem dX2_orderMoments_40 : decode cX2_orderMoments 40 = .ok (.aload_n 0, 1) := by decide +kernel
theorem dX2_orderMoments_41 : decode cX2_orderMoments 41 = .ok (.getfield 38, 3) := by decide +kernel
theorem dX2_orderMoments_44 : decode cX2_orderMoments 44 = .ok (.iload_n 2, 1) := by decide +kernel
theorem dX2_orderMoments_45 : decode cX2_orderMoments 45 = .ok (.laload, 1) := by decide +kernel
theorem dX2_orderMoments_46 : decode cX2_orderMoments 46 = .ok (.invokestatic 148, 3) := by decide +kernel
theorem dX2_orderMoments_49 : decode cX2_orderMoments 49 = .ok (.ireturn, 1) := by decide +kernel
set_option maxRecDepth 20000 in
theorem ggX2_longShare_X1_yearOfDay : GoodIn wsX2_longShare wsX1_yearOfDay := goodIn_r _ [6, 7, 8, 9, 10, 11, 12, 13, 14, 15, 5, 16, 17, 18, 19, 20, 21, 22] (by decide +kernel) (by decide +kernel)
set_option maxRecDepth 20000 in
theorem gX2_longShare_X1_yearOfDay : GoodIn wsX2_longShare (va_wsS RX2 77 yX1_yearOfDay wsX1_yearOfDay) := goodIn_app (goodIn_of _ (by decide +kernel)) ggX2_longShare_X1_yearOfDay
set_option maxRecDepth 20000 in
theorem ggX2_longShare_X1_isLongYear : GoodIn wsX2_longShare wsX1_isLongYear := goodIn_r _ [25, 18, 20, 7] (by decide +kernel) (by decide +kernel)
set_option maxRecDepth 20000 in
theorem gX2_longShare_X1_isLongYear : GoodIn wsX2_longShare (va_wsS RX2 98 yX1_isLongYear wsX1_isLongYear) := goodIn_app (goodIn_of _ (by decide +kernel)) ggX2_longShare_X1_isLongYear
theorem dX2_longShare_0 : decode cX2_longShare 0 = .ok (.iconst 0, 1) := by decide +kernel
theorem dX2_longShare_1 : decode cX2_longShare 1 = .ok (.istore_n 1, 1) := by decide +kernel
theorem dX2_longShare_2 : decode cX2_longShare 2 = .ok (.iconst 0, 1) := by decide +kernel
theorem dX2_longShare_3 : decode cX2_longShare 3 = .ok (.istore_n 2, 1) := by decide +kernel
theorem dX2_longShare_4 : decode cX2_longShare 4 = .ok (.iload_n 2, 1) := by decide +kernel
theorem dX2_longShare_5 : decode cX2_longShare 5 = .ok (.bipush 6, 2) := by decide +kernel
theorem dX2_longShare_7 : decode cX2_longShare 7 = .ok (.if_icmp .ge 27, 3) := by decide +kernel
theorem dX2_longShare_10 : decode cX2_longShare 10 = .ok (.aload_n 0, 1) := by decide +kernel
theorem dX2_longShare_11 : decode cX2_longShare 11 = .ok (.getfield 9, 3) := by decide +kernel
theorem dX2_longShare_14 : decode cX2_longShare 14 = .ok (.iload_n 2, 1) := by decide +kernel
theorem dX2_longShare_15 : decode cX2_longShare 15 = .ok (.laload, 1) := by decide +kernel
theorem dX2_longShare_16 : decode cX2_longShare 16 = .ok (.invokestatic 77, 3) := by decide +kernel
theorem dX2_longShare_19 : decode cX2_longShare 19 = .ok (.invokestatic 98, 3) := by decide +kernel
theorem dX2_longShare_22 : decode cX2_longShare 22 = .ok (.ifCond .eq 6, 3) := by decide +kernel
theorem dX2_longShare_25 : decode cX2_longShare 25 = .ok (.iinc 1 1, 3) := by decide +kernel
theorem dX2_longShare_28 : decode cX2_longShare 28 = .ok (.iinc 2 1, 3) := by decide +kernel
theorem dX2_longShare_31 : decode cX2_longShare 31 = .ok (.goto (-27), 3) := by decide +kernel
theorem dX2_longShare_34 : decode cX2_longShare 34 = .ok (.iload_n 1, 1) := by decide +kernel
theorem dX2_longShare_35 : decode cX2_longShare 35 = .ok (.i2f, 1) := by decide +kernel
theorem dX2_longShare_36 : decode cX2_longShare 36 = .ok (.ldc 253, 2) := by decide +kernel
theorem dX2_longShare_38 : decode cX2_longShare 38 = .ok (.fdiv, 1) := by decide +kernel
theorem dX2_longShare_39 : decode cX2_longShare 39 = .ok (.freturn, 1) := by decide +kernel
theorem dX2_meanDay_0 : decode cX2_meanDay 0 = .ok (.lconst 0, 1) := by decide +kernel
theorem dX2_meanDay_1 : decode cX2_meanDay 1 = .ok (.lstore_n 1, 1) := by decide +kernel
theorem dX2_meanDay_2 : decode cX2_meanDay 2 = .ok (.iconst 0, 1) := by decide +kernel
theorem dX2_meanDay_3 : decode cX2_meanDay 3 = .ok (.istore_n 3, 1) := by decide +kernel
theorem dX2_meanDay_4 : decode cX2_meanDay 4 = .ok (.iload_n 3, 1) := by decide +kernel
theorem dX2_meanDay_5 : decode cX2_meanDay 5 = .ok (.bipush 6, 2) := by decide +kernel
theorem dX2_meanDay_7 : decode cX2_meanDay 7 = .ok (.if_icmp .ge 18, 3) := by decide +kernel
theorem dX2_meanDay_10 : decode cX2_meanDay 10 = .ok (.lload_n 1, 1) := by decide +kernel
theorem dX2_meanDay_11 : decode cX2_meanDay 11 = .ok (.aload_n 0, 1) := by decide +kernel
theorem dX2_meanDay_12 : decode cX2_meanDay 12 = .ok (.getfield 9, 3) := by decide +kernel
theorem dX2_meanDay_15 : decode cX2_meanDay 15 = .ok (.iload_n 3, 1) := by decide +kernel
theorem dX2_meanDay_16 : decode cX2_meanDay 16 = .ok (.laload, 1) := by decide +kernel
theorem dX2_meanDay_17 : decode cX2_meanDay 17 = .ok (.ladd, 1) := by decide +kernel
theorem dX2_meanDay_18 : decode cX2_meanDay 18 = .ok (.lstore_n 1, 1) := by decide +kernel
theorem dX2_meanDay_19 : decode cX2_meanDay 19 = .ok (.iinc 3 1, 3) := by decide +kernel
theorem dX2_meanDay_22 : decode cX2_meanDay 22 = .ok (.goto (-18), 3) := by decide +kernel
theorem dX2_meanDay_25 : decode cX2_meanDay 25 = .ok (.lload_n 1, 1) := by decide +kernel
theorem dX2_meanDay_26 : decode cX2_meanDay 26 = .ok (.l2d, 1) := by decide +kernel
theorem dX2_meanDay_27 : decode cX2_meanDay 27 = .ok (.ldc2_w 254, 3) := by decide +kernel
theorem dX2_meanDay_30 : decode cX2_meanDay 30 = .ok (.ddiv, 1) := by decide +kernel
theorem dX2_meanDay_31 : decode cX2_meanDay 31 = .ok (.dreturn, 1) := by decide +kernel
set_option maxRecDepth 20000 in
theorem ggX2_checksum_X1_yearOfMonth : GoodIn wsX2_checksum wsX1_yearOfMonth := goodIn_r _ [16, 17, 18, 19, 20, 21] (by decide +kernel) (by decide +kernel)
set_option maxRecDepth 20000 in
theorem gX2_checksum_X1_yearOfMonth : GoodIn wsX2_checksum (va_wsS RX2 120 yX1_yearOfMonth wsX1_yearOfMonth) := goodIn_app (goodIn_of _ (by decide +kernel)) ggX2_checksum_X1_yearOfMonth
set_option maxRecDepth 20000 in
theorem ggX2_checksum_X1_monthInYear : GoodIn wsX2_checksum wsX1_monthInYear := goodIn_r _ [24, 17, 25, 26, 20, 27] (by decide +kernel) (by decide +kernel)
set_option maxRecDepth 20000 in
theorem gX2_checksum_X1_monthInYear : GoodIn wsX2_checksum (va_wsS RX2 83 yX1_monthInYear wsX1_monthInYear) := goodIn_app (goodIn_of _ (by decide +kernel)) ggX2_checksum_X1_monthInYear
theorem dX2_checksum_0 : decode cX2_checksum 0 = .ok (.ldc2_w 130, 3) := by decide +kernel
theorem dX2_checksum_3 : decode cX2_checksum 3 = .ok (.lstore_n 1, 1) := by decide +kernel
theorem dX2_checksum_4 : decode cX2_checksum 4 = .ok (.iconst 0, 1) := by decide +kernel
theorem dX2_checksum_5 : decode cX2_checksum 5 = .ok (.istore_n 3, 1) := by decide +kernel
theorem dX2_checksum_6 : decode cX2_checksum 6 = .ok (.iload_n 3, 1) := by decide +kernel
theorem dX2_checksum_7 : decode cX2_checksum 7 = .ok (.bipush 6, 2) := by decide +kernel
theorem dX2_checksum_9 : decode cX2_checksum 9 = .ok (.if_icmp .ge 22, 3) := by decide +kernel
theorem dX2_checksum_12 : decode cX2_checksum 12 = .ok (.ldc2_w 256, 3) := by decide +kernel
theorem dX2_checksum_15 : decode cX2_checksum 15 = .ok (.lload_n 1, 1) := by decide +kernel
theorem dX2_checksum_16 : decode cX2_checksum 16 = .ok (.lmul, 1) := by decide +kernel
theorem dX2_checksum_17 : decode cX2_checksum 17 = .ok (.aload_n 0, 1) := by decide +kernel
theorem dX2_checksum_18 : decode cX2_checksum 18 = .ok (.getfield 9, 3) := by decide +kernel
theorem dX2_checksum_21 : decode cX2_checksum 21 = .ok (.iload_n 3, 1) := by decide +kernel
theorem dX2_checksum_22 : decode cX2_checksum 22 = .ok (.laload, 1) := by decide +kernel
theorem dX2_checksum_23 : decode cX2_checksum 23 = .ok (.ladd, 1) := by decide +kernel
theorem dX2_checksum_24 : decode cX2_checksum 24 = .ok (.lstore_n 1, 1) := by decide +kernel
theorem dX2_checksum_25 : decode cX2_checksum 25 = .ok (.iinc 3 1, 3) := by decide +kernel
theorem dX2_checksum_28 : decode cX2_checksum 28 = .ok (.goto (-22), 3) := by decide +kernel
theorem dX2_checksum_31 : decode cX2_checksum 31 = .ok (.iconst 0, 1) := by decide +kernel
theorem dX2_checksum_32 : decode cX2_checksum 32 = .ok (.istore_n 3, 1) := by decide +kernel
theorem dX2_checksum_33 : decode cX2_checksum 33 = .ok (.iload_n 3, 1) := by decide +kernel
theorem dX2_checksum_34 : decode cX2_checksum 34 = .ok (.iconst 4, 1) := by decide +kernel
theorem dX2_checksum_35 : decode cX2_checksum 35 = .ok (.if_icmp .ge 51, 3) := by decide +kernel
theorem dX2_checksum_38 : decode cX2_checksum 38 = .ok (.ldc2_w 256, 3) := by decide +kernel
theorem dX2_checksum_41 : decode cX2_checksum 41 = .ok (.lload_n 1, 1) := by decide +kernel
theorem dX2_checksum_42 : decode cX2_checksum 42 = .ok (.lmul, 1) := by decide +kernel
theorem dX2_checksum_43 : decode cX2_checksum 43 = .ok (.aload_n 0, 1) := by decide +kernel
theorem dX2_checksum_44 : decode cX2_checksum 44 = .ok (.getfield 13, 3) := by decide +kernel
theorem dX2_checksum_47 : decode cX2_checksum 47 = .ok (.iload_n 3, 1) := by decide +kernel
theorem dX2_checksum_48 : decode cX2_checksum 48 = .ok (.iaload, 1) := by decide +kernel
theorem dX2_checksum_49 : decode cX2_checksum 49 = .ok (.i2l, 1) := by decide +kernel
theorem dX2_checksum_50 : decode cX2_checksum 50 = .ok (.ladd, 1) := by decide +kernel
theorem dX2_checksum_51 : decode cX2_checksum 51 = .ok (.lstore_n 1, 1) := by decide +kernel
theorem dX2_checksum_52 : decode cX2_checksum 52 = .ok (.ldc2_w 256, 3) := by decide +kernel
theorem dX2_checksum_55 : decode cX2_checksum 55 = .ok (.lload_n 1, 1) := by decide +kernel
theorem dX2_checksum_56 : decode cX2_checksum 56 = .ok (.lmul, 1) := by decide +kernel
theorem dX2_checksum_57 : decode cX2_checksum 57 = .ok (.aload_n 0, 1) := by decide +kernel
theorem dX2_checksum_58 : decode cX2_checksum 58 = .ok (.getfield 17, 3) := by decide +kernel
theorem dX2_checksum_61 : decode cX2_checksum 61 = .ok (.iload_n 3, 1) := by decide +kernel
theorem dX2_checksum_62 : decode cX2_checksum 62 = .ok (.iaload, 1) := by decide +kernel
theorem dX2_checksum_63 : decode cX2_checksum 63 = .ok (.i2l, 1) := by decide +kernel
theorem dX2_checksum_64 : decode cX2_checksum 64 = .ok (.ladd, 1) := by decide +kernel
theorem dX2_checksum_65 : decode cX2_checksum 65 = .ok (.lstore_n 1, 1) := by decide +kernel
theorem dX2_checksum_66 : decode cX2_checksum 66 = .ok (.ldc2_w 256, 3) := by decide +kernel
theorem dX2_checksum_69 : decode cX2_checksum 69 = .ok (.lload_n 1, 1) := by decide +kernel
theorem dX2_checksum_70 : decode cX2_checksum 70 = .ok (.lmul, 1) := by decide +kernel
theorem dX2_checksum_71 : decode cX2_checksum 71 = .ok (.aload_n 0, 1) := by decide +kernel
theorem dX2_checksum_72 : decode cX2_checksum 72 = .ok (.getfield 20, 3) := by decide +kernel
theorem dX2_checksum_75 : decode cX2_checksum 75 = .ok (.iload_n 3, 1) := by decide +kernel
theorem dX2_checksum_76 : decode cX2_checksum 76 = .ok (.iaload, 1) := by decide +kernel
theorem dX2_checksum_77 : decode cX2_checksum 77 = .ok (.i2l, 1) := by decide +kernel
theorem dX2_checksum_78 : decode cX2_checksum 78 = .ok (.ladd, 1) := by decide +kernel
theorem dX2_checksum_79 : decode cX2_checksum 79 = .ok (.lstore_n 1, 1) := by decide +kernel
theorem dX2_checksum_80 : decode cX2_checksum 80 = .ok (.iinc 3 1, 3) := by decide +kernel
theorem dX2_checksum_83 : decode cX2_checksum 83 = .ok (.goto (-50), 3) := by decide +kernel
theorem dX2_checksum_86 : decode cX2_checksum 86 = .ok (.iconst 0, 1) := by decide +kernel
theorem dX2_checksum_87 : decode cX2_checksum 87 = .ok (.istore_n 3, 1) := by decide +kernel
theorem dX2_checksum_88 : decode cX2_checksum 88 = .ok (.iload_n 3, 1) := by decide +kernel
theorem dX2_checksum_89 : decode cX2_checksum 89 = .ok (.iconst 4, 1) := by decide +kernel
theorem dX2_checksum_90 : decode cX2_checksum 90 = .ok (.if_icmp .ge 44, 3) := by decide +kernel
theorem dX2_checksum_93 : decode cX2_checksum 93 = .ok (.ldc2_w 256, 3) := by decide +kernel
theorem dX2_checksum_96 : decode cX2_checksum 96 = .ok (.lload_n 1, 1) := by decide +kernel
theorem dX2_checksum_97 : decode cX2_checksum 97 = .ok (.lmul, 1) := by decide +kernel
theorem dX2_checksum_98 : decode cX2_checksum 98 = .ok (.aload_n 0, 1) := by decide +kernel
theorem dX2_checksum_99 : decode cX2_checksum 99 = .ok (.getfield 23, 3) := by decide +kernel
theorem dX2_checksum_102 : decode cX2_checksum 102 = .ok (.iload_n 3, 1) := by decide +kernel
theorem dX2_checksum_103 : decode cX2_checksum 103 = .ok (.iaload, 1) := by decide +kernel
theorem dX2_checksum_104 : decode cX2_checksum 104 = .ok (.i2l, 1) := by decide +kernel
theorem dX2_checksum_105 : decode cX2_checksum 105 = .ok (.invokestatic 120, 3) := by decide +kernel
theorem dX2_checksum_108 : decode cX2_checksum 108 = .ok (.ladd, 1) := by decide +kernel
theorem dX2_checksum_109 : decode cX2_checksum 109 = .ok (.lstore_n 1, 1) := by decide +kernel
theorem dX2_checksum_110 : decode cX2_checksum 110 = .ok (.ldc2_w 256, 3) := by decide +kernel
theorem dX2_checksum_113 : decode cX2_checksum 113 = .ok (.lload_n 1, 1) := by decide +kernel
theorem dX2_checksum_114 : decode cX2_checksum 114 = .ok (.lmul, 1) := by decide +kernel
theorem dX2_checksum_115 : decode cX2_checksum 115 = .ok (.aload_n 0, 1) := by decide +kernel
theorem dX2_checksum_116 : decode cX2_checksum 116 = .ok (.getfield 23, 3) := by decide +kernel
theorem dX2_checksum_119 : decode cX2_checksum 119 = .ok (.iload_n 3, 1) := by decide +kernel
theorem dX2_checksum_120 : decode cX2_checksum 120 = .ok (.iaload, 1) := by decide +kernel
theorem dX2_checksum_121 : decode cX2_checksum 121 = .ok (.i2l, 1) := by decide +kernel
theorem dX2_checksum_122 : decode cX2_checksum 122 = .ok (.invokestatic 83, 3) := by decide +kernel
theorem dX2_checksum_125 : decode cX2_checksum 125 = .ok (.i2l, 1) := by decide +kernel
theorem dX2_checksum_126 : decode cX2_checksum 126 = .ok (.ladd, 1) := by decide +kernel
theorem dX2_checksum_127 : decode cX2_checksum 127 = .ok (.lstore_n 1, 1) := by decide +kernel
theorem dX2_checksum_128 : decode cX2_checksum 128 = .ok (.iinc 3 1, 3) := by decide +kernel
theorem dX2_checksum_131 : decode cX2_checksum 131 = .ok (.goto (-43), 3) := by decide +kernel
theorem dX2_checksum_134 : decode cX2_checksum 134 = .ok (.iconst 0, 1) := by decide +kernel
theorem dX2_checksum_135 : decode cX2_checksum 135 = .ok (.istore_n 3, 1) := by decide +kernel
theorem dX2_checksum_136 : decode cX2_checksum 136 = .ok (.iload_n 3, 1) := by decide +kernel
theorem dX2_checksum_137 : decode cX2_checksum 137 = .ok (.iconst 4, 1) := by decide +kernel
theorem dX2_checksum_138 : decode cX2_checksum 138 = .ok (.if_icmp .ge 22, 3) := by decide +kernel
theorem dX2_checksum_141 : decode cX2_checksum 141 = .ok (.ldc2_w 256, 3) := by decide +kernel
theorem dX2_checksum_144 : decode cX2_checksum 144 = .ok (.lload_n 1, 1) := by decide +kernel
theorem dX2_checksum_145 : decode cX2_checksum 145 = .ok (.lmul, 1) := by decide +kernel
theorem dX2_checksum_146 : decode cX2_checksum 146 = .ok (.aload_n 0, 1) := by decide +kernel
theorem dX2_checksum_147 : decode cX2_checksum 147 = .ok (.getfield 26, 3) := by decide +kernel
theorem dX2_checksum_150 : decode cX2_checksum 150 = .ok (.iload_n 3, 1) := by decide +kernel
theorem dX2_checksum_151 : decode cX2_checksum 151 = .ok (.laload, 1) := by decide +kernel
theorem dX2_checksum_152 : decode cX2_checksum 152 = .ok (.ladd, 1) := by decide +kernel
theorem dX2_checksum_153 : decode cX2_checksum 153 = .ok (.lstore_n 1, 1) := by decide +kernel
theorem dX2_checksum_154 : decode cX2_checksum 154 = .ok (.iinc 3 1, 3) := by decide +kernel
theorem dX2_checksum_157 : decode cX2_checksum 157 = .ok (.goto (-21), 3) := by decide +kernel
theorem dX2_checksum_160 : decode cX2_checksum 160 = .ok (.iconst 0, 1) := by decide +kernel
theorem dX2_checksum_161 : decode cX2_checksum 161 = .ok (.istore_n 3, 1) := by decide +kernel
theorem dX2_checksum_162 : decode cX2_checksum 162 = .ok (.iload_n 3, 1) := by decide +kernel
theorem dX2_checksum_163 : decode cX2_checksum 163 = .ok (.iconst 4, 1) := by decide +kernel
theorem dX2_checksum_164 : decode cX2_checksum 164 = .ok (.if_icmp .ge 35, 3) := by decide +kernel
theorem dX2_checksum_167 : decode cX2_checksum 167 = .ok (.ldc2_w 256, 3) := by decide +kernel
theorem dX2_checksum_170 : decode cX2_checksum 170 = .ok (.lload_n 1, 1) := by decide +kernel
theorem dX2_checksum_171 : decode cX2_checksum 171 = .ok (.lmul, 1) := by decide +kernel
theorem dX2_checksum_172 : decode cX2_checksum 172 = .ok (.aload_n 0, 1) := by decide +kernel
theorem dX2_checksum_173 : decode cX2_checksum 173 = .ok (.getfield 29, 3) := by decide +kernel
theorem dX2_checksum_176 : decode cX2_checksum 176 = .ok (.iload_n 3, 1) := by decide +kernel
theorem dX2_checksum_177 : decode cX2_checksum 177 = .ok (.laload, 1) := by decide +kernel
theorem dX2_checksum_178 : decode cX2_checksum 178 = .ok (.ladd, 1) := by decide +kernel
theorem dX2_checksum_179 : decode cX2_checksum 179 = .ok (.lstore_n 1, 1) := by decide +kernel
theorem dX2_checksum_180 : decode cX2_checksum 180 = .ok (.ldc2_w 256, 3) := by decide +kernel
theorem dX2_checksum_183 : decode cX2_checksum 183 = .ok (.lload_n 1, 1) := by decide +kernel
theorem dX2_checksum_184 : decode cX2_checksum 184 = .ok (.lmul, 1) := by decide +kernel
theorem dX2_checksum_185 : decode cX2_checksum 185 = .ok (.aload_n 0, 1) := by decide +kernel
theorem dX2_checksum_186 : decode cX2_checksum 186 = .ok (.getfield 32, 3) := by decide +kernel
theorem dX2_checksum_189 : decode cX2_checksum 189 = .ok (.iload_n 3, 1) := by decide +kernel
theorem dX2_checksum_190 : decode cX2_checksum 190 = .ok (.laload, 1) := by decide +kernel
theorem dX2_checksum_191 : decode cX2_checksum 191 = .ok (.ladd, 1) := by decide +kernel
theorem dX2_checksum_192 : decode cX2_checksum 192 = .ok (.lstore_n 1, 1) := by decide +kernel
theorem dX2_checksum_193 : decode cX2_checksum 193 = .ok (.iinc 3 1, 3) := by decide +kernel
theorem dX2_checksum_196 : decode cX2_checksum 196 = .ok (.goto (-34), 3) := by decide +kernel
theorem dX2_checksum_199 : decode cX2_checksum 199 = .ok (.iconst 0, 1) := by decide +kernel
theorem dX2_checksum_200 : decode cX2_checksum 200 = .ok (.istore_n 3, 1) := by decide +kernel
theorem dX2_checksum_201 : decode cX2_checksum 201 = .ok (.iload_n 3, 1) := by decide +kernel
theorem dX2_checksum_202 : decode cX2_checksum 202 = .ok (.iconst 4, 1) := by decide +kernel
theorem dX2_checksum_203 : decode cX2_checksum 203 = .ok (.if_icmp .ge 35, 3) := by decide +kernel
theorem dX2_checksum_206 : decode cX2_checksum 206 = .ok (.ldc2_w 256, 3) := by decide +kernel
theorem dX2_checksum_209 : decode cX2_checksum 209 = .ok (.lload_n 1, 1) := by decide +kernel
theorem dX2_checksum_210 : decode cX2_checksum 210 = .ok (.lmul, 1) := by decide +kernel
theorem dX2_checksum_211 : decode cX2_checksum 211 = .ok (.aload_n 0, 1) := by decide +kernel
theorem dX2_checksum_212 : decode cX2_checksum 212 = .ok (.getfield 35, 3) := by decide +kernel
theorem dX2_checksum_215 : decode cX2_checksum 215 = .ok (.iload_n 3, 1) := by decide +kernel
theorem dX2_checksum_216 : decode cX2_checksum 216 = .ok (.laload, 1) := by decide +kernel
theorem dX2_checksum_217 : decode cX2_checksum 217 = .ok (.ladd, 1) := by decide +kernel
theorem dX2_checksum_218 : decode cX2_checksum 218 = .ok (.lstore_n 1, 1) := by decide +kernel
theorem dX2_checksum_219 : decode cX2_checksum 219 = .ok (.ldc2_w 256, 3) := by decide +kernel
theorem dX2_checksum_222 : decode cX2_checksum 222 = .ok (.lload_n 1, 1) := by decide +kernel
theorem dX2_checksum_223 : decode cX2_checksum 223 = .ok (.lmul, 1) := by decide +kernel
theorem dX2_checksum_224 : decode cX2_checksum 224 = .ok (.aload_n 0, 1) := by decide +kernel
theorem dX2_checksum_225 : decode cX2_checksum 225 = .ok (.getfield 38, 3) := by decide +kernel
theorem dX2_checksum_228 : decode cX2_checksum 228 = .ok (.iload_n 3, 1) := by decide +kernel
theorem dX2_checksum_229 : decode cX2_checksum 229 = .ok (.laload, 1) := by decide +kernel
theorem dX2_checksum_230 : decode cX2_checksum 230 = .ok (.ladd, 1) := by decide +kernel
theorem dX2_checksum_231 : decode cX2_checksum 231 = .ok (.lstore_n 1, 1) := by decide +kernel
theorem dX2_checksum_232 : decode cX2_checksum 232 = .ok (.iinc 3 1, 3) := by decide +kernel
theorem dX2_checksum_235 : decode cX2_checksum 235 = .ok (.goto (-34), 3) := by decide +kernel
theorem dX2_checksum_238 : decode cX2_checksum 238 = .ok (.lload_n 1, 1) := by decide +kernel
theorem dX2_checksum_239 : decode cX2_checksum 239 = .ok (.lreturn, 1) := by decide +kernel
set_option maxRecDepth 20000 in
theorem ggX2_isSound_X2_isSoundDay : GoodIn wsX2_isSound wsX2_isSoundDay := goodIn_r _ [6, 7, 8, 9, 10, 11, 12, 13, 14, 15, 16, 17, 18, 19, 20, 21, 22, 23, 24, 25, 26, 27, 28, 29, 30, 31, 32, 33, 34, 35, 36, 37, 38, 39, 40, 41, 42, 43, 44, 45, 46, 47, 48, 49, 50, 51, 52, 53, 54, 55, 56, 57, 58, 59, 60, 61, 62, 63, 64, 65, 66, 67, 68, 69, 70, 5, 71, 72, 73, 74, 75, 76, 77, 78, 79, 80, 81, 82, 83, 84, 85, 86, 87] (by decide +kernel) (by decide +kernel)
set_option maxRecDepth 20000 in
theorem gX2_isSound_X2_isSoundDay : GoodIn wsX2_isSound (va_wsS RX2 258 yX2_isSoundDay wsX2_isSoundDay) := goodIn_app (goodIn_of _ (by decide +kernel)) ggX2_isSound_X2_isSoundDay
set_option maxRecDepth 20000 in
theorem ggX2_isSound_X2_isSoundWay : GoodIn wsX2_isSound wsX2_isSoundWay := goodIn_r _ [90, 91, 92, 93, 14, 94, 83, 84, 9, 85, 95, 96, 97, 47, 13, 15, 16, 17, 18, 19, 20, 21, 22, 23, 24, 25, 26, 27, 28, 29, 30, 31, 32, 33, 34, 35, 36, 37, 38, 39, 40, 41, 42, 43, 48, 49, 50, 51, 52, 53, 54, 55, 56, 57, 58, 59, 60, 77, 78, 79, 80, 81, 82, 86, 62, 63] (by decide +kernel) (by decide +kernel)
set_option maxRecDepth 20000 in
theorem gX2_isSound_X2_isSoundWay : GoodIn wsX2_isSound (va_wsS RX2 261 yX2_isSoundWay wsX2_isSoundWay) := goodIn_app (goodIn_of _ (by decide +kernel)) ggX2_isSound_X2_isSoundWay
set_option maxRecDepth 20000 in
theorem ggX2_isSound_X2_isSoundTimeWay : GoodIn wsX2_isSound wsX2_isSoundTimeWay := goodIn_r _ [100, 101, 102, 103, 26, 27, 28, 104, 59, 60, 105, 106, 107, 108, 109, 110, 111, 112, 113] (by decide +kernel) (by decide +kernel)
set_option maxRecDepth 20000 in
theorem gX2_isSound_X2_isSoundTimeWay : GoodIn wsX2_isSound (va_wsS RX2 265 yX2_isSoundTimeWay wsX2_isSoundTimeWay) := goodIn_app (goodIn_of _ (by decide +kernel)) ggX2_isSound_X2_isSoundTimeWay
set_option maxRecDepth 20000 in
theorem ggX2_isSound_X2_isSoundMomentWay : GoodIn wsX2_isSound wsX2_isSoundMomentWay := goodIn_ca (goodIn_r _ [117, 118, 119, 102, 101, 120, 103, 26, 27, 28, 121, 122, 107, 123, 124, 105, 106, 108, 109, 110, 59, 60, 104, 111, 112, 113, 125, 126, 127, 128, 129, 130, 131, 132, 133, 134] (by decide +kernel) (by decide +kernel)) (goodIn_sub (fun _ h => List.mem_cons_of_mem _ (List.mem_append_right _ h)) (by decide +kernel))
set_option maxRecDepth 20000 in
theorem gX2_isSound_X2_isSoundMomentWay : GoodIn wsX2_isSound (wsV RX2 268 RX2 yX2_isSoundMomentWay wsX2_isSoundMomentWay) := goodIn_app (goodIn_of _ (by decide +kernel)) ggX2_isSound_X2_isSoundMomentWay
theorem dX2_isSound_0 : decode cX2_isSound 0 = .ok (.iconst 1, 1) := by decide +kernel
theorem dX2_isSound_1 : decode cX2_isSound 1 = .ok (.istore_n 1, 1) := by decide +kernel
theorem dX2_isSound_2 : decode cX2_isSound 2 = .ok (.iconst 0, 1) := by decide +kernel
theorem dX2_isSound_3 : decode cX2_isSound 3 = .ok (.istore_n 2, 1) := by decide +kernel
theorem dX2_isSound_4 : decode cX2_isSound 4 = .ok (.iload_n 2, 1) := by decide +kernel
theorem dX2_isSound_5 : decode cX2_isSound 5 = .ok (.bipush 6, 2) := by decide +kernel
theorem dX2_isSound_7 : decode cX2_isSound 7 = .ok (.if_icmp .ge 73, 3) := by decide +kernel
theorem dX2_isSound_10 : decode cX2_isSound 10 = .ok (.iload_n 1, 1) := by decide +kernel
theorem dX2_isSound_11 : decode cX2_isSound 11 = .ok (.ifCond .eq 19, 3) := by decide +kernel
theorem dX2_isSound_14 : decode cX2_isSound 14 = .ok (.aload_n 0, 1) := by decide +kernel
theorem dX2_isSound_15 : decode cX2_isSound 15 = .ok (.getfield 9, 3) := by decide +kernel
theorem dX2_isSound_18 : decode cX2_isSound 18 = .ok (.iload_n 2, 1) := by decide +kernel
theorem dX2_isSound_19 : decode cX2_isSound 19 = .ok (.laload, 1) := by decide +kernel
theorem dX2_isSound_20 : decode cX2_isSound 20 = .ok (.invokestatic 258, 3) := by decide +kernel
theorem dX2_isSound_23 : decode cX2_isSound 23 = .ok (.ifCond .eq 7, 3) := by decide +kernel
theorem dX2_isSound_26 : decode cX2_isSound 26 = .ok (.iconst 1, 1) := by decide +kernel
theorem dX2_isSound_27 : decode cX2_isSound 27 = .ok (.goto 4, 3) := by decide +kernel
theorem dX2_isSound_30 : decode cX2_isSound 30 = .ok (.iconst 0, 1) := by decide +kernel
theorem dX2_isSound_31 : decode cX2_isSound 31 = .ok (.istore_n 1, 1) := by decide +kernel
theorem dX2_isSound_32 : decode cX2_isSound 32 = .ok (.iconst 0, 1) := by decide +kernel
theorem dX2_isSound_33 : decode cX2_isSound 33 = .ok (.istore_n 3, 1) := by decide +kernel
theorem dX2_isSound_34 : decode cX2_isSound 34 = .ok (.iload_n 3, 1) := by decide +kernel
theorem dX2_isSound_35 : decode cX2_isSound 35 = .ok (.bipush 6, 2) := by decide +kernel
theorem dX2_isSound_37 : decode cX2_isSound 37 = .ok (.if_icmp .ge 37, 3) := by decide +kernel
theorem dX2_isSound_40 : decode cX2_isSound 40 = .ok (.iload_n 1, 1) := by decide +kernel
theorem dX2_isSound_41 : decode cX2_isSound 41 = .ok (.ifCond .eq 25, 3) := by decide +kernel
theorem dX2_isSound_44 : decode cX2_isSound 44 = .ok (.aload_n 0, 1) := by decide +kernel
theorem dX2_isSound_45 : decode cX2_isSound 45 = .ok (.getfield 9, 3) := by decide +kernel
theorem dX2_isSound_48 : decode cX2_isSound 48 = .ok (.iload_n 2, 1) := by decide +kernel
theorem dX2_isSound_49 : decode cX2_isSound 49 = .ok (.laload, 1) := by decide +kernel
theorem dX2_isSound_50 : decode cX2_isSound 50 = .ok (.aload_n 0, 1) := by decide +kernel
theorem dX2_isSound_51 : decode cX2_isSound 51 = .ok (.getfield 9, 3) := by decide +kernel
theorem dX2_isSound_54 : decode cX2_isSound 54 = .ok (.iload_n 3, 1) := by decide +kernel
theorem dX2_isSound_55 : decode cX2_isSound 55 = .ok (.laload, 1) := by decide +kernel
theorem dX2_isSound_56 : decode cX2_isSound 56 = .ok (.invokestatic 261, 3) := by decide +kernel
theorem dX2_isSound_59 : decode cX2_isSound 59 = .ok (.ifCond .eq 7, 3) := by decide +kernel
theorem dX2_isSound_62 : decode cX2_isSound 62 = .ok (.iconst 1, 1) := by decide +kernel
theorem dX2_isSound_63 : decode cX2_isSound 63 = .ok (.goto 4, 3) := by decide +kernel
theorem dX2_isSound_66 : decode cX2_isSound 66 = .ok (.iconst 0, 1) := by decide +kernel
theorem dX2_isSound_67 : decode cX2_isSound 67 = .ok (.istore_n 1, 1) := by decide +kernel
theorem dX2_isSound_68 : decode cX2_isSound 68 = .ok (.iinc 3 1, 3) := by decide +kernel
theorem dX2_isSound_71 : decode cX2_isSound 71 = .ok (.goto (-37), 3) := by decide +kernel
theorem dX2_isSound_74 : decode cX2_isSound 74 = .ok (.iinc 2 1, 3) := by decide +kernel
theorem dX2_isSound_77 : decode cX2_isSound 77 = .ok (.goto (-73), 3) := by decide +kernel
theorem dX2_isSound_80 : decode cX2_isSound 80 = .ok (.iconst 0, 1) := by decide +kernel
theorem dX2_isSound_81 : decode cX2_isSound 81 = .ok (.istore_n 2, 1) := by decide +kernel
theorem dX2_isSound_82 : decode cX2_isSound 82 = .ok (.iload_n 2, 1) := by decide +kernel
theorem dX2_isSound_83 : decode cX2_isSound 83 = .ok (.iconst 4, 1) := by decide +kernel
theorem dX2_isSound_84 : decode cX2_isSound 84 = .ok (.if_icmp .ge 59, 3) := by decide +kernel
theorem dX2_isSound_87 : decode cX2_isSound 87 = .ok (.iconst 0, 1) := by decide +kernel
theorem dX2_isSound_88 : decode cX2_isSound 88 = .ok (.istore_n 3, 1) := by decide +kernel
theorem dX2_isSound_89 : decode cX2_isSound 89 = .ok (.iload_n 3, 1) := by decide +kernel
theorem dX2_isSound_90 : decode cX2_isSound 90 = .ok (.iconst 4, 1) := by decide +kernel
theorem dX2_isSound_91 : decode cX2_isSound 91 = .ok (.if_icmp .ge 46, 3) := by decide +kernel
theorem dX2_isSound_94 : decode cX2_isSound 94 = .ok (.iload_n 1, 1) := by decide +kernel
theorem dX2_isSound_95 : decode cX2_isSound 95 = .ok (.ifCond .eq 34, 3) := by decide +kernel
theorem dX2_isSound_98 : decode cX2_isSound 98 = .ok (.aload_n 0, 1) := by decide +kernel
theorem dX2_isSound_99 : decode cX2_isSound 99 = .ok (.getfield 26, 3) := by decide +kernel
theorem dX2_isSound_102 : decode cX2_isSound 102 = .ok (.iload_n 2, 1) := by decide +kernel
theorem dX2_isSound_103 : decode cX2_isSound 103 = .ok (.laload, 1) := by decide +kernel
theorem dX2_isSound_104 : decode cX2_isSound 104 = .ok (.aload_n 0, 1) := by decide +kernel
theorem dX2_isSound_105 : decode cX2_isSound 105 = .ok (.getfield 26, 3) := by decide +kernel
theorem dX2_isSound_108 : decode cX2_isSound 108 = .ok (.iload_n 3, 1) := by decide +kernel
theorem dX2_isSound_109 : decode cX2_isSound 109 = .ok (.laload, 1) := by decide +kernel
theorem dX2_isSound_110 : decode cX2_isSound 110 = .ok (.invokestatic 265, 3) := by decide +kernel
theorem dX2_isSound_113 : decode cX2_isSound 113 = .ok (.ifCond .eq 16, 3) := by decide +kernel
theorem dX2_isSound_116 : decode cX2_isSound 116 = .ok (.aload_n 0, 1) := by decide +kernel
theorem dX2_isSound_117 : decode cX2_isSound 117 = .ok (.iload_n 2, 1) := by decide +kernel
theorem dX2_isSound_118 : decode cX2_isSound 118 = .ok (.iload_n 3, 1) := by decide +kernel
theorem dX2_isSound_119 : decode cX2_isSound 119 = .ok (.invokevirtual 268, 3) := by decide +kernel
theorem dX2_isSound_122 : decode cX2_isSound 122 = .ok (.ifCond .eq 7, 3) := by decide +kernel
theorem dX2_isSound_125 : decode cX2_isSound 125 = .ok (.iconst 1, 1) := by decide +kernel
theorem dX2_isSound_126 : decode cX2_isSound 126 = .ok (.goto 4, 3) := by decide +kernel
theorem dX2_isSound_129 : decode cX2_isSound 129 = .ok (.iconst 0, 1) := by decide +kernel
theorem dX2_isSound_130 : decode cX2_isSound 130 = .ok (.istore_n 1, 1) := by decide +kernel
theorem dX2_isSound_131 : decode cX2_isSound 131 = .ok (.iinc 3 1, 3) := by decide +kernel
theorem dX2_isSound_134 : decode cX2_isSound 134 = .ok (.goto (-45), 3) := by decide +kernel
theorem dX2_isSound_137 : decode cX2_isSound 137 = .ok (.iinc 2 1, 3) := by decide +kernel
theorem dX2_isSound_140 : decode cX2_isSound 140 = .ok (.goto (-58), 3) := by decide +kernel
theorem dX2_isSound_143 : decode cX2_isSound 143 = .ok (.iload_n 1, 1) := by decide +kernel
theorem dX2_isSound_144 : decode cX2_isSound 144 = .ok (.ireturn, 1) := by decide +kernel
set_option maxRecDepth 20000 in
theorem ggX2_isSoundDay_X1_monthOfDay : GoodIn wsX2_isSoundDay wsX1_monthOfDay := goodIn_r _ [9, 10, 11, 12, 13, 14, 8, 15, 16, 17, 18, 19, 20, 21, 22, 23, 24, 25, 26, 27, 28, 29, 30, 31, 32, 33, 34, 35, 36, 37] (by decide +kernel) (by decide +kernel)
set_option maxRecDepth 20000 in
theorem gX2_isSoundDay_X1_monthOfDay : GoodIn wsX2_isSoundDay (va_wsS RX2 80 yX1_monthOfDay wsX1_monthOfDay) := goodIn_app (goodIn_of _ (by decide +kernel)) ggX2_isSoundDay_X1_monthOfDay
set_option maxRecDepth 20000 in
theorem ggX2_isSoundDay_X1_dayInMonth : GoodIn wsX2_isSoundDay wsX1_dayInMonth := goodIn_r _ [40, 41, 7, 8, 9, 10, 11, 12, 13, 14, 15, 16, 17, 18, 19, 20, 21, 22, 23, 24, 25, 26, 27, 28, 29, 30, 31, 32, 33, 34, 35, 36, 37, 42, 43, 44, 45, 46, 47, 48, 49, 50, 51, 52, 53, 54] (by decide +kernel) (by decide +kernel)
set_option maxRecDepth 20000 in
theorem gX2_isSoundDay_X1_dayInMonth : GoodIn wsX2_isSoundDay (va_wsS RX2 86 yX1_dayInMonth wsX1_dayInMonth) := goodIn_app (goodIn_of _ (by decide +kernel)) ggX2_isSoundDay_X1_dayInMonth
set_option maxRecDepth 20000 in
theorem ggX2_isSoundDay_X1_lengthOfMonth : GoodIn wsX2_isSoundDay wsX1_lengthOfMonth := goodIn_r _ [57, 49, 50, 8, 51, 10, 52, 53, 21, 54, 46, 47, 48, 19, 20, 22, 32, 33, 34, 27, 29, 16] (by decide +kernel) (by decide +kernel)
set_option maxRecDepth 20000 in
theorem gX2_isSoundDay_X1_lengthOfMonth : GoodIn wsX2_isSoundDay (va_wsS RX2 65 yX1_lengthOfMonth wsX1_lengthOfMonth) := goodIn_app (goodIn_of _ (by decide +kernel)) ggX2_isSoundDay_X1_lengthOfMonth
set_option maxRecDepth 20000 in
theorem ggX2_isSoundDay_X1_isDay : GoodIn wsX2_isSoundDay wsX1_isDay := goodIn_r _ [60, 61, 62] (by decide +kernel) (by decide +kernel)
set_option maxRecDepth 20000 in
theorem gX2_isSoundDay_X1_isDay : GoodIn wsX2_isSoundDay (va_wsS RX2 272 yX1_isDay wsX1_isDay) := goodIn_app (goodIn_of _ (by decide +kernel)) ggX2_isSoundDay_X1_isDay
set_option maxRecDepth 20000 in
theorem ggX2_isSoundDay_X2_isIn : GoodIn wsX2_isSoundDay wsX2_isIn := goodIn_r _ [66] (by decide +kernel) (by decide +kernel)
set_option maxRecDepth 20000 in
theorem gX2_isSoundDay_X2_isIn : GoodIn wsX2_isSoundDay (va_wsS RX2 55 yX2_isIn wsX2_isIn) := goodIn_app (goodIn_of _ (by decide +kernel)) ggX2_isSoundDay_X2_isIn
set_option maxRecDepth 20000 in
theorem ggX2_isSoundDay_X1_firstOfMonth : GoodIn wsX2_isSoundDay wsX1_firstOfMonth := goodIn_r _ [44, 45, 46, 47, 8, 48, 10, 19, 20, 21, 22, 49, 50, 51, 52, 53, 54, 32, 33, 34, 27, 29, 16, 23, 24, 25, 26, 28, 30, 31, 17] (by decide +kernel) (by decide +kernel)
set_option maxRecDepth 20000 in
theorem gX2_isSoundDay_X1_firstOfMonth : GoodIn wsX2_isSoundDay (va_wsS RX2 69 yX1_firstOfMonth wsX1_firstOfMonth) := goodIn_app (goodIn_of _ (by decide +kernel)) ggX2_isSoundDay_X1_firstOfMonth
set_option maxRecDepth 20000 in
theorem ggX2_isSoundDay_X1_weekdayOf : GoodIn wsX2_isSoundDay wsX1_weekdayOf := goodIn_r _ [70, 26, 71, 52, 53, 21, 54] (by decide +kernel) (by decide +kernel)
set_option maxRecDepth 20000 in
theorem gX2_isSoundDay_X1_weekdayOf : GoodIn wsX2_isSoundDay (va_wsS RX2 92 yX1_weekdayOf wsX1_weekdayOf) := goodIn_app (goodIn_of _ (by decide +kernel)) ggX2_isSoundDay_X1_weekdayOf
set_option maxRecDepth 20000 in
theorem ggX2_isSoundDay_X1_plusMonths : GoodIn wsX2_isSoundDay wsX1_plusMonths := goodIn_r _ [74, 41, 7, 8, 9, 10, 11, 12, 13, 14, 15, 16, 17, 18, 19, 20, 21, 22, 23, 24, 25, 26, 27, 28, 29, 30, 31, 32, 33, 34, 35, 36, 37, 42, 43, 44, 45, 46, 47, 48, 49, 50, 51, 52, 53, 54, 75, 76, 77, 78, 79, 3, 80, 81, 56, 57] (by decide +kernel) (by decide +kernel)
set_option maxRecDepth 20000 in
theorem gX2_isSoundDay_X1_plusMonths : GoodIn wsX2_isSoundDay (va_wsS RX2 123 yX1_plusMonths wsX1_plusMonths) := goodIn_app (goodIn_of _ (by decide +kernel)) ggX2_isSoundDay_X1_plusMonths
set_option maxRecDepth 20000 in
theorem ggX2_isSoundDay_X1_dayOrLast : GoodIn wsX2_isSoundDay wsX1_dayOrLast := goodIn_r _ [77, 78, 79, 3, 80, 42, 43, 8, 44, 45, 46, 47, 48, 10, 19, 20, 21, 22, 49, 50, 51, 52, 53, 54, 32, 33, 34, 27, 29, 16, 23, 24, 25, 26, 28, 30, 31, 17, 81, 56, 57] (by decide +kernel) (by decide +kernel)
set_option maxRecDepth 20000 in
theorem gX2_isSoundDay_X1_dayOrLast : GoodIn wsX2_isSoundDay (va_wsS RX2 145 yX1_dayOrLast wsX1_dayOrLast) := goodIn_app (goodIn_of _ (by decide +kernel)) ggX2_isSoundDay_X1_dayOrLast
theorem dX2_isSoundDay_0 : decode cX2_isSoundDay 0 = .ok (.lload_n 0, 1) := by decide +kernel
theorem dX2_isSoundDay_1 : decode cX2_isSoundDay 1 = .ok (.invokestatic 80, 3) := by decide +kernel
theorem dX2_isSoundDay_4 : decode cX2_isSoundDay 4 = .ok (.lstore_n 2, 1) := by decide +kernel
theorem dX2_isSoundDay_5 : decode cX2_isSoundDay 5 = .ok (.lload_n 0, 1) := by decide +kernel
theorem dX2_isSoundDay_6 : decode cX2_isSoundDay 6 = .ok (.invokestatic 86, 3) := by decide +kernel
theorem dX2_isSoundDay_9 : decode cX2_isSoundDay 9 = .ok (.istore 4, 2) := by decide +kernel
theorem dX2_isSoundDay_11 : decode cX2_isSoundDay 11 = .ok (.iload 4, 2) := by decide +kernel
theorem dX2_isSoundDay_13 : decode cX2_isSoundDay 13 = .ok (.lload_n 2, 1) := by decide +kernel
theorem dX2_isSoundDay_14 : decode cX2_isSoundDay 14 = .ok (.invokestatic 65, 3) := by decide +kernel
theorem dX2_isSoundDay_17 : decode cX2_isSoundDay 17 = .ok (.if_icmp .ne 7, 3) := by decide +kernel
theorem dX2_isSoundDay_20 : decode cX2_isSoundDay 20 = .ok (.iconst 1, 1) := by decide +kernel
theorem dX2_isSoundDay_21 : decode cX2_isSoundDay 21 = .ok (.goto 4, 3) := by decide +kernel
theorem dX2_isSoundDay_24 : decode cX2_isSoundDay 24 = .ok (.iconst 0, 1) := by decide +kernel
theorem dX2_isSoundDay_25 : decode cX2_isSoundDay 25 = .ok (.istore 5, 2) := by decide +kernel
theorem dX2_isSoundDay_27 : decode cX2_isSoundDay 27 = .ok (.lload_n 0, 1) := by decide +kernel
theorem dX2_isSoundDay_28 : decode cX2_isSoundDay 28 = .ok (.invokestatic 272, 3) := by decide +kernel
theorem dX2_isSoundDay_31 : decode cX2_isSoundDay 31 = .ok (.ifCond .eq 37, 3) := by decide +kernel
theorem dX2_isSoundDay_34 : decode cX2_isSoundDay 34 = .ok (.iload 4, 2) := by decide +kernel
theorem dX2_isSoundDay_36 : decode cX2_isSoundDay 36 = .ok (.i2l, 1) := by decide +kernel
theorem dX2_isSoundDay_37 : decode cX2_isSoundDay 37 = .ok (.lconst 1, 1) := by decide +kernel
theorem dX2_isSoundDay_38 : decode cX2_isSoundDay 38 = .ok (.lload_n 2, 1) := by decide +kernel
theorem dX2_isSoundDay_39 : decode cX2_isSoundDay 39 = .ok (.invokestatic 65, 3) := by decide +kernel
theorem dX2_isSoundDay_42 : decode cX2_isSoundDay 42 = .ok (.i2l, 1) := by decide +kernel
theorem dX2_isSoundDay_43 : decode cX2_isSoundDay 43 = .ok (.invokestatic 55, 3) := by decide +kernel
theorem dX2_isSoundDay_46 : decode cX2_isSoundDay 46 = .ok (.ifCond .eq 22, 3) := by decide +kernel
theorem dX2_isSoundDay_49 : decode cX2_isSoundDay 49 = .ok (.lload_n 2, 1) := by decide +kernel
theorem dX2_isSoundDay_50 : decode cX2_isSoundDay 50 = .ok (.invokestatic 69, 3) := by decide +kernel
theorem dX2_isSoundDay_53 : decode cX2_isSoundDay 53 = .ok (.iload 4, 2) := by decide +kernel
theorem dX2_isSoundDay_55 : decode cX2_isSoundDay 55 = .ok (.i2l, 1) := by decide +kernel
theorem dX2_isSoundDay_56 : decode cX2_isSoundDay 56 = .ok (.ladd, 1) := by decide +kernel
theorem dX2_isSoundDay_57 : decode cX2_isSoundDay 57 = .ok (.lconst 1, 1) := by decide +kernel
theorem dX2_isSoundDay_58 : decode cX2_isSoundDay 58 = .ok (.lsub, 1) := by decide +kernel
theorem dX2_isSoundDay_59 : decode cX2_isSoundDay 59 = .ok (.lload_n 0, 1) := by decide +kernel
theorem dX2_isSoundDay_60 : decode cX2_isSoundDay 60 = .ok (.lcmp, 1) := by decide +kernel
theorem dX2_isSoundDay_61 : decode cX2_isSoundDay 61 = .ok (.ifCond .ne 7, 3) := by decide +kernel
theorem dX2_isSoundDay_64 : decode cX2_isSoundDay 64 = .ok (.iconst 1, 1) := by decide +kernel
theorem dX2_isSoundDay_65 : decode cX2_isSoundDay 65 = .ok (.goto 4, 3) := by decide +kernel
theorem dX2_isSoundDay_68 : decode cX2_isSoundDay 68 = .ok (.iconst 0, 1) := by decide +kernel
theorem dX2_isSoundDay_69 : decode cX2_isSoundDay 69 = .ok (.istore 6, 2) := by decide +kernel
theorem dX2_isSoundDay_71 : decode cX2_isSoundDay 71 = .ok (.lload_n 0, 1) := by decide +kernel
theorem dX2_isSoundDay_72 : decode cX2_isSoundDay 72 = .ok (.lconst 1, 1) := by decide +kernel
theorem dX2_isSoundDay_73 : decode cX2_isSoundDay 73 = .ok (.ladd, 1) := by decide +kernel
theorem dX2_isSoundDay_74 : decode cX2_isSoundDay 74 = .ok (.invokestatic 80, 3) := by decide +kernel
theorem dX2_isSoundDay_77 : decode cX2_isSoundDay 77 = .ok (.iload 5, 2) := by decide +kernel
theorem dX2_isSoundDay_79 : decode cX2_isSoundDay 79 = .ok (.ifCond .eq 9, 3) := by decide +kernel
theorem dX2_isSoundDay_82 : decode cX2_isSoundDay 82 = .ok (.lload_n 2, 1) := by decide +kernel
theorem dX2_isSoundDay_83 : decode cX2_isSoundDay 83 = .ok (.lconst 1, 1) := by decide +kernel
theorem dX2_isSoundDay_84 : decode cX2_isSoundDay 84 = .ok (.ladd, 1) := by decide +kernel
theorem dX2_isSoundDay_85 : decode cX2_isSoundDay 85 = .ok (.goto 4, 3) := by decide +kernel
theorem dX2_isSoundDay_88 : decode cX2_isSoundDay 88 = .ok (.lload_n 2, 1) := by decide +kernel
theorem dX2_isSoundDay_89 : decode cX2_isSoundDay 89 = .ok (.lcmp, 1) := by decide +kernel
theorem dX2_isSoundDay_90 : decode cX2_isSoundDay 90 = .ok (.ifCond .ne 47, 3) := by decide +kernel
theorem dX2_isSoundDay_93 : decode cX2_isSoundDay 93 = .ok (.lload_n 0, 1) := by decide +kernel
theorem dX2_isSoundDay_94 : decode cX2_isSoundDay 94 = .ok (.lconst 1, 1) := by decide +kernel
theorem dX2_isSoundDay_95 : decode cX2_isSoundDay 95 = .ok (.ladd, 1) := by decide +kernel
theorem dX2_isSoundDay_96 : decode cX2_isSoundDay 96 = .ok (.invokestatic 86, 3) := by decide +kernel
theorem dX2_isSoundDay_99 : decode cX2_isSoundDay 99 = .ok (.iload 5, 2) := by decide +kernel
theorem dX2_isSoundDay_101 : decode cX2_isSoundDay 101 = .ok (.ifCond .eq 7, 3) := by decide +kernel
theorem dX2_isSoundDay_104 : decode cX2_isSoundDay 104 = .ok (.iconst 1, 1) := by decide +kernel
theorem dX2_isSoundDay_105 : decode cX2_isSoundDay 105 = .ok (.goto 7, 3) := by decide +kernel
theorem dX2_isSoundDay_108 : decode cX2_isSoundDay 108 = .ok (.iload 4, 2) := by decide +kernel
theorem dX2_isSoundDay_110 : decode cX2_isSoundDay 110 = .ok (.iconst 1, 1) := by decide +kernel
theorem dX2_isSoundDay_111 : decode cX2_isSoundDay 111 = .ok (.iadd, 1) := by decide +kernel
theorem dX2_isSoundDay_112 : decode cX2_isSoundDay 112 = .ok (.if_icmp .ne 25, 3) := by decide +kernel
theorem dX2_isSoundDay_115 : decode cX2_isSoundDay 115 = .ok (.lload_n 0, 1) := by decide +kernel
theorem dX2_isSoundDay_116 : decode cX2_isSoundDay 116 = .ok (.lconst 1, 1) := by decide +kernel
theorem dX2_isSoundDay_117 : decode cX2_isSoundDay 117 = .ok (.ladd, 1) := by decide +kernel
theorem dX2_isSoundDay_118 : decode cX2_isSoundDay 118 = .ok (.invokestatic 92, 3) := by decide +kernel
theorem dX2_isSoundDay_121 : decode cX2_isSoundDay 121 = .ok (.lload_n 0, 1) := by decide +kernel
theorem dX2_isSoundDay_122 : decode cX2_isSoundDay 122 = .ok (.invokestatic 92, 3) := by decide +kernel
theorem dX2_isSoundDay_125 : decode cX2_isSoundDay 125 = .ok (.bipush 7, 2) := by decide +kernel
theorem dX2_isSoundDay_127 : decode cX2_isSoundDay 127 = .ok (.irem, 1) := by decide +kernel
theorem dX2_isSoundDay_128 : decode cX2_isSoundDay 128 = .ok (.iconst 1, 1) := by decide +kernel
theorem dX2_isSoundDay_129 : decode cX2_isSoundDay 129 = .ok (.iadd, 1) := by decide +kernel
theorem dX2_isSoundDay_130 : decode cX2_isSoundDay 130 = .ok (.if_icmp .ne 7, 3) := by decide +kernel
theorem dX2_isSoundDay_133 : decode cX2_isSoundDay 133 = .ok (.iconst 1, 1) := by decide +kernel
theorem dX2_isSoundDay_134 : decode cX2_isSoundDay 134 = .ok (.goto 4, 3) := by decide +kernel
theorem dX2_isSoundDay_137 : decode cX2_isSoundDay 137 = .ok (.iconst 0, 1) := by decide +kernel
theorem dX2_isSoundDay_138 : decode cX2_isSoundDay 138 = .ok (.istore 7, 2) := by decide +kernel
theorem dX2_isSoundDay_140 : decode cX2_isSoundDay 140 = .ok (.lload_n 0, 1) := by decide +kernel
theorem dX2_isSoundDay_141 : decode cX2_isSoundDay 141 = .ok (.lconst 1, 1) := by decide +kernel
theorem dX2_isSoundDay_142 : decode cX2_isSoundDay 142 = .ok (.invokestatic 123, 3) := by decide +kernel
theorem dX2_isSoundDay_145 : decode cX2_isSoundDay 145 = .ok (.lstore 8, 2) := by decide +kernel
theorem dX2_isSoundDay_147 : decode cX2_isSoundDay 147 = .ok (.lload_n 2, 1) := by decide +kernel
theorem dX2_isSoundDay_148 : decode cX2_isSoundDay 148 = .ok (.iload 4, 2) := by decide +kernel
theorem dX2_isSoundDay_150 : decode cX2_isSoundDay 150 = .ok (.lload_n 2, 1) := by decide +kernel
theorem dX2_isSoundDay_151 : decode cX2_isSoundDay 151 = .ok (.lconst 1, 1) := by decide +kernel
theorem dX2_isSoundDay_152 : decode cX2_isSoundDay 152 = .ok (.ladd, 1) := by decide +kernel
theorem dX2_isSoundDay_153 : decode cX2_isSoundDay 153 = .ok (.invokestatic 65, 3) := by decide +kernel
theorem dX2_isSoundDay_156 : decode cX2_isSoundDay 156 = .ok (.invokestatic 275, 3) := by decide +kernel
theorem dX2_isSoundDay_159 : decode cX2_isSoundDay 159 = .ok (.i2l, 1) := by decide +kernel
theorem dX2_isSoundDay_160 : decode cX2_isSoundDay 160 = .ok (.invokestatic 145, 3) := by decide +kernel
theorem dX2_isSoundDay_163 : decode cX2_isSoundDay 163 = .ok (.lstore 10, 2) := by decide +kernel
theorem dX2_isSoundDay_165 : decode cX2_isSoundDay 165 = .ok (.iload 6, 2) := by decide +kernel
theorem dX2_isSoundDay_167 : decode cX2_isSoundDay 167 = .ok (.ifCond .eq 26, 3) := by decide +kernel
theorem dX2_isSoundDay_170 : decode cX2_isSoundDay 170 = .ok (.iload 7, 2) := by decide +kernel
theorem dX2_isSoundDay_172 : decode cX2_isSoundDay 172 = .ok (.ifCond .eq 21, 3) := by decide +kernel
theorem dX2_isSoundDay_175 : decode cX2_isSoundDay 175 = .ok (.lload 8, 2) := by decide +kernel
theorem dX2_isSoundDay_177 : decode cX2_isSoundDay 177 = .ok (.ldc2_w 173, 3) := by decide +kernel
theorem dX2_isSoundDay_180 : decode cX2_isSoundDay 180 = .ok (.invokestatic 123, 3) := by decide +kernel
theorem dX2_isSoundDay_183 : decode cX2_isSoundDay 183 = .ok (.lload 10, 2) := by decide +kernel
theorem dX2_isSoundDay_185 : decode cX2_isSoundDay 185 = .ok (.lcmp, 1) := by decide +kernel
theorem dX2_isSoundDay_186 : decode cX2_isSoundDay 186 = .ok (.ifCond .ne 7, 3) := by decide +kernel
theorem dX2_isSoundDay_189 : decode cX2_isSoundDay 189 = .ok (.iconst 1, 1) := by decide +kernel
theorem dX2_isSoundDay_190 : decode cX2_isSoundDay 190 = .ok (.goto 4, 3) := by decide +kernel
theorem dX2_isSoundDay_193 : decode cX2_isSoundDay 193 = .ok (.iconst 0, 1) := by decide +kernel
theorem dX2_isSoundDay_194 : decode cX2_isSoundDay 194 = .ok (.ireturn, 1) := by decide +kernel
set_option maxRecDepth 20000 in
theorem ggX2_isSoundWay_X1_wholeMonths : GoodIn wsX2_isSoundWay wsX1_wholeMonths := goodIn_r _ [5, 6, 7, 8, 9, 10, 11, 12, 13, 14, 4, 15, 16, 17, 18, 19, 20, 21, 22, 23, 24, 25, 26, 27, 28, 29, 30, 31, 32, 33, 34, 35, 36, 37, 38, 39, 40, 41, 42, 43, 44, 45, 46, 47, 48, 49, 50, 51, 52, 53, 54, 55, 56] (by decide +kernel) (by decide +kernel)
set_option maxRecDepth 20000 in
theorem gX2_isSoundWay_X1_wholeMonths : GoodIn wsX2_isSoundWay (va_wsS RX2 152 yX1_wholeMonths wsX1_wholeMonths) := goodIn_app (goodIn_of _ (by decide +kernel)) ggX2_isSoundWay_X1_wholeMonths
set_option maxRecDepth 20000 in
theorem ggX2_isSoundWay_X1_plusMonths : GoodIn wsX2_isSoundWay wsX1_plusMonths := goodIn_r _ [59, 13, 14, 4, 15, 16, 17, 18, 19, 20, 21, 22, 23, 24, 25, 26, 27, 28, 29, 30, 31, 32, 33, 34, 35, 36, 37, 38, 39, 40, 41, 42, 43, 44, 45, 46, 47, 48, 49, 50, 51, 52, 53, 54, 55, 56, 60, 61, 62, 6, 7, 8, 9, 63, 64, 65] (by decide +kernel) (by decide +kernel)
set_option maxRecDepth 20000 in
theorem gX2_isSoundWay_X1_plusMonths : GoodIn wsX2_isSoundWay (va_wsS RX2 123 yX1_plusMonths wsX1_plusMonths) := goodIn_app (goodIn_of _ (by decide +kernel)) ggX2_isSoundWay_X1_plusMonths
theorem dX2_isSoundWay_0 : decode cX2_isSoundWay 0 = .ok (.lload_n 0, 1) := by decide +kernel
theorem dX2_isSoundWay_1 : decode cX2_isSoundWay 1 = .ok (.lload_n 2, 1) := by decide +kernel
theorem dX2_isSoundWay_2 : decode cX2_isSoundWay 2 = .ok (.invokestatic 152, 3) := by decide +kernel
theorem dX2_isSoundWay_5 : decode cX2_isSoundWay 5 = .ok (.lstore 4, 2) := by decide +kernel
theorem dX2_isSoundWay_7 : decode cX2_isSoundWay 7 = .ok (.lload_n 2, 1) := by decide +kernel
theorem dX2_isSoundWay_8 : decode cX2_isSoundWay 8 = .ok (.lload_n 0, 1) := by decide +kernel
theorem dX2_isSoundWay_9 : decode cX2_isSoundWay 9 = .ok (.lcmp, 1) := by decide +kernel
theorem dX2_isSoundWay_10 : decode cX2_isSoundWay 10 = .ok (.ifCond .ge 28, 3) := by decide +kernel
theorem dX2_isSoundWay_13 : decode cX2_isSoundWay 13 = .ok (.lload 4, 2) := by decide +kernel
theorem dX2_isSoundWay_15 : decode cX2_isSoundWay 15 = .ok (.lconst 0, 1) := by decide +kernel
theorem dX2_isSoundWay_16 : decode cX2_isSoundWay 16 = .ok (.lcmp, 1) := by decide +kernel
theorem dX2_isSoundWay_17 : decode cX2_isSoundWay 17 = .ok (.ifCond .gt 19, 3) := by decide +kernel
theorem dX2_isSoundWay_20 : decode cX2_isSoundWay 20 = .ok (.lload 4, 2) := by decide +kernel
theorem dX2_isSoundWay_22 : decode cX2_isSoundWay 22 = .ok (.lload_n 2, 1) := by decide +kernel
theorem dX2_isSoundWay_23 : decode cX2_isSoundWay 23 = .ok (.lload_n 0, 1) := by decide +kernel
theorem dX2_isSoundWay_24 : decode cX2_isSoundWay 24 = .ok (.invokestatic 152, 3) := by decide +kernel
theorem dX2_isSoundWay_27 : decode cX2_isSoundWay 27 = .ok (.lneg, 1) := by decide +kernel
theorem dX2_isSoundWay_28 : decode cX2_isSoundWay 28 = .ok (.lcmp, 1) := by decide +kernel
theorem dX2_isSoundWay_29 : decode cX2_isSoundWay 29 = .ok (.ifCond .ne 7, 3) := by decide +kernel
theorem dX2_isSoundWay_32 : decode cX2_isSoundWay 32 = .ok (.iconst 1, 1) := by decide +kernel
theorem dX2_isSoundWay_33 : decode cX2_isSoundWay 33 = .ok (.goto 4, 3) := by decide +kernel
theorem dX2_isSoundWay_36 : decode cX2_isSoundWay 36 = .ok (.iconst 0, 1) := by decide +kernel
theorem dX2_isSoundWay_37 : decode cX2_isSoundWay 37 = .ok (.ireturn, 1) := by decide +kernel
theorem dX2_isSoundWay_38 : decode cX2_isSoundWay 38 = .ok (.lload_n 0, 1) := by decide +kernel
theorem dX2_isSoundWay_39 : decode cX2_isSoundWay 39 = .ok (.lload 4, 2) := by decide +kernel
theorem dX2_isSoundWay_41 : decode cX2_isSoundWay 41 = .ok (.invokestatic 123, 3) := by decide +kernel
theorem dX2_isSoundWay_44 : decode cX2_isSoundWay 44 = .ok (.lstore 6, 2) := by decide +kernel
theorem dX2_isSoundWay_46 : decode cX2_isSoundWay 46 = .ok (.lload 4, 2) := by decide +kernel
theorem dX2_isSoundWay_48 : decode cX2_isSoundWay 48 = .ok (.lconst 0, 1) := by decide +kernel
theorem dX2_isSoundWay_49 : decode cX2_isSoundWay 49 = .ok (.lcmp, 1) := by decide +kernel
theorem dX2_isSoundWay_50 : decode cX2_isSoundWay 50 = .ok (.ifCond .lt 25, 3) := by decide +kernel
theorem dX2_isSoundWay_53 : decode cX2_isSoundWay 53 = .ok (.lload 6, 2) := by decide +kernel
theorem dX2_isSoundWay_55 : decode cX2_isSoundWay 55 = .ok (.lload_n 2, 1) := by decide +kernel
theorem dX2_isSoundWay_56 : decode cX2_isSoundWay 56 = .ok (.lcmp, 1) := by decide +kernel
theorem dX2_isSoundWay_57 : decode cX2_isSoundWay 57 = .ok (.ifCond .gt 18, 3) := by decide +kernel
theorem dX2_isSoundWay_60 : decode cX2_isSoundWay 60 = .ok (.lload_n 2, 1) := by decide +kernel
theorem dX2_isSoundWay_61 : decode cX2_isSoundWay 61 = .ok (.lload 6, 2) := by decide +kernel
theorem dX2_isSoundWay_63 : decode cX2_isSoundWay 63 = .ok (.lsub, 1) := by decide +kernel
theorem dX2_isSoundWay_64 : decode cX2_isSoundWay 64 = .ok (.ldc2_w 256, 3) := by decide +kernel
theorem dX2_isSoundWay_67 : decode cX2_isSoundWay 67 = .ok (.lcmp, 1) := by decide +kernel
theorem dX2_isSoundWay_68 : decode cX2_isSoundWay 68 = .ok (.ifCond .ge 7, 3) := by decide +kernel
theorem dX2_isSoundWay_71 : decode cX2_isSoundWay 71 = .ok (.iconst 1, 1) := by decide +kernel
theorem dX2_isSoundWay_72 : decode cX2_isSoundWay 72 = .ok (.goto 4, 3) := by decide +kernel
theorem dX2_isSoundWay_75 : decode cX2_isSoundWay 75 = .ok (.iconst 0, 1) := by decide +kernel
theorem dX2_isSoundWay_76 : decode cX2_isSoundWay 76 = .ok (.ireturn, 1) := by decide +kernel
set_option maxRecDepth 20000 in
theorem ggX2_isSoundTimeWay_J9_floorDiv_f86c9 : GoodIn wsX2_isSoundTimeWay wsJ9_floorDiv_f86c9 := goodIn_r _ [6] (by decide +kernel) (by decide +kernel)
set_option maxRecDepth 20000 in
theorem gX2_isSoundTimeWay_J9_floorDiv_f86c9 : GoodIn wsX2_isSoundTimeWay (va_wsS RX2 281 yJ9_floorDiv_f86c9 wsJ9_floorDiv_f86c9) := goodIn_app (goodIn_of _ (by decide +kernel)) ggX2_isSoundTimeWay_J9_floorDiv_f86c9
set_option maxRecDepth 20000 in
theorem ggX2_isSoundTimeWay_J9_floorMod_f86c9 : GoodIn wsX2_isSoundTimeWay wsJ9_floorMod_f86c9 := goodIn_r _ [9] (by decide +kernel) (by decide +kernel)
set_option maxRecDepth 20000 in
theorem gX2_isSoundTimeWay_J9_floorMod_f86c9 : GoodIn wsX2_isSoundTimeWay (va_wsS RX2 284 yJ9_floorMod_f86c9 wsJ9_floorMod_f86c9) := goodIn_app (goodIn_of _ (by decide +kernel)) ggX2_isSoundTimeWay_J9_floorMod_f86c9
set_option maxRecDepth 20000 in
theorem ggX2_isSoundTimeWay_X0_restOfDay : GoodIn wsX2_isSoundTimeWay wsX0_restOfDay := goodIn_r _ [13, 14, 15, 8, 5, 9] (by decide +kernel) (by decide +kernel)
set_option maxRecDepth 20000 in
theorem gX2_isSoundTimeWay_X0_restOfDay : GoodIn wsX2_isSoundTimeWay (va_wsS RX2 213 yX0_restOfDay wsX0_restOfDay) := goodIn_app (goodIn_of _ (by decide +kernel)) ggX2_isSoundTimeWay_X0_restOfDay
set_option maxRecDepth 20000 in
theorem ggX2_isSoundTimeWay_X0_roundDay : GoodIn wsX2_isSoundTimeWay wsX0_roundDay := goodIn_r _ [18, 14, 15, 8, 5, 9] (by decide +kernel) (by decide +kernel)
set_option maxRecDepth 20000 in
theorem gX2_isSoundTimeWay_X0_roundDay : GoodIn wsX2_isSoundTimeWay (va_wsS RX2 216 yX0_roundDay wsX0_roundDay) := goodIn_app (goodIn_of _ (by decide +kernel)) ggX2_isSoundTimeWay_X0_roundDay
theorem dX2_isSoundTimeWay_0 : decode cX2_isSoundTimeWay 0 = .ok (.lload_n 2, 1) := by decide +kernel
theorem dX2_isSoundTimeWay_1 : decode cX2_isSoundTimeWay 1 = .ok (.lload_n 0, 1) := by decide +kernel
theorem dX2_isSoundTimeWay_2 : decode cX2_isSoundTimeWay 2 = .ok (.lsub, 1) := by decide +kernel
theorem dX2_isSoundTimeWay_3 : decode cX2_isSoundTimeWay 3 = .ok (.ldc2_w 197, 3) := by decide +kernel
theorem dX2_isSoundTimeWay_6 : decode cX2_isSoundTimeWay 6 = .ok (.invokestatic 281, 3) := by decide +kernel
theorem dX2_isSoundTimeWay_9 : decode cX2_isSoundTimeWay 9 = .ok (.lstore 4, 2) := by decide +kernel
theorem dX2_isSoundTimeWay_11 : decode cX2_isSoundTimeWay 11 = .ok (.lload_n 2, 1) := by decide +kernel
theorem dX2_isSoundTimeWay_12 : decode cX2_isSoundTimeWay 12 = .ok (.lload_n 0, 1) := by decide +kernel
theorem dX2_isSoundTimeWay_13 : decode cX2_isSoundTimeWay 13 = .ok (.lsub, 1) := by decide +kernel
theorem dX2_isSoundTimeWay_14 : decode cX2_isSoundTimeWay 14 = .ok (.ldc2_w 197, 3) := by decide +kernel
theorem dX2_isSoundTimeWay_17 : decode cX2_isSoundTimeWay 17 = .ok (.invokestatic 284, 3) := by decide +kernel
theorem dX2_isSoundTimeWay_20 : decode cX2_isSoundTimeWay 20 = .ok (.lstore 6, 2) := by decide +kernel
theorem dX2_isSoundTimeWay_22 : decode cX2_isSoundTimeWay 22 = .ok (.lload_n 0, 1) := by decide +kernel
theorem dX2_isSoundTimeWay_23 : decode cX2_isSoundTimeWay 23 = .ok (.lload 4, 2) := by decide +kernel
theorem dX2_isSoundTimeWay_25 : decode cX2_isSoundTimeWay 25 = .ok (.ldc2_w 221, 3) := by decide +kernel
theorem dX2_isSoundTimeWay_28 : decode cX2_isSoundTimeWay 28 = .ok (.invokestatic 213, 3) := by decide +kernel
theorem dX2_isSoundTimeWay_31 : decode cX2_isSoundTimeWay 31 = .ok (.ladd, 1) := by decide +kernel
theorem dX2_isSoundTimeWay_32 : decode cX2_isSoundTimeWay 32 = .ok (.lload 6, 2) := by decide +kernel
theorem dX2_isSoundTimeWay_34 : decode cX2_isSoundTimeWay 34 = .ok (.ladd, 1) := by decide +kernel
theorem dX2_isSoundTimeWay_35 : decode cX2_isSoundTimeWay 35 = .ok (.invokestatic 216, 3) := by decide +kernel
theorem dX2_isSoundTimeWay_38 : decode cX2_isSoundTimeWay 38 = .ok (.lload_n 2, 1) := by decide +kernel
theorem dX2_isSoundTimeWay_39 : decode cX2_isSoundTimeWay 39 = .ok (.lcmp, 1) := by decide +kernel
theorem dX2_isSoundTimeWay_40 : decode cX2_isSoundTimeWay 40 = .ok (.ifCond .ne 7, 3) := by decide +kernel
theorem dX2_isSoundTimeWay_43 : decode cX2_isSoundTimeWay 43 = .ok (.iconst 1, 1) := by decide +kernel
theorem dX2_isSoundTimeWay_44 : decode cX2_isSoundTimeWay 44 = .ok (.goto 4, 3) := by decide +kernel
theorem dX2_isSoundTimeWay_47 : decode cX2_isSoundTimeWay 47 = .ok (.iconst 0, 1) := by decide +kernel
theorem dX2_isSoundTimeWay_48 : decode cX2_isSoundTimeWay 48 = .ok (.ireturn, 1) := by decide +kernel
set_option maxRecDepth 20000 in
theorem ggX2_isSoundMomentWay_J9_floorDiv_f86c9 : GoodIn wsX2_isSoundMomentWay wsJ9_floorDiv_f86c9 := goodIn_r _ [9] (by decide +kernel) (by decide +kernel)
set_option maxRecDepth 20000 in
theorem gX2_isSoundMomentWay_J9_floorDiv_f86c9 : GoodIn wsX2_isSoundMomentWay (va_wsS RX2 281 yJ9_floorDiv_f86c9 wsJ9_floorDiv_f86c9) := goodIn_app (goodIn_of _ (by decide +kernel)) ggX2_isSoundMomentWay_J9_floorDiv_f86c9
set_option maxRecDepth 20000 in
theorem ggX2_isSoundMomentWay_X0_daysOf : GoodIn wsX2_isSoundMomentWay wsX0_daysOf := goodIn_r _ [13, 14, 7, 8, 9] (by decide +kernel) (by decide +kernel)
set_option maxRecDepth 20000 in
theorem gX2_isSoundMomentWay_X0_daysOf : GoodIn wsX2_isSoundMomentWay (va_wsS RX2 240 yX0_daysOf wsX0_daysOf) := goodIn_app (goodIn_of _ (by decide +kernel)) ggX2_isSoundMomentWay_X0_daysOf
set_option maxRecDepth 20000 in
theorem ggX2_isSoundMomentWay_X0_restOfDay : GoodIn wsX2_isSoundMomentWay wsX0_restOfDay := goodIn_r _ [17, 18, 19, 20, 8, 21] (by decide +kernel) (by decide +kernel)
set_option maxRecDepth 20000 in
theorem gX2_isSoundMomentWay_X0_restOfDay : GoodIn wsX2_isSoundMomentWay (va_wsS RX2 213 yX0_restOfDay wsX0_restOfDay) := goodIn_app (goodIn_of _ (by decide +kernel)) ggX2_isSoundMomentWay_X0_restOfDay
set_option maxRecDepth 20000 in
theorem ggX2_isSoundMomentWay_J9_floorMod_f86c9 : GoodIn wsX2_isSoundMomentWay wsJ9_floorMod_f86c9 := goodIn_r _ [21] (by decide +kernel) (by decide +kernel)
set_option maxRecDepth 20000 in
theorem gX2_isSoundMomentWay_J9_floorMod_f86c9 : GoodIn wsX2_isSoundMomentWay (va_wsS RX2 284 yJ9_floorMod_f86c9 wsJ9_floorMod_f86c9) := goodIn_app (goodIn_of _ (by decide +kernel)) ggX2_isSoundMomentWay_J9_floorMod_f86c9
set_option maxRecDepth 20000 in
theorem ggX2_isSoundMomentWay_X0_roundDay : GoodIn wsX2_isSoundMomentWay wsX0_roundDay := goodIn_r _ [25, 18, 19, 20, 8, 21] (by decide +kernel) (by decide +kernel)
set_option maxRecDepth 20000 in
theorem gX2_isSoundMomentWay_X0_roundDay : GoodIn wsX2_isSoundMomentWay (va_wsS RX2 216 yX0_roundDay wsX0_roundDay) := goodIn_app (goodIn_of _ (by decide +kernel)) ggX2_isSoundMomentWay_X0_roundDay
theorem dX2_isSoundMomentWay_0 : decode cX2_isSoundMomentWay 0 = .ok (.aload_n 0, 1) := by decide +kernel
theorem dX2_isSoundMomentWay_1 : decode cX2_isSoundMomentWay 1 = .ok (.getfield 35, 3) := by decide +kernel
theorem dX2_isSoundMomentWay_4 : decode cX2_isSoundMomentWay 4 = .ok (.iload_n 2, 1) := by decide +kernel
theorem dX2_isSoundMomentWay_5 : decode cX2_isSoundMomentWay 5 = .ok (.laload, 1) := by decide +kernel
theorem dX2_isSoundMomentWay_6 : decode cX2_isSoundMomentWay 6 = .ok (.aload_n 0, 1) := by decide +kernel
theorem dX2_isSoundMomentWay_7 : decode cX2_isSoundMomentWay 7 = .ok (.getfield 35, 3) := by decide +kernel
theorem dX2_isSoundMomentWay_10 : decode cX2_isSoundMomentWay 10 = .ok (.iload_n 1, 1) := by decide +kernel
theorem dX2_isSoundMomentWay_11 : decode cX2_isSoundMomentWay 11 = .ok (.laload, 1) := by decide +kernel
theorem dX2_isSoundMomentWay_12 : decode cX2_isSoundMomentWay 12 = .ok (.lsub, 1) := by decide +kernel
theorem dX2_isSoundMomentWay_13 : decode cX2_isSoundMomentWay 13 = .ok (.lstore_n 3, 1) := by decide +kernel
theorem dX2_isSoundMomentWay_14 : decode cX2_isSoundMomentWay 14 = .ok (.aload_n 0, 1) := by decide +kernel
theorem dX2_isSoundMomentWay_15 : decode cX2_isSoundMomentWay 15 = .ok (.getfield 38, 3) := by decide +kernel
theorem dX2_isSoundMomentWay_18 : decode cX2_isSoundMomentWay 18 = .ok (.iload_n 2, 1) := by decide +kernel
theorem dX2_isSoundMomentWay_19 : decode cX2_isSoundMomentWay 19 = .ok (.laload, 1) := by decide +kernel
theorem dX2_isSoundMomentWay_20 : decode cX2_isSoundMomentWay 20 = .ok (.aload_n 0, 1) := by decide +kernel
theorem dX2_isSoundMomentWay_21 : decode cX2_isSoundMomentWay 21 = .ok (.getfield 38, 3) := by decide +kernel
theorem dX2_isSoundMomentWay_24 : decode cX2_isSoundMomentWay 24 = .ok (.iload_n 1, 1) := by decide +kernel
theorem dX2_isSoundMomentWay_25 : decode cX2_isSoundMomentWay 25 = .ok (.laload, 1) := by decide +kernel
theorem dX2_isSoundMomentWay_26 : decode cX2_isSoundMomentWay 26 = .ok (.lsub, 1) := by decide +kernel
theorem dX2_isSoundMomentWay_27 : decode cX2_isSoundMomentWay 27 = .ok (.lstore 5, 2) := by decide +kernel
theorem dX2_isSoundMomentWay_29 : decode cX2_isSoundMomentWay 29 = .ok (.lload_n 3, 1) := by decide +kernel
theorem dX2_isSoundMomentWay_30 : decode cX2_isSoundMomentWay 30 = .ok (.ldc2_w 221, 3) := by decide +kernel
theorem dX2_isSoundMomentWay_33 : decode cX2_isSoundMomentWay 33 = .ok (.lmul, 1) := by decide +kernel
theorem dX2_isSoundMomentWay_34 : decode cX2_isSoundMomentWay 34 = .ok (.lload 5, 2) := by decide +kernel
theorem dX2_isSoundMomentWay_36 : decode cX2_isSoundMomentWay 36 = .ok (.ldc2_w 197, 3) := by decide +kernel
theorem dX2_isSoundMomentWay_39 : decode cX2_isSoundMomentWay 39 = .ok (.invokestatic 281, 3) := by decide +kernel
theorem dX2_isSoundMomentWay_42 : decode cX2_isSoundMomentWay 42 = .ok (.ladd, 1) := by decide +kernel
theorem dX2_isSoundMomentWay_43 : decode cX2_isSoundMomentWay 43 = .ok (.lstore 7, 2) := by decide +kernel
theorem dX2_isSoundMomentWay_45 : decode cX2_isSoundMomentWay 45 = .ok (.aload_n 0, 1) := by decide +kernel
theorem dX2_isSoundMomentWay_46 : decode cX2_isSoundMomentWay 46 = .ok (.getfield 35, 3) := by decide +kernel
theorem dX2_isSoundMomentWay_49 : decode cX2_isSoundMomentWay 49 = .ok (.iload_n 1, 1) := by decide +kernel
theorem dX2_isSoundMomentWay_50 : decode cX2_isSoundMomentWay 50 = .ok (.laload, 1) := by decide +kernel
theorem dX2_isSoundMomentWay_51 : decode cX2_isSoundMomentWay 51 = .ok (.lload 7, 2) := by decide +kernel
theorem dX2_isSoundMomentWay_53 : decode cX2_isSoundMomentWay 53 = .ok (.ldc2_w 221, 3) := by decide +kernel
theorem dX2_isSoundMomentWay_56 : decode cX2_isSoundMomentWay 56 = .ok (.invokestatic 240, 3) := by decide +kernel
theorem dX2_isSoundMomentWay_59 : decode cX2_isSoundMomentWay 59 = .ok (.ladd, 1) := by decide +kernel
theorem dX2_isSoundMomentWay_60 : decode cX2_isSoundMomentWay 60 = .ok (.lstore 9, 2) := by decide +kernel
theorem dX2_isSoundMomentWay_62 : decode cX2_isSoundMomentWay 62 = .ok (.aload_n 0, 1) := by decide +kernel
theorem dX2_isSoundMomentWay_63 : decode cX2_isSoundMomentWay 63 = .ok (.getfield 38, 3) := by decide +kernel
theorem dX2_isSoundMomentWay_66 : decode cX2_isSoundMomentWay 66 = .ok (.iload_n 1, 1) := by decide +kernel
theorem dX2_isSoundMomentWay_67 : decode cX2_isSoundMomentWay 67 = .ok (.laload, 1) := by decide +kernel
theorem dX2_isSoundMomentWay_68 : decode cX2_isSoundMomentWay 68 = .ok (.lload 7, 2) := by decide +kernel
theorem dX2_isSoundMomentWay_70 : decode cX2_isSoundMomentWay 70 = .ok (.ldc2_w 221, 3) := by decide +kernel
theorem dX2_isSoundMomentWay_73 : decode cX2_isSoundMomentWay 73 = .ok (.invokestatic 213, 3) := by decide +kernel
theorem dX2_isSoundMomentWay_76 : decode cX2_isSoundMomentWay 76 = .ok (.ladd, 1) := by decide +kernel
theorem dX2_isSoundMomentWay_77 : decode cX2_isSoundMomentWay 77 = .ok (.lload 5, 2) := by decide +kernel
theorem dX2_isSoundMomentWay_79 : decode cX2_isSoundMomentWay 79 = .ok (.ldc2_w 197, 3) := by decide +kernel
theorem dX2_isSoundMomentWay_82 : decode cX2_isSoundMomentWay 82 = .ok (.invokestatic 284, 3) := by decide +kernel
theorem dX2_isSoundMomentWay_85 : decode cX2_isSoundMomentWay 85 = .ok (.ladd, 1) := by decide +kernel
theorem dX2_isSoundMomentWay_86 : decode cX2_isSoundMomentWay 86 = .ok (.lstore 11, 2) := by decide +kernel
theorem dX2_isSoundMomentWay_88 : decode cX2_isSoundMomentWay 88 = .ok (.lload 9, 2) := by decide +kernel
theorem dX2_isSoundMomentWay_90 : decode cX2_isSoundMomentWay 90 = .ok (.lload 11, 2) := by decide +kernel
theorem dX2_isSoundMomentWay_92 : decode cX2_isSoundMomentWay 92 = .ok (.ldc2_w 287, 3) := by decide +kernel
theorem dX2_isSoundMomentWay_95 : decode cX2_isSoundMomentWay 95 = .ok (.invokestatic 281, 3) := by decide +kernel
theorem dX2_isSoundMomentWay_98 : decode cX2_isSoundMomentWay 98 = .ok (.ladd, 1) := by decide +kernel
theorem dX2_isSoundMomentWay_99 : decode cX2_isSoundMomentWay 99 = .ok (.aload_n 0, 1) := by decide +kernel
theorem dX2_isSoundMomentWay_100 : decode cX2_isSoundMomentWay 100 = .ok (.getfield 35, 3) := by decide +kernel
theorem dX2_isSoundMomentWay_103 : decode cX2_isSoundMomentWay 103 = .ok (.iload_n 2, 1) := by decide +kernel
theorem dX2_isSoundMomentWay_104 : decode cX2_isSoundMomentWay 104 = .ok (.laload, 1) := by decide +kernel
theorem dX2_isSoundMomentWay_105 : decode cX2_isSoundMomentWay 105 = .ok (.lcmp, 1) := by decide +kernel
theorem dX2_isSoundMomentWay_106 : decode cX2_isSoundMomentWay 106 = .ok (.ifCond .ne 22, 3) := by decide +kernel
theorem dX2_isSoundMomentWay_109 : decode cX2_isSoundMomentWay 109 = .ok (.lload 11, 2) := by decide +kernel
theorem dX2_isSoundMomentWay_111 : decode cX2_isSoundMomentWay 111 = .ok (.invokestatic 216, 3) := by decide +kernel
theorem dX2_isSoundMomentWay_114 : decode cX2_isSoundMomentWay 114 = .ok (.aload_n 0, 1) := by decide +kernel
theorem dX2_isSoundMomentWay_115 : decode cX2_isSoundMomentWay 115 = .ok (.getfield 38, 3) := by decide +kernel
theorem dX2_isSoundMomentWay_118 : decode cX2_isSoundMomentWay 118 = .ok (.iload_n 2, 1) := by decide +kernel
theorem dX2_isSoundMomentWay_119 : decode cX2_isSoundMomentWay 119 = .ok (.laload, 1) := by decide +kernel
theorem dX2_isSoundMomentWay_120 : decode cX2_isSoundMomentWay 120 = .ok (.lcmp, 1) := by decide +kernel
theorem dX2_isSoundMomentWay_121 : decode cX2_isSoundMomentWay 121 = .ok (.ifCond .ne 7, 3) := by decide +kernel
theorem dX2_isSoundMomentWay_124 : decode cX2_isSoundMomentWay 124 = .ok (.iconst 1, 1) := by decide +kernel
theorem dX2_isSoundMomentWay_125 : decode cX2_isSoundMomentWay 125 = .ok (.goto 4, 3) := by decide +kernel
theorem dX2_isSoundMomentWay_128 : decode cX2_isSoundMomentWay 128 = .ok (.iconst 0, 1) := by decide +kernel
theorem dX2_isSoundMomentWay_129 : decode cX2_isSoundMomentWay 129 = .ok (.ireturn, 1) := by decide +kernel
theorem dX2_checkSlot_0 : decode cX2_checkSlot 0 = .ok (.iload_n 0, 1) := by decide +kernel
theorem dX2_checkSlot_1 : decode cX2_checkSlot 1 = .ok (.ifCond .lt 8, 3) := by decide +kernel
theorem dX2_checkSlot_4 : decode cX2_checkSlot 4 = .ok (.iload_n 0, 1) := by decide +kernel
theorem dX2_checkSlot_5 : decode cX2_checkSlot 5 = .ok (.iload_n 1, 1) := by decide +kernel
theorem dX2_checkSlot_6 : decode cX2_checkSlot 6 = .ok (.if_icmp .lt 14, 3) := by decide +kernel
theorem dX2_checkSlot_9 : decode cX2_checkSlot 9 = .ok (.new 289, 3) := by decide +kernel
theorem dX2_checkSlot_12 : decode cX2_checkSlot 12 = .ok (.dup, 1) := by decide +kernel
theorem dX2_checkSlot_13 : decode cX2_checkSlot 13 = .ok (.ldc_w 291, 3) := by decide +kernel
theorem dX2_checkSlot_16 : decode cX2_checkSlot 16 = .ok (.invokespecial 293, 3) := by decide +kernel
theorem dX2_checkSlot_19 : decode cX2_checkSlot 19 = .ok (.athrow, 1) := by decide +kernel
theorem dX2_checkSlot_20 : decode cX2_checkSlot 20 = .ok (.return_, 1) := by decide +kernel
theorem dX2_checkArgument_0 : decode cX2_checkArgument 0 = .ok (.iload_n 0, 1) := by decide +kernel
theorem dX2_checkArgument_1 : decode cX2_checkArgument 1 = .ok (.ifCond .ne 14, 3) := by decide +kernel
theorem dX2_checkArgument_4 : decode cX2_checkArgument 4 = .ok (.new 101, 3) := by decide +kernel
theorem dX2_checkArgument_7 : decode cX2_checkArgument 7 = .ok (.dup, 1) := by decide +kernel
theorem dX2_checkArgument_8 : decode cX2_checkArgument 8 = .ok (.ldc_w 294, 3) := by decide +kernel
theorem dX2_checkArgument_11 : decode cX2_checkArgument 11 = .ok (.invokespecial 105, 3) := by decide +kernel
theorem dX2_checkArgument_14 : decode cX2_checkArgument 14 = .ok (.athrow, 1) := by decide +kernel
theorem dX2_checkArgument_15 : decode cX2_checkArgument 15 = .ok (.return_, 1) := by decide +kernel
theorem dX2_checkOutcome_0 : decode cX2_checkOutcome 0 = .ok (.iload_n 0, 1) := by decide +kernel
theorem dX2_checkOutcome_1 : decode cX2_checkOutcome 1 = .ok (.ifCond .ne 14, 3) := by decide +kernel
theorem dX2_checkOutcome_4 : decode cX2_checkOutcome 4 = .ok (.new 296, 3) := by decide +kernel
theorem dX2_checkOutcome_7 : decode cX2_checkOutcome 7 = .ok (.dup, 1) := by decide +kernel
theorem dX2_checkOutcome_8 : decode cX2_checkOutcome 8 = .ok (.ldc_w 298, 3) := by decide +kernel
theorem dX2_checkOutcome_11 : decode cX2_checkOutcome 11 = .ok (.invokespecial 300, 3) := by decide +kernel
theorem dX2_checkOutcome_14 : decode cX2_checkOutcome 14 = .ok (.athrow, 1) := by decide +kernel
theorem dX2_checkOutcome_15 : decode cX2_checkOutcome 15 = .ok (.return_, 1) := by decide +kernel
theorem dX2_isIn_0 : decode cX2_isIn 0 = .ok (.lload_n 2, 1) := by decide +kernel
theorem dX2_isIn_1 : decode cX2_isIn 1 = .ok (.lload_n 0, 1) := by decide +kernel
theorem dX2_isIn_2 : decode cX2_isIn 2 = .ok (.lcmp, 1) := by decide +kernel
theorem dX2_isIn_3 : decode cX2_isIn 3 = .ok (.ifCond .gt 14, 3) := by decide +kernel
theorem dX2_isIn_6 : decode cX2_isIn 6 = .ok (.lload_n 0, 1) := by decide +kernel
theorem dX2_isIn_7 : decode cX2_isIn 7 = .ok (.lload 4, 2) := by decide +kernel
theorem dX2_isIn_9 : decode cX2_isIn 9 = .ok (.lcmp, 1) := by decide +kernel
theorem dX2_isIn_10 : decode cX2_isIn 10 = .ok (.ifCond .gt 7, 3) := by decide +kernel
theorem dX2_isIn_13 : decode cX2_isIn 13 = .ok (.iconst 1, 1) := by decide +kernel
theorem dX2_isIn_14 : decode cX2_isIn 14 = .ok (.goto 4, 3) := by decide +kernel
theorem dX2_isIn_17 : decode cX2_isIn 17 = .ok (.iconst 0, 1) := by decide +kernel
theorem dX2_isIn_18 : decode cX2_isIn 18 = .ok (.ireturn, 1) := by decide +kernel
set_option maxRecDepth 20000 in
theorem ggX2_isYear_X2_isIn : GoodIn wsX2_isYear wsX2_isIn := goodIn_r _ [6] (by decide +kernel) (by decide +kernel)
set_option maxRecDepth 20000 in
theorem gX2_isYear_X2_isIn : GoodIn wsX2_isYear (va_wsS RX2 55 yX2_isIn wsX2_isIn) := goodIn_app (goodIn_of _ (by decide +kernel)) ggX2_isYear_X2_isIn
theorem dX2_isYear_0 : decode cX2_isYear 0 = .ok (.lload_n 0, 1) := by decide +kernel
theorem dX2_isYear_1 : decode cX2_isYear 1 = .ok (.ldc2_w 301, 3) := by decide +kernel
theorem dX2_isYear_4 : decode cX2_isYear 4 = .ok (.ldc2_w 303, 3) := by decide +kernel
theorem dX2_isYear_7 : decode cX2_isYear 7 = .ok (.invokestatic 55, 3) := by decide +kernel
theorem dX2_isYear_10 : decode cX2_isYear 10 = .ok (.ireturn, 1) := by decide +kernel
set_option maxRecDepth 20000 in
theorem ggX2_isSpan_X2_isIn : GoodIn wsX2_isSpan wsX2_isIn := goodIn_r _ [6] (by decide +kernel) (by decide +kernel)
set_option maxRecDepth 20000 in
theorem gX2_isSpan_X2_isIn : GoodIn wsX2_isSpan (va_wsS RX2 55 yX2_isIn wsX2_isIn) := goodIn_app (goodIn_of _ (by decide +kernel)) ggX2_isSpan_X2_isIn
theorem dX2_isSpan_0 : decode cX2_isSpan 0 = .ok (.lload_n 0, 1) := by decide +kernel
theorem dX2_isSpan_1 : decode cX2_isSpan 1 = .ok (.ldc2_w 112, 3) := by decide +kernel
theorem dX2_isSpan_4 : decode cX2_isSpan 4 = .ok (.ldc2_w 114, 3) := by decide +kernel
theorem dX2_isSpan_7 : decode cX2_isSpan 7 = .ok (.invokestatic 55, 3) := by decide +kernel
theorem dX2_isSpan_10 : decode cX2_isSpan 10 = .ok (.ifCond .eq 34, 3) := by decide +kernel
theorem dX2_isSpan_13 : decode cX2_isSpan 13 = .ok (.lload_n 2, 1) := by decide +kernel
theorem dX2_isSpan_14 : decode cX2_isSpan 14 = .ok (.ldc2_w 112, 3) := by decide +kernel
theorem dX2_isSpan_17 : decode cX2_isSpan 17 = .ok (.ldc2_w 114, 3) := by decide +kernel
theorem dX2_isSpan_20 : decode cX2_isSpan 20 = .ok (.invokestatic 55, 3) := by decide +kernel
theorem dX2_isSpan_23 : decode cX2_isSpan 23 = .ok (.ifCond .eq 21, 3) := by decide +kernel
theorem dX2_isSpan_26 : decode cX2_isSpan 26 = .ok (.lload 4, 2) := by decide +kernel
theorem dX2_isSpan_28 : decode cX2_isSpan 28 = .ok (.ldc2_w 112, 3) := by decide +kernel
theorem dX2_isSpan_31 : decode cX2_isSpan 31 = .ok (.ldc2_w 114, 3) := by decide +kernel
theorem dX2_isSpan_34 : decode cX2_isSpan 34 = .ok (.invokestatic 55, 3) := by decide +kernel
theorem dX2_isSpan_37 : decode cX2_isSpan 37 = .ok (.ifCond .eq 7, 3) := by decide +kernel
theorem dX2_isSpan_40 : decode cX2_isSpan 40 = .ok (.iconst 1, 1) := by decide +kernel
theorem dX2_isSpan_41 : decode cX2_isSpan 41 = .ok (.goto 4, 3) := by decide +kernel
theorem dX2_isSpan_44 : decode cX2_isSpan 44 = .ok (.iconst 0, 1) := by decide +kernel
theorem dX2_isSpan_45 : decode cX2_isSpan 45 = .ok (.ireturn, 1) := by decide +kernel
theorem dX2_sign_0 : decode cX2_sign 0 = .ok (.lload_n 0, 1) := by decide +kernel
theorem dX2_sign_1 : decode cX2_sign 1 = .ok (.lload_n 2, 1) := by decide +kernel
theorem dX2_sign_2 : decode cX2_sign 2 = .ok (.lcmp, 1) := by decide +kernel
theorem dX2_sign_3 : decode cX2_sign 3 = .ok (.ifCond .ge 7, 3) := by decide +kernel
theorem dX2_sign_6 : decode cX2_sign 6 = .ok (.iconst (-1), 1) := by decide +kernel
theorem dX2_sign_7 : decode cX2_sign 7 = .ok (.goto 14, 3) := by decide +kernel
theorem dX2_sign_10 : decode cX2_sign 10 = .ok (.lload_n 0, 1) := by decide +kernel
theorem dX2_sign_11 : decode cX2_sign 11 = .ok (.lload_n 2, 1) := by decide +kernel
theorem dX2_sign_12 : decode cX2_sign 12 = .ok (.lcmp, 1) := by decide +kernel
theorem dX2_sign_13 : decode cX2_sign 13 = .ok (.ifCond .ne 7, 3) := by decide +kernel
theorem dX2_sign_16 : decode cX2_sign 16 = .ok (.iconst 0, 1) := by decide +kernel
theorem dX2_sign_17 : decode cX2_sign 17 = .ok (.goto 4, 3) := by decide +kernel
theorem dX2_sign_20 : decode cX2_sign 20 = .ok (.iconst 1, 1) := by decide +kernel
theorem dX2_sign_21 : decode cX2_sign 21 = .ok (.ireturn, 1) := by decide +kernel
theorem dX2_allMonths_0 : decode cX2_allMonths 0 = .ok (.ldc2_w 53, 3) := by decide +kernel
theorem dX2_allMonths_3 : decode cX2_allMonths 3 = .ok (.aload_n 0, 1) := by decide +kernel
theorem dX2_allMonths_4 : decode cX2_allMonths 4 = .ok (.getfield 13, 3) := by decide +kernel
theorem dX2_allMonths_7 : decode cX2_allMonths 7 = .ok (.iload_n 1, 1) := by decide +kernel
theorem dX2_allMonths_8 : decode cX2_allMonths 8 = .ok (.iaload, 1) := by decide +kernel
theorem dX2_allMonths_9 : decode cX2_allMonths 9 = .ok (.i2l, 1) := by decide +kernel
theorem dX2_allMonths_10 : decode cX2_allMonths 10 = .ok (.lmul, 1) := by decide +kernel
theorem dX2_allMonths_11 : decode cX2_allMonths 11 = .ok (.aload_n 0, 1) := by decide +kernel
theorem dX2_allMonths_12 : decode cX2_allMonths 12 = .ok (.getfield 17, 3) := by decide +kernel
theorem dX2_allMonths_15 : decode cX2_allMonths 15 = .ok (.iload_n 1, 1) := by decide +kernel
theorem dX2_allMonths_16 : decode cX2_allMonths 16 = .ok (.iaload, 1) := by decide +kernel
theorem dX2_allMonths_17 : decode cX2_allMonths 17 = .ok (.i2l, 1) := by decide +kernel
theorem dX2_allMonths_18 : decode cX2_allMonths 18 = .ok (.ladd, 1) := by decide +kernel
theorem dX2_allMonths_19 : decode cX2_allMonths 19 = .ok (.lreturn, 1) := by decide +kernel
set_option maxRecDepth 20000 in
theorem ggX2_keepDate_X1_isDay : GoodIn wsX2_keepDate wsX1_isDay := goodIn_r _ [5, 6, 7] (by decide +kernel) (by decide +kernel)
set_option maxRecDepth 20000 in
theorem gX2_keepDate_X1_isDay : GoodIn wsX2_keepDate (va_wsS RX2 272 yX1_isDay wsX1_isDay) := goodIn_app (goodIn_of _ (by decide +kernel)) ggX2_keepDate_X1_isDay
set_option maxRecDepth 20000 in
theorem ggX2_keepDate_X2_checkOutcome : GoodIn wsX2_keepDate wsX2_checkOutcome := goodIn_ca (goodIn_r _ [11, 12, 13] (by decide +kernel) (by decide +kernel)) (goodIn_sub (fun _ h => List.mem_cons_of_mem _ (List.mem_append_right _ h)) (by decide +kernel))
set_option maxRecDepth 20000 in
theorem gX2_keepDate_X2_checkOutcome : GoodIn wsX2_keepDate (va_wsS RX2 164 yX2_checkOutcome wsX2_checkOutcome) := goodIn_app (goodIn_of _ (by decide +kernel)) ggX2_keepDate_X2_checkOutcome
theorem dX2_keepDate_0 : decode cX2_keepDate 0 = .ok (.lload_n 2, 1) := by decide +kernel
theorem dX2_keepDate_1 : decode cX2_keepDate 1 = .ok (.invokestatic 272, 3) := by decide +kernel
theorem dX2_keepDate_4 : decode cX2_keepDate 4 = .ok (.invokestatic 164, 3) := by decide +kernel
theorem dX2_keepDate_7 : decode cX2_keepDate 7 = .ok (.aload_n 0, 1) := by decide +kernel
theorem dX2_keepDate_8 : decode cX2_keepDate 8 = .ok (.getfield 9, 3) := by decide +kernel
theorem dX2_keepDate_11 : decode cX2_keepDate 11 = .ok (.iload_n 1, 1) := by decide +kernel
theorem dX2_keepDate_12 : decode cX2_keepDate 12 = .ok (.lload_n 2, 1) := by decide +kernel
theorem dX2_keepDate_13 : decode cX2_keepDate 13 = .ok (.lastore, 1) := by decide +kernel
theorem dX2_keepDate_14 : decode cX2_keepDate 14 = .ok (.lload_n 2, 1) := by decide +kernel
theorem dX2_keepDate_15 : decode cX2_keepDate 15 = .ok (.lreturn, 1) := by decide +kernel
set_option maxRecDepth 20000 in
theorem ggX2_keepSpan_X2_isSpan : GoodIn wsX2_keepSpan wsX2_isSpan := goodIn_r _ [7, 8, 9, 10, 11, 6, 12] (by decide +kernel) (by decide +kernel)
set_option maxRecDepth 20000 in
theorem gX2_keepSpan_X2_isSpan : GoodIn wsX2_keepSpan (va_wsS RX2 157 yX2_isSpan wsX2_isSpan) := goodIn_app (goodIn_of _ (by decide +kernel)) ggX2_keepSpan_X2_isSpan
set_option maxRecDepth 20000 in
theorem ggX2_keepSpan_X2_checkOutcome : GoodIn wsX2_keepSpan wsX2_checkOutcome := goodIn_ca (goodIn_r _ [15, 16, 17] (by decide +kernel) (by decide +kernel)) (goodIn_sub (fun _ h => List.mem_cons_of_mem _ (List.mem_append_right _ h)) (by decide +kernel))
set_option maxRecDepth 20000 in
theorem gX2_keepSpan_X2_checkOutcome : GoodIn wsX2_keepSpan (va_wsS RX2 164 yX2_checkOutcome wsX2_checkOutcome) := goodIn_app (goodIn_of _ (by decide +kernel)) ggX2_keepSpan_X2_checkOutcome
set_option maxRecDepth 20000 in
theorem ggX2_keepSpan_X2_allMonths : GoodIn wsX2_keepSpan wsX2_allMonths := goodIn_ca (goodIn_r _ [21, 22, 1, 2, 23, 24, 25, 26, 27, 28, 29, 30, 31, 32] (by decide +kernel) (by decide +kernel)) (goodIn_sub (fun _ h => List.mem_cons_of_mem _ (List.mem_append_left _ (List.mem_append_right _ h))) (by decide +kernel))
set_option maxRecDepth 20000 in
theorem gX2_keepSpan_X2_allMonths : GoodIn wsX2_keepSpan (wsV RX2 167 RX2 yX2_allMonths wsX2_allMonths) := goodIn_app (goodIn_of _ (by decide +kernel)) ggX2_keepSpan_X2_allMonths
theorem dX2_keepSpan_0 : decode cX2_keepSpan 0 = .ok (.lload_n 2, 1) := by decide +kernel
theorem dX2_keepSpan_1 : decode cX2_keepSpan 1 = .ok (.lload 4, 2) := by decide +kernel
theorem dX2_keepSpan_3 : decode cX2_keepSpan 3 = .ok (.lload 6, 2) := by decide +kernel
theorem dX2_keepSpan_5 : decode cX2_keepSpan 5 = .ok (.invokestatic 157, 3) := by decide +kernel
theorem dX2_keepSpan_8 : decode cX2_keepSpan 8 = .ok (.invokestatic 164, 3) := by decide +kernel
theorem dX2_keepSpan_11 : decode cX2_keepSpan 11 = .ok (.aload_n 0, 1) := by decide +kernel
theorem dX2_keepSpan_12 : decode cX2_keepSpan 12 = .ok (.getfield 13, 3) := by decide +kernel
theorem dX2_keepSpan_15 : decode cX2_keepSpan 15 = .ok (.iload_n 1, 1) := by decide +kernel
theorem dX2_keepSpan_16 : decode cX2_keepSpan 16 = .ok (.lload_n 2, 1) := by decide +kernel
theorem dX2_keepSpan_17 : decode cX2_keepSpan 17 = .ok (.l2i, 1) := by decide +kernel
theorem dX2_keepSpan_18 : decode cX2_keepSpan 18 = .ok (.iastore, 1) := by decide +kernel
theorem dX2_keepSpan_19 : decode cX2_keepSpan 19 = .ok (.aload_n 0, 1) := by decide +kernel
theorem dX2_keepSpan_20 : decode cX2_keepSpan 20 = .ok (.getfield 17, 3) := by decide +kernel
theorem dX2_keepSpan_23 : decode cX2_keepSpan 23 = .ok (.iload_n 1, 1) := by decide +kernel
theorem dX2_keepSpan_24 : decode cX2_keepSpan 24 = .ok (.lload 4, 2) := by decide +kernel
theorem dX2_keepSpan_26 : decode cX2_keepSpan 26 = .ok (.l2i, 1) := by decide +kernel
theorem dX2_keepSpan_27 : decode cX2_keepSpan 27 = .ok (.iastore, 1) := by decide +kernel
theorem dX2_keepSpan_28 : decode cX2_keepSpan 28 = .ok (.aload_n 0, 1) := by decide +kernel
theorem dX2_keepSpan_29 : decode cX2_keepSpan 29 = .ok (.getfield 20, 3) := by decide +kernel
theorem dX2_keepSpan_32 : decode cX2_keepSpan 32 = .ok (.iload_n 1, 1) := by decide +kernel
theorem dX2_keepSpan_33 : decode cX2_keepSpan 33 = .ok (.lload 6, 2) := by decide +kernel
theorem dX2_keepSpan_35 : decode cX2_keepSpan 35 = .ok (.l2i, 1) := by decide +kernel
theorem dX2_keepSpan_36 : decode cX2_keepSpan 36 = .ok (.iastore, 1) := by decide +kernel
theorem dX2_keepSpan_37 : decode cX2_keepSpan 37 = .ok (.aload_n 0, 1) := by decide +kernel
theorem dX2_keepSpan_38 : decode cX2_keepSpan 38 = .ok (.iload_n 1, 1) := by decide +kernel
theorem dX2_keepSpan_39 : decode cX2_keepSpan 39 = .ok (.invokevirtual 167, 3) := by decide +kernel
theorem dX2_keepSpan_42 : decode cX2_keepSpan 42 = .ok (.lreturn, 1) := by decide +kernel
set_option maxRecDepth 20000 in
theorem ggX2_keepMonth_X1_yearOfMonth : GoodIn wsX2_keepMonth wsX1_yearOfMonth := goodIn_r _ [5, 6, 7, 8, 9, 10] (by decide +kernel) (by decide +kernel)
set_option maxRecDepth 20000 in
theorem gX2_keepMonth_X1_yearOfMonth : GoodIn wsX2_keepMonth (va_wsS RX2 120 yX1_yearOfMonth wsX1_yearOfMonth) := goodIn_app (goodIn_of _ (by decide +kernel)) ggX2_keepMonth_X1_yearOfMonth
set_option maxRecDepth 20000 in
theorem ggX2_keepMonth_X2_isYear : GoodIn wsX2_keepMonth wsX2_isYear := goodIn_r _ [14, 15, 16, 17, 18, 13, 19] (by decide +kernel) (by decide +kernel)
set_option maxRecDepth 20000 in
theorem gX2_keepMonth_X2_isYear : GoodIn wsX2_keepMonth (va_wsS RX2 45 yX2_isYear wsX2_isYear) := goodIn_app (goodIn_of _ (by decide +kernel)) ggX2_keepMonth_X2_isYear
set_option maxRecDepth 20000 in
theorem ggX2_keepMonth_X2_checkOutcome : GoodIn wsX2_keepMonth wsX2_checkOutcome := goodIn_ca (goodIn_r _ [22, 23, 24] (by decide +kernel) (by decide +kernel)) (goodIn_sub (fun _ h => List.mem_cons_of_mem _ (List.mem_append_right _ h)) (by decide +kernel))
set_option maxRecDepth 20000 in
theorem gX2_keepMonth_X2_checkOutcome : GoodIn wsX2_keepMonth (va_wsS RX2 164 yX2_checkOutcome wsX2_checkOutcome) := goodIn_app (goodIn_of _ (by decide +kernel)) ggX2_keepMonth_X2_checkOutcome
set_option maxRecDepth 20000 in
theorem ggX2_keepMonth_X1_lengthOfMonth : GoodIn wsX2_keepMonth wsX1_lengthOfMonth := goodIn_r _ [27, 28, 29, 4, 30, 6, 31, 32, 9, 33, 34, 3, 5, 7, 8, 10, 35, 36, 37, 38, 39, 40] (by decide +kernel) (by decide +kernel)
set_option maxRecDepth 20000 in
theorem gX2_keepMonth_X1_lengthOfMonth : GoodIn wsX2_keepMonth (va_wsS RX2 65 yX1_lengthOfMonth wsX1_lengthOfMonth) := goodIn_app (goodIn_of _ (by decide +kernel)) ggX2_keepMonth_X1_lengthOfMonth
theorem dX2_keepMonth_0 : decode cX2_keepMonth 0 = .ok (.lload_n 2, 1) := by decide +kernel
theorem dX2_keepMonth_1 : decode cX2_keepMonth 1 = .ok (.invokestatic 120, 3) := by decide +kernel
theorem dX2_keepMonth_4 : decode cX2_keepMonth 4 = .ok (.invokestatic 45, 3) := by decide +kernel
theorem dX2_keepMonth_7 : decode cX2_keepMonth 7 = .ok (.invokestatic 164, 3) := by decide +kernel
theorem dX2_keepMonth_10 : decode cX2_keepMonth 10 = .ok (.aload_n 0, 1) := by decide +kernel
theorem dX2_keepMonth_11 : decode cX2_keepMonth 11 = .ok (.getfield 23, 3) := by decide +kernel
theorem dX2_keepMonth_14 : decode cX2_keepMonth 14 = .ok (.iload_n 1, 1) := by decide +kernel
theorem dX2_keepMonth_15 : decode cX2_keepMonth 15 = .ok (.lload_n 2, 1) := by decide +kernel
theorem dX2_keepMonth_16 : decode cX2_keepMonth 16 = .ok (.l2i, 1) := by decide +kernel
theorem dX2_keepMonth_17 : decode cX2_keepMonth 17 = .ok (.iastore, 1) := by decide +kernel
theorem dX2_keepMonth_18 : decode cX2_keepMonth 18 = .ok (.lload_n 2, 1) := by decide +kernel
theorem dX2_keepMonth_19 : decode cX2_keepMonth 19 = .ok (.invokestatic 65, 3) := by decide +kernel
theorem dX2_keepMonth_22 : decode cX2_keepMonth 22 = .ok (.ireturn, 1) := by decide +kernel
set_option maxRecDepth 20000 in
theorem ggX2_keepLength_J9_floorDiv_f86c9 : GoodIn wsX2_keepLength wsJ9_floorDiv_f86c9 := goodIn_r _ [9] (by decide +kernel) (by decide +kernel)
set_option maxRecDepth 20000 in
theorem gX2_keepLength_J9_floorDiv_f86c9 : GoodIn wsX2_keepLength (va_wsS RX2 281 yJ9_floorDiv_f86c9 wsJ9_floorDiv_f86c9) := goodIn_app (goodIn_of _ (by decide +kernel)) ggX2_keepLength_J9_floorDiv_f86c9
set_option maxRecDepth 20000 in
theorem ggX2_keepLength_J9_floorMod_f86c9 : GoodIn wsX2_keepLength wsJ9_floorMod_f86c9 := goodIn_r _ [12] (by decide +kernel) (by decide +kernel)
set_option maxRecDepth 20000 in
theorem gX2_keepLength_J9_floorMod_f86c9 : GoodIn wsX2_keepLength (va_wsS RX2 284 yJ9_floorMod_f86c9 wsJ9_floorMod_f86c9) := goodIn_app (goodIn_of _ (by decide +kernel)) ggX2_keepLength_J9_floorMod_f86c9
set_option maxRecDepth 20000 in
theorem ggX2_keepLength_X2_isIn : GoodIn wsX2_keepLength wsX2_isIn := goodIn_r _ [16] (by decide +kernel) (by decide +kernel)
set_option maxRecDepth 20000 in
theorem gX2_keepLength_X2_isIn : GoodIn wsX2_keepLength (va_wsS RX2 55 yX2_isIn wsX2_isIn) := goodIn_app (goodIn_of _ (by decide +kernel)) ggX2_keepLength_X2_isIn
set_option maxRecDepth 20000 in
theorem ggX2_keepLength_X2_checkOutcome : GoodIn wsX2_keepLength wsX2_checkOutcome := goodIn_ca (goodIn_r _ [19, 20, 21] (by decide +kernel) (by decide +kernel)) (goodIn_sub (fun _ h => List.mem_cons_of_mem _ (List.mem_append_right _ h)) (by decide +kernel))
set_option maxRecDepth 20000 in
theorem gX2_keepLength_X2_checkOutcome : GoodIn wsX2_keepLength (va_wsS RX2 164 yX2_checkOutcome wsX2_checkOutcome) := goodIn_app (goodIn_of _ (by decide +kernel)) ggX2_keepLength_X2_checkOutcome
theorem dX2_keepLength_0 : decode cX2_keepLength 0 = .ok (.lload_n 2, 1) := by decide +kernel
theorem dX2_keepLength_1 : decode cX2_keepLength 1 = .ok (.lload 4, 2) := by decide +kernel
theorem dX2_keepLength_3 : decode cX2_keepLength 3 = .ok (.ldc2_w 197, 3) := by decide +kernel
theorem dX2_keepLength_6 : decode cX2_keepLength 6 = .ok (.invokestatic 281, 3) := by decide +kernel
theorem dX2_keepLength_9 : decode cX2_keepLength 9 = .ok (.ladd, 1) := by decide +kernel
theorem dX2_keepLength_10 : decode cX2_keepLength 10 = .ok (.lstore 6, 2) := by decide +kernel
theorem dX2_keepLength_12 : decode cX2_keepLength 12 = .ok (.lload 4, 2) := by decide +kernel
theorem dX2_keepLength_14 : decode cX2_keepLength 14 = .ok (.ldc2_w 197, 3) := by decide +kernel
theorem dX2_keepLength_17 : decode cX2_keepLength 17 = .ok (.invokestatic 284, 3) := by decide +kernel
theorem dX2_keepLength_20 : decode cX2_keepLength 20 = .ok (.lstore 8, 2) := by decide +kernel
theorem dX2_keepLength_22 : decode cX2_keepLength 22 = .ok (.lload 6, 2) := by decide +kernel
theorem dX2_keepLength_24 : decode cX2_keepLength 24 = .ok (.ldc2_w 223, 3) := by decide +kernel
theorem dX2_keepLength_27 : decode cX2_keepLength 27 = .ok (.ldc2_w 225, 3) := by decide +kernel
theorem dX2_keepLength_30 : decode cX2_keepLength 30 = .ok (.invokestatic 55, 3) := by decide +kernel
theorem dX2_keepLength_33 : decode cX2_keepLength 33 = .ok (.ifCond .eq 23, 3) := by decide +kernel
theorem dX2_keepLength_36 : decode cX2_keepLength 36 = .ok (.lload 6, 2) := by decide +kernel
theorem dX2_keepLength_38 : decode cX2_keepLength 38 = .ok (.ldc2_w 225, 3) := by decide +kernel
theorem dX2_keepLength_41 : decode cX2_keepLength 41 = .ok (.lcmp, 1) := by decide +kernel
theorem dX2_keepLength_42 : decode cX2_keepLength 42 = .ok (.ifCond .lt 10, 3) := by decide +kernel
theorem dX2_keepLength_45 : decode cX2_keepLength 45 = .ok (.lload 8, 2) := by decide +kernel
theorem dX2_keepLength_47 : decode cX2_keepLength 47 = .ok (.lconst 0, 1) := by decide +kernel
theorem dX2_keepLength_48 : decode cX2_keepLength 48 = .ok (.lcmp, 1) := by decide +kernel
theorem dX2_keepLength_49 : decode cX2_keepLength 49 = .ok (.ifCond .ne 7, 3) := by decide +kernel
theorem dX2_keepLength_52 : decode cX2_keepLength 52 = .ok (.iconst 1, 1) := by decide +kernel
theorem dX2_keepLength_53 : decode cX2_keepLength 53 = .ok (.goto 4, 3) := by decide +kernel
theorem dX2_keepLength_56 : decode cX2_keepLength 56 = .ok (.iconst 0, 1) := by decide +kernel
theorem dX2_keepLength_57 : decode cX2_keepLength 57 = .ok (.invokestatic 164, 3) := by decide +kernel
theorem dX2_keepLength_60 : decode cX2_keepLength 60 = .ok (.aload_n 0, 1) := by decide +kernel
theorem dX2_keepLength_61 : decode cX2_keepLength 61 = .ok (.getfield 29, 3) := by decide +kernel
theorem dX2_keepLength_64 : decode cX2_keepLength 64 = .ok (.iload_n 1, 1) := by decide +kernel
theorem dX2_keepLength_65 : decode cX2_keepLength 65 = .ok (.lload 6, 2) := by decide +kernel
theorem dX2_keepLength_67 : decode cX2_keepLength 67 = .ok (.lastore, 1) := by decide +kernel
theorem dX2_keepLength_68 : decode cX2_keepLength 68 = .ok (.aload_n 0, 1) := by decide +kernel
theorem dX2_keepLength_69 : decode cX2_keepLength 69 = .ok (.getfield 32, 3) := by decide +kernel
theorem dX2_keepLength_72 : decode cX2_keepLength 72 = .ok (.iload_n 1, 1) := by decide +kernel
theorem dX2_keepLength_73 : decode cX2_keepLength 73 = .ok (.lload 8, 2) := by decide +kernel
theorem dX2_keepLength_75 : decode cX2_keepLength 75 = .ok (.lastore, 1) := by decide +kernel
theorem dX2_keepLength_76 : decode cX2_keepLength 76 = .ok (.lload 6, 2) := by decide +kernel
theorem dX2_keepLength_78 : decode cX2_keepLength 78 = .ok (.lreturn, 1) := by decide +kernel
set_option maxRecDepth 20000 in
theorem ggX2_keepMoment_J9_floorDiv_f86c9 : GoodIn wsX2_keepMoment wsJ9_floorDiv_f86c9 := goodIn_r _ [7] (by decide +kernel) (by decide +kernel)
set_option maxRecDepth 20000 in
theorem gX2_keepMoment_J9_floorDiv_f86c9 : GoodIn wsX2_keepMoment (va_wsS RX2 281 yJ9_floorDiv_f86c9 wsJ9_floorDiv_f86c9) := goodIn_app (goodIn_of _ (by decide +kernel)) ggX2_keepMoment_J9_floorDiv_f86c9
set_option maxRecDepth 20000 in
theorem ggX2_keepMoment_X1_isDay : GoodIn wsX2_keepMoment wsX1_isDay := goodIn_r _ [11, 12, 13] (by decide +kernel) (by decide +kernel)
set_option maxRecDepth 20000 in
theorem gX2_keepMoment_X1_isDay : GoodIn wsX2_keepMoment (va_wsS RX2 272 yX1_isDay wsX1_isDay) := goodIn_app (goodIn_of _ (by decide +kernel)) ggX2_keepMoment_X1_isDay
set_option maxRecDepth 20000 in
theorem ggX2_keepMoment_X2_checkOutcome : GoodIn wsX2_keepMoment wsX2_checkOutcome := goodIn_ca (goodIn_r _ [17, 18, 19] (by decide +kernel) (by decide +kernel)) (goodIn_sub (fun _ h => List.mem_cons_of_mem _ (List.mem_append_right _ h)) (by decide +kernel))
set_option maxRecDepth 20000 in
theorem gX2_keepMoment_X2_checkOutcome : GoodIn wsX2_keepMoment (va_wsS RX2 164 yX2_checkOutcome wsX2_checkOutcome) := goodIn_app (goodIn_of _ (by decide +kernel)) ggX2_keepMoment_X2_checkOutcome
set_option maxRecDepth 20000 in
theorem ggX2_keepMoment_X0_roundDay : GoodIn wsX2_keepMoment wsX0_roundDay := goodIn_r _ [23, 24, 25, 26, 6, 27] (by decide +kernel) (by decide +kernel)
set_option maxRecDepth 20000 in
theorem gX2_keepMoment_X0_roundDay : GoodIn wsX2_keepMoment (va_wsS RX2 216 yX0_roundDay wsX0_roundDay) := goodIn_app (goodIn_of _ (by decide +kernel)) ggX2_keepMoment_X0_roundDay
theorem dX2_keepMoment_0 : decode cX2_keepMoment 0 = .ok (.lload_n 2, 1) := by decide +kernel
theorem dX2_keepMoment_1 : decode cX2_keepMoment 1 = .ok (.lload 4, 2) := by decide +kernel
theorem dX2_keepMoment_3 : decode cX2_keepMoment 3 = .ok (.ldc2_w 287, 3) := by decide +kernel
theorem dX2_keepMoment_6 : decode cX2_keepMoment 6 = .ok (.invokestatic 281, 3) := by decide +kernel
theorem dX2_keepMoment_9 : decode cX2_keepMoment 9 = .ok (.ladd, 1) := by decide +kernel
theorem dX2_keepMoment_10 : decode cX2_keepMoment 10 = .ok (.lstore 6, 2) := by decide +kernel
theorem dX2_keepMoment_12 : decode cX2_keepMoment 12 = .ok (.lload 6, 2) := by decide +kernel
theorem dX2_keepMoment_14 : decode cX2_keepMoment 14 = .ok (.invokestatic 272, 3) := by decide +kernel
theorem dX2_keepMoment_17 : decode cX2_keepMoment 17 = .ok (.invokestatic 164, 3) := by decide +kernel
theorem dX2_keepMoment_20 : decode cX2_keepMoment 20 = .ok (.aload_n 0, 1) := by decide +kernel
theorem dX2_keepMoment_21 : decode cX2_keepMoment 21 = .ok (.getfield 35, 3) := by decide +kernel
theorem dX2_keepMoment_24 : decode cX2_keepMoment 24 = .ok (.iload_n 1, 1) := by decide +kernel
theorem dX2_keepMoment_25 : decode cX2_keepMoment 25 = .ok (.lload 6, 2) := by decide +kernel
theorem dX2_keepMoment_27 : decode cX2_keepMoment 27 = .ok (.lastore, 1) := by decide +kernel
theorem dX2_keepMoment_28 : decode cX2_keepMoment 28 = .ok (.aload_n 0, 1) := by decide +kernel
theorem dX2_keepMoment_29 : decode cX2_keepMoment 29 = .ok (.getfield 38, 3) := by decide +kernel
theorem dX2_keepMoment_32 : decode cX2_keepMoment 32 = .ok (.iload_n 1, 1) := by decide +kernel
theorem dX2_keepMoment_33 : decode cX2_keepMoment 33 = .ok (.lload 4, 2) := by decide +kernel
theorem dX2_keepMoment_35 : decode cX2_keepMoment 35 = .ok (.invokestatic 216, 3) := by decide +kernel
theorem dX2_keepMoment_38 : decode cX2_keepMoment 38 = .ok (.lastore, 1) := by decide +kernel
theorem dX2_keepMoment_39 : decode cX2_keepMoment 39 = .ok (.lload 6, 2) := by decide +kernel
theorem dX2_keepMoment_41 : decode cX2_keepMoment 41 = .ok (.lreturn, 1) := by decide +kernel
theorem dX3_thrown_0 : decode cX3_thrown 0 = .ok (.aload_n 0, 1) := by decide +kernel
theorem dX3_thrown_1 : decode cX3_thrown 1 = .ok (.getfield 1, 3) := by decide +kernel
theorem dX3_thrown_4 : decode cX3_thrown 4 = .ok (.ireturn, 1) := by decide +kernel
theorem dX3_fails_0 : decode cX3_fails 0 = .ok (.aload_n 0, 1) := by decide +kernel
theorem dX3_fails_1 : decode cX3_fails 1 = .ok (.iload_n 1, 1) := by decide +kernel
theorem dX3_fails_2 : decode cX3_fails 2 = .ok (.putfield 1, 3) := by decide +kernel
theorem dX3_fails_5 : decode cX3_fails 5 = .ok (.iload_n 1, 1) := by decide +kernel
theorem dX3_fails_6 : decode cX3_fails 6 = .ok (.ifCond .le 7, 3) := by decide +kernel
theorem dX3_fails_9 : decode cX3_fails 9 = .ok (.iconst 1, 1) := by decide +kernel
theorem dX3_fails_10 : decode cX3_fails 10 = .ok (.goto 4, 3) := by decide +kernel
theorem dX3_fails_13 : decode cX3_fails 13 = .ok (.iconst 0, 1) := by decide +kernel
theorem dX3_fails_14 : decode cX3_fails 14 = .ok (.ireturn, 1) := by decide +kernel
theorem dX3_in_0 : decode cX3_in 0 = .ok (.lload_n 0, 1) := by decide +kernel
theorem dX3_in_1 : decode cX3_in 1 = .ok (.lload_n 2, 1) := by decide +kernel
theorem dX3_in_2 : decode cX3_in 2 = .ok (.lcmp, 1) := by decide +kernel
theorem dX3_in_3 : decode cX3_in 3 = .ok (.ifCond .lt 14, 3) := by decide +kernel
theorem dX3_in_6 : decode cX3_in 6 = .ok (.lload_n 0, 1) := by decide +kernel
theorem dX3_in_7 : decode cX3_in 7 = .ok (.lload 4, 2) := by decide +kernel
theorem dX3_in_9 : decode cX3_in 9 = .ok (.lcmp, 1) := by decide +kernel
theorem dX3_in_10 : decode cX3_in 10 = .ok (.ifCond .gt 7, 3) := by decide +kernel
theorem dX3_in_13 : decode cX3_in 13 = .ok (.iconst 1, 1) := by decide +kernel
theorem dX3_in_14 : decode cX3_in 14 = .ok (.goto 4, 3) := by decide +kernel
theorem dX3_in_17 : decode cX3_in 17 = .ok (.iconst 0, 1) := by decide +kernel
theorem dX3_in_18 : decode cX3_in 18 = .ok (.ireturn, 1) := by decide +kernel
theorem dX3_init_0 : decode cX3_init 0 = .ok (.aload_n 0, 1) := by decide +kernel
theorem dX3_init_1 : decode cX3_init 1 = .ok (.invokespecial 7, 3) := by decide +kernel
theorem dX3_init_4 : decode cX3_init 4 = .ok (.aload_n 0, 1) := by decide +kernel
theorem dX3_init_5 : decode cX3_init 5 = .ok (.bipush 6, 2) := by decide +kernel
theorem dX3_init_7 : decode cX3_init 7 = .ok (.newarray .long, 2) := by decide +kernel
theorem dX3_init_9 : decode cX3_init 9 = .ok (.putfield 13, 3) := by decide +kernel
theorem dX3_init_12 : decode cX3_init 12 = .ok (.aload_n 0, 1) := by decide +kernel
theorem dX3_init_13 : decode cX3_init 13 = .ok (.iconst 4, 1) := by decide +kernel
theorem dX3_init_14 : decode cX3_init 14 = .ok (.newarray .long, 2) := by decide +kernel
theorem dX3_init_16 : decode cX3_init 16 = .ok (.putfield 17, 3) := by decide +kernel
theorem dX3_init_19 : decode cX3_init 19 = .ok (.aload_n 0, 1) := by decide +kernel
theorem dX3_init_20 : decode cX3_init 20 = .ok (.iconst 4, 1) := by decide +kernel
theorem dX3_init_21 : decode cX3_init 21 = .ok (.newarray .long, 2) := by decide +kernel
theorem dX3_init_23 : decode cX3_init 23 = .ok (.putfield 20, 3) := by decide +kernel
theorem dX3_init_26 : decode cX3_init 26 = .ok (.aload_n 0, 1) := by decide +kernel
theorem dX3_init_27 : decode cX3_init 27 = .ok (.iconst 4, 1) := by decide +kernel
theorem dX3_init_28 : decode cX3_init 28 = .ok (.newarray .long, 2) := by decide +kernel
theorem dX3_init_30 : decode cX3_init 30 = .ok (.putfield 23, 3) := by decide +kernel
theorem dX3_init_33 : decode cX3_init 33 = .ok (.aload_n 0, 1) := by decide +kernel
theorem dX3_init_34 : decode cX3_init 34 = .ok (.iconst 4, 1) := by decide +kernel
theorem dX3_init_35 : decode cX3_init 35 = .ok (.newarray .long, 2) := by decide +kernel
theorem dX3_init_37 : decode cX3_init 37 = .ok (.putfield 26, 3) := by decide +kernel
theorem dX3_init_40 : decode cX3_init 40 = .ok (.aload_n 0, 1) := by decide +kernel
theorem dX3_init_41 : decode cX3_init 41 = .ok (.iconst 4, 1) := by decide +kernel
theorem dX3_init_42 : decode cX3_init 42 = .ok (.newarray .long, 2) := by decide +kernel
theorem dX3_init_44 : decode cX3_init 44 = .ok (.putfield 29, 3) := by decide +kernel
theorem dX3_init_47 : decode cX3_init 47 = .ok (.aload_n 0, 1) := by decide +kernel
theorem dX3_init_48 : decode cX3_init 48 = .ok (.iconst 4, 1) := by decide +kernel
theorem dX3_init_49 : decode cX3_init 49 = .ok (.newarray .long, 2) := by decide +kernel
theorem dX3_init_51 : decode cX3_init 51 = .ok (.putfield 32, 3) := by decide +kernel
theorem dX3_init_54 : decode cX3_init 54 = .ok (.aload_n 0, 1) := by decide +kernel
theorem dX3_init_55 : decode cX3_init 55 = .ok (.iconst 4, 1) := by decide +kernel
theorem dX3_init_56 : decode cX3_init 56 = .ok (.newarray .long, 2) := by decide +kernel
theorem dX3_init_58 : decode cX3_init 58 = .ok (.putfield 35, 3) := by decide +kernel
theorem dX3_init_61 : decode cX3_init 61 = .ok (.aload_n 0, 1) := by decide +kernel
theorem dX3_init_62 : decode cX3_init 62 = .ok (.iconst 4, 1) := by decide +kernel
theorem dX3_init_63 : decode cX3_init 63 = .ok (.newarray .long, 2) := by decide +kernel
theorem dX3_init_65 : decode cX3_init 65 = .ok (.putfield 38, 3) := by decide +kernel
theorem dX3_init_68 : decode cX3_init 68 = .ok (.aload_n 0, 1) := by decide +kernel
theorem dX3_init_69 : decode cX3_init 69 = .ok (.iconst 4, 1) := by decide +kernel
theorem dX3_init_70 : decode cX3_init 70 = .ok (.newarray .long, 2) := by decide +kernel
theorem dX3_init_72 : decode cX3_init 72 = .ok (.putfield 41, 3) := by decide +kernel
theorem dX3_init_75 : decode cX3_init 75 = .ok (.iconst 0, 1) := by decide +kernel
theorem dX3_init_76 : decode cX3_init 76 = .ok (.istore_n 1, 1) := by decide +kernel
theorem dX3_init_77 : decode cX3_init 77 = .ok (.iload_n 1, 1) := by decide +kernel
theorem dX3_init_78 : decode cX3_init 78 = .ok (.iconst 4, 1) := by decide +kernel
theorem dX3_init_79 : decode cX3_init 79 = .ok (.if_icmp .ge 18, 3) := by decide +kernel
theorem dX3_init_82 : decode cX3_init 82 = .ok (.aload_n 0, 1) := by decide +kernel
theorem dX3_init_83 : decode cX3_init 83 = .ok (.getfield 41, 3) := by decide +kernel
theorem dX3_init_86 : decode cX3_init 86 = .ok (.iload_n 1, 1) := by decide +kernel
theorem dX3_init_87 : decode cX3_init 87 = .ok (.ldc2_w 44, 3) := by decide +kernel
theorem dX3_init_90 : decode cX3_init 90 = .ok (.lastore, 1) := by decide +kernel
theorem dX3_init_91 : decode cX3_init 91 = .ok (.iinc 1 1, 3) := by decide +kernel
theorem dX3_init_94 : decode cX3_init 94 = .ok (.goto (-17), 3) := by decide +kernel
theorem dX3_init_97 : decode cX3_init 97 = .ok (.return_, 1) := by decide +kernel
theorem dX3_floor_0 : decode cX3_floor 0 = .ok (.lload_n 0, 1) := by decide +kernel
theorem dX3_floor_1 : decode cX3_floor 1 = .ok (.lconst 0, 1) := by decide +kernel
theorem dX3_floor_2 : decode cX3_floor 2 = .ok (.lcmp, 1) := by decide +kernel
theorem dX3_floor_3 : decode cX3_floor 3 = .ok (.ifCond .lt 9, 3) := by decide +kernel
theorem dX3_floor_6 : decode cX3_floor 6 = .ok (.lload_n 0, 1) := by decide +kernel
theorem dX3_floor_7 : decode cX3_floor 7 = .ok (.lload_n 2, 1) := by decide +kernel
theorem dX3_floor_8 : decode cX3_floor 8 = .ok (.ldiv, 1) := by decide +kernel
theorem dX3_floor_9 : decode cX3_floor 9 = .ok (.goto 11, 3) := by decide +kernel
theorem dX3_floor_12 : decode cX3_floor 12 = .ok (.lload_n 2, 1) := by decide +kernel
theorem dX3_floor_13 : decode cX3_floor 13 = .ok (.lconst 1, 1) := by decide +kernel
theorem dX3_floor_14 : decode cX3_floor 14 = .ok (.lsub, 1) := by decide +kernel
theorem dX3_floor_15 : decode cX3_floor 15 = .ok (.lload_n 0, 1) := by decide +kernel
theorem dX3_floor_16 : decode cX3_floor 16 = .ok (.lsub, 1) := by decide +kernel
theorem dX3_floor_17 : decode cX3_floor 17 = .ok (.lload_n 2, 1) := by decide +kernel
theorem dX3_floor_18 : decode cX3_floor 18 = .ok (.ldiv, 1) := by decide +kernel
theorem dX3_floor_19 : decode cX3_floor 19 = .ok (.lneg, 1) := by decide +kernel
theorem dX3_floor_20 : decode cX3_floor 20 = .ok (.lreturn, 1) := by decide +kernel
set_option maxRecDepth 20000 in
theorem ggX3_rest_X3_floor : GoodIn wsX3_rest wsX3_floor := goodIn_r _ [4] (by decide +kernel) (by decide +kernel)
set_option maxRecDepth 20000 in
theorem gX3_rest_X3_floor : GoodIn wsX3_rest (va_wsS RX3 46 yX3_floor wsX3_floor) := goodIn_app (goodIn_of _ (by decide +kernel)) ggX3_rest_X3_floor
theorem dX3_rest_0 : decode cX3_rest 0 = .ok (.lload_n 0, 1) := by decide +kernel
theorem dX3_rest_1 : decode cX3_rest 1 = .ok (.lload_n 2, 1) := by decide +kernel
theorem dX3_rest_2 : decode cX3_rest 2 = .ok (.lload_n 0, 1) := by decide +kernel
theorem dX3_rest_3 : decode cX3_rest 3 = .ok (.lload_n 2, 1) := by decide +kernel
theorem dX3_rest_4 : decode cX3_rest 4 = .ok (.invokestatic 46, 3) := by decide +kernel
theorem dX3_rest_7 : decode cX3_rest 7 = .ok (.lmul, 1) := by decide +kernel
theorem dX3_rest_8 : decode cX3_rest 8 = .ok (.lsub, 1) := by decide +kernel
theorem dX3_rest_9 : decode cX3_rest 9 = .ok (.lreturn, 1) := by decide +kernel
set_option maxRecDepth 20000 in
theorem ggX3_isLong_X3_rest : GoodIn wsX3_isLong wsX3_rest := goodIn_r _ [7, 8, 9, 6, 10] (by decide +kernel) (by decide +kernel)
set_option maxRecDepth 20000 in
theorem gX3_isLong_X3_rest : GoodIn wsX3_isLong (va_wsS RX3 52 yX3_rest wsX3_rest) := goodIn_app (goodIn_of _ (by decide +kernel)) ggX3_isLong_X3_rest
theorem dX3_isLong_0 : decode cX3_isLong 0 = .ok (.lload_n 0, 1) := by decide +kernel
theorem dX3_isLong_1 : decode cX3_isLong 1 = .ok (.ldc2_w 50, 3) := by decide +kernel
theorem dX3_isLong_4 : decode cX3_isLong 4 = .ok (.invokestatic 52, 3) := by decide +kernel
theorem dX3_isLong_7 : decode cX3_isLong 7 = .ok (.lconst 0, 1) := by decide +kernel
theorem dX3_isLong_8 : decode cX3_isLong 8 = .ok (.lcmp, 1) := by decide +kernel
theorem dX3_isLong_9 : decode cX3_isLong 9 = .ok (.ifCond .ne 15, 3) := by decide +kernel
theorem dX3_isLong_12 : decode cX3_isLong 12 = .ok (.lload_n 0, 1) := by decide +kernel
theorem dX3_isLong_13 : decode cX3_isLong 13 = .ok (.ldc2_w 55, 3) := by decide +kernel
theorem dX3_isLong_16 : decode cX3_isLong 16 = .ok (.invokestatic 52, 3) := by decide +kernel
theorem dX3_isLong_19 : decode cX3_isLong 19 = .ok (.lconst 0, 1) := by decide +kernel
theorem dX3_isLong_20 : decode cX3_isLong 20 = .ok (.lcmp, 1) := by decide +kernel
theorem dX3_isLong_21 : decode cX3_isLong 21 = .ok (.ifCond .ne 15, 3) := by decide +kernel
theorem dX3_isLong_24 : decode cX3_isLong 24 = .ok (.lload_n 0, 1) := by decide +kernel
theorem dX3_isLong_25 : decode cX3_isLong 25 = .ok (.ldc2_w 57, 3) := by decide +kernel
theorem dX3_isLong_28 : decode cX3_isLong 28 = .ok (.invokestatic 52, 3) := by decide +kernel
theorem dX3_isLong_31 : decode cX3_isLong 31 = .ok (.lconst 0, 1) := by decide +kernel
theorem dX3_isLong_32 : decode cX3_isLong 32 = .ok (.lcmp, 1) := by decide +kernel
theorem dX3_isLong_33 : decode cX3_isLong 33 = .ok (.ifCond .ne 7, 3) := by decide +kernel
theorem dX3_isLong_36 : decode cX3_isLong 36 = .ok (.iconst 1, 1) := by decide +kernel
theorem dX3_isLong_37 : decode cX3_isLong 37 = .ok (.goto 4, 3) := by decide +kernel
theorem dX3_isLong_40 : decode cX3_isLong 40 = .ok (.iconst 0, 1) := by decide +kernel
theorem dX3_isLong_41 : decode cX3_isLong 41 = .ok (.ireturn, 1) := by decide +kernel
set_option maxRecDepth 20000 in
theorem ggX3_ahead_X3_floor : GoodIn wsX3_ahead wsX3_floor := goodIn_r _ [11] (by decide +kernel) (by decide +kernel)
set_option maxRecDepth 20000 in
theorem gX3_ahead_X3_floor : GoodIn wsX3_ahead (va_wsS RX3 46 yX3_floor wsX3_floor) := goodIn_app (goodIn_of _ (by decide +kernel)) ggX3_ahead_X3_floor
theorem dX3_ahead_0 : decode cX3_ahead 0 = .ok (.ldc2_w 59, 3) := by decide +kernel
theorem dX3_ahead_3 : decode cX3_ahead 3 = .ok (.lload_n 0, 1) := by decide +kernel
theorem dX3_ahead_4 : decode cX3_ahead 4 = .ok (.lmul, 1) := by decide +kernel
theorem dX3_ahead_5 : decode cX3_ahead 5 = .ok (.lload_n 0, 1) := by decide +kernel
theorem dX3_ahead_6 : decode cX3_ahead 6 = .ok (.ldc2_w 61, 3) := by decide +kernel
theorem dX3_ahead_9 : decode cX3_ahead 9 = .ok (.ladd, 1) := by decide +kernel
theorem dX3_ahead_10 : decode cX3_ahead 10 = .ok (.ldc2_w 50, 3) := by decide +kernel
theorem dX3_ahead_13 : decode cX3_ahead 13 = .ok (.invokestatic 46, 3) := by decide +kernel
theorem dX3_ahead_16 : decode cX3_ahead 16 = .ok (.ladd, 1) := by decide +kernel
theorem dX3_ahead_17 : decode cX3_ahead 17 = .ok (.lload_n 0, 1) := by decide +kernel
theorem dX3_ahead_18 : decode cX3_ahead 18 = .ok (.ldc2_w 63, 3) := by decide +kernel
theorem dX3_ahead_21 : decode cX3_ahead 21 = .ok (.ladd, 1) := by decide +kernel
theorem dX3_ahead_22 : decode cX3_ahead 22 = .ok (.ldc2_w 55, 3) := by decide +kernel
theorem dX3_ahead_25 : decode cX3_ahead 25 = .ok (.invokestatic 46, 3) := by decide +kernel
theorem dX3_ahead_28 : decode cX3_ahead 28 = .ok (.lsub, 1) := by decide +kernel
theorem dX3_ahead_29 : decode cX3_ahead 29 = .ok (.lload_n 0, 1) := by decide +kernel
theorem dX3_ahead_30 : decode cX3_ahead 30 = .ok (.ldc2_w 65, 3) := by decide +kernel
theorem dX3_ahead_33 : decode cX3_ahead 33 = .ok (.ladd, 1) := by decide +kernel
theorem dX3_ahead_34 : decode cX3_ahead 34 = .ok (.ldc2_w 57, 3) := by decide +kernel
theorem dX3_ahead_37 : decode cX3_ahead 37 = .ok (.invokestatic 46, 3) := by decide +kernel
theorem dX3_ahead_40 : decode cX3_ahead 40 = .ok (.ladd, 1) := by decide +kernel
theorem dX3_ahead_41 : decode cX3_ahead 41 = .ok (.lreturn, 1) := by decide +kernel
set_option maxRecDepth 20000 in
theorem ggX3_first_X3_ahead : GoodIn wsX3_first wsX3_ahead := goodIn_r _ [5, 6, 7, 8, 9, 10, 11, 12, 13, 14, 4, 15] (by decide +kernel) (by decide +kernel)
set_option maxRecDepth 20000 in
theorem gX3_first_X3_ahead : GoodIn wsX3_first (va_wsS RX3 67 yX3_ahead wsX3_ahead) := goodIn_app (goodIn_of _ (by decide +kernel)) ggX3_first_X3_ahead
theorem dX3_first_0 : decode cX3_first 0 = .ok (.lload_n 0, 1) := by decide +kernel
theorem dX3_first_1 : decode cX3_first 1 = .ok (.invokestatic 67, 3) := by decide +kernel
theorem dX3_first_4 : decode cX3_first 4 = .ok (.ldc2_w 71, 3) := by decide +kernel
theorem dX3_first_7 : decode cX3_first 7 = .ok (.invokestatic 67, 3) := by decide +kernel
theorem dX3_first_10 : decode cX3_first 10 = .ok (.lsub, 1) := by decide +kernel
theorem dX3_first_11 : decode cX3_first 11 = .ok (.lreturn, 1) := by decide +kernel
set_option maxRecDepth 20000 in
theorem ggX3_many_X3_isLong : GoodIn wsX3_many wsX3_isLong := goodIn_r _ [4, 5, 6, 7, 8, 9, 3, 10, 11, 12, 13] (by decide +kernel) (by decide +kernel)
set_option maxRecDepth 20000 in
theorem gX3_many_X3_isLong : GoodIn wsX3_many (va_wsS RX3 73 yX3_isLong wsX3_isLong) := goodIn_app (goodIn_of _ (by decide +kernel)) ggX3_many_X3_isLong
theorem dX3_many_0 : decode cX3_many 0 = .ok (.iload_n 2, 1) := by decide +kernel
theorem dX3_many_1 : decode cX3_many 1 = .ok (.iconst 2, 1) := by decide +kernel
theorem dX3_many_2 : decode cX3_many 2 = .ok (.if_icmp .ne 20, 3) := by decide +kernel
theorem dX3_many_5 : decode cX3_many 5 = .ok (.lload_n 0, 1) := by decide +kernel
theorem dX3_many_6 : decode cX3_many 6 = .ok (.invokestatic 73, 3) := by decide +kernel
theorem dX3_many_9 : decode cX3_many 9 = .ok (.ifCond .eq 8, 3) := by decide +kernel
theorem dX3_many_12 : decode cX3_many 12 = .ok (.bipush 29, 2) := by decide +kernel
theorem dX3_many_14 : decode cX3_many 14 = .ok (.goto 38, 3) := by decide +kernel
theorem dX3_many_17 : decode cX3_many 17 = .ok (.bipush 28, 2) := by decide +kernel
theorem dX3_many_19 : decode cX3_many 19 = .ok (.goto 33, 3) := by decide +kernel
theorem dX3_many_22 : decode cX3_many 22 = .ok (.iload_n 2, 1) := by decide +kernel
theorem dX3_many_23 : decode cX3_many 23 = .ok (.iconst 4, 1) := by decide +kernel
theorem dX3_many_24 : decode cX3_many 24 = .ok (.if_icmp .eq 21, 3) := by decide +kernel
theorem dX3_many_27 : decode cX3_many 27 = .ok (.iload_n 2, 1) := by decide +kernel
theorem dX3_many_28 : decode cX3_many 28 = .ok (.bipush 6, 2) := by decide +kernel
theorem dX3_many_30 : decode cX3_many 30 = .ok (.if_icmp .eq 15, 3) := by decide +kernel
theorem dX3_many_33 : decode cX3_many 33 = .ok (.iload_n 2, 1) := by decide +kernel
theorem dX3_many_34 : decode cX3_many 34 = .ok (.bipush 9, 2) := by decide +kernel
theorem dX3_many_36 : decode cX3_many 36 = .ok (.if_icmp .eq 9, 3) := by decide +kernel
theorem dX3_many_39 : decode cX3_many 39 = .ok (.iload_n 2, 1) := by decide +kernel
theorem dX3_many_40 : decode cX3_many 40 = .ok (.bipush 11, 2) := by decide +kernel
theorem dX3_many_42 : decode cX3_many 42 = .ok (.if_icmp .ne 8, 3) := by decide +kernel
theorem dX3_many_45 : decode cX3_many 45 = .ok (.bipush 30, 2) := by decide +kernel
theorem dX3_many_47 : decode cX3_many 47 = .ok (.goto 5, 3) := by decide +kernel
theorem dX3_many_50 : decode cX3_many 50 = .ok (.bipush 31, 2) := by decide +kernel
theorem dX3_many_52 : decode cX3_many 52 = .ok (.ireturn, 1) := by decide +kernel
set_option maxRecDepth 20000 in
theorem ggX3_number_X3_first : GoodIn wsX3_number wsX3_first := goodIn_r _ [4, 5, 6, 7, 3, 8, 9, 10, 11, 12, 13, 14, 15, 16, 17, 18] (by decide +kernel) (by decide +kernel)
set_option maxRecDepth 20000 in
theorem gX3_number_X3_first : GoodIn wsX3_number (va_wsS RX3 77 yX3_first wsX3_first) := goodIn_app (goodIn_of _ (by decide +kernel)) ggX3_number_X3_first
set_option maxRecDepth 20000 in
theorem ggX3_number_X3_many : GoodIn wsX3_number wsX3_many := goodIn_r _ [21, 22, 23, 3, 24, 11, 13, 15, 25, 26, 27, 16, 17, 18] (by decide +kernel) (by decide +kernel)
set_option maxRecDepth 20000 in
theorem gX3_number_X3_many : GoodIn wsX3_number (va_wsS RX3 80 yX3_many wsX3_many) := goodIn_app (goodIn_of _ (by decide +kernel)) ggX3_number_X3_many
theorem dX3_number_0 : decode cX3_number 0 = .ok (.lload_n 0, 1) := by decide +kernel
theorem dX3_number_1 : decode cX3_number 1 = .ok (.invokestatic 77, 3) := by decide +kernel
theorem dX3_number_4 : decode cX3_number 4 = .ok (.iload_n 3, 1) := by decide +kernel
theorem dX3_number_5 : decode cX3_number 5 = .ok (.i2l, 1) := by decide +kernel
theorem dX3_number_6 : decode cX3_number 6 = .ok (.ladd, 1) := by decide +kernel
theorem dX3_number_7 : decode cX3_number 7 = .ok (.lconst 1, 1) := by decide +kernel
theorem dX3_number_8 : decode cX3_number 8 = .ok (.lsub, 1) := by decide +kernel
theorem dX3_number_9 : decode cX3_number 9 = .ok (.lstore 4, 2) := by decide +kernel
theorem dX3_number_11 : decode cX3_number 11 = .ok (.iconst 1, 1) := by decide +kernel
theorem dX3_number_12 : decode cX3_number 12 = .ok (.istore 6, 2) := by decide +kernel
theorem dX3_number_14 : decode cX3_number 14 = .ok (.iload 6, 2) := by decide +kernel
theorem dX3_number_16 : decode cX3_number 16 = .ok (.iload_n 2, 1) := by decide +kernel
theorem dX3_number_17 : decode cX3_number 17 = .ok (.if_icmp .ge 21, 3) := by decide +kernel
theorem dX3_number_20 : decode cX3_number 20 = .ok (.lload 4, 2) := by decide +kernel
theorem dX3_number_22 : decode cX3_number 22 = .ok (.lload_n 0, 1) := by decide +kernel
theorem dX3_number_23 : decode cX3_number 23 = .ok (.iload 6, 2) := by decide +kernel
theorem dX3_number_25 : decode cX3_number 25 = .ok (.invokestatic 80, 3) := by decide +kernel
theorem dX3_number_28 : decode cX3_number 28 = .ok (.i2l, 1) := by decide +kernel
theorem dX3_number_29 : decode cX3_number 29 = .ok (.ladd, 1) := by decide +kernel
theorem dX3_number_30 : decode cX3_number 30 = .ok (.lstore 4, 2) := by decide +kernel
theorem dX3_number_32 : decode cX3_number 32 = .ok (.iinc 6 1, 3) := by decide +kernel
theorem dX3_number_35 : decode cX3_number 35 = .ok (.goto (-21), 3) := by decide +kernel
theorem dX3_number_38 : decode cX3_number 38 = .ok (.lload 4, 2) := by decide +kernel
theorem dX3_number_40 : decode cX3_number 40 = .ok (.lreturn, 1) := by decide +kernel
set_option maxRecDepth 20000 in
theorem ggX3_parts_X3_floor : GoodIn wsX3_parts wsX3_floor := goodIn_r _ [10] (by decide +kernel) (by decide +kernel)
set_option maxRecDepth 20000 in
theorem gX3_parts_X3_floor : GoodIn wsX3_parts (va_wsS RX3 46 yX3_floor wsX3_floor) := goodIn_app (goodIn_of _ (by decide +kernel)) ggX3_parts_X3_floor
set_option maxRecDepth 20000 in
theorem ggX3_parts_X3_first : GoodIn wsX3_parts wsX3_first := goodIn_r _ [13, 1, 14, 15, 9, 16, 17, 18, 19, 20, 21, 22, 2, 7, 8, 10] (by decide +kernel) (by decide +kernel)
set_option maxRecDepth 20000 in
theorem gX3_parts_X3_first : GoodIn wsX3_parts (va_wsS RX3 77 yX3_first wsX3_first) := goodIn_app (goodIn_of _ (by decide +kernel)) ggX3_parts_X3_first
set_option maxRecDepth 20000 in
theorem ggX3_parts_X3_many : GoodIn wsX3_parts wsX3_many := goodIn_r _ [25, 26, 27, 9, 28, 19, 21, 2, 29, 30, 31, 7, 8, 10] (by decide +kernel) (by decide +kernel)
set_option maxRecDepth 20000 in
theorem gX3_parts_X3_many : GoodIn wsX3_parts (va_wsS RX3 80 yX3_many wsX3_many) := goodIn_app (goodIn_of _ (by decide +kernel)) ggX3_parts_X3_many
theorem dX3_parts_0 : decode cX3_parts 0 = .ok (.aload_n 0, 1) := by decide +kernel
theorem dX3_parts_1 : decode cX3_parts 1 = .ok (.ldc2_w 71, 3) := by decide +kernel
theorem dX3_parts_4 : decode cX3_parts 4 = .ok (.lload_n 1, 1) := by decide +kernel
theorem dX3_parts_5 : decode cX3_parts 5 = .ok (.ldc2_w 57, 3) := by decide +kernel
theorem dX3_parts_8 : decode cX3_parts 8 = .ok (.lmul, 1) := by decide +kernel
theorem dX3_parts_9 : decode cX3_parts 9 = .ok (.ldc2_w 84, 3) := by decide +kernel
theorem dX3_parts_12 : decode cX3_parts 12 = .ok (.invokestatic 46, 3) := by decide +kernel
theorem dX3_parts_15 : decode cX3_parts 15 = .ok (.ladd, 1) := by decide +kernel
theorem dX3_parts_16 : decode cX3_parts 16 = .ok (.putfield 86, 3) := by decide +kernel
theorem dX3_parts_19 : decode cX3_parts 19 = .ok (.aload_n 0, 1) := by decide +kernel
theorem dX3_parts_20 : decode cX3_parts 20 = .ok (.getfield 86, 3) := by decide +kernel
theorem dX3_parts_23 : decode cX3_parts 23 = .ok (.invokestatic 77, 3) := by decide +kernel
theorem dX3_parts_26 : decode cX3_parts 26 = .ok (.lload_n 1, 1) := by decide +kernel
theorem dX3_parts_27 : decode cX3_parts 27 = .ok (.lcmp, 1) := by decide +kernel
theorem dX3_parts_28 : decode cX3_parts 28 = .ok (.ifCond .le 16, 3) := by decide +kernel
theorem dX3_parts_31 : decode cX3_parts 31 = .ok (.aload_n 0, 1) := by decide +kernel
theorem dX3_parts_32 : decode cX3_parts 32 = .ok (.dup, 1) := by decide +kernel
theorem dX3_parts_33 : decode cX3_parts 33 = .ok (.getfield 86, 3) := by decide +kernel
theorem dX3_parts_36 : decode cX3_parts 36 = .ok (.lconst 1, 1) := by decide +kernel
theorem dX3_parts_37 : decode cX3_parts 37 = .ok (.lsub, 1) := by decide +kernel
theorem dX3_parts_38 : decode cX3_parts 38 = .ok (.putfield 86, 3) := by decide +kernel
theorem dX3_parts_41 : decode cX3_parts 41 = .ok (.goto (-22), 3) := by decide +kernel
theorem dX3_parts_44 : decode cX3_parts 44 = .ok (.aload_n 0, 1) := by decide +kernel
theorem dX3_parts_45 : decode cX3_parts 45 = .ok (.getfield 86, 3) := by decide +kernel
theorem dX3_parts_48 : decode cX3_parts 48 = .ok (.lconst 1, 1) := by decide +kernel
theorem dX3_parts_49 : decode cX3_parts 49 = .ok (.ladd, 1) := by decide +kernel
theorem dX3_parts_50 : decode cX3_parts 50 = .ok (.invokestatic 77, 3) := by decide +kernel
theorem dX3_parts_53 : decode cX3_parts 53 = .ok (.lload_n 1, 1) := by decide +kernel
theorem dX3_parts_54 : decode cX3_parts 54 = .ok (.lcmp, 1) := by decide +kernel
theorem dX3_parts_55 : decode cX3_parts 55 = .ok (.ifCond .gt 16, 3) := by decide +kernel
theorem dX3_parts_58 : decode cX3_parts 58 = .ok (.aload_n 0, 1) := by decide +kernel
theorem dX3_parts_59 : decode cX3_parts 59 = .ok (.dup, 1) := by decide +kernel
theorem dX3_parts_60 : decode cX3_parts 60 = .ok (.getfield 86, 3) := by decide +kernel
theorem dX3_parts_63 : decode cX3_parts 63 = .ok (.lconst 1, 1) := by decide +kernel
theorem dX3_parts_64 : decode cX3_parts 64 = .ok (.ladd, 1) := by decide +kernel
theorem dX3_parts_65 : decode cX3_parts 65 = .ok (.putfield 86, 3) := by decide +kernel
theorem dX3_parts_68 : decode cX3_parts 68 = .ok (.goto (-24), 3) := by decide +kernel
theorem dX3_parts_71 : decode cX3_parts 71 = .ok (.lload_n 1, 1) := by decide +kernel
theorem dX3_parts_72 : decode cX3_parts 72 = .ok (.aload_n 0, 1) := by decide +kernel
theorem dX3_parts_73 : decode cX3_parts 73 = .ok (.getfield 86, 3) := by decide +kernel
theorem dX3_parts_76 : decode cX3_parts 76 = .ok (.invokestatic 77, 3) := by decide +kernel
theorem dX3_parts_79 : decode cX3_parts 79 = .ok (.lsub, 1) := by decide +kernel
theorem dX3_parts_80 : decode cX3_parts 80 = .ok (.lstore_n 3, 1) := by decide +kernel
theorem dX3_parts_81 : decode cX3_parts 81 = .ok (.aload_n 0, 1) := by decide +kernel
theorem dX3_parts_82 : decode cX3_parts 82 = .ok (.iconst 1, 1) := by decide +kernel
theorem dX3_parts_83 : decode cX3_parts 83 = .ok (.putfield 90, 3) := by decide +kernel
theorem dX3_parts_86 : decode cX3_parts 86 = .ok (.lload_n 3, 1) := by decide +kernel
theorem dX3_parts_87 : decode cX3_parts 87 = .ok (.aload_n 0, 1) := by decide +kernel
theorem dX3_parts_88 : decode cX3_parts 88 = .ok (.getfield 86, 3) := by decide +kernel
theorem dX3_parts_91 : decode cX3_parts 91 = .ok (.aload_n 0, 1) := by decide +kernel
theorem dX3_parts_92 : decode cX3_parts 92 = .ok (.getfield 90, 3) := by decide +kernel
theorem dX3_parts_95 : decode cX3_parts 95 = .ok (.invokestatic 80, 3) := by decide +kernel
theorem dX3_parts_98 : decode cX3_parts 98 = .ok (.i2l, 1) := by decide +kernel
theorem dX3_parts_99 : decode cX3_parts 99 = .ok (.lcmp, 1) := by decide +kernel
theorem dX3_parts_100 : decode cX3_parts 100 = .ok (.ifCond .lt 31, 3) := by decide +kernel
theorem dX3_parts_103 : decode cX3_parts 103 = .ok (.lload_n 3, 1) := by decide +kernel
theorem dX3_parts_104 : decode cX3_parts 104 = .ok (.aload_n 0, 1) := by decide +kernel
theorem dX3_parts_105 : decode cX3_parts 105 = .ok (.getfield 86, 3) := by decide +kernel
theorem dX3_parts_108 : decode cX3_parts 108 = .ok (.aload_n 0, 1) := by decide +kernel
theorem dX3_parts_109 : decode cX3_parts 109 = .ok (.getfield 90, 3) := by decide +kernel
theorem dX3_parts_112 : decode cX3_parts 112 = .ok (.invokestatic 80, 3) := by decide +kernel
theorem dX3_parts_115 : decode cX3_parts 115 = .ok (.i2l, 1) := by decide +kernel
theorem dX3_parts_116 : decode cX3_parts 116 = .ok (.lsub, 1) := by decide +kernel
theorem dX3_parts_117 : decode cX3_parts 117 = .ok (.lstore_n 3, 1) := by decide +kernel
theorem dX3_parts_118 : decode cX3_parts 118 = .ok (.aload_n 0, 1) := by decide +kernel
theorem dX3_parts_119 : decode cX3_parts 119 = .ok (.dup, 1) := by decide +kernel
theorem dX3_parts_120 : decode cX3_parts 120 = .ok (.getfield 90, 3) := by decide +kernel
theorem dX3_parts_123 : decode cX3_parts 123 = .ok (.iconst 1, 1) := by decide +kernel
theorem dX3_parts_124 : decode cX3_parts 124 = .ok (.iadd, 1) := by decide +kernel
theorem dX3_parts_125 : decode cX3_parts 125 = .ok (.putfield 90, 3) := by decide +kernel
theorem dX3_parts_128 : decode cX3_parts 128 = .ok (.goto (-42), 3) := by decide +kernel
theorem dX3_parts_131 : decode cX3_parts 131 = .ok (.aload_n 0, 1) := by decide +kernel
theorem dX3_parts_132 : decode cX3_parts 132 = .ok (.lload_n 3, 1) := by decide +kernel
theorem dX3_parts_133 : decode cX3_parts 133 = .ok (.l2i, 1) := by decide +kernel
theorem dX3_parts_134 : decode cX3_parts 134 = .ok (.iconst 1, 1) := by decide +kernel
theorem dX3_parts_135 : decode cX3_parts 135 = .ok (.iadd, 1) := by decide +kernel
theorem dX3_parts_136 : decode cX3_parts 136 = .ok (.putfield 93, 3) := by decide +kernel
theorem dX3_parts_139 : decode cX3_parts 139 = .ok (.return_, 1) := by decide +kernel
set_option maxRecDepth 20000 in
theorem ggX3_isYear_X3_in : GoodIn wsX3_isYear wsX3_in := goodIn_r _ [6] (by decide +kernel) (by decide +kernel)
set_option maxRecDepth 20000 in
theorem gX3_isYear_X3_in : GoodIn wsX3_isYear (va_wsS RX3 100 yX3_in wsX3_in) := goodIn_app (goodIn_of _ (by decide +kernel)) ggX3_isYear_X3_in
theorem dX3_isYear_0 : decode cX3_isYear 0 = .ok (.lload_n 0, 1) := by decide +kernel
theorem dX3_isYear_1 : decode cX3_isYear 1 = .ok (.ldc2_w 96, 3) := by decide +kernel
theorem dX3_isYear_4 : decode cX3_isYear 4 = .ok (.ldc2_w 98, 3) := by decide +kernel
theorem dX3_isYear_7 : decode cX3_isYear 7 = .ok (.invokestatic 100, 3) := by decide +kernel
theorem dX3_isYear_10 : decode cX3_isYear 10 = .ok (.ireturn, 1) := by decide +kernel
set_option maxRecDepth 20000 in
theorem ggX3_isKept_X3_parts : GoodIn wsX3_isKept wsX3_parts := goodIn_r _ [6, 7, 8, 9, 1, 10, 11, 12, 13, 5, 14, 15, 16, 17, 18, 19, 20, 21, 22, 23, 24, 25, 26, 27, 28, 29, 30, 31, 32, 33, 34, 35, 44, 45, 46, 47, 48, 49, 50, 51, 52, 53, 54, 55, 56, 57] (by decide +kernel) (by decide +kernel)
set_option maxRecDepth 20000 in
theorem gX3_isKept_X3_parts : GoodIn wsX3_isKept (wsV RX3 104 RX3 yX3_parts wsX3_parts) := goodIn_app (goodIn_of _ (by decide +kernel)) ggX3_isKept_X3_parts
set_option maxRecDepth 20000 in
theorem ggX3_isKept_X3_isYear : GoodIn wsX3_isKept wsX3_isYear := goodIn_r _ [38, 39, 40, 41, 42, 5, 43] (by decide +kernel) (by decide +kernel)
set_option maxRecDepth 20000 in
theorem gX3_isKept_X3_isYear : GoodIn wsX3_isKept (va_wsS RX3 108 yX3_isYear wsX3_isYear) := goodIn_app (goodIn_of _ (by decide +kernel)) ggX3_isKept_X3_isYear
theorem dX3_isKept_0 : decode cX3_isKept 0 = .ok (.aload_n 0, 1) := by decide +kernel
theorem dX3_isKept_1 : decode cX3_isKept 1 = .ok (.lload_n 1, 1) := by decide +kernel
theorem dX3_isKept_2 : decode cX3_isKept 2 = .ok (.invokevirtual 104, 3) := by decide +kernel
theorem dX3_isKept_5 : decode cX3_isKept 5 = .ok (.aload_n 0, 1) := by decide +kernel
theorem dX3_isKept_6 : decode cX3_isKept 6 = .ok (.getfield 86, 3) := by decide +kernel
theorem dX3_isKept_9 : decode cX3_isKept 9 = .ok (.invokestatic 108, 3) := by decide +kernel
theorem dX3_isKept_12 : decode cX3_isKept 12 = .ok (.ireturn, 1) := by decide +kernel
set_option maxRecDepth 20000 in
theorem ggX3_weekdayOf_X3_rest : GoodIn wsX3_weekdayOf wsX3_rest := goodIn_r _ [6, 7, 8, 5, 9] (by decide +kernel) (by decide +kernel)
set_option maxRecDepth 20000 in
theorem gX3_weekdayOf_X3_rest : GoodIn wsX3_weekdayOf (va_wsS RX3 52 yX3_rest wsX3_rest) := goodIn_app (goodIn_of _ (by decide +kernel)) ggX3_weekdayOf_X3_rest
theorem dX3_weekdayOf_0 : decode cX3_weekdayOf 0 = .ok (.iconst 1, 1) := by decide +kernel
theorem dX3_weekdayOf_1 : decode cX3_weekdayOf 1 = .ok (.lload_n 0, 1) := by decide +kernel
theorem dX3_weekdayOf_2 : decode cX3_weekdayOf 2 = .ok (.ldc2_w 61, 3) := by decide +kernel
theorem dX3_weekdayOf_5 : decode cX3_weekdayOf 5 = .ok (.ladd, 1) := by decide +kernel
theorem dX3_weekdayOf_6 : decode cX3_weekdayOf 6 = .ok (.ldc2_w 111, 3) := by decide +kernel
theorem dX3_weekdayOf_9 : decode cX3_weekdayOf 9 = .ok (.invokestatic 52, 3) := by decide +kernel
theorem dX3_weekdayOf_12 : decode cX3_weekdayOf 12 = .ok (.l2i, 1) := by decide +kernel
theorem dX3_weekdayOf_13 : decode cX3_weekdayOf 13 = .ok (.iadd, 1) := by decide +kernel
theorem dX3_weekdayOf_14 : decode cX3_weekdayOf 14 = .ok (.ireturn, 1) := by decide +kernel
set_option maxRecDepth 20000 in
theorem ggX3_byMonths_X3_parts : GoodIn wsX3_byMonths wsX3_parts := goodIn_r _ [9, 10, 11, 12, 2, 3, 4, 13, 14, 8, 15, 16, 17, 18, 19, 20, 21, 22, 23, 24, 25, 26, 27, 28, 29, 30, 31, 32, 33, 34, 35, 36, 40, 41, 42, 43, 44, 45, 46, 47, 48, 49, 50, 51, 52, 53] (by decide +kernel) (by decide +kernel)
set_option maxRecDepth 20000 in
theorem gX3_byMonths_X3_parts : GoodIn wsX3_byMonths (wsV RX3 104 RX3 yX3_parts wsX3_parts) := goodIn_app (goodIn_of _ (by decide +kernel)) ggX3_byMonths_X3_parts
set_option maxRecDepth 20000 in
theorem ggX3_byMonths_X3_floor : GoodIn wsX3_byMonths wsX3_floor := goodIn_r _ [15] (by decide +kernel) (by decide +kernel)
set_option maxRecDepth 20000 in
theorem gX3_byMonths_X3_floor : GoodIn wsX3_byMonths (va_wsS RX3 46 yX3_floor wsX3_floor) := goodIn_app (goodIn_of _ (by decide +kernel)) ggX3_byMonths_X3_floor
set_option maxRecDepth 20000 in
theorem ggX3_byMonths_X3_rest : GoodIn wsX3_byMonths wsX3_rest := goodIn_r _ [36, 13, 14, 8, 15] (by decide +kernel) (by decide +kernel)
set_option maxRecDepth 20000 in
theorem gX3_byMonths_X3_rest : GoodIn wsX3_byMonths (va_wsS RX3 52 yX3_rest wsX3_rest) := goodIn_app (goodIn_of _ (by decide +kernel)) ggX3_byMonths_X3_rest
set_option maxRecDepth 20000 in
theorem ggX3_byMonths_X3_many : GoodIn wsX3_byMonths wsX3_many := goodIn_r _ [30, 31, 32, 8, 33, 24, 26, 11, 34, 35, 36, 13, 14, 15] (by decide +kernel) (by decide +kernel)
set_option maxRecDepth 20000 in
theorem gX3_byMonths_X3_many : GoodIn wsX3_byMonths (va_wsS RX3 80 yX3_many wsX3_many) := goodIn_app (goodIn_of _ (by decide +kernel)) ggX3_byMonths_X3_many
set_option maxRecDepth 20000 in
theorem ggX3_byMonths_X3_number : GoodIn wsX3_byMonths wsX3_number := goodIn_r _ [39, 16, 17, 8, 18, 10, 19, 20, 21, 22, 23, 24, 25, 26, 27, 11, 13, 14, 15, 28, 29, 30, 31, 32, 33, 34, 35, 36] (by decide +kernel) (by decide +kernel)
set_option maxRecDepth 20000 in
theorem gX3_byMonths_X3_number : GoodIn wsX3_byMonths (va_wsS RX3 115 yX3_number wsX3_number) := goodIn_app (goodIn_of _ (by decide +kernel)) ggX3_byMonths_X3_number
theorem dX3_byMonths_0 : decode cX3_byMonths 0 = .ok (.aload_n 0, 1) := by decide +kernel
theorem dX3_byMonths_1 : decode cX3_byMonths 1 = .ok (.lload_n 1, 1) := by decide +kernel
theorem dX3_byMonths_2 : decode cX3_byMonths 2 = .ok (.invokevirtual 104, 3) := by decide +kernel
theorem dX3_byMonths_5 : decode cX3_byMonths 5 = .ok (.ldc2_w 113, 3) := by decide +kernel
theorem dX3_byMonths_8 : decode cX3_byMonths 8 = .ok (.aload_n 0, 1) := by decide +kernel
theorem dX3_byMonths_9 : decode cX3_byMonths 9 = .ok (.getfield 86, 3) := by decide +kernel
theorem dX3_byMonths_12 : decode cX3_byMonths 12 = .ok (.lmul, 1) := by decide +kernel
theorem dX3_byMonths_13 : decode cX3_byMonths 13 = .ok (.aload_n 0, 1) := by decide +kernel
theorem dX3_byMonths_14 : decode cX3_byMonths 14 = .ok (.getfield 90, 3) := by decide +kernel
theorem dX3_byMonths_17 : decode cX3_byMonths 17 = .ok (.i2l, 1) := by decide +kernel
theorem dX3_byMonths_18 : decode cX3_byMonths 18 = .ok (.ladd, 1) := by decide +kernel
theorem dX3_byMonths_19 : decode cX3_byMonths 19 = .ok (.lconst 1, 1) := by decide +kernel
theorem dX3_byMonths_20 : decode cX3_byMonths 20 = .ok (.lsub, 1) := by decide +kernel
theorem dX3_byMonths_21 : decode cX3_byMonths 21 = .ok (.lload_n 3, 1) := by decide +kernel
theorem dX3_byMonths_22 : decode cX3_byMonths 22 = .ok (.ladd, 1) := by decide +kernel
theorem dX3_byMonths_23 : decode cX3_byMonths 23 = .ok (.lstore 5, 2) := by decide +kernel
theorem dX3_byMonths_25 : decode cX3_byMonths 25 = .ok (.lload 5, 2) := by decide +kernel
theorem dX3_byMonths_27 : decode cX3_byMonths 27 = .ok (.ldc2_w 113, 3) := by decide +kernel
theorem dX3_byMonths_30 : decode cX3_byMonths 30 = .ok (.invokestatic 46, 3) := by decide +kernel
theorem dX3_byMonths_33 : decode cX3_byMonths 33 = .ok (.lstore 7, 2) := by decide +kernel
theorem dX3_byMonths_35 : decode cX3_byMonths 35 = .ok (.iconst 1, 1) := by decide +kernel
theorem dX3_byMonths_36 : decode cX3_byMonths 36 = .ok (.lload 5, 2) := by decide +kernel
theorem dX3_byMonths_38 : decode cX3_byMonths 38 = .ok (.ldc2_w 113, 3) := by decide +kernel
theorem dX3_byMonths_41 : decode cX3_byMonths 41 = .ok (.invokestatic 52, 3) := by decide +kernel
theorem dX3_byMonths_44 : decode cX3_byMonths 44 = .ok (.l2i, 1) := by decide +kernel
theorem dX3_byMonths_45 : decode cX3_byMonths 45 = .ok (.iadd, 1) := by decide +kernel
theorem dX3_byMonths_46 : decode cX3_byMonths 46 = .ok (.istore 9, 2) := by decide +kernel
theorem dX3_byMonths_48 : decode cX3_byMonths 48 = .ok (.lload 7, 2) := by decide +kernel
theorem dX3_byMonths_50 : decode cX3_byMonths 50 = .ok (.iload 9, 2) := by decide +kernel
theorem dX3_byMonths_52 : decode cX3_byMonths 52 = .ok (.aload_n 0, 1) := by decide +kernel
theorem dX3_byMonths_53 : decode cX3_byMonths 53 = .ok (.getfield 93, 3) := by decide +kernel
theorem dX3_byMonths_56 : decode cX3_byMonths 56 = .ok (.lload 7, 2) := by decide +kernel
theorem dX3_byMonths_58 : decode cX3_byMonths 58 = .ok (.iload 9, 2) := by decide +kernel
theorem dX3_byMonths_60 : decode cX3_byMonths 60 = .ok (.invokestatic 80, 3) := by decide +kernel
theorem dX3_byMonths_63 : decode cX3_byMonths 63 = .ok (.if_icmp .le 13, 3) := by decide +kernel
theorem dX3_byMonths_66 : decode cX3_byMonths 66 = .ok (.lload 7, 2) := by decide +kernel
theorem dX3_byMonths_68 : decode cX3_byMonths 68 = .ok (.iload 9, 2) := by decide +kernel
theorem dX3_byMonths_70 : decode cX3_byMonths 70 = .ok (.invokestatic 80, 3) := by decide +kernel
theorem dX3_byMonths_73 : decode cX3_byMonths 73 = .ok (.goto 7, 3) := by decide +kernel
theorem dX3_byMonths_76 : decode cX3_byMonths 76 = .ok (.aload_n 0, 1) := by decide +kernel
theorem dX3_byMonths_77 : decode cX3_byMonths 77 = .ok (.getfield 93, 3) := by decide +kernel
theorem dX3_byMonths_80 : decode cX3_byMonths 80 = .ok (.invokestatic 115, 3) := by decide +kernel
theorem dX3_byMonths_83 : decode cX3_byMonths 83 = .ok (.lreturn, 1) := by decide +kernel
set_option maxRecDepth 20000 in
theorem ggX3_isDate_X3_in : GoodIn wsX3_isDate wsX3_in := goodIn_r _ [5] (by decide +kernel) (by decide +kernel)
set_option maxRecDepth 20000 in
theorem gX3_isDate_X3_in : GoodIn wsX3_isDate (va_wsS RX3 100 yX3_in wsX3_in) := goodIn_app (goodIn_of _ (by decide +kernel)) ggX3_isDate_X3_in
theorem dX3_isDate_0 : decode cX3_isDate 0 = .ok (.iload_n 0, 1) := by decide +kernel
theorem dX3_isDate_1 : decode cX3_isDate 1 = .ok (.i2l, 1) := by decide +kernel
theorem dX3_isDate_2 : decode cX3_isDate 2 = .ok (.lconst 0, 1) := by decide +kernel
theorem dX3_isDate_3 : decode cX3_isDate 3 = .ok (.ldc2_w 119, 3) := by decide +kernel
theorem dX3_isDate_6 : decode cX3_isDate 6 = .ok (.invokestatic 100, 3) := by decide +kernel
theorem dX3_isDate_9 : decode cX3_isDate 9 = .ok (.ireturn, 1) := by decide +kernel
set_option maxRecDepth 20000 in
theorem ggX3_isSlot_X3_in : GoodIn wsX3_isSlot wsX3_in := goodIn_r _ [5] (by decide +kernel) (by decide +kernel)
set_option maxRecDepth 20000 in
theorem gX3_isSlot_X3_in : GoodIn wsX3_isSlot (va_wsS RX3 100 yX3_in wsX3_in) := goodIn_app (goodIn_of _ (by decide +kernel)) ggX3_isSlot_X3_in
theorem dX3_isSlot_0 : decode cX3_isSlot 0 = .ok (.iload_n 0, 1) := by decide +kernel
theorem dX3_isSlot_1 : decode cX3_isSlot 1 = .ok (.i2l, 1) := by decide +kernel
theorem dX3_isSlot_2 : decode cX3_isSlot 2 = .ok (.lconst 0, 1) := by decide +kernel
theorem dX3_isSlot_3 : decode cX3_isSlot 3 = .ok (.ldc2_w 61, 3) := by decide +kernel
theorem dX3_isSlot_6 : decode cX3_isSlot 6 = .ok (.invokestatic 100, 3) := by decide +kernel
theorem dX3_isSlot_9 : decode cX3_isSlot 9 = .ok (.ireturn, 1) := by decide +kernel
set_option maxRecDepth 20000 in
theorem ggX3_date_X3_isDate : GoodIn wsX3_date wsX3_isDate := goodIn_r _ [6, 7, 8, 9, 5, 10] (by decide +kernel) (by decide +kernel)
set_option maxRecDepth 20000 in
theorem gX3_date_X3_isDate : GoodIn wsX3_date (va_wsS RX3 121 yX3_isDate wsX3_isDate) := goodIn_app (goodIn_of _ (by decide +kernel)) ggX3_date_X3_isDate
set_option maxRecDepth 20000 in
theorem ggX3_date_X3_isYear : GoodIn wsX3_date wsX3_isYear := goodIn_r _ [13, 14, 15, 8, 9, 5, 10] (by decide +kernel) (by decide +kernel)
set_option maxRecDepth 20000 in
theorem gX3_date_X3_isYear : GoodIn wsX3_date (va_wsS RX3 108 yX3_isYear wsX3_isYear) := goodIn_app (goodIn_of _ (by decide +kernel)) ggX3_date_X3_isYear
set_option maxRecDepth 20000 in
theorem ggX3_date_X3_in : GoodIn wsX3_date wsX3_in := goodIn_r _ [10] (by decide +kernel) (by decide +kernel)
set_option maxRecDepth 20000 in
theorem gX3_date_X3_in : GoodIn wsX3_date (va_wsS RX3 100 yX3_in wsX3_in) := goodIn_app (goodIn_of _ (by decide +kernel)) ggX3_date_X3_in
set_option maxRecDepth 20000 in
theorem ggX3_date_X3_many : GoodIn wsX3_date wsX3_many := goodIn_r _ [18, 19, 20, 5, 21, 22, 23, 24, 25, 26, 27, 28, 29, 30] (by decide +kernel) (by decide +kernel)
set_option maxRecDepth 20000 in
theorem gX3_date_X3_many : GoodIn wsX3_date (va_wsS RX3 80 yX3_many wsX3_many) := goodIn_app (goodIn_of _ (by decide +kernel)) ggX3_date_X3_many
set_option maxRecDepth 20000 in
theorem ggX3_date_X3_fails : GoodIn wsX3_date wsX3_fails := goodIn_r _ [34, 35, 50, 51, 52, 53, 54, 55, 56, 57, 58, 59, 60, 61, 62, 63] (by decide +kernel) (by decide +kernel)
set_option maxRecDepth 20000 in
theorem gX3_date_X3_fails : GoodIn wsX3_date (wsV RX3 125 RX3 yX3_fails wsX3_fails) := goodIn_app (goodIn_of _ (by decide +kernel)) ggX3_date_X3_fails
set_option maxRecDepth 20000 in
theorem ggX3_date_X3_number : GoodIn wsX3_date wsX3_number := goodIn_r _ [38, 39, 40, 5, 41, 42, 43, 44, 45, 46, 47, 22, 48, 23, 49, 24, 28, 29, 30, 16, 17, 18, 19, 20, 21, 25, 26, 27] (by decide +kernel) (by decide +kernel)
set_option maxRecDepth 20000 in
theorem gX3_date_X3_number : GoodIn wsX3_date (va_wsS RX3 115 yX3_number wsX3_number) := goodIn_app (goodIn_of _ (by decide +kernel)) ggX3_date_X3_number
theorem dX3_date_0 : decode cX3_date 0 = .ok (.aload_n 0, 1) := by decide +kernel
theorem dX3_date_1 : decode cX3_date 1 = .ok (.iload_n 1, 1) := by decide +kernel
theorem dX3_date_2 : decode cX3_date 2 = .ok (.invokestatic 121, 3) := by decide +kernel
theorem dX3_date_5 : decode cX3_date 5 = .ok (.ifCond .ne 7, 3) := by decide +kernel
theorem dX3_date_8 : decode cX3_date 8 = .ok (.iconst 1, 1) := by decide +kernel
theorem dX3_date_9 : decode cX3_date 9 = .ok (.goto 61, 3) := by decide +kernel
theorem dX3_date_12 : decode cX3_date 12 = .ok (.iload_n 2, 1) := by decide +kernel
theorem dX3_date_13 : decode cX3_date 13 = .ok (.i2l, 1) := by decide +kernel
theorem dX3_date_14 : decode cX3_date 14 = .ok (.invokestatic 108, 3) := by decide +kernel
theorem dX3_date_17 : decode cX3_date 17 = .ok (.ifCond .eq 52, 3) := by decide +kernel
theorem dX3_date_20 : decode cX3_date 20 = .ok (.iload_n 3, 1) := by decide +kernel
theorem dX3_date_21 : decode cX3_date 21 = .ok (.i2l, 1) := by decide +kernel
theorem dX3_date_22 : decode cX3_date 22 = .ok (.lconst 1, 1) := by decide +kernel
theorem dX3_date_23 : decode cX3_date 23 = .ok (.ldc2_w 113, 3) := by decide +kernel
theorem dX3_date_26 : decode cX3_date 26 = .ok (.invokestatic 100, 3) := by decide +kernel
theorem dX3_date_29 : decode cX3_date 29 = .ok (.ifCond .eq 40, 3) := by decide +kernel
theorem dX3_date_32 : decode cX3_date 32 = .ok (.iload 4, 2) := by decide +kernel
theorem dX3_date_34 : decode cX3_date 34 = .ok (.i2l, 1) := by decide +kernel
theorem dX3_date_35 : decode cX3_date 35 = .ok (.lconst 1, 1) := by decide +kernel
theorem dX3_date_36 : decode cX3_date 36 = .ok (.iload_n 3, 1) := by decide +kernel
theorem dX3_date_37 : decode cX3_date 37 = .ok (.i2l, 1) := by decide +kernel
theorem dX3_date_38 : decode cX3_date 38 = .ok (.lconst 1, 1) := by decide +kernel
theorem dX3_date_39 : decode cX3_date 39 = .ok (.ldc2_w 113, 3) := by decide +kernel
theorem dX3_date_42 : decode cX3_date 42 = .ok (.invokestatic 100, 3) := by decide +kernel
theorem dX3_date_45 : decode cX3_date 45 = .ok (.ifCond .eq 13, 3) := by decide +kernel
theorem dX3_date_48 : decode cX3_date 48 = .ok (.iload_n 2, 1) := by decide +kernel
theorem dX3_date_49 : decode cX3_date 49 = .ok (.i2l, 1) := by decide +kernel
theorem dX3_date_50 : decode cX3_date 50 = .ok (.iload_n 3, 1) := by decide +kernel
theorem dX3_date_51 : decode cX3_date 51 = .ok (.invokestatic 80, 3) := by decide +kernel
theorem dX3_date_54 : decode cX3_date 54 = .ok (.i2l, 1) := by decide +kernel
theorem dX3_date_55 : decode cX3_date 55 = .ok (.goto 4, 3) := by decide +kernel
theorem dX3_date_58 : decode cX3_date 58 = .ok (.lconst 0, 1) := by decide +kernel
theorem dX3_date_59 : decode cX3_date 59 = .ok (.invokestatic 100, 3) := by decide +kernel
theorem dX3_date_62 : decode cX3_date 62 = .ok (.ifCond .eq 7, 3) := by decide +kernel
theorem dX3_date_65 : decode cX3_date 65 = .ok (.iconst 0, 1) := by decide +kernel
theorem dX3_date_66 : decode cX3_date 66 = .ok (.goto 4, 3) := by decide +kernel
theorem dX3_date_69 : decode cX3_date 69 = .ok (.iconst 2, 1) := by decide +kernel
theorem dX3_date_70 : decode cX3_date 70 = .ok (.invokevirtual 125, 3) := by decide +kernel
theorem dX3_date_73 : decode cX3_date 73 = .ok (.ifCond .eq 5, 3) := by decide +kernel
theorem dX3_date_76 : decode cX3_date 76 = .ok (.lconst 0, 1) := by decide +kernel
theorem dX3_date_77 : decode cX3_date 77 = .ok (.lreturn, 1) := by decide +kernel
theorem dX3_date_78 : decode cX3_date 78 = .ok (.aload_n 0, 1) := by decide +kernel
theorem dX3_date_79 : decode cX3_date 79 = .ok (.getfield 13, 3) := by decide +kernel
theorem dX3_date_82 : decode cX3_date 82 = .ok (.iload_n 1, 1) := by decide +kernel
theorem dX3_date_83 : decode cX3_date 83 = .ok (.iload_n 2, 1) := by decide +kernel
theorem dX3_date_84 : decode cX3_date 84 = .ok (.i2l, 1) := by decide +kernel
theorem dX3_date_85 : decode cX3_date 85 = .ok (.iload_n 3, 1) := by decide +kernel
theorem dX3_date_86 : decode cX3_date 86 = .ok (.iload 4, 2) := by decide +kernel
theorem dX3_date_88 : decode cX3_date 88 = .ok (.invokestatic 115, 3) := by decide +kernel
theorem dX3_date_91 : decode cX3_date 91 = .ok (.lastore, 1) := by decide +kernel
theorem dX3_date_92 : decode cX3_date 92 = .ok (.aload_n 0, 1) := by decide +kernel
theorem dX3_date_93 : decode cX3_date 93 = .ok (.getfield 13, 3) := by decide +kernel
theorem dX3_date_96 : decode cX3_date 96 = .ok (.iload_n 1, 1) := by decide +kernel
theorem dX3_date_97 : decode cX3_date 97 = .ok (.laload, 1) := by decide +kernel
theorem dX3_date_98 : decode cX3_date 98 = .ok (.lreturn, 1) := by decide +kernel
set_option maxRecDepth 20000 in
theorem ggX3_ofDay_X3_isDate : GoodIn wsX3_ofDay wsX3_isDate := goodIn_r _ [8, 9, 10, 11, 7, 12] (by decide +kernel) (by decide +kernel)
set_option maxRecDepth 20000 in
theorem gX3_ofDay_X3_isDate : GoodIn wsX3_ofDay (va_wsS RX3 121 yX3_isDate wsX3_isDate) := goodIn_app (goodIn_of _ (by decide +kernel)) ggX3_ofDay_X3_isDate
set_option maxRecDepth 20000 in
theorem ggX3_ofDay_X3_first : GoodIn wsX3_ofDay wsX3_first := goodIn_r _ [15, 16, 17, 18, 7, 19, 20, 21, 22, 23, 24, 25, 26, 27, 28, 29] (by decide +kernel) (by decide +kernel)
set_option maxRecDepth 20000 in
theorem gX3_ofDay_X3_first : GoodIn wsX3_ofDay (va_wsS RX3 77 yX3_first wsX3_first) := goodIn_app (goodIn_of _ (by decide +kernel)) ggX3_ofDay_X3_first
set_option maxRecDepth 20000 in
theorem ggX3_ofDay_X3_in : GoodIn wsX3_ofDay wsX3_in := goodIn_r _ [12] (by decide +kernel) (by decide +kernel)
set_option maxRecDepth 20000 in
theorem gX3_ofDay_X3_in : GoodIn wsX3_ofDay (va_wsS RX3 100 yX3_in wsX3_in) := goodIn_app (goodIn_of _ (by decide +kernel)) ggX3_ofDay_X3_in
set_option maxRecDepth 20000 in
theorem ggX3_ofDay_X3_fails : GoodIn wsX3_ofDay wsX3_fails := goodIn_r _ [33, 34, 51, 52, 53, 54, 55, 56, 57, 58, 59, 60, 61, 62, 63, 64] (by decide +kernel) (by decide +kernel)
set_option maxRecDepth 20000 in
theorem gX3_ofDay_X3_fails : GoodIn wsX3_ofDay (wsV RX3 125 RX3 yX3_fails wsX3_fails) := goodIn_app (goodIn_of _ (by decide +kernel)) ggX3_ofDay_X3_fails
set_option maxRecDepth 20000 in
theorem ggX3_ofDay_X3_parts : GoodIn wsX3_ofDay wsX3_parts := goodIn_r _ [38, 16, 26, 39, 4, 40, 41, 27, 28, 7, 29, 13, 14, 15, 17, 18, 19, 20, 21, 22, 23, 24, 25, 42, 43, 44, 45, 46, 47, 48, 49, 50, 51, 52, 53, 54, 55, 56, 57, 58, 59, 60, 61, 62, 63, 64] (by decide +kernel) (by decide +kernel)
set_option maxRecDepth 20000 in
theorem gX3_ofDay_X3_parts : GoodIn wsX3_ofDay (wsV RX3 104 RX3 yX3_parts wsX3_parts) := goodIn_app (goodIn_of _ (by decide +kernel)) ggX3_ofDay_X3_parts
theorem dX3_ofDay_0 : decode cX3_ofDay 0 = .ok (.aload_n 0, 1) := by decide +kernel
theorem dX3_ofDay_1 : decode cX3_ofDay 1 = .ok (.iload_n 1, 1) := by decide +kernel
theorem dX3_ofDay_2 : decode cX3_ofDay 2 = .ok (.invokestatic 121, 3) := by decide +kernel
theorem dX3_ofDay_5 : decode cX3_ofDay 5 = .ok (.ifCond .ne 7, 3) := by decide +kernel
theorem dX3_ofDay_8 : decode cX3_ofDay 8 = .ok (.iconst 1, 1) := by decide +kernel
theorem dX3_ofDay_9 : decode cX3_ofDay 9 = .ok (.goto 29, 3) := by decide +kernel
theorem dX3_ofDay_12 : decode cX3_ofDay 12 = .ok (.lload_n 2, 1) := by decide +kernel
theorem dX3_ofDay_13 : decode cX3_ofDay 13 = .ok (.ldc2_w 96, 3) := by decide +kernel
theorem dX3_ofDay_16 : decode cX3_ofDay 16 = .ok (.invokestatic 77, 3) := by decide +kernel
theorem dX3_ofDay_19 : decode cX3_ofDay 19 = .ok (.ldc2_w 128, 3) := by decide +kernel
theorem dX3_ofDay_22 : decode cX3_ofDay 22 = .ok (.invokestatic 77, 3) := by decide +kernel
theorem dX3_ofDay_25 : decode cX3_ofDay 25 = .ok (.lconst 1, 1) := by decide +kernel
theorem dX3_ofDay_26 : decode cX3_ofDay 26 = .ok (.lsub, 1) := by decide +kernel
theorem dX3_ofDay_27 : decode cX3_ofDay 27 = .ok (.invokestatic 100, 3) := by decide +kernel
theorem dX3_ofDay_30 : decode cX3_ofDay 30 = .ok (.ifCond .eq 7, 3) := by decide +kernel
theorem dX3_ofDay_33 : decode cX3_ofDay 33 = .ok (.iconst 0, 1) := by decide +kernel
theorem dX3_ofDay_34 : decode cX3_ofDay 34 = .ok (.goto 4, 3) := by decide +kernel
theorem dX3_ofDay_37 : decode cX3_ofDay 37 = .ok (.iconst 2, 1) := by decide +kernel
theorem dX3_ofDay_38 : decode cX3_ofDay 38 = .ok (.invokevirtual 125, 3) := by decide +kernel
theorem dX3_ofDay_41 : decode cX3_ofDay 41 = .ok (.ifCond .eq 5, 3) := by decide +kernel
theorem dX3_ofDay_44 : decode cX3_ofDay 44 = .ok (.iconst 0, 1) := by decide +kernel
theorem dX3_ofDay_45 : decode cX3_ofDay 45 = .ok (.ireturn, 1) := by decide +kernel
theorem dX3_ofDay_46 : decode cX3_ofDay 46 = .ok (.aload_n 0, 1) := by decide +kernel
theorem dX3_ofDay_47 : decode cX3_ofDay 47 = .ok (.getfield 13, 3) := by decide +kernel
theorem dX3_ofDay_50 : decode cX3_ofDay 50 = .ok (.iload_n 1, 1) := by decide +kernel
theorem dX3_ofDay_51 : decode cX3_ofDay 51 = .ok (.lload_n 2, 1) := by decide +kernel
theorem dX3_ofDay_52 : decode cX3_ofDay 52 = .ok (.lastore, 1) := by decide +kernel
theorem dX3_ofDay_53 : decode cX3_ofDay 53 = .ok (.aload_n 0, 1) := by decide +kernel
theorem dX3_ofDay_54 : decode cX3_ofDay 54 = .ok (.lload_n 2, 1) := by decide +kernel
theorem dX3_ofDay_55 : decode cX3_ofDay 55 = .ok (.invokevirtual 104, 3) := by decide +kernel
theorem dX3_ofDay_58 : decode cX3_ofDay 58 = .ok (.aload_n 0, 1) := by decide +kernel
theorem dX3_ofDay_59 : decode cX3_ofDay 59 = .ok (.getfield 86, 3) := by decide +kernel
theorem dX3_ofDay_62 : decode cX3_ofDay 62 = .ok (.l2i, 1) := by decide +kernel
theorem dX3_ofDay_63 : decode cX3_ofDay 63 = .ok (.ireturn, 1) := by decide +kernel
set_option maxRecDepth 20000 in
theorem ggX3_day_X3_isDate : GoodIn wsX3_day wsX3_isDate := goodIn_r _ [5, 6, 7, 8, 4, 9] (by decide +kernel) (by decide +kernel)
set_option maxRecDepth 20000 in
theorem gX3_day_X3_isDate : GoodIn wsX3_day (va_wsS RX3 121 yX3_isDate wsX3_isDate) := goodIn_app (goodIn_of _ (by decide +kernel)) ggX3_day_X3_isDate
set_option maxRecDepth 20000 in
theorem ggX3_day_X3_fails : GoodIn wsX3_day wsX3_fails := goodIn_r _ [13, 14, 15, 16, 17, 18, 19, 20, 21, 22, 23, 24, 25, 26, 27, 28] (by decide +kernel) (by decide +kernel)
set_option maxRecDepth 20000 in
theorem gX3_day_X3_fails : GoodIn wsX3_day (wsV RX3 125 RX3 yX3_fails wsX3_fails) := goodIn_app (goodIn_of _ (by decide +kernel)) ggX3_day_X3_fails
theorem dX3_day_0 : decode cX3_day 0 = .ok (.aload_n 0, 1) := by decide +kernel
theorem dX3_day_1 : decode cX3_day 1 = .ok (.iload_n 1, 1) := by decide +kernel
theorem dX3_day_2 : decode cX3_day 2 = .ok (.invokestatic 121, 3) := by decide +kernel
theorem dX3_day_5 : decode cX3_day 5 = .ok (.ifCond .eq 7, 3) := by decide +kernel
theorem dX3_day_8 : decode cX3_day 8 = .ok (.iconst 0, 1) := by decide +kernel
theorem dX3_day_9 : decode cX3_day 9 = .ok (.goto 4, 3) := by decide +kernel
theorem dX3_day_12 : decode cX3_day 12 = .ok (.iconst 1, 1) := by decide +kernel
theorem dX3_day_13 : decode cX3_day 13 = .ok (.invokevirtual 125, 3) := by decide +kernel
theorem dX3_day_16 : decode cX3_day 16 = .ok (.ifCond .eq 7, 3) := by decide +kernel
theorem dX3_day_19 : decode cX3_day 19 = .ok (.lconst 0, 1) := by decide +kernel
theorem dX3_day_20 : decode cX3_day 20 = .ok (.goto 9, 3) := by decide +kernel
theorem dX3_day_23 : decode cX3_day 23 = .ok (.aload_n 0, 1) := by decide +kernel
theorem dX3_day_24 : decode cX3_day 24 = .ok (.getfield 13, 3) := by decide +kernel
theorem dX3_day_27 : decode cX3_day 27 = .ok (.iload_n 1, 1) := by decide +kernel
theorem dX3_day_28 : decode cX3_day 28 = .ok (.laload, 1) := by decide +kernel
theorem dX3_day_29 : decode cX3_day 29 = .ok (.lreturn, 1) := by decide +kernel
set_option maxRecDepth 20000 in
theorem ggX3_part_X3_isDate : GoodIn wsX3_part wsX3_isDate := goodIn_r _ [8, 9, 10, 11, 7, 12] (by decide +kernel) (by decide +kernel)
set_option maxRecDepth 20000 in
theorem gX3_part_X3_isDate : GoodIn wsX3_part (va_wsS RX3 121 yX3_isDate wsX3_isDate) := goodIn_app (goodIn_of _ (by decide +kernel)) ggX3_part_X3_isDate
set_option maxRecDepth 20000 in
theorem ggX3_part_X3_fails : GoodIn wsX3_part wsX3_fails := goodIn_r _ [16, 17, 53, 54, 55, 56, 57, 58, 59, 60, 61, 62, 63, 64, 65, 66] (by decide +kernel) (by decide +kernel)
set_option maxRecDepth 20000 in
theorem gX3_part_X3_fails : GoodIn wsX3_part (wsV RX3 125 RX3 yX3_fails wsX3_fails) := goodIn_app (goodIn_of _ (by decide +kernel)) ggX3_part_X3_fails
set_option maxRecDepth 20000 in
theorem ggX3_part_X3_parts : GoodIn wsX3_part wsX3_parts := goodIn_r _ [21, 22, 23, 24, 2, 3, 4, 25, 26, 7, 27, 28, 29, 30, 31, 32, 33, 34, 35, 36, 37, 38, 39, 40, 41, 42, 43, 44, 45, 46, 47, 48, 53, 54, 55, 56, 57, 58, 59, 60, 61, 62, 63, 64, 65, 66] (by decide +kernel) (by decide +kernel)
set_option maxRecDepth 20000 in
theorem gX3_part_X3_parts : GoodIn wsX3_part (wsV RX3 104 RX3 yX3_parts wsX3_parts) := goodIn_app (goodIn_of _ (by decide +kernel)) ggX3_part_X3_parts
set_option maxRecDepth 20000 in
theorem ggX3_part_X3_first : GoodIn wsX3_part wsX3_first := goodIn_r _ [30, 22, 31, 32, 7, 33, 34, 35, 36, 37, 38, 39, 23, 25, 26, 27] (by decide +kernel) (by decide +kernel)
set_option maxRecDepth 20000 in
theorem gX3_part_X3_first : GoodIn wsX3_part (va_wsS RX3 77 yX3_first wsX3_first) := goodIn_app (goodIn_of _ (by decide +kernel)) ggX3_part_X3_first
set_option maxRecDepth 20000 in
theorem ggX3_part_X3_weekdayOf : GoodIn wsX3_part wsX3_weekdayOf := goodIn_r _ [51, 35, 52, 46, 47, 7, 48, 25, 26, 27] (by decide +kernel) (by decide +kernel)
set_option maxRecDepth 20000 in
theorem gX3_part_X3_weekdayOf : GoodIn wsX3_part (va_wsS RX3 130 yX3_weekdayOf wsX3_weekdayOf) := goodIn_app (goodIn_of _ (by decide +kernel)) ggX3_part_X3_weekdayOf
set_option maxRecDepth 20000 in
theorem ggX3_part_X3_many : GoodIn wsX3_part wsX3_many := goodIn_r _ [42, 43, 44, 7, 45, 36, 38, 23, 46, 47, 48, 25, 26, 27] (by decide +kernel) (by decide +kernel)
set_option maxRecDepth 20000 in
theorem gX3_part_X3_many : GoodIn wsX3_part (va_wsS RX3 80 yX3_many wsX3_many) := goodIn_app (goodIn_of _ (by decide +kernel)) ggX3_part_X3_many
set_option maxRecDepth 20000 in
theorem ggX3_part_X3_isLong : GoodIn wsX3_part wsX3_isLong := goodIn_r _ [45, 36, 38, 23, 46, 47, 7, 48, 25, 26, 27] (by decide +kernel) (by decide +kernel)
set_option maxRecDepth 20000 in
theorem gX3_part_X3_isLong : GoodIn wsX3_part (va_wsS RX3 73 yX3_isLong wsX3_isLong) := goodIn_app (goodIn_of _ (by decide +kernel)) ggX3_part_X3_isLong
theorem dX3_part_0 : decode cX3_part 0 = .ok (.aload_n 0, 1) := by decide +kernel
theorem dX3_part_1 : decode cX3_part 1 = .ok (.iload_n 1, 1) := by decide +kernel
theorem dX3_part_2 : decode cX3_part 2 = .ok (.invokestatic 121, 3) := by decide +kernel
theorem dX3_part_5 : decode cX3_part 5 = .ok (.ifCond .ne 7, 3) := by decide +kernel
theorem dX3_part_8 : decode cX3_part 8 = .ok (.iconst 1, 1) := by decide +kernel
theorem dX3_part_9 : decode cX3_part 9 = .ok (.goto 56, 3) := by decide +kernel
theorem dX3_part_12 : decode cX3_part 12 = .ok (.iload_n 2, 1) := by decide +kernel
theorem dX3_part_13 : decode cX3_part 13 = .ok (.bipush 121, 2) := by decide +kernel
theorem dX3_part_15 : decode cX3_part 15 = .ok (.if_icmp .eq 45, 3) := by decide +kernel
theorem dX3_part_18 : decode cX3_part 18 = .ok (.iload_n 2, 1) := by decide +kernel
theorem dX3_part_19 : decode cX3_part 19 = .ok (.bipush 109, 2) := by decide +kernel
theorem dX3_part_21 : decode cX3_part 21 = .ok (.if_icmp .eq 39, 3) := by decide +kernel
theorem dX3_part_24 : decode cX3_part 24 = .ok (.iload_n 2, 1) := by decide +kernel
theorem dX3_part_25 : decode cX3_part 25 = .ok (.bipush 100, 2) := by decide +kernel
theorem dX3_part_27 : decode cX3_part 27 = .ok (.if_icmp .eq 33, 3) := by decide +kernel
theorem dX3_part_30 : decode cX3_part 30 = .ok (.iload_n 2, 1) := by decide +kernel
theorem dX3_part_31 : decode cX3_part 31 = .ok (.bipush 110, 2) := by decide +kernel
theorem dX3_part_33 : decode cX3_part 33 = .ok (.if_icmp .eq 27, 3) := by decide +kernel
theorem dX3_part_36 : decode cX3_part 36 = .ok (.iload_n 2, 1) := by decide +kernel
theorem dX3_part_37 : decode cX3_part 37 = .ok (.bipush 119, 2) := by decide +kernel
theorem dX3_part_39 : decode cX3_part 39 = .ok (.if_icmp .eq 21, 3) := by decide +kernel
theorem dX3_part_42 : decode cX3_part 42 = .ok (.iload_n 2, 1) := by decide +kernel
theorem dX3_part_43 : decode cX3_part 43 = .ok (.bipush 108, 2) := by decide +kernel
theorem dX3_part_45 : decode cX3_part 45 = .ok (.if_icmp .eq 15, 3) := by decide +kernel
theorem dX3_part_48 : decode cX3_part 48 = .ok (.iload_n 2, 1) := by decide +kernel
theorem dX3_part_49 : decode cX3_part 49 = .ok (.bipush 76, 2) := by decide +kernel
theorem dX3_part_51 : decode cX3_part 51 = .ok (.if_icmp .eq 9, 3) := by decide +kernel
theorem dX3_part_54 : decode cX3_part 54 = .ok (.iload_n 2, 1) := by decide +kernel
theorem dX3_part_55 : decode cX3_part 55 = .ok (.bipush 98, 2) := by decide +kernel
theorem dX3_part_57 : decode cX3_part 57 = .ok (.if_icmp .ne 7, 3) := by decide +kernel
theorem dX3_part_60 : decode cX3_part 60 = .ok (.iconst 0, 1) := by decide +kernel
theorem dX3_part_61 : decode cX3_part 61 = .ok (.goto 4, 3) := by decide +kernel
theorem dX3_part_64 : decode cX3_part 64 = .ok (.iconst 2, 1) := by decide +kernel
theorem dX3_part_65 : decode cX3_part 65 = .ok (.invokevirtual 125, 3) := by decide +kernel
theorem dX3_part_68 : decode cX3_part 68 = .ok (.ifCond .eq 5, 3) := by decide +kernel
theorem dX3_part_71 : decode cX3_part 71 = .ok (.iconst 0, 1) := by decide +kernel
theorem dX3_part_72 : decode cX3_part 72 = .ok (.ireturn, 1) := by decide +kernel
theorem dX3_part_73 : decode cX3_part 73 = .ok (.aload_n 0, 1) := by decide +kernel
theorem dX3_part_74 : decode cX3_part 74 = .ok (.aload_n 0, 1) := by decide +kernel
theorem dX3_part_75 : decode cX3_part 75 = .ok (.getfield 13, 3) := by decide +kernel
theorem dX3_part_78 : decode cX3_part 78 = .ok (.iload_n 1, 1) := by decide +kernel
theorem dX3_part_79 : decode cX3_part 79 = .ok (.laload, 1) := by decide +kernel
theorem dX3_part_80 : decode cX3_part 80 = .ok (.invokevirtual 104, 3) := by decide +kernel
theorem dX3_part_83 : decode cX3_part 83 = .ok (.iload_n 2, 1) := by decide +kernel
theorem dX3_part_84 : decode cX3_part 84 = .ok (.lookupswitch 144 #[(76, 124), (100, 79), (108, 112), (109, 74), (110, 84), (119, 102), (121, 68)], 68) := by decide +kernel
theorem dX3_part_152 : decode cX3_part 152 = .ok (.aload_n 0, 1) := by decide +kernel
theorem dX3_part_153 : decode cX3_part 153 = .ok (.getfield 86, 3) := by decide +kernel
theorem dX3_part_156 : decode cX3_part 156 = .ok (.l2i, 1) := by decide +kernel
theorem dX3_part_157 : decode cX3_part 157 = .ok (.ireturn, 1) := by decide +kernel
theorem dX3_part_158 : decode cX3_part 158 = .ok (.aload_n 0, 1) := by decide +kernel
theorem dX3_part_159 : decode cX3_part 159 = .ok (.getfield 90, 3) := by decide +kernel
theorem dX3_part_162 : decode cX3_part 162 = .ok (.ireturn, 1) := by decide +kernel
theorem dX3_part_163 : decode cX3_part 163 = .ok (.aload_n 0, 1) := by decide +kernel
theorem dX3_part_164 : decode cX3_part 164 = .ok (.getfield 93, 3) := by decide +kernel
theorem dX3_part_167 : decode cX3_part 167 = .ok (.ireturn, 1) := by decide +kernel
theorem dX3_part_168 : decode cX3_part 168 = .ok (.aload_n 0, 1) := by decide +kernel
theorem dX3_part_169 : decode cX3_part 169 = .ok (.getfield 13, 3) := by decide +kernel
theorem dX3_part_172 : decode cX3_part 172 = .ok (.iload_n 1, 1) := by decide +kernel
theorem dX3_part_173 : decode cX3_part 173 = .ok (.laload, 1) := by decide +kernel
theorem dX3_part_174 : decode cX3_part 174 = .ok (.aload_n 0, 1) := by decide +kernel
theorem dX3_part_175 : decode cX3_part 175 = .ok (.getfield 86, 3) := by decide +kernel
theorem dX3_part_178 : decode cX3_part 178 = .ok (.invokestatic 77, 3) := by decide +kernel
theorem dX3_part_181 : decode cX3_part 181 = .ok (.lsub, 1) := by decide +kernel
theorem dX3_part_182 : decode cX3_part 182 = .ok (.l2i, 1) := by decide +kernel
theorem dX3_part_183 : decode cX3_part 183 = .ok (.iconst 1, 1) := by decide +kernel
theorem dX3_part_184 : decode cX3_part 184 = .ok (.iadd, 1) := by decide +kernel
theorem dX3_part_185 : decode cX3_part 185 = .ok (.ireturn, 1) := by decide +kernel
theorem dX3_part_186 : decode cX3_part 186 = .ok (.aload_n 0, 1) := by decide +kernel
theorem dX3_part_187 : decode cX3_part 187 = .ok (.getfield 13, 3) := by decide +kernel
theorem dX3_part_190 : decode cX3_part 190 = .ok (.iload_n 1, 1) := by decide +kernel
theorem dX3_part_191 : decode cX3_part 191 = .ok (.laload, 1) := by decide +kernel
theorem dX3_part_192 : decode cX3_part 192 = .ok (.invokestatic 130, 3) := by decide +kernel
theorem dX3_part_195 : decode cX3_part 195 = .ok (.ireturn, 1) := by decide +kernel
theorem dX3_part_196 : decode cX3_part 196 = .ok (.aload_n 0, 1) := by decide +kernel
theorem dX3_part_197 : decode cX3_part 197 = .ok (.getfield 86, 3) := by decide +kernel
theorem dX3_part_200 : decode cX3_part 200 = .ok (.aload_n 0, 1) := by decide +kernel
theorem dX3_part_201 : decode cX3_part 201 = .ok (.getfield 90, 3) := by decide +kernel
theorem dX3_part_204 : decode cX3_part 204 = .ok (.invokestatic 80, 3) := by decide +kernel
theorem dX3_part_207 : decode cX3_part 207 = .ok (.ireturn, 1) := by decide +kernel
theorem dX3_part_208 : decode cX3_part 208 = .ok (.aload_n 0, 1) := by decide +kernel
theorem dX3_part_209 : decode cX3_part 209 = .ok (.getfield 86, 3) := by decide +kernel
theorem dX3_part_212 : decode cX3_part 212 = .ok (.invokestatic 73, 3) := by decide +kernel
theorem dX3_part_215 : decode cX3_part 215 = .ok (.ifCond .eq 9, 3) := by decide +kernel
theorem dX3_part_218 : decode cX3_part 218 = .ok (.sipush 366, 3) := by decide +kernel
theorem dX3_part_221 : decode cX3_part 221 = .ok (.goto 6, 3) := by decide +kernel
theorem dX3_part_224 : decode cX3_part 224 = .ok (.sipush 365, 3) := by decide +kernel
theorem dX3_part_227 : decode cX3_part 227 = .ok (.ireturn, 1) := by decide +kernel
theorem dX3_part_228 : decode cX3_part 228 = .ok (.aload_n 0, 1) := by decide +kernel
theorem dX3_part_229 : decode cX3_part 229 = .ok (.getfield 86, 3) := by decide +kernel
theorem dX3_part_232 : decode cX3_part 232 = .ok (.invokestatic 73, 3) := by decide +kernel
theorem dX3_part_235 : decode cX3_part 235 = .ok (.ifCond .eq 7, 3) := by decide +kernel
theorem dX3_part_238 : decode cX3_part 238 = .ok (.iconst 1, 1) := by decide +kernel
theorem dX3_part_239 : decode cX3_part 239 = .ok (.goto 4, 3) := by decide +kernel
theorem dX3_part_242 : decode cX3_part 242 = .ok (.iconst 0, 1) := by decide +kernel
theorem dX3_part_243 : decode cX3_part 243 = .ok (.ireturn, 1) := by decide +kernel
set_option maxRecDepth 20000 in
theorem ggX3_becomes_X3_isKept : GoodIn wsX3_becomes wsX3_isKept := goodIn_r _ [6, 7, 8, 9, 10, 5, 11, 12, 13, 14, 15, 16, 17, 18, 19, 20, 21, 22, 23, 24, 25, 26, 27, 28, 29, 30, 31, 32, 33, 34, 35, 36, 37, 38, 39, 40, 41, 42, 43, 44, 45, 46, 47, 48, 54, 55, 56, 57, 58, 59, 60, 61, 62, 63, 64, 65, 66, 67] (by decide +kernel) (by decide +kernel)
set_option maxRecDepth 20000 in
theorem gX3_becomes_X3_isKept : GoodIn wsX3_becomes (wsV RX3 134 RX3 yX3_isKept wsX3_isKept) := goodIn_app (goodIn_of _ (by decide +kernel)) ggX3_becomes_X3_isKept
set_option maxRecDepth 20000 in
theorem ggX3_becomes_X3_fails : GoodIn wsX3_becomes wsX3_fails := goodIn_r _ [52, 53, 54, 55, 56, 57, 58, 59, 60, 61, 62, 63, 64, 65, 66, 67] (by decide +kernel) (by decide +kernel)
set_option maxRecDepth 20000 in
theorem gX3_becomes_X3_fails : GoodIn wsX3_becomes (wsV RX3 125 RX3 yX3_fails wsX3_fails) := goodIn_app (goodIn_of _ (by decide +kernel)) ggX3_becomes_X3_fails
theorem dX3_becomes_0 : decode cX3_becomes 0 = .ok (.aload_n 0, 1) := by decide +kernel
theorem dX3_becomes_1 : decode cX3_becomes 1 = .ok (.aload_n 0, 1) := by decide +kernel
theorem dX3_becomes_2 : decode cX3_becomes 2 = .ok (.lload_n 2, 1) := by decide +kernel
theorem dX3_becomes_3 : decode cX3_becomes 3 = .ok (.invokevirtual 134, 3) := by decide +kernel
theorem dX3_becomes_6 : decode cX3_becomes 6 = .ok (.ifCond .eq 7, 3) := by decide +kernel
theorem dX3_becomes_9 : decode cX3_becomes 9 = .ok (.iconst 0, 1) := by decide +kernel
theorem dX3_becomes_10 : decode cX3_becomes 10 = .ok (.goto 5, 3) := by decide +kernel
theorem dX3_becomes_13 : decode cX3_becomes 13 = .ok (.iload 4, 2) := by decide +kernel
theorem dX3_becomes_15 : decode cX3_becomes 15 = .ok (.invokevirtual 125, 3) := by decide +kernel
theorem dX3_becomes_18 : decode cX3_becomes 18 = .ok (.ifCond .eq 5, 3) := by decide +kernel
theorem dX3_becomes_21 : decode cX3_becomes 21 = .ok (.lconst 0, 1) := by decide +kernel
theorem dX3_becomes_22 : decode cX3_becomes 22 = .ok (.lreturn, 1) := by decide +kernel
theorem dX3_becomes_23 : decode cX3_becomes 23 = .ok (.aload_n 0, 1) := by decide +kernel
theorem dX3_becomes_24 : decode cX3_becomes 24 = .ok (.getfield 13, 3) := by decide +kernel
theorem dX3_becomes_27 : decode cX3_becomes 27 = .ok (.iload_n 1, 1) := by decide +kernel
theorem dX3_becomes_28 : decode cX3_becomes 28 = .ok (.lload_n 2, 1) := by decide +kernel
theorem dX3_becomes_29 : decode cX3_becomes 29 = .ok (.lastore, 1) := by decide +kernel
theorem dX3_becomes_30 : decode cX3_becomes 30 = .ok (.lload_n 2, 1) := by decide +kernel
theorem dX3_becomes_31 : decode cX3_becomes 31 = .ok (.lreturn, 1) := by decide +kernel
theorem dX3_isUnit_0 : decode cX3_isUnit 0 = .ok (.iload_n 0, 1) := by decide +kernel
theorem dX3_isUnit_1 : decode cX3_isUnit 1 = .ok (.bipush 100, 2) := by decide +kernel
theorem dX3_isUnit_3 : decode cX3_isUnit 3 = .ok (.if_icmp .eq 21, 3) := by decide +kernel
theorem dX3_isUnit_6 : decode cX3_isUnit 6 = .ok (.iload_n 0, 1) := by decide +kernel
theorem dX3_isUnit_7 : decode cX3_isUnit 7 = .ok (.bipush 119, 2) := by decide +kernel
theorem dX3_isUnit_9 : decode cX3_isUnit 9 = .ok (.if_icmp .eq 15, 3) := by decide +kernel
theorem dX3_isUnit_12 : decode cX3_isUnit 12 = .ok (.iload_n 0, 1) := by decide +kernel
theorem dX3_isUnit_13 : decode cX3_isUnit 13 = .ok (.bipush 109, 2) := by decide +kernel
theorem dX3_isUnit_15 : decode cX3_isUnit 15 = .ok (.if_icmp .eq 9, 3) := by decide +kernel
theorem dX3_isUnit_18 : decode cX3_isUnit 18 = .ok (.iload_n 0, 1) := by decide +kernel
theorem dX3_isUnit_19 : decode cX3_isUnit 19 = .ok (.bipush 121, 2) := by decide +kernel
theorem dX3_isUnit_21 : decode cX3_isUnit 21 = .ok (.if_icmp .ne 7, 3) := by decide +kernel
theorem dX3_isUnit_24 : decode cX3_isUnit 24 = .ok (.iconst 1, 1) := by decide +kernel
theorem dX3_isUnit_25 : decode cX3_isUnit 25 = .ok (.goto 4, 3) := by decide +kernel
theorem dX3_isUnit_28 : decode cX3_isUnit 28 = .ok (.iconst 0, 1) := by decide +kernel
theorem dX3_isUnit_29 : decode cX3_isUnit 29 = .ok (.ireturn, 1) := by decide +kernel
set_option maxRecDepth 20000 in
theorem ggX3_moved_X3_byMonths : GoodIn wsX3_moved wsX3_byMonths := goodIn_r _ [7, 2, 8, 9, 10, 11, 12, 13, 6, 14, 15, 16, 17, 18, 19, 20, 21, 22, 23, 24, 25, 26, 27, 28, 29, 30, 31, 32, 33, 34, 35, 36, 37, 38, 39, 40, 41, 42, 43, 44, 45, 46, 47, 48, 49, 50, 51, 52, 53, 54, 55, 56, 57, 58] (by decide +kernel) (by decide +kernel)
set_option maxRecDepth 20000 in
theorem gX3_moved_X3_byMonths : GoodIn wsX3_moved (wsV RX3 137 RX3 yX3_byMonths wsX3_byMonths) := goodIn_app (goodIn_of _ (by decide +kernel)) ggX3_moved_X3_byMonths
theorem dX3_moved_0 : decode cX3_moved 0 = .ok (.iload_n 3, 1) := by decide +kernel
theorem dX3_moved_1 : decode cX3_moved 1 = .ok (.bipush 100, 2) := by decide +kernel
theorem dX3_moved_3 : decode cX3_moved 3 = .ok (.if_icmp .ne 10, 3) := by decide +kernel
theorem dX3_moved_6 : decode cX3_moved 6 = .ok (.lload_n 1, 1) := by decide +kernel
theorem dX3_moved_7 : decode cX3_moved 7 = .ok (.lload 4, 2) := by decide +kernel
theorem dX3_moved_9 : decode cX3_moved 9 = .ok (.ladd, 1) := by decide +kernel
theorem dX3_moved_10 : decode cX3_moved 10 = .ok (.goto 42, 3) := by decide +kernel
theorem dX3_moved_13 : decode cX3_moved 13 = .ok (.iload_n 3, 1) := by decide +kernel
theorem dX3_moved_14 : decode cX3_moved 14 = .ok (.bipush 119, 2) := by decide +kernel
theorem dX3_moved_16 : decode cX3_moved 16 = .ok (.if_icmp .ne 14, 3) := by decide +kernel
theorem dX3_moved_19 : decode cX3_moved 19 = .ok (.lload_n 1, 1) := by decide +kernel
theorem dX3_moved_20 : decode cX3_moved 20 = .ok (.ldc2_w 111, 3) := by decide +kernel
theorem dX3_moved_23 : decode cX3_moved 23 = .ok (.lload 4, 2) := by decide +kernel
theorem dX3_moved_25 : decode cX3_moved 25 = .ok (.lmul, 1) := by decide +kernel
theorem dX3_moved_26 : decode cX3_moved 26 = .ok (.ladd, 1) := by decide +kernel
theorem dX3_moved_27 : decode cX3_moved 27 = .ok (.goto 25, 3) := by decide +kernel
theorem dX3_moved_30 : decode cX3_moved 30 = .ok (.aload_n 0, 1) := by decide +kernel
theorem dX3_moved_31 : decode cX3_moved 31 = .ok (.lload_n 1, 1) := by decide +kernel
theorem dX3_moved_32 : decode cX3_moved 32 = .ok (.iload_n 3, 1) := by decide +kernel
theorem dX3_moved_33 : decode cX3_moved 33 = .ok (.bipush 109, 2) := by decide +kernel
theorem dX3_moved_35 : decode cX3_moved 35 = .ok (.if_icmp .ne 8, 3) := by decide +kernel
theorem dX3_moved_38 : decode cX3_moved 38 = .ok (.lload 4, 2) := by decide +kernel
theorem dX3_moved_40 : decode cX3_moved 40 = .ok (.goto 9, 3) := by decide +kernel
theorem dX3_moved_43 : decode cX3_moved 43 = .ok (.ldc2_w 113, 3) := by decide +kernel
theorem dX3_moved_46 : decode cX3_moved 46 = .ok (.lload 4, 2) := by decide +kernel
theorem dX3_moved_48 : decode cX3_moved 48 = .ok (.lmul, 1) := by decide +kernel
theorem dX3_moved_49 : decode cX3_moved 49 = .ok (.invokevirtual 137, 3) := by decide +kernel
theorem dX3_moved_52 : decode cX3_moved 52 = .ok (.lreturn, 1) := by decide +kernel
set_option maxRecDepth 20000 in
theorem ggX3_move_X3_isDate : GoodIn wsX3_move wsX3_isDate := goodIn_r _ [7, 8, 9, 10, 6, 11] (by decide +kernel) (by decide +kernel)
set_option maxRecDepth 20000 in
theorem gX3_move_X3_isDate : GoodIn wsX3_move (va_wsS RX3 121 yX3_isDate wsX3_isDate) := goodIn_app (goodIn_of _ (by decide +kernel)) ggX3_move_X3_isDate
set_option maxRecDepth 20000 in
theorem ggX3_move_X3_isUnit : GoodIn wsX3_move wsX3_isUnit := goodIn_r _ [14] (by decide +kernel) (by decide +kernel)
set_option maxRecDepth 20000 in
theorem gX3_move_X3_isUnit : GoodIn wsX3_move (va_wsS RX3 140 yX3_isUnit wsX3_isUnit) := goodIn_app (goodIn_of _ (by decide +kernel)) ggX3_move_X3_isUnit
set_option maxRecDepth 20000 in
theorem ggX3_move_X3_in : GoodIn wsX3_move wsX3_in := goodIn_r _ [11] (by decide +kernel) (by decide +kernel)
set_option maxRecDepth 20000 in
theorem gX3_move_X3_in : GoodIn wsX3_move (va_wsS RX3 100 yX3_in wsX3_in) := goodIn_app (goodIn_of _ (by decide +kernel)) ggX3_move_X3_in
set_option maxRecDepth 20000 in
theorem ggX3_move_X3_fails : GoodIn wsX3_move wsX3_fails := goodIn_r _ [18, 19, 80, 81, 82, 83, 84, 85, 86, 87, 88, 89, 90, 91, 92, 93] (by decide +kernel) (by decide +kernel)
set_option maxRecDepth 20000 in
theorem gX3_move_X3_fails : GoodIn wsX3_move (wsV RX3 125 RX3 yX3_fails wsX3_fails) := goodIn_app (goodIn_of _ (by decide +kernel)) ggX3_move_X3_fails
set_option maxRecDepth 20000 in
theorem ggX3_move_X3_moved : GoodIn wsX3_move wsX3_moved := goodIn_r _ [23, 24, 25, 26, 27, 28, 6, 29, 30, 31, 32, 33, 34, 35, 36, 37, 38, 39, 40, 41, 42, 43, 44, 45, 46, 47, 48, 49, 50, 51, 52, 53, 54, 55, 56, 57, 58, 59, 60, 61, 62, 63, 64, 65, 66, 80, 81, 82, 83, 84, 85, 86, 87, 88, 89, 90, 91, 92, 93] (by decide +kernel) (by decide +kernel)
set_option maxRecDepth 20000 in
theorem gX3_move_X3_moved : GoodIn wsX3_move (wsV RX3 148 RX3 yX3_moved wsX3_moved) := goodIn_app (goodIn_of _ (by decide +kernel)) ggX3_move_X3_moved
set_option maxRecDepth 20000 in
theorem ggX3_move_X3_becomes : GoodIn wsX3_move wsX3_becomes := goodIn_ca (goodIn_r _ [70, 3, 71, 72, 73, 6, 74, 30, 33, 34, 35, 36, 37, 38, 39, 31, 32, 40, 41, 42, 43, 44, 45, 46, 47, 48, 49, 50, 51, 52, 53, 54, 55, 56, 57, 58, 59, 60, 61, 62, 63, 75, 76, 77, 78, 79, 9, 10, 11, 15, 16, 17, 18, 19, 80, 81, 82, 83, 84, 85, 86, 87, 88, 89, 90, 91, 92, 93] (by decide +kernel) (by decide +kernel)) (goodIn_sub (fun _ h => List.mem_cons_of_mem _ (List.mem_append_right _ h)) (by decide +kernel))
set_option maxRecDepth 20000 in
theorem gX3_move_X3_becomes : GoodIn wsX3_move (wsV RX3 152 RX3 yX3_becomes wsX3_becomes) := goodIn_app (goodIn_of _ (by decide +kernel)) ggX3_move_X3_becomes
theorem dX3_move_0 : decode cX3_move 0 = .ok (.aload_n 0, 1) := by decide +kernel
theorem dX3_move_1 : decode cX3_move 1 = .ok (.iload_n 1, 1) := by decide +kernel
theorem dX3_move_2 : decode cX3_move 2 = .ok (.invokestatic 121, 3) := by decide +kernel
theorem dX3_move_5 : decode cX3_move 5 = .ok (.ifCond .eq 11, 3) := by decide +kernel
theorem dX3_move_8 : decode cX3_move 8 = .ok (.iload 4, 2) := by decide +kernel
theorem dX3_move_10 : decode cX3_move 10 = .ok (.invokestatic 121, 3) := by decide +kernel
theorem dX3_move_13 : decode cX3_move 13 = .ok (.ifCond .ne 7, 3) := by decide +kernel
theorem dX3_move_16 : decode cX3_move 16 = .ok (.iconst 1, 1) := by decide +kernel
theorem dX3_move_17 : decode cX3_move 17 = .ok (.goto 29, 3) := by decide +kernel
theorem dX3_move_20 : decode cX3_move 20 = .ok (.iload_n 2, 1) := by decide +kernel
theorem dX3_move_21 : decode cX3_move 21 = .ok (.invokestatic 140, 3) := by decide +kernel
theorem dX3_move_24 : decode cX3_move 24 = .ok (.ifCond .eq 21, 3) := by decide +kernel
theorem dX3_move_27 : decode cX3_move 27 = .ok (.iload_n 3, 1) := by decide +kernel
theorem dX3_move_28 : decode cX3_move 28 = .ok (.i2l, 1) := by decide +kernel
theorem dX3_move_29 : decode cX3_move 29 = .ok (.ldc2_w 144, 3) := by decide +kernel
theorem dX3_move_32 : decode cX3_move 32 = .ok (.ldc2_w 146, 3) := by decide +kernel
theorem dX3_move_35 : decode cX3_move 35 = .ok (.invokestatic 100, 3) := by decide +kernel
theorem dX3_move_38 : decode cX3_move 38 = .ok (.ifCond .eq 7, 3) := by decide +kernel
theorem dX3_move_41 : decode cX3_move 41 = .ok (.iconst 0, 1) := by decide +kernel
theorem dX3_move_42 : decode cX3_move 42 = .ok (.goto 4, 3) := by decide +kernel
theorem dX3_move_45 : decode cX3_move 45 = .ok (.iconst 2, 1) := by decide +kernel
theorem dX3_move_46 : decode cX3_move 46 = .ok (.invokevirtual 125, 3) := by decide +kernel
theorem dX3_move_49 : decode cX3_move 49 = .ok (.ifCond .eq 5, 3) := by decide +kernel
theorem dX3_move_52 : decode cX3_move 52 = .ok (.lconst 0, 1) := by decide +kernel
theorem dX3_move_53 : decode cX3_move 53 = .ok (.lreturn, 1) := by decide +kernel
theorem dX3_move_54 : decode cX3_move 54 = .ok (.aload_n 0, 1) := by decide +kernel
theorem dX3_move_55 : decode cX3_move 55 = .ok (.iload 4, 2) := by decide +kernel
theorem dX3_move_57 : decode cX3_move 57 = .ok (.aload_n 0, 1) := by decide +kernel
theorem dX3_move_58 : decode cX3_move 58 = .ok (.aload_n 0, 1) := by decide +kernel
theorem dX3_move_59 : decode cX3_move 59 = .ok (.getfield 13, 3) := by decide +kernel
theorem dX3_move_62 : decode cX3_move 62 = .ok (.iload_n 1, 1) := by decide +kernel
theorem dX3_move_63 : decode cX3_move 63 = .ok (.laload, 1) := by decide +kernel
theorem dX3_move_64 : decode cX3_move 64 = .ok (.iload_n 2, 1) := by decide +kernel
theorem dX3_move_65 : decode cX3_move 65 = .ok (.iload_n 3, 1) := by decide +kernel
theorem dX3_move_66 : decode cX3_move 66 = .ok (.i2l, 1) := by decide +kernel
theorem dX3_move_67 : decode cX3_move 67 = .ok (.invokevirtual 148, 3) := by decide +kernel
theorem dX3_move_70 : decode cX3_move 70 = .ok (.iconst 3, 1) := by decide +kernel
theorem dX3_move_71 : decode cX3_move 71 = .ok (.invokevirtual 152, 3) := by decide +kernel
theorem dX3_move_74 : decode cX3_move 74 = .ok (.lreturn, 1) := by decide +kernel
set_option maxRecDepth 20000 in
theorem ggX3_with_X3_isDate : GoodIn wsX3_with wsX3_isDate := goodIn_r _ [9, 10, 11, 12, 8, 13] (by decide +kernel) (by decide +kernel)
set_option maxRecDepth 20000 in
theorem gX3_with_X3_isDate : GoodIn wsX3_with (va_wsS RX3 121 yX3_isDate wsX3_isDate) := goodIn_app (goodIn_of _ (by decide +kernel)) ggX3_with_X3_isDate
set_option maxRecDepth 20000 in
theorem ggX3_with_X3_fails : GoodIn wsX3_with wsX3_fails := goodIn_r _ [17, 18, 66, 67, 68, 69, 70, 71, 72, 73, 74, 75, 76, 77, 78, 79] (by decide +kernel) (by decide +kernel)
set_option maxRecDepth 20000 in
theorem gX3_with_X3_fails : GoodIn wsX3_with (wsV RX3 125 RX3 yX3_fails wsX3_fails) := goodIn_app (goodIn_of _ (by decide +kernel)) ggX3_with_X3_fails
set_option maxRecDepth 20000 in
theorem ggX3_with_X3_parts : GoodIn wsX3_with wsX3_parts := goodIn_r _ [22, 23, 24, 25, 2, 3, 5, 26, 27, 8, 28, 29, 30, 31, 32, 33, 34, 35, 36, 37, 38, 39, 40, 41, 42, 43, 44, 45, 46, 47, 48, 49, 66, 67, 68, 69, 70, 71, 72, 73, 74, 75, 76, 77, 78, 79] (by decide +kernel) (by decide +kernel)
set_option maxRecDepth 20000 in
theorem gX3_with_X3_parts : GoodIn wsX3_with (wsV RX3 104 RX3 yX3_parts wsX3_parts) := goodIn_app (goodIn_of _ (by decide +kernel)) ggX3_with_X3_parts
set_option maxRecDepth 20000 in
theorem ggX3_with_X3_isLong : GoodIn wsX3_with wsX3_isLong := goodIn_r _ [46, 37, 39, 24, 47, 48, 8, 49, 26, 27, 28] (by decide +kernel) (by decide +kernel)
set_option maxRecDepth 20000 in
theorem gX3_with_X3_isLong : GoodIn wsX3_with (va_wsS RX3 73 yX3_isLong wsX3_isLong) := goodIn_app (goodIn_of _ (by decide +kernel)) ggX3_with_X3_isLong
set_option maxRecDepth 20000 in
theorem ggX3_with_X3_many : GoodIn wsX3_with wsX3_many := goodIn_r _ [43, 44, 45, 8, 46, 37, 39, 24, 47, 48, 49, 26, 27, 28] (by decide +kernel) (by decide +kernel)
set_option maxRecDepth 20000 in
theorem gX3_with_X3_many : GoodIn wsX3_with (va_wsS RX3 80 yX3_many wsX3_many) := goodIn_app (goodIn_of _ (by decide +kernel)) ggX3_with_X3_many
set_option maxRecDepth 20000 in
theorem ggX3_with_X3_in : GoodIn wsX3_with wsX3_in := goodIn_r _ [13] (by decide +kernel) (by decide +kernel)
set_option maxRecDepth 20000 in
theorem gX3_with_X3_in : GoodIn wsX3_with (va_wsS RX3 100 yX3_in wsX3_in) := goodIn_app (goodIn_of _ (by decide +kernel)) ggX3_with_X3_in
set_option maxRecDepth 20000 in
theorem ggX3_with_X3_isYear : GoodIn wsX3_with wsX3_isYear := goodIn_r _ [52, 53, 54, 11, 12, 8, 13] (by decide +kernel) (by decide +kernel)
set_option maxRecDepth 20000 in
theorem gX3_with_X3_isYear : GoodIn wsX3_with (va_wsS RX3 108 yX3_isYear wsX3_isYear) := goodIn_app (goodIn_of _ (by decide +kernel)) ggX3_with_X3_isYear
set_option maxRecDepth 20000 in
theorem ggX3_with_X3_number : GoodIn wsX3_with wsX3_number := goodIn_r _ [57, 29, 30, 8, 31, 23, 32, 33, 34, 35, 36, 37, 38, 39, 40, 24, 26, 27, 28, 41, 42, 43, 44, 45, 46, 47, 48, 49] (by decide +kernel) (by decide +kernel)
set_option maxRecDepth 20000 in
theorem gX3_with_X3_number : GoodIn wsX3_with (va_wsS RX3 115 yX3_number wsX3_number) := goodIn_app (goodIn_of _ (by decide +kernel)) ggX3_with_X3_number
set_option maxRecDepth 20000 in
theorem ggX3_with_X3_first : GoodIn wsX3_with wsX3_first := goodIn_r _ [31, 23, 32, 33, 8, 34, 35, 36, 37, 38, 39, 40, 24, 26, 27, 28] (by decide +kernel) (by decide +kernel)
set_option maxRecDepth 20000 in
theorem gX3_with_X3_first : GoodIn wsX3_with (va_wsS RX3 77 yX3_first wsX3_first) := goodIn_app (goodIn_of _ (by decide +kernel)) ggX3_with_X3_first
set_option maxRecDepth 20000 in
theorem ggX3_with_X3_becomes : GoodIn wsX3_with wsX3_becomes := goodIn_ca (goodIn_r _ [61, 1, 62, 63, 64, 8, 65, 2, 19, 20, 21, 22, 23, 24, 25, 3, 5, 26, 27, 28, 29, 30, 31, 32, 33, 34, 35, 36, 37, 38, 39, 40, 41, 42, 43, 44, 45, 46, 47, 48, 49, 50, 51, 52, 53, 54, 11, 12, 13, 14, 15, 16, 17, 18, 66, 67, 68, 69, 70, 71, 72, 73, 74, 75, 76, 77, 78, 79] (by decide +kernel) (by decide +kernel)) (goodIn_sub (fun _ h => List.mem_cons_of_mem _ (List.mem_append_right _ h)) (by decide +kernel))
set_option maxRecDepth 20000 in
theorem gX3_with_X3_becomes : GoodIn wsX3_with (wsV RX3 152 RX3 yX3_becomes wsX3_becomes) := goodIn_app (goodIn_of _ (by decide +kernel)) ggX3_with_X3_becomes
theorem dX3_with_0 : decode cX3_with 0 = .ok (.aload_n 0, 1) := by decide +kernel
theorem dX3_with_1 : decode cX3_with 1 = .ok (.iload_n 1, 1) := by decide +kernel
theorem dX3_with_2 : decode cX3_with 2 = .ok (.invokestatic 121, 3) := by decide +kernel
theorem dX3_with_5 : decode cX3_with 5 = .ok (.ifCond .eq 11, 3) := by decide +kernel
theorem dX3_with_8 : decode cX3_with 8 = .ok (.iload 4, 2) := by decide +kernel
theorem dX3_with_10 : decode cX3_with 10 = .ok (.invokestatic 121, 3) := by decide +kernel
theorem dX3_with_13 : decode cX3_with 13 = .ok (.ifCond .ne 7, 3) := by decide +kernel
theorem dX3_with_16 : decode cX3_with 16 = .ok (.iconst 1, 1) := by decide +kernel
theorem dX3_with_17 : decode cX3_with 17 = .ok (.goto 32, 3) := by decide +kernel
theorem dX3_with_20 : decode cX3_with 20 = .ok (.iload_n 2, 1) := by decide +kernel
theorem dX3_with_21 : decode cX3_with 21 = .ok (.bipush 100, 2) := by decide +kernel
theorem dX3_with_23 : decode cX3_with 23 = .ok (.if_icmp .eq 21, 3) := by decide +kernel
theorem dX3_with_26 : decode cX3_with 26 = .ok (.iload_n 2, 1) := by decide +kernel
theorem dX3_with_27 : decode cX3_with 27 = .ok (.bipush 110, 2) := by decide +kernel
theorem dX3_with_29 : decode cX3_with 29 = .ok (.if_icmp .eq 15, 3) := by decide +kernel
theorem dX3_with_32 : decode cX3_with 32 = .ok (.iload_n 2, 1) := by decide +kernel
theorem dX3_with_33 : decode cX3_with 33 = .ok (.bipush 109, 2) := by decide +kernel
theorem dX3_with_35 : decode cX3_with 35 = .ok (.if_icmp .eq 9, 3) := by decide +kernel
theorem dX3_with_38 : decode cX3_with 38 = .ok (.iload_n 2, 1) := by decide +kernel
theorem dX3_with_39 : decode cX3_with 39 = .ok (.bipush 121, 2) := by decide +kernel
theorem dX3_with_41 : decode cX3_with 41 = .ok (.if_icmp .ne 7, 3) := by decide +kernel
theorem dX3_with_44 : decode cX3_with 44 = .ok (.iconst 0, 1) := by decide +kernel
theorem dX3_with_45 : decode cX3_with 45 = .ok (.goto 4, 3) := by decide +kernel
theorem dX3_with_48 : decode cX3_with 48 = .ok (.iconst 2, 1) := by decide +kernel
theorem dX3_with_49 : decode cX3_with 49 = .ok (.invokevirtual 125, 3) := by decide +kernel
theorem dX3_with_52 : decode cX3_with 52 = .ok (.ifCond .eq 5, 3) := by decide +kernel
theorem dX3_with_55 : decode cX3_with 55 = .ok (.lconst 0, 1) := by decide +kernel
theorem dX3_with_56 : decode cX3_with 56 = .ok (.lreturn, 1) := by decide +kernel
theorem dX3_with_57 : decode cX3_with 57 = .ok (.aload_n 0, 1) := by decide +kernel
theorem dX3_with_58 : decode cX3_with 58 = .ok (.aload_n 0, 1) := by decide +kernel
theorem dX3_with_59 : decode cX3_with 59 = .ok (.getfield 13, 3) := by decide +kernel
theorem dX3_with_62 : decode cX3_with 62 = .ok (.iload_n 1, 1) := by decide +kernel
theorem dX3_with_63 : decode cX3_with 63 = .ok (.laload, 1) := by decide +kernel
theorem dX3_with_64 : decode cX3_with 64 = .ok (.invokevirtual 104, 3) := by decide +kernel
theorem dX3_with_67 : decode cX3_with 67 = .ok (.aload_n 0, 1) := by decide +kernel
theorem dX3_with_68 : decode cX3_with 68 = .ok (.getfield 86, 3) := by decide +kernel
theorem dX3_with_71 : decode cX3_with 71 = .ok (.invokestatic 73, 3) := by decide +kernel
theorem dX3_with_74 : decode cX3_with 74 = .ok (.ifCond .eq 9, 3) := by decide +kernel
theorem dX3_with_77 : decode cX3_with 77 = .ok (.sipush 366, 3) := by decide +kernel
theorem dX3_with_80 : decode cX3_with 80 = .ok (.goto 6, 3) := by decide +kernel
theorem dX3_with_83 : decode cX3_with 83 = .ok (.sipush 365, 3) := by decide +kernel
theorem dX3_with_86 : decode cX3_with 86 = .ok (.istore 5, 2) := by decide +kernel
theorem dX3_with_88 : decode cX3_with 88 = .ok (.aload_n 0, 1) := by decide +kernel
theorem dX3_with_89 : decode cX3_with 89 = .ok (.iload_n 2, 1) := by decide +kernel
theorem dX3_with_90 : decode cX3_with 90 = .ok (.bipush 100, 2) := by decide +kernel
theorem dX3_with_92 : decode cX3_with 92 = .ok (.if_icmp .ne 24, 3) := by decide +kernel
theorem dX3_with_95 : decode cX3_with 95 = .ok (.iload_n 3, 1) := by decide +kernel
theorem dX3_with_96 : decode cX3_with 96 = .ok (.i2l, 1) := by decide +kernel
theorem dX3_with_97 : decode cX3_with 97 = .ok (.lconst 1, 1) := by decide +kernel
theorem dX3_with_98 : decode cX3_with 98 = .ok (.aload_n 0, 1) := by decide +kernel
theorem dX3_with_99 : decode cX3_with 99 = .ok (.getfield 86, 3) := by decide +kernel
theorem dX3_with_102 : decode cX3_with 102 = .ok (.aload_n 0, 1) := by decide +kernel
theorem dX3_with_103 : decode cX3_with 103 = .ok (.getfield 90, 3) := by decide +kernel
theorem dX3_with_106 : decode cX3_with 106 = .ok (.invokestatic 80, 3) := by decide +kernel
theorem dX3_with_109 : decode cX3_with 109 = .ok (.i2l, 1) := by decide +kernel
theorem dX3_with_110 : decode cX3_with 110 = .ok (.invokestatic 100, 3) := by decide +kernel
theorem dX3_with_113 : decode cX3_with 113 = .ok (.ifCond .eq 53, 3) := by decide +kernel
theorem dX3_with_116 : decode cX3_with 116 = .ok (.iload_n 2, 1) := by decide +kernel
theorem dX3_with_117 : decode cX3_with 117 = .ok (.bipush 110, 2) := by decide +kernel
theorem dX3_with_119 : decode cX3_with 119 = .ok (.if_icmp .ne 15, 3) := by decide +kernel
theorem dX3_with_122 : decode cX3_with 122 = .ok (.iload_n 3, 1) := by decide +kernel
theorem dX3_with_123 : decode cX3_with 123 = .ok (.i2l, 1) := by decide +kernel
theorem dX3_with_124 : decode cX3_with 124 = .ok (.lconst 1, 1) := by decide +kernel
theorem dX3_with_125 : decode cX3_with 125 = .ok (.iload 5, 2) := by decide +kernel
theorem dX3_with_127 : decode cX3_with 127 = .ok (.i2l, 1) := by decide +kernel
theorem dX3_with_128 : decode cX3_with 128 = .ok (.invokestatic 100, 3) := by decide +kernel
theorem dX3_with_131 : decode cX3_with 131 = .ok (.ifCond .eq 35, 3) := by decide +kernel
theorem dX3_with_134 : decode cX3_with 134 = .ok (.iload_n 2, 1) := by decide +kernel
theorem dX3_with_135 : decode cX3_with 135 = .ok (.bipush 109, 2) := by decide +kernel
theorem dX3_with_137 : decode cX3_with 137 = .ok (.if_icmp .ne 15, 3) := by decide +kernel
theorem dX3_with_140 : decode cX3_with 140 = .ok (.iload_n 3, 1) := by decide +kernel
theorem dX3_with_141 : decode cX3_with 141 = .ok (.i2l, 1) := by decide +kernel
theorem dX3_with_142 : decode cX3_with 142 = .ok (.lconst 1, 1) := by decide +kernel
theorem dX3_with_143 : decode cX3_with 143 = .ok (.ldc2_w 113, 3) := by decide +kernel
theorem dX3_with_146 : decode cX3_with 146 = .ok (.invokestatic 100, 3) := by decide +kernel
theorem dX3_with_149 : decode cX3_with 149 = .ok (.ifCond .eq 17, 3) := by decide +kernel
theorem dX3_with_152 : decode cX3_with 152 = .ok (.iload_n 2, 1) := by decide +kernel
theorem dX3_with_153 : decode cX3_with 153 = .ok (.bipush 121, 2) := by decide +kernel
theorem dX3_with_155 : decode cX3_with 155 = .ok (.if_icmp .ne 15, 3) := by decide +kernel
theorem dX3_with_158 : decode cX3_with 158 = .ok (.iload_n 3, 1) := by decide +kernel
theorem dX3_with_159 : decode cX3_with 159 = .ok (.i2l, 1) := by decide +kernel
theorem dX3_with_160 : decode cX3_with 160 = .ok (.invokestatic 108, 3) := by decide +kernel
theorem dX3_with_163 : decode cX3_with 163 = .ok (.ifCond .ne 7, 3) := by decide +kernel
theorem dX3_with_166 : decode cX3_with 166 = .ok (.iconst 2, 1) := by decide +kernel
theorem dX3_with_167 : decode cX3_with 167 = .ok (.goto 4, 3) := by decide +kernel
theorem dX3_with_170 : decode cX3_with 170 = .ok (.iconst 0, 1) := by decide +kernel
theorem dX3_with_171 : decode cX3_with 171 = .ok (.invokevirtual 125, 3) := by decide +kernel
theorem dX3_with_174 : decode cX3_with 174 = .ok (.ifCond .eq 5, 3) := by decide +kernel
theorem dX3_with_177 : decode cX3_with 177 = .ok (.lconst 0, 1) := by decide +kernel
theorem dX3_with_178 : decode cX3_with 178 = .ok (.lreturn, 1) := by decide +kernel
theorem dX3_with_179 : decode cX3_with 179 = .ok (.iload_n 2, 1) := by decide +kernel
theorem dX3_with_180 : decode cX3_with 180 = .ok (.bipush 100, 2) := by decide +kernel
theorem dX3_with_182 : decode cX3_with 182 = .ok (.if_icmp .ne 20, 3) := by decide +kernel
theorem dX3_with_185 : decode cX3_with 185 = .ok (.aload_n 0, 1) := by decide +kernel
theorem dX3_with_186 : decode cX3_with 186 = .ok (.getfield 86, 3) := by decide +kernel
theorem dX3_with_189 : decode cX3_with 189 = .ok (.aload_n 0, 1) := by decide +kernel
theorem dX3_with_190 : decode cX3_with 190 = .ok (.getfield 90, 3) := by decide +kernel
theorem dX3_with_193 : decode cX3_with 193 = .ok (.iload_n 3, 1) := by decide +kernel
theorem dX3_with_194 : decode cX3_with 194 = .ok (.invokestatic 115, 3) := by decide +kernel
theorem dX3_with_197 : decode cX3_with 197 = .ok (.lstore 6, 2) := by decide +kernel
theorem dX3_with_199 : decode cX3_with 199 = .ok (.goto 118, 3) := by decide +kernel
theorem dX3_with_202 : decode cX3_with 202 = .ok (.iload_n 2, 1) := by decide +kernel
theorem dX3_with_203 : decode cX3_with 203 = .ok (.bipush 110, 2) := by decide +kernel
theorem dX3_with_205 : decode cX3_with 205 = .ok (.if_icmp .ne 20, 3) := by decide +kernel
theorem dX3_with_208 : decode cX3_with 208 = .ok (.aload_n 0, 1) := by decide +kernel
theorem dX3_with_209 : decode cX3_with 209 = .ok (.getfield 86, 3) := by decide +kernel
theorem dX3_with_212 : decode cX3_with 212 = .ok (.invokestatic 77, 3) := by decide +kernel
theorem dX3_with_215 : decode cX3_with 215 = .ok (.iload_n 3, 1) := by decide +kernel
theorem dX3_with_216 : decode cX3_with 216 = .ok (.i2l, 1) := by decide +kernel
theorem dX3_with_217 : decode cX3_with 217 = .ok (.ladd, 1) := by decide +kernel
theorem dX3_with_218 : decode cX3_with 218 = .ok (.lconst 1, 1) := by decide +kernel
theorem dX3_with_219 : decode cX3_with 219 = .ok (.lsub, 1) := by decide +kernel
theorem dX3_with_220 : decode cX3_with 220 = .ok (.lstore 6, 2) := by decide +kernel
theorem dX3_with_222 : decode cX3_with 222 = .ok (.goto 95, 3) := by decide +kernel
theorem dX3_with_225 : decode cX3_with 225 = .ok (.iload_n 2, 1) := by decide +kernel
theorem dX3_with_226 : decode cX3_with 226 = .ok (.bipush 109, 2) := by decide +kernel
theorem dX3_with_228 : decode cX3_with 228 = .ok (.if_icmp .ne 46, 3) := by decide +kernel
theorem dX3_with_231 : decode cX3_with 231 = .ok (.aload_n 0, 1) := by decide +kernel
theorem dX3_with_232 : decode cX3_with 232 = .ok (.getfield 86, 3) := by decide +kernel
theorem dX3_with_235 : decode cX3_with 235 = .ok (.iload_n 3, 1) := by decide +kernel
theorem dX3_with_236 : decode cX3_with 236 = .ok (.aload_n 0, 1) := by decide +kernel
theorem dX3_with_237 : decode cX3_with 237 = .ok (.getfield 93, 3) := by decide +kernel
theorem dX3_with_240 : decode cX3_with 240 = .ok (.aload_n 0, 1) := by decide +kernel
theorem dX3_with_241 : decode cX3_with 241 = .ok (.getfield 86, 3) := by decide +kernel
theorem dX3_with_244 : decode cX3_with 244 = .ok (.iload_n 3, 1) := by decide +kernel
theorem dX3_with_245 : decode cX3_with 245 = .ok (.invokestatic 80, 3) := by decide +kernel
theorem dX3_with_248 : decode cX3_with 248 = .ok (.if_icmp .le 14, 3) := by decide +kernel
theorem dX3_with_251 : decode cX3_with 251 = .ok (.aload_n 0, 1) := by decide +kernel
theorem dX3_with_252 : decode cX3_with 252 = .ok (.getfield 86, 3) := by decide +kernel
theorem dX3_with_255 : decode cX3_with 255 = .ok (.iload_n 3, 1) := by decide +kernel
theorem dX3_with_256 : decode cX3_with 256 = .ok (.invokestatic 80, 3) := by decide +kernel
theorem dX3_with_259 : decode cX3_with 259 = .ok (.goto 7, 3) := by decide +kernel
theorem dX3_with_262 : decode cX3_with 262 = .ok (.aload_n 0, 1) := by decide +kernel
theorem dX3_with_263 : decode cX3_with 263 = .ok (.getfield 93, 3) := by decide +kernel
theorem dX3_with_266 : decode cX3_with 266 = .ok (.invokestatic 115, 3) := by decide +kernel
theorem dX3_with_269 : decode cX3_with 269 = .ok (.lstore 6, 2) := by decide +kernel
theorem dX3_with_271 : decode cX3_with 271 = .ok (.goto 46, 3) := by decide +kernel
theorem dX3_with_274 : decode cX3_with 274 = .ok (.iload_n 3, 1) := by decide +kernel
theorem dX3_with_275 : decode cX3_with 275 = .ok (.i2l, 1) := by decide +kernel
theorem dX3_with_276 : decode cX3_with 276 = .ok (.aload_n 0, 1) := by decide +kernel
theorem dX3_with_277 : decode cX3_with 277 = .ok (.getfield 90, 3) := by decide +kernel
theorem dX3_with_280 : decode cX3_with 280 = .ok (.aload_n 0, 1) := by decide +kernel
theorem dX3_with_281 : decode cX3_with 281 = .ok (.getfield 93, 3) := by decide +kernel
theorem dX3_with_284 : decode cX3_with 284 = .ok (.iload_n 3, 1) := by decide +kernel
theorem dX3_with_285 : decode cX3_with 285 = .ok (.i2l, 1) := by decide +kernel
theorem dX3_with_286 : decode cX3_with 286 = .ok (.aload_n 0, 1) := by decide +kernel
theorem dX3_with_287 : decode cX3_with 287 = .ok (.getfield 90, 3) := by decide +kernel
theorem dX3_with_290 : decode cX3_with 290 = .ok (.invokestatic 80, 3) := by decide +kernel
theorem dX3_with_293 : decode cX3_with 293 = .ok (.if_icmp .le 15, 3) := by decide +kernel
theorem dX3_with_296 : decode cX3_with 296 = .ok (.iload_n 3, 1) := by decide +kernel
theorem dX3_with_297 : decode cX3_with 297 = .ok (.i2l, 1) := by decide +kernel
theorem dX3_with_298 : decode cX3_with 298 = .ok (.aload_n 0, 1) := by decide +kernel
theorem dX3_with_299 : decode cX3_with 299 = .ok (.getfield 90, 3) := by decide +kernel
theorem dX3_with_302 : decode cX3_with 302 = .ok (.invokestatic 80, 3) := by decide +kernel
theorem dX3_with_305 : decode cX3_with 305 = .ok (.goto 7, 3) := by decide +kernel
theorem dX3_with_308 : decode cX3_with 308 = .ok (.aload_n 0, 1) := by decide +kernel
theorem dX3_with_309 : decode cX3_with 309 = .ok (.getfield 93, 3) := by decide +kernel
theorem dX3_with_312 : decode cX3_with 312 = .ok (.invokestatic 115, 3) := by decide +kernel
theorem dX3_with_315 : decode cX3_with 315 = .ok (.lstore 6, 2) := by decide +kernel
theorem dX3_with_317 : decode cX3_with 317 = .ok (.aload_n 0, 1) := by decide +kernel
theorem dX3_with_318 : decode cX3_with 318 = .ok (.iload 4, 2) := by decide +kernel
theorem dX3_with_320 : decode cX3_with 320 = .ok (.lload 6, 2) := by decide +kernel
theorem dX3_with_322 : decode cX3_with 322 = .ok (.iconst 3, 1) := by decide +kernel
theorem dX3_with_323 : decode cX3_with 323 = .ok (.invokevirtual 152, 3) := by decide +kernel
theorem dX3_with_326 : decode cX3_with 326 = .ok (.lreturn, 1) := by decide +kernel
set_option maxRecDepth 20000 in
theorem ggX3_adjust_X3_isDate : GoodIn wsX3_adjust wsX3_isDate := goodIn_r _ [7, 8, 9, 10, 6, 11] (by decide +kernel) (by decide +kernel)
set_option maxRecDepth 20000 in
theorem gX3_adjust_X3_isDate : GoodIn wsX3_adjust (va_wsS RX3 121 yX3_isDate wsX3_isDate) := goodIn_app (goodIn_of _ (by decide +kernel)) ggX3_adjust_X3_isDate
set_option maxRecDepth 20000 in
theorem ggX3_adjust_X3_fails : GoodIn wsX3_adjust wsX3_fails := goodIn_r _ [15, 16, 65, 66, 67, 68, 69, 70, 71, 72, 73, 74, 75, 76, 77, 78] (by decide +kernel) (by decide +kernel)
set_option maxRecDepth 20000 in
theorem gX3_adjust_X3_fails : GoodIn wsX3_adjust (wsV RX3 125 RX3 yX3_fails wsX3_fails) := goodIn_app (goodIn_of _ (by decide +kernel)) ggX3_adjust_X3_fails
set_option maxRecDepth 20000 in
theorem ggX3_adjust_X3_parts : GoodIn wsX3_adjust wsX3_parts := goodIn_r _ [20, 21, 22, 23, 2, 3, 24, 25, 26, 6, 27, 28, 29, 30, 31, 32, 33, 34, 35, 36, 37, 38, 39, 40, 41, 42, 43, 44, 45, 46, 47, 48, 65, 66, 67, 68, 69, 70, 71, 72, 73, 74, 75, 76, 77, 78] (by decide +kernel) (by decide +kernel)
set_option maxRecDepth 20000 in
theorem gX3_adjust_X3_parts : GoodIn wsX3_adjust (wsV RX3 104 RX3 yX3_parts wsX3_parts) := goodIn_app (goodIn_of _ (by decide +kernel)) ggX3_adjust_X3_parts
set_option maxRecDepth 20000 in
theorem ggX3_adjust_X3_number : GoodIn wsX3_adjust wsX3_number := goodIn_r _ [51, 28, 29, 6, 30, 21, 31, 32, 33, 34, 35, 36, 37, 38, 39, 22, 25, 26, 27, 40, 41, 42, 43, 44, 45, 46, 47, 48] (by decide +kernel) (by decide +kernel)
set_option maxRecDepth 20000 in
theorem gX3_adjust_X3_number : GoodIn wsX3_adjust (va_wsS RX3 115 yX3_number wsX3_number) := goodIn_app (goodIn_of _ (by decide +kernel)) ggX3_adjust_X3_number
set_option maxRecDepth 20000 in
theorem ggX3_adjust_X3_many : GoodIn wsX3_adjust wsX3_many := goodIn_r _ [42, 43, 44, 6, 45, 36, 38, 22, 46, 47, 48, 25, 26, 27] (by decide +kernel) (by decide +kernel)
set_option maxRecDepth 20000 in
theorem gX3_adjust_X3_many : GoodIn wsX3_adjust (va_wsS RX3 80 yX3_many wsX3_many) := goodIn_app (goodIn_of _ (by decide +kernel)) ggX3_adjust_X3_many
set_option maxRecDepth 20000 in
theorem ggX3_adjust_X3_first : GoodIn wsX3_adjust wsX3_first := goodIn_r _ [30, 21, 31, 32, 6, 33, 34, 35, 36, 37, 38, 39, 22, 25, 26, 27] (by decide +kernel) (by decide +kernel)
set_option maxRecDepth 20000 in
theorem gX3_adjust_X3_first : GoodIn wsX3_adjust (va_wsS RX3 77 yX3_first wsX3_first) := goodIn_app (goodIn_of _ (by decide +kernel)) ggX3_adjust_X3_first
set_option maxRecDepth 20000 in
theorem ggX3_adjust_X3_becomes : GoodIn wsX3_adjust wsX3_becomes := goodIn_ca (goodIn_r _ [55, 1, 56, 57, 58, 6, 59, 2, 17, 18, 19, 20, 21, 22, 23, 3, 24, 25, 26, 27, 28, 29, 30, 31, 32, 33, 34, 35, 36, 37, 38, 39, 40, 41, 42, 43, 44, 45, 46, 47, 48, 60, 61, 62, 63, 64, 9, 10, 11, 12, 13, 14, 15, 16, 65, 66, 67, 68, 69, 70, 71, 72, 73, 74, 75, 76, 77, 78] (by decide +kernel) (by decide +kernel)) (goodIn_sub (fun _ h => List.mem_cons_of_mem _ (List.mem_append_right _ h)) (by decide +kernel))
set_option maxRecDepth 20000 in
theorem gX3_adjust_X3_becomes : GoodIn wsX3_adjust (wsV RX3 152 RX3 yX3_becomes wsX3_becomes) := goodIn_app (goodIn_of _ (by decide +kernel)) ggX3_adjust_X3_becomes
theorem dX3_adjust_0 : decode cX3_adjust 0 = .ok (.aload_n 0, 1) := by decide +kernel
theorem dX3_adjust_1 : decode cX3_adjust 1 = .ok (.iload_n 1, 1) := by decide +kernel
theorem dX3_adjust_2 : decode cX3_adjust 2 = .ok (.invokestatic 121, 3) := by decide +kernel
theorem dX3_adjust_5 : decode cX3_adjust 5 = .ok (.ifCond .eq 10, 3) := by decide +kernel
theorem dX3_adjust_8 : decode cX3_adjust 8 = .ok (.iload_n 3, 1) := by decide +kernel
theorem dX3_adjust_9 : decode cX3_adjust 9 = .ok (.invokestatic 121, 3) := by decide +kernel
theorem dX3_adjust_12 : decode cX3_adjust 12 = .ok (.ifCond .ne 7, 3) := by decide +kernel
theorem dX3_adjust_15 : decode cX3_adjust 15 = .ok (.iconst 1, 1) := by decide +kernel
theorem dX3_adjust_16 : decode cX3_adjust 16 = .ok (.goto 44, 3) := by decide +kernel
theorem dX3_adjust_19 : decode cX3_adjust 19 = .ok (.iload_n 2, 1) := by decide +kernel
theorem dX3_adjust_20 : decode cX3_adjust 20 = .ok (.bipush 102, 2) := by decide +kernel
theorem dX3_adjust_22 : decode cX3_adjust 22 = .ok (.if_icmp .eq 33, 3) := by decide +kernel
theorem dX3_adjust_25 : decode cX3_adjust 25 = .ok (.iload_n 2, 1) := by decide +kernel
theorem dX3_adjust_26 : decode cX3_adjust 26 = .ok (.bipush 108, 2) := by decide +kernel
theorem dX3_adjust_28 : decode cX3_adjust 28 = .ok (.if_icmp .eq 27, 3) := by decide +kernel
theorem dX3_adjust_31 : decode cX3_adjust 31 = .ok (.iload_n 2, 1) := by decide +kernel
theorem dX3_adjust_32 : decode cX3_adjust 32 = .ok (.bipush 110, 2) := by decide +kernel
theorem dX3_adjust_34 : decode cX3_adjust 34 = .ok (.if_icmp .eq 21, 3) := by decide +kernel
theorem dX3_adjust_37 : decode cX3_adjust 37 = .ok (.iload_n 2, 1) := by decide +kernel
theorem dX3_adjust_38 : decode cX3_adjust 38 = .ok (.bipush 70, 2) := by decide +kernel
theorem dX3_adjust_40 : decode cX3_adjust 40 = .ok (.if_icmp .eq 15, 3) := by decide +kernel
theorem dX3_adjust_43 : decode cX3_adjust 43 = .ok (.iload_n 2, 1) := by decide +kernel
theorem dX3_adjust_44 : decode cX3_adjust 44 = .ok (.bipush 76, 2) := by decide +kernel
theorem dX3_adjust_46 : decode cX3_adjust 46 = .ok (.if_icmp .eq 9, 3) := by decide +kernel
theorem dX3_adjust_49 : decode cX3_adjust 49 = .ok (.iload_n 2, 1) := by decide +kernel
theorem dX3_adjust_50 : decode cX3_adjust 50 = .ok (.bipush 78, 2) := by decide +kernel
theorem dX3_adjust_52 : decode cX3_adjust 52 = .ok (.if_icmp .ne 7, 3) := by decide +kernel
theorem dX3_adjust_55 : decode cX3_adjust 55 = .ok (.iconst 0, 1) := by decide +kernel
theorem dX3_adjust_56 : decode cX3_adjust 56 = .ok (.goto 4, 3) := by decide +kernel
theorem dX3_adjust_59 : decode cX3_adjust 59 = .ok (.iconst 2, 1) := by decide +kernel
theorem dX3_adjust_60 : decode cX3_adjust 60 = .ok (.invokevirtual 125, 3) := by decide +kernel
theorem dX3_adjust_63 : decode cX3_adjust 63 = .ok (.ifCond .eq 5, 3) := by decide +kernel
theorem dX3_adjust_66 : decode cX3_adjust 66 = .ok (.lconst 0, 1) := by decide +kernel
theorem dX3_adjust_67 : decode cX3_adjust 67 = .ok (.lreturn, 1) := by decide +kernel
theorem dX3_adjust_68 : decode cX3_adjust 68 = .ok (.aload_n 0, 1) := by decide +kernel
theorem dX3_adjust_69 : decode cX3_adjust 69 = .ok (.aload_n 0, 1) := by decide +kernel
theorem dX3_adjust_70 : decode cX3_adjust 70 = .ok (.getfield 13, 3) := by decide +kernel
theorem dX3_adjust_73 : decode cX3_adjust 73 = .ok (.iload_n 1, 1) := by decide +kernel
theorem dX3_adjust_74 : decode cX3_adjust 74 = .ok (.laload, 1) := by decide +kernel
theorem dX3_adjust_75 : decode cX3_adjust 75 = .ok (.invokevirtual 104, 3) := by decide +kernel
theorem dX3_adjust_78 : decode cX3_adjust 78 = .ok (.aload_n 0, 1) := by decide +kernel
theorem dX3_adjust_79 : decode cX3_adjust 79 = .ok (.getfield 86, 3) := by decide +kernel
theorem dX3_adjust_82 : decode cX3_adjust 82 = .ok (.aload_n 0, 1) := by decide +kernel
theorem dX3_adjust_83 : decode cX3_adjust 83 = .ok (.getfield 90, 3) := by decide +kernel
theorem dX3_adjust_86 : decode cX3_adjust 86 = .ok (.iconst 1, 1) := by decide +kernel
theorem dX3_adjust_87 : decode cX3_adjust 87 = .ok (.invokestatic 115, 3) := by decide +kernel
theorem dX3_adjust_90 : decode cX3_adjust 90 = .ok (.lstore 4, 2) := by decide +kernel
theorem dX3_adjust_92 : decode cX3_adjust 92 = .ok (.lload 4, 2) := by decide +kernel
theorem dX3_adjust_94 : decode cX3_adjust 94 = .ok (.aload_n 0, 1) := by decide +kernel
theorem dX3_adjust_95 : decode cX3_adjust 95 = .ok (.getfield 86, 3) := by decide +kernel
theorem dX3_adjust_98 : decode cX3_adjust 98 = .ok (.aload_n 0, 1) := by decide +kernel
theorem dX3_adjust_99 : decode cX3_adjust 99 = .ok (.getfield 90, 3) := by decide +kernel
theorem dX3_adjust_102 : decode cX3_adjust 102 = .ok (.invokestatic 80, 3) := by decide +kernel
theorem dX3_adjust_105 : decode cX3_adjust 105 = .ok (.i2l, 1) := by decide +kernel
theorem dX3_adjust_106 : decode cX3_adjust 106 = .ok (.ladd, 1) := by decide +kernel
theorem dX3_adjust_107 : decode cX3_adjust 107 = .ok (.lstore 6, 2) := by decide +kernel
theorem dX3_adjust_109 : decode cX3_adjust 109 = .ok (.iload_n 2, 1) := by decide +kernel
theorem dX3_adjust_110 : decode cX3_adjust 110 = .ok (.bipush 102, 2) := by decide +kernel
theorem dX3_adjust_112 : decode cX3_adjust 112 = .ok (.if_icmp .ne 8, 3) := by decide +kernel
theorem dX3_adjust_115 : decode cX3_adjust 115 = .ok (.lload 4, 2) := by decide +kernel
theorem dX3_adjust_117 : decode cX3_adjust 117 = .ok (.goto 72, 3) := by decide +kernel
theorem dX3_adjust_120 : decode cX3_adjust 120 = .ok (.iload_n 2, 1) := by decide +kernel
theorem dX3_adjust_121 : decode cX3_adjust 121 = .ok (.bipush 108, 2) := by decide +kernel
theorem dX3_adjust_123 : decode cX3_adjust 123 = .ok (.if_icmp .ne 10, 3) := by decide +kernel
theorem dX3_adjust_126 : decode cX3_adjust 126 = .ok (.lload 6, 2) := by decide +kernel
theorem dX3_adjust_128 : decode cX3_adjust 128 = .ok (.lconst 1, 1) := by decide +kernel
theorem dX3_adjust_129 : decode cX3_adjust 129 = .ok (.lsub, 1) := by decide +kernel
theorem dX3_adjust_130 : decode cX3_adjust 130 = .ok (.goto 59, 3) := by decide +kernel
theorem dX3_adjust_133 : decode cX3_adjust 133 = .ok (.iload_n 2, 1) := by decide +kernel
theorem dX3_adjust_134 : decode cX3_adjust 134 = .ok (.bipush 110, 2) := by decide +kernel
theorem dX3_adjust_136 : decode cX3_adjust 136 = .ok (.if_icmp .ne 8, 3) := by decide +kernel
theorem dX3_adjust_139 : decode cX3_adjust 139 = .ok (.lload 6, 2) := by decide +kernel
theorem dX3_adjust_141 : decode cX3_adjust 141 = .ok (.goto 48, 3) := by decide +kernel
theorem dX3_adjust_144 : decode cX3_adjust 144 = .ok (.iload_n 2, 1) := by decide +kernel
theorem dX3_adjust_145 : decode cX3_adjust 145 = .ok (.bipush 70, 2) := by decide +kernel
theorem dX3_adjust_147 : decode cX3_adjust 147 = .ok (.if_icmp .ne 13, 3) := by decide +kernel
theorem dX3_adjust_150 : decode cX3_adjust 150 = .ok (.aload_n 0, 1) := by decide +kernel
theorem dX3_adjust_151 : decode cX3_adjust 151 = .ok (.getfield 86, 3) := by decide +kernel
theorem dX3_adjust_154 : decode cX3_adjust 154 = .ok (.invokestatic 77, 3) := by decide +kernel
theorem dX3_adjust_157 : decode cX3_adjust 157 = .ok (.goto 32, 3) := by decide +kernel
theorem dX3_adjust_160 : decode cX3_adjust 160 = .ok (.iload_n 2, 1) := by decide +kernel
theorem dX3_adjust_161 : decode cX3_adjust 161 = .ok (.bipush 76, 2) := by decide +kernel
theorem dX3_adjust_163 : decode cX3_adjust 163 = .ok (.if_icmp .ne 17, 3) := by decide +kernel
theorem dX3_adjust_166 : decode cX3_adjust 166 = .ok (.aload_n 0, 1) := by decide +kernel
theorem dX3_adjust_167 : decode cX3_adjust 167 = .ok (.getfield 86, 3) := by decide +kernel
theorem dX3_adjust_170 : decode cX3_adjust 170 = .ok (.lconst 1, 1) := by decide +kernel
theorem dX3_adjust_171 : decode cX3_adjust 171 = .ok (.ladd, 1) := by decide +kernel
theorem dX3_adjust_172 : decode cX3_adjust 172 = .ok (.invokestatic 77, 3) := by decide +kernel
theorem dX3_adjust_175 : decode cX3_adjust 175 = .ok (.lconst 1, 1) := by decide +kernel
theorem dX3_adjust_176 : decode cX3_adjust 176 = .ok (.lsub, 1) := by decide +kernel
theorem dX3_adjust_177 : decode cX3_adjust 177 = .ok (.goto 12, 3) := by decide +kernel
theorem dX3_adjust_180 : decode cX3_adjust 180 = .ok (.aload_n 0, 1) := by decide +kernel
theorem dX3_adjust_181 : decode cX3_adjust 181 = .ok (.getfield 86, 3) := by decide +kernel
theorem dX3_adjust_184 : decode cX3_adjust 184 = .ok (.lconst 1, 1) := by decide +kernel
theorem dX3_adjust_185 : decode cX3_adjust 185 = .ok (.ladd, 1) := by decide +kernel
theorem dX3_adjust_186 : decode cX3_adjust 186 = .ok (.invokestatic 77, 3) := by decide +kernel
theorem dX3_adjust_189 : decode cX3_adjust 189 = .ok (.lstore 8, 2) := by decide +kernel
theorem dX3_adjust_191 : decode cX3_adjust 191 = .ok (.aload_n 0, 1) := by decide +kernel
theorem dX3_adjust_192 : decode cX3_adjust 192 = .ok (.iload_n 3, 1) := by decide +kernel
theorem dX3_adjust_193 : decode cX3_adjust 193 = .ok (.lload 8, 2) := by decide +kernel
theorem dX3_adjust_195 : decode cX3_adjust 195 = .ok (.iconst 3, 1) := by decide +kernel
theorem dX3_adjust_196 : decode cX3_adjust 196 = .ok (.invokevirtual 152, 3) := by decide +kernel
theorem dX3_adjust_199 : decode cX3_adjust 199 = .ok (.lreturn, 1) := by decide +kernel
set_option maxRecDepth 20000 in
theorem ggX3_sought_X3_weekdayOf : GoodIn wsX3_sought wsX3_weekdayOf := goodIn_r _ [4, 5, 6, 7, 8, 3, 9, 10, 11, 12] (by decide +kernel) (by decide +kernel)
set_option maxRecDepth 20000 in
theorem gX3_sought_X3_weekdayOf : GoodIn wsX3_sought (va_wsS RX3 130 yX3_weekdayOf wsX3_weekdayOf) := goodIn_app (goodIn_of _ (by decide +kernel)) ggX3_sought_X3_weekdayOf
theorem dX3_sought_0 : decode cX3_sought 0 = .ok (.lload_n 0, 1) := by decide +kernel
theorem dX3_sought_1 : decode cX3_sought 1 = .ok (.lstore 4, 2) := by decide +kernel
theorem dX3_sought_3 : decode cX3_sought 3 = .ok (.lload 4, 2) := by decide +kernel
theorem dX3_sought_5 : decode cX3_sought 5 = .ok (.invokestatic 130, 3) := by decide +kernel
theorem dX3_sought_8 : decode cX3_sought 8 = .ok (.iload_n 2, 1) := by decide +kernel
theorem dX3_sought_9 : decode cX3_sought 9 = .ok (.if_icmp .eq 13, 3) := by decide +kernel
theorem dX3_sought_12 : decode cX3_sought 12 = .ok (.lload 4, 2) := by decide +kernel
theorem dX3_sought_14 : decode cX3_sought 14 = .ok (.iload_n 3, 1) := by decide +kernel
theorem dX3_sought_15 : decode cX3_sought 15 = .ok (.i2l, 1) := by decide +kernel
theorem dX3_sought_16 : decode cX3_sought 16 = .ok (.ladd, 1) := by decide +kernel
theorem dX3_sought_17 : decode cX3_sought 17 = .ok (.lstore 4, 2) := by decide +kernel
theorem dX3_sought_19 : decode cX3_sought 19 = .ok (.goto (-16), 3) := by decide +kernel
theorem dX3_sought_22 : decode cX3_sought 22 = .ok (.lload 4, 2) := by decide +kernel
theorem dX3_sought_24 : decode cX3_sought 24 = .ok (.lreturn, 1) := by decide +kernel
set_option maxRecDepth 20000 in
theorem ggX3_weekday_X3_isDate : GoodIn wsX3_weekday wsX3_isDate := goodIn_r _ [8, 9, 10, 11, 7, 12] (by decide +kernel) (by decide +kernel)
set_option maxRecDepth 20000 in
theorem gX3_weekday_X3_isDate : GoodIn wsX3_weekday (va_wsS RX3 121 yX3_isDate wsX3_isDate) := goodIn_app (goodIn_of _ (by decide +kernel)) ggX3_weekday_X3_isDate
set_option maxRecDepth 20000 in
theorem ggX3_weekday_X3_in : GoodIn wsX3_weekday wsX3_in := goodIn_r _ [12] (by decide +kernel) (by decide +kernel)
set_option maxRecDepth 20000 in
theorem gX3_weekday_X3_in : GoodIn wsX3_weekday (va_wsS RX3 100 yX3_in wsX3_in) := goodIn_app (goodIn_of _ (by decide +kernel)) ggX3_weekday_X3_in
set_option maxRecDepth 20000 in
theorem ggX3_weekday_X3_fails : GoodIn wsX3_weekday wsX3_fails := goodIn_r _ [16, 17, 72, 73, 74, 75, 76, 77, 78, 79, 80, 81, 82, 83, 84, 85] (by decide +kernel) (by decide +kernel)
set_option maxRecDepth 20000 in
theorem gX3_weekday_X3_fails : GoodIn wsX3_weekday (wsV RX3 125 RX3 yX3_fails wsX3_fails) := goodIn_app (goodIn_of _ (by decide +kernel)) ggX3_weekday_X3_fails
set_option maxRecDepth 20000 in
theorem ggX3_weekday_X3_parts : GoodIn wsX3_weekday wsX3_parts := goodIn_r _ [21, 22, 23, 24, 3, 4, 25, 26, 27, 7, 28, 29, 30, 31, 32, 33, 34, 35, 36, 37, 38, 39, 40, 41, 42, 43, 44, 45, 46, 47, 48, 49, 72, 73, 74, 75, 76, 77, 78, 79, 80, 81, 82, 83, 84, 85] (by decide +kernel) (by decide +kernel)
set_option maxRecDepth 20000 in
theorem gX3_weekday_X3_parts : GoodIn wsX3_weekday (wsV RX3 104 RX3 yX3_parts wsX3_parts) := goodIn_app (goodIn_of _ (by decide +kernel)) ggX3_weekday_X3_parts
set_option maxRecDepth 20000 in
theorem ggX3_weekday_X3_number : GoodIn wsX3_weekday wsX3_number := goodIn_r _ [52, 29, 30, 7, 31, 22, 32, 33, 34, 35, 36, 37, 38, 39, 40, 23, 26, 27, 28, 41, 42, 43, 44, 45, 46, 47, 48, 49] (by decide +kernel) (by decide +kernel)
set_option maxRecDepth 20000 in
theorem gX3_weekday_X3_number : GoodIn wsX3_weekday (va_wsS RX3 115 yX3_number wsX3_number) := goodIn_app (goodIn_of _ (by decide +kernel)) ggX3_weekday_X3_number
set_option maxRecDepth 20000 in
theorem ggX3_weekday_X3_many : GoodIn wsX3_weekday wsX3_many := goodIn_r _ [43, 44, 45, 7, 46, 37, 39, 23, 47, 48, 49, 26, 27, 28] (by decide +kernel) (by decide +kernel)
set_option maxRecDepth 20000 in
theorem gX3_weekday_X3_many : GoodIn wsX3_weekday (va_wsS RX3 80 yX3_many wsX3_many) := goodIn_app (goodIn_of _ (by decide +kernel)) ggX3_weekday_X3_many
set_option maxRecDepth 20000 in
theorem ggX3_weekday_X3_sought : GoodIn wsX3_weekday wsX3_sought := goodIn_r _ [55, 56, 57, 7, 58, 36, 1, 47, 48, 49, 26, 27, 28] (by decide +kernel) (by decide +kernel)
set_option maxRecDepth 20000 in
theorem gX3_weekday_X3_sought : GoodIn wsX3_weekday (va_wsS RX3 156 yX3_sought wsX3_sought) := goodIn_app (goodIn_of _ (by decide +kernel)) ggX3_weekday_X3_sought
set_option maxRecDepth 20000 in
theorem ggX3_weekday_X3_becomes : GoodIn wsX3_weekday wsX3_becomes := goodIn_ca (goodIn_r _ [62, 2, 63, 64, 65, 7, 66, 3, 18, 19, 20, 21, 22, 23, 24, 4, 25, 26, 27, 28, 29, 30, 31, 32, 33, 34, 35, 36, 37, 38, 39, 40, 41, 42, 43, 44, 45, 46, 47, 48, 49, 67, 68, 69, 70, 71, 10, 11, 12, 13, 14, 15, 16, 17, 72, 73, 74, 75, 76, 77, 78, 79, 80, 81, 82, 83, 84, 85] (by decide +kernel) (by decide +kernel)) (goodIn_sub (fun _ h => List.mem_cons_of_mem _ (List.mem_append_right _ h)) (by decide +kernel))
set_option maxRecDepth 20000 in
theorem gX3_weekday_X3_becomes : GoodIn wsX3_weekday (wsV RX3 152 RX3 yX3_becomes wsX3_becomes) := goodIn_app (goodIn_of _ (by decide +kernel)) ggX3_weekday_X3_becomes
theorem dX3_weekday_0 : decode cX3_weekday 0 = .ok (.aload_n 0, 1) := by decide +kernel
theorem dX3_weekday_1 : decode cX3_weekday 1 = .ok (.iload_n 1, 1) := by decide +kernel
theorem dX3_weekday_2 : decode cX3_weekday 2 = .ok (.invokestatic 121, 3) := by decide +kernel
theorem dX3_weekday_5 : decode cX3_weekday 5 = .ok (.ifCond .eq 11, 3) := by decide +kernel
theorem dX3_weekday_8 : decode cX3_weekday 8 = .ok (.iload 4, 2) := by decide +kernel
theorem dX3_weekday_10 : decode cX3_weekday 10 = .ok (.invokestatic 121, 3) := by decide +kernel
theorem dX3_weekday_13 : decode cX3_weekday 13 = .ok (.ifCond .ne 7, 3) := by decide +kernel
theorem dX3_weekday_16 : decode cX3_weekday 16 = .ok (.iconst 1, 1) := by decide +kernel
theorem dX3_weekday_17 : decode cX3_weekday 17 = .ok (.goto 56, 3) := by decide +kernel
theorem dX3_weekday_20 : decode cX3_weekday 20 = .ok (.iload_n 2, 1) := by decide +kernel
theorem dX3_weekday_21 : decode cX3_weekday 21 = .ok (.bipush 110, 2) := by decide +kernel
theorem dX3_weekday_23 : decode cX3_weekday 23 = .ok (.if_icmp .eq 33, 3) := by decide +kernel
theorem dX3_weekday_26 : decode cX3_weekday 26 = .ok (.iload_n 2, 1) := by decide +kernel
theorem dX3_weekday_27 : decode cX3_weekday 27 = .ok (.bipush 112, 2) := by decide +kernel
theorem dX3_weekday_29 : decode cX3_weekday 29 = .ok (.if_icmp .eq 27, 3) := by decide +kernel
theorem dX3_weekday_32 : decode cX3_weekday 32 = .ok (.iload_n 2, 1) := by decide +kernel
theorem dX3_weekday_33 : decode cX3_weekday 33 = .ok (.bipush 78, 2) := by decide +kernel
theorem dX3_weekday_35 : decode cX3_weekday 35 = .ok (.if_icmp .eq 21, 3) := by decide +kernel
theorem dX3_weekday_38 : decode cX3_weekday 38 = .ok (.iload_n 2, 1) := by decide +kernel
theorem dX3_weekday_39 : decode cX3_weekday 39 = .ok (.bipush 80, 2) := by decide +kernel
theorem dX3_weekday_41 : decode cX3_weekday 41 = .ok (.if_icmp .eq 15, 3) := by decide +kernel
theorem dX3_weekday_44 : decode cX3_weekday 44 = .ok (.iload_n 2, 1) := by decide +kernel
theorem dX3_weekday_45 : decode cX3_weekday 45 = .ok (.bipush 102, 2) := by decide +kernel
theorem dX3_weekday_47 : decode cX3_weekday 47 = .ok (.if_icmp .eq 9, 3) := by decide +kernel
theorem dX3_weekday_50 : decode cX3_weekday 50 = .ok (.iload_n 2, 1) := by decide +kernel
theorem dX3_weekday_51 : decode cX3_weekday 51 = .ok (.bipush 108, 2) := by decide +kernel
theorem dX3_weekday_53 : decode cX3_weekday 53 = .ok (.if_icmp .ne 19, 3) := by decide +kernel
theorem dX3_weekday_56 : decode cX3_weekday 56 = .ok (.iload_n 3, 1) := by decide +kernel
theorem dX3_weekday_57 : decode cX3_weekday 57 = .ok (.i2l, 1) := by decide +kernel
theorem dX3_weekday_58 : decode cX3_weekday 58 = .ok (.lconst 1, 1) := by decide +kernel
theorem dX3_weekday_59 : decode cX3_weekday 59 = .ok (.ldc2_w 111, 3) := by decide +kernel
theorem dX3_weekday_62 : decode cX3_weekday 62 = .ok (.invokestatic 100, 3) := by decide +kernel
theorem dX3_weekday_65 : decode cX3_weekday 65 = .ok (.ifCond .eq 7, 3) := by decide +kernel
theorem dX3_weekday_68 : decode cX3_weekday 68 = .ok (.iconst 0, 1) := by decide +kernel
theorem dX3_weekday_69 : decode cX3_weekday 69 = .ok (.goto 4, 3) := by decide +kernel
theorem dX3_weekday_72 : decode cX3_weekday 72 = .ok (.iconst 2, 1) := by decide +kernel
theorem dX3_weekday_73 : decode cX3_weekday 73 = .ok (.invokevirtual 125, 3) := by decide +kernel
theorem dX3_weekday_76 : decode cX3_weekday 76 = .ok (.ifCond .eq 5, 3) := by decide +kernel
theorem dX3_weekday_79 : decode cX3_weekday 79 = .ok (.lconst 0, 1) := by decide +kernel
theorem dX3_weekday_80 : decode cX3_weekday 80 = .ok (.lreturn, 1) := by decide +kernel
theorem dX3_weekday_81 : decode cX3_weekday 81 = .ok (.aload_n 0, 1) := by decide +kernel
theorem dX3_weekday_82 : decode cX3_weekday 82 = .ok (.getfield 13, 3) := by decide +kernel
theorem dX3_weekday_85 : decode cX3_weekday 85 = .ok (.iload_n 1, 1) := by decide +kernel
theorem dX3_weekday_86 : decode cX3_weekday 86 = .ok (.laload, 1) := by decide +kernel
theorem dX3_weekday_87 : decode cX3_weekday 87 = .ok (.lstore 5, 2) := by decide +kernel
theorem dX3_weekday_89 : decode cX3_weekday 89 = .ok (.aload_n 0, 1) := by decide +kernel
theorem dX3_weekday_90 : decode cX3_weekday 90 = .ok (.lload 5, 2) := by decide +kernel
theorem dX3_weekday_92 : decode cX3_weekday 92 = .ok (.invokevirtual 104, 3) := by decide +kernel
theorem dX3_weekday_95 : decode cX3_weekday 95 = .ok (.aload_n 0, 1) := by decide +kernel
theorem dX3_weekday_96 : decode cX3_weekday 96 = .ok (.getfield 86, 3) := by decide +kernel
theorem dX3_weekday_99 : decode cX3_weekday 99 = .ok (.aload_n 0, 1) := by decide +kernel
theorem dX3_weekday_100 : decode cX3_weekday 100 = .ok (.getfield 90, 3) := by decide +kernel
theorem dX3_weekday_103 : decode cX3_weekday 103 = .ok (.iconst 1, 1) := by decide +kernel
theorem dX3_weekday_104 : decode cX3_weekday 104 = .ok (.invokestatic 115, 3) := by decide +kernel
theorem dX3_weekday_107 : decode cX3_weekday 107 = .ok (.lstore 7, 2) := by decide +kernel
theorem dX3_weekday_109 : decode cX3_weekday 109 = .ok (.lload 7, 2) := by decide +kernel
theorem dX3_weekday_111 : decode cX3_weekday 111 = .ok (.aload_n 0, 1) := by decide +kernel
theorem dX3_weekday_112 : decode cX3_weekday 112 = .ok (.getfield 86, 3) := by decide +kernel
theorem dX3_weekday_115 : decode cX3_weekday 115 = .ok (.aload_n 0, 1) := by decide +kernel
theorem dX3_weekday_116 : decode cX3_weekday 116 = .ok (.getfield 90, 3) := by decide +kernel
theorem dX3_weekday_119 : decode cX3_weekday 119 = .ok (.invokestatic 80, 3) := by decide +kernel
theorem dX3_weekday_122 : decode cX3_weekday 122 = .ok (.i2l, 1) := by decide +kernel
theorem dX3_weekday_123 : decode cX3_weekday 123 = .ok (.ladd, 1) := by decide +kernel
theorem dX3_weekday_124 : decode cX3_weekday 124 = .ok (.lconst 1, 1) := by decide +kernel
theorem dX3_weekday_125 : decode cX3_weekday 125 = .ok (.lsub, 1) := by decide +kernel
theorem dX3_weekday_126 : decode cX3_weekday 126 = .ok (.lstore 9, 2) := by decide +kernel
theorem dX3_weekday_128 : decode cX3_weekday 128 = .ok (.iload_n 2, 1) := by decide +kernel
theorem dX3_weekday_129 : decode cX3_weekday 129 = .ok (.bipush 110, 2) := by decide +kernel
theorem dX3_weekday_131 : decode cX3_weekday 131 = .ok (.if_icmp .ne 10, 3) := by decide +kernel
theorem dX3_weekday_134 : decode cX3_weekday 134 = .ok (.lload 5, 2) := by decide +kernel
theorem dX3_weekday_136 : decode cX3_weekday 136 = .ok (.lconst 1, 1) := by decide +kernel
theorem dX3_weekday_137 : decode cX3_weekday 137 = .ok (.ladd, 1) := by decide +kernel
theorem dX3_weekday_138 : decode cX3_weekday 138 = .ok (.goto 40, 3) := by decide +kernel
theorem dX3_weekday_141 : decode cX3_weekday 141 = .ok (.iload_n 2, 1) := by decide +kernel
theorem dX3_weekday_142 : decode cX3_weekday 142 = .ok (.bipush 112, 2) := by decide +kernel
theorem dX3_weekday_144 : decode cX3_weekday 144 = .ok (.if_icmp .ne 10, 3) := by decide +kernel
theorem dX3_weekday_147 : decode cX3_weekday 147 = .ok (.lload 5, 2) := by decide +kernel
theorem dX3_weekday_149 : decode cX3_weekday 149 = .ok (.lconst 1, 1) := by decide +kernel
theorem dX3_weekday_150 : decode cX3_weekday 150 = .ok (.lsub, 1) := by decide +kernel
theorem dX3_weekday_151 : decode cX3_weekday 151 = .ok (.goto 27, 3) := by decide +kernel
theorem dX3_weekday_154 : decode cX3_weekday 154 = .ok (.iload_n 2, 1) := by decide +kernel
theorem dX3_weekday_155 : decode cX3_weekday 155 = .ok (.bipush 102, 2) := by decide +kernel
theorem dX3_weekday_157 : decode cX3_weekday 157 = .ok (.if_icmp .ne 8, 3) := by decide +kernel
theorem dX3_weekday_160 : decode cX3_weekday 160 = .ok (.lload 7, 2) := by decide +kernel
theorem dX3_weekday_162 : decode cX3_weekday 162 = .ok (.goto 16, 3) := by decide +kernel
theorem dX3_weekday_165 : decode cX3_weekday 165 = .ok (.iload_n 2, 1) := by decide +kernel
theorem dX3_weekday_166 : decode cX3_weekday 166 = .ok (.bipush 108, 2) := by decide +kernel
theorem dX3_weekday_168 : decode cX3_weekday 168 = .ok (.if_icmp .ne 8, 3) := by decide +kernel
theorem dX3_weekday_171 : decode cX3_weekday 171 = .ok (.lload 9, 2) := by decide +kernel
theorem dX3_weekday_173 : decode cX3_weekday 173 = .ok (.goto 5, 3) := by decide +kernel
theorem dX3_weekday_176 : decode cX3_weekday 176 = .ok (.lload 5, 2) := by decide +kernel
theorem dX3_weekday_178 : decode cX3_weekday 178 = .ok (.lstore 11, 2) := by decide +kernel
theorem dX3_weekday_180 : decode cX3_weekday 180 = .ok (.aload_n 0, 1) := by decide +kernel
theorem dX3_weekday_181 : decode cX3_weekday 181 = .ok (.iload 4, 2) := by decide +kernel
theorem dX3_weekday_183 : decode cX3_weekday 183 = .ok (.lload 11, 2) := by decide +kernel
theorem dX3_weekday_185 : decode cX3_weekday 185 = .ok (.iload_n 3, 1) := by decide +kernel
theorem dX3_weekday_186 : decode cX3_weekday 186 = .ok (.iload_n 2, 1) := by decide +kernel
theorem dX3_weekday_187 : decode cX3_weekday 187 = .ok (.bipush 110, 2) := by decide +kernel
theorem dX3_weekday_189 : decode cX3_weekday 189 = .ok (.if_icmp .eq 15, 3) := by decide +kernel
theorem dX3_weekday_192 : decode cX3_weekday 192 = .ok (.iload_n 2, 1) := by decide +kernel
theorem dX3_weekday_193 : decode cX3_weekday 193 = .ok (.bipush 78, 2) := by decide +kernel
theorem dX3_weekday_195 : decode cX3_weekday 195 = .ok (.if_icmp .eq 9, 3) := by decide +kernel
theorem dX3_weekday_198 : decode cX3_weekday 198 = .ok (.iload_n 2, 1) := by decide +kernel
theorem dX3_weekday_199 : decode cX3_weekday 199 = .ok (.bipush 102, 2) := by decide +kernel
theorem dX3_weekday_201 : decode cX3_weekday 201 = .ok (.if_icmp .ne 7, 3) := by decide +kernel
theorem dX3_weekday_204 : decode cX3_weekday 204 = .ok (.iconst 1, 1) := by decide +kernel
theorem dX3_weekday_205 : decode cX3_weekday 205 = .ok (.goto 4, 3) := by decide +kernel
theorem dX3_weekday_208 : decode cX3_weekday 208 = .ok (.iconst (-1), 1) := by decide +kernel
theorem dX3_weekday_209 : decode cX3_weekday 209 = .ok (.invokestatic 156, 3) := by decide +kernel
theorem dX3_weekday_212 : decode cX3_weekday 212 = .ok (.iconst 3, 1) := by decide +kernel
theorem dX3_weekday_213 : decode cX3_weekday 213 = .ok (.invokevirtual 152, 3) := by decide +kernel
theorem dX3_weekday_216 : decode cX3_weekday 216 = .ok (.lreturn, 1) := by decide +kernel
set_option maxRecDepth 20000 in
theorem ggX3_inMonth_X3_isDate : GoodIn wsX3_inMonth wsX3_isDate := goodIn_r _ [10, 11, 12, 13, 9, 14] (by decide +kernel) (by decide +kernel)
set_option maxRecDepth 20000 in
theorem gX3_inMonth_X3_isDate : GoodIn wsX3_inMonth (va_wsS RX3 121 yX3_isDate wsX3_isDate) := goodIn_app (goodIn_of _ (by decide +kernel)) ggX3_inMonth_X3_isDate
set_option maxRecDepth 20000 in
theorem ggX3_inMonth_X3_in : GoodIn wsX3_inMonth wsX3_in := goodIn_r _ [14] (by decide +kernel) (by decide +kernel)
set_option maxRecDepth 20000 in
theorem gX3_inMonth_X3_in : GoodIn wsX3_inMonth (va_wsS RX3 100 yX3_in wsX3_in) := goodIn_app (goodIn_of _ (by decide +kernel)) ggX3_inMonth_X3_in
set_option maxRecDepth 20000 in
theorem ggX3_inMonth_X3_fails : GoodIn wsX3_inMonth wsX3_fails := goodIn_r _ [18, 19, 74, 75, 76, 77, 78, 79, 80, 81, 82, 83, 84, 85, 86, 87] (by decide +kernel) (by decide +kernel)
set_option maxRecDepth 20000 in
theorem gX3_inMonth_X3_fails : GoodIn wsX3_inMonth (wsV RX3 125 RX3 yX3_fails wsX3_fails) := goodIn_app (goodIn_of _ (by decide +kernel)) ggX3_inMonth_X3_fails
set_option maxRecDepth 20000 in
theorem ggX3_inMonth_X3_parts : GoodIn wsX3_inMonth wsX3_parts := goodIn_r _ [23, 24, 25, 26, 5, 6, 27, 28, 29, 9, 30, 31, 32, 33, 34, 35, 36, 37, 38, 39, 40, 41, 42, 43, 44, 45, 46, 47, 48, 49, 50, 51, 74, 75, 76, 77, 78, 79, 80, 81, 82, 83, 84, 85, 86, 87] (by decide +kernel) (by decide +kernel)
set_option maxRecDepth 20000 in
theorem gX3_inMonth_X3_parts : GoodIn wsX3_inMonth (wsV RX3 104 RX3 yX3_parts wsX3_parts) := goodIn_app (goodIn_of _ (by decide +kernel)) ggX3_inMonth_X3_parts
set_option maxRecDepth 20000 in
theorem ggX3_inMonth_X3_number : GoodIn wsX3_inMonth wsX3_number := goodIn_r _ [54, 31, 32, 9, 33, 24, 34, 35, 36, 37, 38, 39, 40, 41, 42, 25, 28, 29, 30, 43, 44, 45, 46, 47, 48, 49, 50, 51] (by decide +kernel) (by decide +kernel)
set_option maxRecDepth 20000 in
theorem gX3_inMonth_X3_number : GoodIn wsX3_inMonth (va_wsS RX3 115 yX3_number wsX3_number) := goodIn_app (goodIn_of _ (by decide +kernel)) ggX3_inMonth_X3_number
set_option maxRecDepth 20000 in
theorem ggX3_inMonth_X3_many : GoodIn wsX3_inMonth wsX3_many := goodIn_r _ [45, 46, 47, 9, 48, 39, 41, 25, 49, 50, 51, 28, 29, 30] (by decide +kernel) (by decide +kernel)
set_option maxRecDepth 20000 in
theorem gX3_inMonth_X3_many : GoodIn wsX3_inMonth (va_wsS RX3 80 yX3_many wsX3_many) := goodIn_app (goodIn_of _ (by decide +kernel)) ggX3_inMonth_X3_many
set_option maxRecDepth 20000 in
theorem ggX3_inMonth_X3_sought : GoodIn wsX3_inMonth wsX3_sought := goodIn_r _ [57, 58, 59, 9, 60, 38, 3, 49, 50, 51, 28, 29, 30] (by decide +kernel) (by decide +kernel)
set_option maxRecDepth 20000 in
theorem gX3_inMonth_X3_sought : GoodIn wsX3_inMonth (va_wsS RX3 156 yX3_sought wsX3_sought) := goodIn_app (goodIn_of _ (by decide +kernel)) ggX3_inMonth_X3_sought
set_option maxRecDepth 20000 in
theorem ggX3_inMonth_X3_becomes : GoodIn wsX3_inMonth wsX3_becomes := goodIn_ca (goodIn_r _ [64, 4, 65, 66, 67, 9, 68, 5, 20, 21, 22, 23, 24, 25, 26, 6, 27, 28, 29, 30, 31, 32, 33, 34, 35, 36, 37, 38, 39, 40, 41, 42, 43, 44, 45, 46, 47, 48, 49, 50, 51, 69, 70, 71, 72, 73, 12, 13, 14, 15, 16, 17, 18, 19, 74, 75, 76, 77, 78, 79, 80, 81, 82, 83, 84, 85, 86, 87] (by decide +kernel) (by decide +kernel)) (goodIn_sub (fun _ h => List.mem_cons_of_mem _ (List.mem_append_right _ h)) (by decide +kernel))
set_option maxRecDepth 20000 in
theorem gX3_inMonth_X3_becomes : GoodIn wsX3_inMonth (wsV RX3 152 RX3 yX3_becomes wsX3_becomes) := goodIn_app (goodIn_of _ (by decide +kernel)) ggX3_inMonth_X3_becomes
theorem dX3_inMonth_0 : decode cX3_inMonth 0 = .ok (.aload_n 0, 1) := by decide +kernel
theorem dX3_inMonth_1 : decode cX3_inMonth 1 = .ok (.iload_n 1, 1) := by decide +kernel
theorem dX3_inMonth_2 : decode cX3_inMonth 2 = .ok (.invokestatic 121, 3) := by decide +kernel
theorem dX3_inMonth_5 : decode cX3_inMonth 5 = .ok (.ifCond .eq 11, 3) := by decide +kernel
theorem dX3_inMonth_8 : decode cX3_inMonth 8 = .ok (.iload 4, 2) := by decide +kernel
theorem dX3_inMonth_10 : decode cX3_inMonth 10 = .ok (.invokestatic 121, 3) := by decide +kernel
theorem dX3_inMonth_13 : decode cX3_inMonth 13 = .ok (.ifCond .ne 7, 3) := by decide +kernel
theorem dX3_inMonth_16 : decode cX3_inMonth 16 = .ok (.iconst 1, 1) := by decide +kernel
theorem dX3_inMonth_17 : decode cX3_inMonth 17 = .ok (.goto 34, 3) := by decide +kernel
theorem dX3_inMonth_20 : decode cX3_inMonth 20 = .ok (.iload_n 2, 1) := by decide +kernel
theorem dX3_inMonth_21 : decode cX3_inMonth 21 = .ok (.i2l, 1) := by decide +kernel
theorem dX3_inMonth_22 : decode cX3_inMonth 22 = .ok (.ldc2_w 159, 3) := by decide +kernel
theorem dX3_inMonth_25 : decode cX3_inMonth 25 = .ok (.ldc2_w 161, 3) := by decide +kernel
theorem dX3_inMonth_28 : decode cX3_inMonth 28 = .ok (.invokestatic 100, 3) := by decide +kernel
theorem dX3_inMonth_31 : decode cX3_inMonth 31 = .ok (.ifCond .eq 19, 3) := by decide +kernel
theorem dX3_inMonth_34 : decode cX3_inMonth 34 = .ok (.iload_n 3, 1) := by decide +kernel
theorem dX3_inMonth_35 : decode cX3_inMonth 35 = .ok (.i2l, 1) := by decide +kernel
theorem dX3_inMonth_36 : decode cX3_inMonth 36 = .ok (.lconst 1, 1) := by decide +kernel
theorem dX3_inMonth_37 : decode cX3_inMonth 37 = .ok (.ldc2_w 111, 3) := by decide +kernel
theorem dX3_inMonth_40 : decode cX3_inMonth 40 = .ok (.invokestatic 100, 3) := by decide +kernel
theorem dX3_inMonth_43 : decode cX3_inMonth 43 = .ok (.ifCond .eq 7, 3) := by decide +kernel
theorem dX3_inMonth_46 : decode cX3_inMonth 46 = .ok (.iconst 0, 1) := by decide +kernel
theorem dX3_inMonth_47 : decode cX3_inMonth 47 = .ok (.goto 4, 3) := by decide +kernel
theorem dX3_inMonth_50 : decode cX3_inMonth 50 = .ok (.iconst 2, 1) := by decide +kernel
theorem dX3_inMonth_51 : decode cX3_inMonth 51 = .ok (.invokevirtual 125, 3) := by decide +kernel
theorem dX3_inMonth_54 : decode cX3_inMonth 54 = .ok (.ifCond .eq 5, 3) := by decide +kernel
theorem dX3_inMonth_57 : decode cX3_inMonth 57 = .ok (.lconst 0, 1) := by decide +kernel
theorem dX3_inMonth_58 : decode cX3_inMonth 58 = .ok (.lreturn, 1) := by decide +kernel
theorem dX3_inMonth_59 : decode cX3_inMonth 59 = .ok (.aload_n 0, 1) := by decide +kernel
theorem dX3_inMonth_60 : decode cX3_inMonth 60 = .ok (.aload_n 0, 1) := by decide +kernel
theorem dX3_inMonth_61 : decode cX3_inMonth 61 = .ok (.getfield 13, 3) := by decide +kernel
theorem dX3_inMonth_64 : decode cX3_inMonth 64 = .ok (.iload_n 1, 1) := by decide +kernel
theorem dX3_inMonth_65 : decode cX3_inMonth 65 = .ok (.laload, 1) := by decide +kernel
theorem dX3_inMonth_66 : decode cX3_inMonth 66 = .ok (.invokevirtual 104, 3) := by decide +kernel
theorem dX3_inMonth_69 : decode cX3_inMonth 69 = .ok (.aload_n 0, 1) := by decide +kernel
theorem dX3_inMonth_70 : decode cX3_inMonth 70 = .ok (.getfield 86, 3) := by decide +kernel
theorem dX3_inMonth_73 : decode cX3_inMonth 73 = .ok (.aload_n 0, 1) := by decide +kernel
theorem dX3_inMonth_74 : decode cX3_inMonth 74 = .ok (.getfield 90, 3) := by decide +kernel
theorem dX3_inMonth_77 : decode cX3_inMonth 77 = .ok (.iconst 1, 1) := by decide +kernel
theorem dX3_inMonth_78 : decode cX3_inMonth 78 = .ok (.invokestatic 115, 3) := by decide +kernel
theorem dX3_inMonth_81 : decode cX3_inMonth 81 = .ok (.lstore 5, 2) := by decide +kernel
theorem dX3_inMonth_83 : decode cX3_inMonth 83 = .ok (.lload 5, 2) := by decide +kernel
theorem dX3_inMonth_85 : decode cX3_inMonth 85 = .ok (.aload_n 0, 1) := by decide +kernel
theorem dX3_inMonth_86 : decode cX3_inMonth 86 = .ok (.getfield 86, 3) := by decide +kernel
theorem dX3_inMonth_89 : decode cX3_inMonth 89 = .ok (.aload_n 0, 1) := by decide +kernel
theorem dX3_inMonth_90 : decode cX3_inMonth 90 = .ok (.getfield 90, 3) := by decide +kernel
theorem dX3_inMonth_93 : decode cX3_inMonth 93 = .ok (.invokestatic 80, 3) := by decide +kernel
theorem dX3_inMonth_96 : decode cX3_inMonth 96 = .ok (.i2l, 1) := by decide +kernel
theorem dX3_inMonth_97 : decode cX3_inMonth 97 = .ok (.ladd, 1) := by decide +kernel
theorem dX3_inMonth_98 : decode cX3_inMonth 98 = .ok (.lconst 1, 1) := by decide +kernel
theorem dX3_inMonth_99 : decode cX3_inMonth 99 = .ok (.lsub, 1) := by decide +kernel
theorem dX3_inMonth_100 : decode cX3_inMonth 100 = .ok (.lstore 7, 2) := by decide +kernel
theorem dX3_inMonth_102 : decode cX3_inMonth 102 = .ok (.iload_n 2, 1) := by decide +kernel
theorem dX3_inMonth_103 : decode cX3_inMonth 103 = .ok (.ifCond .lt 22, 3) := by decide +kernel
theorem dX3_inMonth_106 : decode cX3_inMonth 106 = .ok (.lload 5, 2) := by decide +kernel
theorem dX3_inMonth_108 : decode cX3_inMonth 108 = .ok (.iload_n 3, 1) := by decide +kernel
theorem dX3_inMonth_109 : decode cX3_inMonth 109 = .ok (.iconst 1, 1) := by decide +kernel
theorem dX3_inMonth_110 : decode cX3_inMonth 110 = .ok (.invokestatic 156, 3) := by decide +kernel
theorem dX3_inMonth_113 : decode cX3_inMonth 113 = .ok (.ldc2_w 111, 3) := by decide +kernel
theorem dX3_inMonth_116 : decode cX3_inMonth 116 = .ok (.iload_n 2, 1) := by decide +kernel
theorem dX3_inMonth_117 : decode cX3_inMonth 117 = .ok (.i2l, 1) := by decide +kernel
theorem dX3_inMonth_118 : decode cX3_inMonth 118 = .ok (.lconst 1, 1) := by decide +kernel
theorem dX3_inMonth_119 : decode cX3_inMonth 119 = .ok (.lsub, 1) := by decide +kernel
theorem dX3_inMonth_120 : decode cX3_inMonth 120 = .ok (.lmul, 1) := by decide +kernel
theorem dX3_inMonth_121 : decode cX3_inMonth 121 = .ok (.ladd, 1) := by decide +kernel
theorem dX3_inMonth_122 : decode cX3_inMonth 122 = .ok (.goto 19, 3) := by decide +kernel
theorem dX3_inMonth_125 : decode cX3_inMonth 125 = .ok (.lload 7, 2) := by decide +kernel
theorem dX3_inMonth_127 : decode cX3_inMonth 127 = .ok (.iload_n 3, 1) := by decide +kernel
theorem dX3_inMonth_128 : decode cX3_inMonth 128 = .ok (.iconst (-1), 1) := by decide +kernel
theorem dX3_inMonth_129 : decode cX3_inMonth 129 = .ok (.invokestatic 156, 3) := by decide +kernel
theorem dX3_inMonth_132 : decode cX3_inMonth 132 = .ok (.ldc2_w 111, 3) := by decide +kernel
theorem dX3_inMonth_135 : decode cX3_inMonth 135 = .ok (.iload_n 2, 1) := by decide +kernel
theorem dX3_inMonth_136 : decode cX3_inMonth 136 = .ok (.i2l, 1) := by decide +kernel
theorem dX3_inMonth_137 : decode cX3_inMonth 137 = .ok (.lconst 1, 1) := by decide +kernel
theorem dX3_inMonth_138 : decode cX3_inMonth 138 = .ok (.ladd, 1) := by decide +kernel
theorem dX3_inMonth_139 : decode cX3_inMonth 139 = .ok (.lmul, 1) := by decide +kernel
theorem dX3_inMonth_140 : decode cX3_inMonth 140 = .ok (.ladd, 1) := by decide +kernel
theorem dX3_inMonth_141 : decode cX3_inMonth 141 = .ok (.lstore 9, 2) := by decide +kernel
theorem dX3_inMonth_143 : decode cX3_inMonth 143 = .ok (.aload_n 0, 1) := by decide +kernel
theorem dX3_inMonth_144 : decode cX3_inMonth 144 = .ok (.iload 4, 2) := by decide +kernel
theorem dX3_inMonth_146 : decode cX3_inMonth 146 = .ok (.lload 9, 2) := by decide +kernel
theorem dX3_inMonth_148 : decode cX3_inMonth 148 = .ok (.iconst 3, 1) := by decide +kernel
theorem dX3_inMonth_149 : decode cX3_inMonth 149 = .ok (.invokevirtual 152, 3) := by decide +kernel
theorem dX3_inMonth_152 : decode cX3_inMonth 152 = .ok (.lreturn, 1) := by decide +kernel
set_option maxRecDepth 20000 in
theorem ggX3_atYear_X3_isDate : GoodIn wsX3_atYear wsX3_isDate := goodIn_r _ [5, 6, 7, 8, 4, 9] (by decide +kernel) (by decide +kernel)
set_option maxRecDepth 20000 in
theorem gX3_atYear_X3_isDate : GoodIn wsX3_atYear (va_wsS RX3 121 yX3_isDate wsX3_isDate) := goodIn_app (goodIn_of _ (by decide +kernel)) ggX3_atYear_X3_isDate
set_option maxRecDepth 20000 in
theorem ggX3_atYear_X3_in : GoodIn wsX3_atYear wsX3_in := goodIn_r _ [9] (by decide +kernel) (by decide +kernel)
set_option maxRecDepth 20000 in
theorem gX3_atYear_X3_in : GoodIn wsX3_atYear (va_wsS RX3 100 yX3_in wsX3_in) := goodIn_app (goodIn_of _ (by decide +kernel)) ggX3_atYear_X3_in
set_option maxRecDepth 20000 in
theorem ggX3_atYear_X3_many : GoodIn wsX3_atYear wsX3_many := goodIn_r _ [12, 13, 14, 4, 15, 16, 17, 18, 19, 20, 21, 22, 23, 24] (by decide +kernel) (by decide +kernel)
set_option maxRecDepth 20000 in
theorem gX3_atYear_X3_many : GoodIn wsX3_atYear (va_wsS RX3 80 yX3_many wsX3_many) := goodIn_app (goodIn_of _ (by decide +kernel)) ggX3_atYear_X3_many
set_option maxRecDepth 20000 in
theorem ggX3_atYear_X3_isYear : GoodIn wsX3_atYear wsX3_isYear := goodIn_r _ [27, 28, 29, 7, 8, 4, 9] (by decide +kernel) (by decide +kernel)
set_option maxRecDepth 20000 in
theorem gX3_atYear_X3_isYear : GoodIn wsX3_atYear (va_wsS RX3 108 yX3_isYear wsX3_isYear) := goodIn_app (goodIn_of _ (by decide +kernel)) ggX3_atYear_X3_isYear
set_option maxRecDepth 20000 in
theorem ggX3_atYear_X3_fails : GoodIn wsX3_atYear wsX3_fails := goodIn_r _ [33, 34, 66, 67, 68, 69, 70, 71, 72, 73, 74, 75, 76, 77, 78, 79] (by decide +kernel) (by decide +kernel)
set_option maxRecDepth 20000 in
theorem gX3_atYear_X3_fails : GoodIn wsX3_atYear (wsV RX3 125 RX3 yX3_fails wsX3_fails) := goodIn_app (goodIn_of _ (by decide +kernel)) ggX3_atYear_X3_fails
set_option maxRecDepth 20000 in
theorem ggX3_atYear_X3_number : GoodIn wsX3_atYear wsX3_number := goodIn_r _ [37, 38, 39, 4, 40, 41, 42, 43, 44, 45, 46, 16, 47, 17, 48, 18, 22, 23, 24, 10, 11, 12, 13, 14, 15, 19, 20, 21] (by decide +kernel) (by decide +kernel)
set_option maxRecDepth 20000 in
theorem gX3_atYear_X3_number : GoodIn wsX3_atYear (va_wsS RX3 115 yX3_number wsX3_number) := goodIn_app (goodIn_of _ (by decide +kernel)) ggX3_atYear_X3_number
set_option maxRecDepth 20000 in
theorem ggX3_atYear_X3_becomes : GoodIn wsX3_atYear wsX3_becomes := goodIn_ca (goodIn_r _ [52, 53, 54, 55, 56, 4, 57, 58, 59, 60, 61, 62, 41, 18, 63, 64, 65, 22, 23, 24, 38, 39, 40, 42, 43, 44, 45, 46, 16, 47, 17, 48, 10, 11, 12, 13, 14, 15, 19, 20, 21, 25, 26, 27, 28, 29, 7, 8, 9, 30, 31, 32, 33, 34, 66, 67, 68, 69, 70, 71, 72, 73, 74, 75, 76, 77, 78, 79] (by decide +kernel) (by decide +kernel)) (goodIn_sub (fun _ h => List.mem_cons_of_mem _ (List.mem_append_right _ h)) (by decide +kernel))
set_option maxRecDepth 20000 in
theorem gX3_atYear_X3_becomes : GoodIn wsX3_atYear (wsV RX3 152 RX3 yX3_becomes wsX3_becomes) := goodIn_app (goodIn_of _ (by decide +kernel)) ggX3_atYear_X3_becomes
theorem dX3_atYear_0 : decode cX3_atYear 0 = .ok (.aload_n 0, 1) := by decide +kernel
theorem dX3_atYear_1 : decode cX3_atYear 1 = .ok (.iload 4, 2) := by decide +kernel
theorem dX3_atYear_3 : decode cX3_atYear 3 = .ok (.invokestatic 121, 3) := by decide +kernel
theorem dX3_atYear_6 : decode cX3_atYear 6 = .ok (.ifCond .ne 7, 3) := by decide +kernel
theorem dX3_atYear_9 : decode cX3_atYear 9 = .ok (.iconst 1, 1) := by decide +kernel
theorem dX3_atYear_10 : decode cX3_atYear 10 = .ok (.goto 59, 3) := by decide +kernel
theorem dX3_atYear_13 : decode cX3_atYear 13 = .ok (.iload_n 1, 1) := by decide +kernel
theorem dX3_atYear_14 : decode cX3_atYear 14 = .ok (.i2l, 1) := by decide +kernel
theorem dX3_atYear_15 : decode cX3_atYear 15 = .ok (.lconst 1, 1) := by decide +kernel
theorem dX3_atYear_16 : decode cX3_atYear 16 = .ok (.ldc2_w 113, 3) := by decide +kernel
theorem dX3_atYear_19 : decode cX3_atYear 19 = .ok (.invokestatic 100, 3) := by decide +kernel
theorem dX3_atYear_22 : decode cX3_atYear 22 = .ok (.ifCond .eq 46, 3) := by decide +kernel
theorem dX3_atYear_25 : decode cX3_atYear 25 = .ok (.iload_n 2, 1) := by decide +kernel
theorem dX3_atYear_26 : decode cX3_atYear 26 = .ok (.i2l, 1) := by decide +kernel
theorem dX3_atYear_27 : decode cX3_atYear 27 = .ok (.lconst 1, 1) := by decide +kernel
theorem dX3_atYear_28 : decode cX3_atYear 28 = .ok (.iload_n 1, 1) := by decide +kernel
theorem dX3_atYear_29 : decode cX3_atYear 29 = .ok (.i2l, 1) := by decide +kernel
theorem dX3_atYear_30 : decode cX3_atYear 30 = .ok (.lconst 1, 1) := by decide +kernel
theorem dX3_atYear_31 : decode cX3_atYear 31 = .ok (.ldc2_w 113, 3) := by decide +kernel
theorem dX3_atYear_34 : decode cX3_atYear 34 = .ok (.invokestatic 100, 3) := by decide +kernel
theorem dX3_atYear_37 : decode cX3_atYear 37 = .ok (.ifCond .eq 12, 3) := by decide +kernel
theorem dX3_atYear_40 : decode cX3_atYear 40 = .ok (.lconst 0, 1) := by decide +kernel
theorem dX3_atYear_41 : decode cX3_atYear 41 = .ok (.iload_n 1, 1) := by decide +kernel
theorem dX3_atYear_42 : decode cX3_atYear 42 = .ok (.invokestatic 80, 3) := by decide +kernel
theorem dX3_atYear_45 : decode cX3_atYear 45 = .ok (.i2l, 1) := by decide +kernel
theorem dX3_atYear_46 : decode cX3_atYear 46 = .ok (.goto 4, 3) := by decide +kernel
theorem dX3_atYear_49 : decode cX3_atYear 49 = .ok (.lconst 0, 1) := by decide +kernel
theorem dX3_atYear_50 : decode cX3_atYear 50 = .ok (.invokestatic 100, 3) := by decide +kernel
theorem dX3_atYear_53 : decode cX3_atYear 53 = .ok (.ifCond .eq 15, 3) := by decide +kernel
theorem dX3_atYear_56 : decode cX3_atYear 56 = .ok (.iload_n 3, 1) := by decide +kernel
theorem dX3_atYear_57 : decode cX3_atYear 57 = .ok (.i2l, 1) := by decide +kernel
theorem dX3_atYear_58 : decode cX3_atYear 58 = .ok (.invokestatic 108, 3) := by decide +kernel
theorem dX3_atYear_61 : decode cX3_atYear 61 = .ok (.ifCond .eq 7, 3) := by decide +kernel
theorem dX3_atYear_64 : decode cX3_atYear 64 = .ok (.iconst 0, 1) := by decide +kernel
theorem dX3_atYear_65 : decode cX3_atYear 65 = .ok (.goto 4, 3) := by decide +kernel
theorem dX3_atYear_68 : decode cX3_atYear 68 = .ok (.iconst 2, 1) := by decide +kernel
theorem dX3_atYear_69 : decode cX3_atYear 69 = .ok (.invokevirtual 125, 3) := by decide +kernel
theorem dX3_atYear_72 : decode cX3_atYear 72 = .ok (.ifCond .eq 5, 3) := by decide +kernel
theorem dX3_atYear_75 : decode cX3_atYear 75 = .ok (.lconst 0, 1) := by decide +kernel
theorem dX3_atYear_76 : decode cX3_atYear 76 = .ok (.lreturn, 1) := by decide +kernel
theorem dX3_atYear_77 : decode cX3_atYear 77 = .ok (.aload_n 0, 1) := by decide +kernel
theorem dX3_atYear_78 : decode cX3_atYear 78 = .ok (.iload 4, 2) := by decide +kernel
theorem dX3_atYear_80 : decode cX3_atYear 80 = .ok (.iload_n 3, 1) := by decide +kernel
theorem dX3_atYear_81 : decode cX3_atYear 81 = .ok (.i2l, 1) := by decide +kernel
theorem dX3_atYear_82 : decode cX3_atYear 82 = .ok (.iload_n 1, 1) := by decide +kernel
theorem dX3_atYear_83 : decode cX3_atYear 83 = .ok (.iload_n 2, 1) := by decide +kernel
theorem dX3_atYear_84 : decode cX3_atYear 84 = .ok (.iload_n 3, 1) := by decide +kernel
theorem dX3_atYear_85 : decode cX3_atYear 85 = .ok (.i2l, 1) := by decide +kernel
theorem dX3_atYear_86 : decode cX3_atYear 86 = .ok (.iload_n 1, 1) := by decide +kernel
theorem dX3_atYear_87 : decode cX3_atYear 87 = .ok (.invokestatic 80, 3) := by decide +kernel
theorem dX3_atYear_90 : decode cX3_atYear 90 = .ok (.if_icmp .le 12, 3) := by decide +kernel
theorem dX3_atYear_93 : decode cX3_atYear 93 = .ok (.iload_n 3, 1) := by decide +kernel
theorem dX3_atYear_94 : decode cX3_atYear 94 = .ok (.i2l, 1) := by decide +kernel
theorem dX3_atYear_95 : decode cX3_atYear 95 = .ok (.iload_n 1, 1) := by decide +kernel
theorem dX3_atYear_96 : decode cX3_atYear 96 = .ok (.invokestatic 80, 3) := by decide +kernel
theorem dX3_atYear_99 : decode cX3_atYear 99 = .ok (.goto 4, 3) := by decide +kernel
theorem dX3_atYear_102 : decode cX3_atYear 102 = .ok (.iload_n 2, 1) := by decide +kernel
theorem dX3_atYear_103 : decode cX3_atYear 103 = .ok (.invokestatic 115, 3) := by decide +kernel
theorem dX3_atYear_106 : decode cX3_atYear 106 = .ok (.iconst 3, 1) := by decide +kernel
theorem dX3_atYear_107 : decode cX3_atYear 107 = .ok (.invokevirtual 152, 3) := by decide +kernel
theorem dX3_atYear_110 : decode cX3_atYear 110 = .ok (.lreturn, 1) := by decide +kernel
theorem dX3_ordered_0 : decode cX3_ordered 0 = .ok (.lload_n 0, 1) := by decide +kernel
theorem dX3_ordered_1 : decode cX3_ordered 1 = .ok (.lload_n 2, 1) := by decide +kernel
theorem dX3_ordered_2 : decode cX3_ordered 2 = .ok (.lcmp, 1) := by decide +kernel
theorem dX3_ordered_3 : decode cX3_ordered 3 = .ok (.ifCond .ge 7, 3) := by decide +kernel
theorem dX3_ordered_6 : decode cX3_ordered 6 = .ok (.iconst (-1), 1) := by decide +kernel
theorem dX3_ordered_7 : decode cX3_ordered 7 = .ok (.goto 14, 3) := by decide +kernel
theorem dX3_ordered_10 : decode cX3_ordered 10 = .ok (.lload_n 0, 1) := by decide +kernel
theorem dX3_ordered_11 : decode cX3_ordered 11 = .ok (.lload_n 2, 1) := by decide +kernel
theorem dX3_ordered_12 : decode cX3_ordered 12 = .ok (.lcmp, 1) := by decide +kernel
theorem dX3_ordered_13 : decode cX3_ordered 13 = .ok (.ifCond .le 7, 3) := by decide +kernel
theorem dX3_ordered_16 : decode cX3_ordered 16 = .ok (.iconst 1, 1) := by decide +kernel
theorem dX3_ordered_17 : decode cX3_ordered 17 = .ok (.goto 4, 3) := by decide +kernel
theorem dX3_ordered_20 : decode cX3_ordered 20 = .ok (.iconst 0, 1) := by decide +kernel
theorem dX3_ordered_21 : decode cX3_ordered 21 = .ok (.ireturn, 1) := by decide +kernel
set_option maxRecDepth 20000 in
theorem ggX3_order_X3_isDate : GoodIn wsX3_order wsX3_isDate := goodIn_r _ [5, 6, 7, 8, 4, 9] (by decide +kernel) (by decide +kernel)
set_option maxRecDepth 20000 in
theorem gX3_order_X3_isDate : GoodIn wsX3_order (va_wsS RX3 121 yX3_isDate wsX3_isDate) := goodIn_app (goodIn_of _ (by decide +kernel)) ggX3_order_X3_isDate
set_option maxRecDepth 20000 in
theorem ggX3_order_X3_fails : GoodIn wsX3_order wsX3_fails := goodIn_r _ [13, 14, 18, 19, 20, 21, 22, 23, 24, 25, 26, 27, 28, 29, 30, 31] (by decide +kernel) (by decide +kernel)
set_option maxRecDepth 20000 in
theorem gX3_order_X3_fails : GoodIn wsX3_order (wsV RX3 125 RX3 yX3_fails wsX3_fails) := goodIn_app (goodIn_of _ (by decide +kernel)) ggX3_order_X3_fails
set_option maxRecDepth 20000 in
theorem ggX3_order_X3_ordered : GoodIn wsX3_order wsX3_ordered := goodIn_r _ [17] (by decide +kernel) (by decide +kernel)
set_option maxRecDepth 20000 in
theorem gX3_order_X3_ordered : GoodIn wsX3_order (va_wsS RX3 163 yX3_ordered wsX3_ordered) := goodIn_app (goodIn_of _ (by decide +kernel)) ggX3_order_X3_ordered
theorem dX3_order_0 : decode cX3_order 0 = .ok (.aload_n 0, 1) := by decide +kernel
theorem dX3_order_1 : decode cX3_order 1 = .ok (.iload_n 1, 1) := by decide +kernel
theorem dX3_order_2 : decode cX3_order 2 = .ok (.invokestatic 121, 3) := by decide +kernel
theorem dX3_order_5 : decode cX3_order 5 = .ok (.ifCond .eq 14, 3) := by decide +kernel
theorem dX3_order_8 : decode cX3_order 8 = .ok (.iload_n 2, 1) := by decide +kernel
theorem dX3_order_9 : decode cX3_order 9 = .ok (.invokestatic 121, 3) := by decide +kernel
theorem dX3_order_12 : decode cX3_order 12 = .ok (.ifCond .eq 7, 3) := by decide +kernel
theorem dX3_order_15 : decode cX3_order 15 = .ok (.iconst 0, 1) := by decide +kernel
theorem dX3_order_16 : decode cX3_order 16 = .ok (.goto 4, 3) := by decide +kernel
theorem dX3_order_19 : decode cX3_order 19 = .ok (.iconst 1, 1) := by decide +kernel
theorem dX3_order_20 : decode cX3_order 20 = .ok (.invokevirtual 125, 3) := by decide +kernel
theorem dX3_order_23 : decode cX3_order 23 = .ok (.ifCond .eq 7, 3) := by decide +kernel
theorem dX3_order_26 : decode cX3_order 26 = .ok (.iconst 0, 1) := by decide +kernel
theorem dX3_order_27 : decode cX3_order 27 = .ok (.goto 18, 3) := by decide +kernel
theorem dX3_order_30 : decode cX3_order 30 = .ok (.aload_n 0, 1) := by decide +kernel
theorem dX3_order_31 : decode cX3_order 31 = .ok (.getfield 13, 3) := by decide +kernel
theorem dX3_order_34 : decode cX3_order 34 = .ok (.iload_n 1, 1) := by decide +kernel
theorem dX3_order_35 : decode cX3_order 35 = .ok (.laload, 1) := by decide +kernel
theorem dX3_order_36 : decode cX3_order 36 = .ok (.aload_n 0, 1) := by decide +kernel
theorem dX3_order_37 : decode cX3_order 37 = .ok (.getfield 13, 3) := by decide +kernel
theorem dX3_order_40 : decode cX3_order 40 = .ok (.iload_n 2, 1) := by decide +kernel
theorem dX3_order_41 : decode cX3_order 41 = .ok (.laload, 1) := by decide +kernel
theorem dX3_order_42 : decode cX3_order 42 = .ok (.invokestatic 163, 3) := by decide +kernel
theorem dX3_order_45 : decode cX3_order 45 = .ok (.ireturn, 1) := by decide +kernel
set_option maxRecDepth 20000 in
theorem ggX3_monthsFrom_X3_parts : GoodIn wsX3_monthsFrom wsX3_parts := goodIn_r _ [9, 10, 11, 12, 2, 3, 4, 13, 14, 8, 15, 16, 17, 18, 19, 20, 21, 22, 23, 24, 25, 26, 27, 28, 29, 30, 31, 32, 33, 34, 35, 36, 37, 38, 39, 40, 41, 42, 43, 44, 45, 46, 47, 48, 49, 50] (by decide +kernel) (by decide +kernel)
set_option maxRecDepth 20000 in
theorem gX3_monthsFrom_X3_parts : GoodIn wsX3_monthsFrom (wsV RX3 104 RX3 yX3_parts wsX3_parts) := goodIn_app (goodIn_of _ (by decide +kernel)) ggX3_monthsFrom_X3_parts
theorem dX3_monthsFrom_0 : decode cX3_monthsFrom 0 = .ok (.aload_n 0, 1) := by decide +kernel
theorem dX3_monthsFrom_1 : decode cX3_monthsFrom 1 = .ok (.lload_n 1, 1) := by decide +kernel
theorem dX3_monthsFrom_2 : decode cX3_monthsFrom 2 = .ok (.lload_n 3, 1) := by decide +kernel
theorem dX3_monthsFrom_3 : decode cX3_monthsFrom 3 = .ok (.lcmp, 1) := by decide +kernel
theorem dX3_monthsFrom_4 : decode cX3_monthsFrom 4 = .ok (.ifCond .ge 7, 3) := by decide +kernel
theorem dX3_monthsFrom_7 : decode cX3_monthsFrom 7 = .ok (.lload_n 1, 1) := by decide +kernel
theorem dX3_monthsFrom_8 : decode cX3_monthsFrom 8 = .ok (.goto 4, 3) := by decide +kernel
theorem dX3_monthsFrom_11 : decode cX3_monthsFrom 11 = .ok (.lload_n 3, 1) := by decide +kernel
theorem dX3_monthsFrom_12 : decode cX3_monthsFrom 12 = .ok (.invokevirtual 104, 3) := by decide +kernel
theorem dX3_monthsFrom_15 : decode cX3_monthsFrom 15 = .ok (.ldc2_w 113, 3) := by decide +kernel
theorem dX3_monthsFrom_18 : decode cX3_monthsFrom 18 = .ok (.aload_n 0, 1) := by decide +kernel
theorem dX3_monthsFrom_19 : decode cX3_monthsFrom 19 = .ok (.getfield 86, 3) := by decide +kernel
theorem dX3_monthsFrom_22 : decode cX3_monthsFrom 22 = .ok (.lmul, 1) := by decide +kernel
theorem dX3_monthsFrom_23 : decode cX3_monthsFrom 23 = .ok (.aload_n 0, 1) := by decide +kernel
theorem dX3_monthsFrom_24 : decode cX3_monthsFrom 24 = .ok (.getfield 90, 3) := by decide +kernel
theorem dX3_monthsFrom_27 : decode cX3_monthsFrom 27 = .ok (.i2l, 1) := by decide +kernel
theorem dX3_monthsFrom_28 : decode cX3_monthsFrom 28 = .ok (.ladd, 1) := by decide +kernel
theorem dX3_monthsFrom_29 : decode cX3_monthsFrom 29 = .ok (.lneg, 1) := by decide +kernel
theorem dX3_monthsFrom_30 : decode cX3_monthsFrom 30 = .ok (.lstore 5, 2) := by decide +kernel
theorem dX3_monthsFrom_32 : decode cX3_monthsFrom 32 = .ok (.aload_n 0, 1) := by decide +kernel
theorem dX3_monthsFrom_33 : decode cX3_monthsFrom 33 = .ok (.getfield 93, 3) := by decide +kernel
theorem dX3_monthsFrom_36 : decode cX3_monthsFrom 36 = .ok (.istore 7, 2) := by decide +kernel
theorem dX3_monthsFrom_38 : decode cX3_monthsFrom 38 = .ok (.aload_n 0, 1) := by decide +kernel
theorem dX3_monthsFrom_39 : decode cX3_monthsFrom 39 = .ok (.lload_n 1, 1) := by decide +kernel
theorem dX3_monthsFrom_40 : decode cX3_monthsFrom 40 = .ok (.lload_n 3, 1) := by decide +kernel
theorem dX3_monthsFrom_41 : decode cX3_monthsFrom 41 = .ok (.lcmp, 1) := by decide +kernel
theorem dX3_monthsFrom_42 : decode cX3_monthsFrom 42 = .ok (.ifCond .ge 7, 3) := by decide +kernel
theorem dX3_monthsFrom_45 : decode cX3_monthsFrom 45 = .ok (.lload_n 3, 1) := by decide +kernel
theorem dX3_monthsFrom_46 : decode cX3_monthsFrom 46 = .ok (.goto 4, 3) := by decide +kernel
theorem dX3_monthsFrom_49 : decode cX3_monthsFrom 49 = .ok (.lload_n 1, 1) := by decide +kernel
theorem dX3_monthsFrom_50 : decode cX3_monthsFrom 50 = .ok (.invokevirtual 104, 3) := by decide +kernel
theorem dX3_monthsFrom_53 : decode cX3_monthsFrom 53 = .ok (.lload 5, 2) := by decide +kernel
theorem dX3_monthsFrom_55 : decode cX3_monthsFrom 55 = .ok (.ldc2_w 113, 3) := by decide +kernel
theorem dX3_monthsFrom_58 : decode cX3_monthsFrom 58 = .ok (.aload_n 0, 1) := by decide +kernel
theorem dX3_monthsFrom_59 : decode cX3_monthsFrom 59 = .ok (.getfield 86, 3) := by decide +kernel
theorem dX3_monthsFrom_62 : decode cX3_monthsFrom 62 = .ok (.lmul, 1) := by decide +kernel
theorem dX3_monthsFrom_63 : decode cX3_monthsFrom 63 = .ok (.ladd, 1) := by decide +kernel
theorem dX3_monthsFrom_64 : decode cX3_monthsFrom 64 = .ok (.aload_n 0, 1) := by decide +kernel
theorem dX3_monthsFrom_65 : decode cX3_monthsFrom 65 = .ok (.getfield 90, 3) := by decide +kernel
theorem dX3_monthsFrom_68 : decode cX3_monthsFrom 68 = .ok (.i2l, 1) := by decide +kernel
theorem dX3_monthsFrom_69 : decode cX3_monthsFrom 69 = .ok (.ladd, 1) := by decide +kernel
theorem dX3_monthsFrom_70 : decode cX3_monthsFrom 70 = .ok (.aload_n 0, 1) := by decide +kernel
theorem dX3_monthsFrom_71 : decode cX3_monthsFrom 71 = .ok (.getfield 93, 3) := by decide +kernel
theorem dX3_monthsFrom_74 : decode cX3_monthsFrom 74 = .ok (.iload 7, 2) := by decide +kernel
theorem dX3_monthsFrom_76 : decode cX3_monthsFrom 76 = .ok (.if_icmp .ge 7, 3) := by decide +kernel
theorem dX3_monthsFrom_79 : decode cX3_monthsFrom 79 = .ok (.lconst 1, 1) := by decide +kernel
theorem dX3_monthsFrom_80 : decode cX3_monthsFrom 80 = .ok (.goto 4, 3) := by decide +kernel
theorem dX3_monthsFrom_83 : decode cX3_monthsFrom 83 = .ok (.lconst 0, 1) := by decide +kernel
theorem dX3_monthsFrom_84 : decode cX3_monthsFrom 84 = .ok (.lsub, 1) := by decide +kernel
theorem dX3_monthsFrom_85 : decode cX3_monthsFrom 85 = .ok (.lstore 8, 2) := by decide +kernel
theorem dX3_monthsFrom_87 : decode cX3_monthsFrom 87 = .ok (.lload_n 1, 1) := by decide +kernel
theorem dX3_monthsFrom_88 : decode cX3_monthsFrom 88 = .ok (.lload_n 3, 1) := by decide +kernel
theorem dX3_monthsFrom_89 : decode cX3_monthsFrom 89 = .ok (.lcmp, 1) := by decide +kernel
theorem dX3_monthsFrom_90 : decode cX3_monthsFrom 90 = .ok (.ifCond .ge 8, 3) := by decide +kernel
theorem dX3_monthsFrom_93 : decode cX3_monthsFrom 93 = .ok (.lload 8, 2) := by decide +kernel
theorem dX3_monthsFrom_95 : decode cX3_monthsFrom 95 = .ok (.goto 6, 3) := by decide +kernel
theorem dX3_monthsFrom_98 : decode cX3_monthsFrom 98 = .ok (.lload 8, 2) := by decide +kernel
theorem dX3_monthsFrom_100 : decode cX3_monthsFrom 100 = .ok (.lneg, 1) := by decide +kernel
theorem dX3_monthsFrom_101 : decode cX3_monthsFrom 101 = .ok (.lreturn, 1) := by decide +kernel
set_option maxRecDepth 20000 in
theorem ggX3_between_X3_isDate : GoodIn wsX3_between wsX3_isDate := goodIn_r _ [7, 8, 9, 10, 6, 11] (by decide +kernel) (by decide +kernel)
set_option maxRecDepth 20000 in
theorem gX3_between_X3_isDate : GoodIn wsX3_between (va_wsS RX3 121 yX3_isDate wsX3_isDate) := goodIn_app (goodIn_of _ (by decide +kernel)) ggX3_between_X3_isDate
set_option maxRecDepth 20000 in
theorem ggX3_between_X3_isUnit : GoodIn wsX3_between wsX3_isUnit := goodIn_r _ [14] (by decide +kernel) (by decide +kernel)
set_option maxRecDepth 20000 in
theorem gX3_between_X3_isUnit : GoodIn wsX3_between (va_wsS RX3 140 yX3_isUnit wsX3_isUnit) := goodIn_app (goodIn_of _ (by decide +kernel)) ggX3_between_X3_isUnit
set_option maxRecDepth 20000 in
theorem ggX3_between_X3_fails : GoodIn wsX3_between wsX3_fails := goodIn_r _ [18, 19, 58, 59, 60, 61, 62, 63, 64, 65, 66, 67, 68, 69, 70, 71] (by decide +kernel) (by decide +kernel)
set_option maxRecDepth 20000 in
theorem gX3_between_X3_fails : GoodIn wsX3_between (wsV RX3 125 RX3 yX3_fails wsX3_fails) := goodIn_app (goodIn_of _ (by decide +kernel)) ggX3_between_X3_fails
set_option maxRecDepth 20000 in
theorem ggX3_between_X3_monthsFrom : GoodIn wsX3_between wsX3_monthsFrom := goodIn_r _ [23, 3, 24, 25, 26, 27, 28, 29, 6, 30, 31, 32, 33, 34, 35, 36, 37, 38, 39, 40, 41, 42, 43, 44, 45, 46, 47, 48, 49, 50, 51, 52, 53, 54, 55, 56, 57, 58, 59, 60, 61, 62, 63, 64, 65, 66, 67, 68, 69, 70, 71] (by decide +kernel) (by decide +kernel)
set_option maxRecDepth 20000 in
theorem gX3_between_X3_monthsFrom : GoodIn wsX3_between (wsV RX3 167 RX3 yX3_monthsFrom wsX3_monthsFrom) := goodIn_app (goodIn_of _ (by decide +kernel)) ggX3_between_X3_monthsFrom
theorem dX3_between_0 : decode cX3_between 0 = .ok (.aload_n 0, 1) := by decide +kernel
theorem dX3_between_1 : decode cX3_between 1 = .ok (.iload_n 1, 1) := by decide +kernel
theorem dX3_between_2 : decode cX3_between 2 = .ok (.invokestatic 121, 3) := by decide +kernel
theorem dX3_between_5 : decode cX3_between 5 = .ok (.ifCond .eq 10, 3) := by decide +kernel
theorem dX3_between_8 : decode cX3_between 8 = .ok (.iload_n 2, 1) := by decide +kernel
theorem dX3_between_9 : decode cX3_between 9 = .ok (.invokestatic 121, 3) := by decide +kernel
theorem dX3_between_12 : decode cX3_between 12 = .ok (.ifCond .ne 7, 3) := by decide +kernel
theorem dX3_between_15 : decode cX3_between 15 = .ok (.iconst 1, 1) := by decide +kernel
theorem dX3_between_16 : decode cX3_between 16 = .ok (.goto 15, 3) := by decide +kernel
theorem dX3_between_19 : decode cX3_between 19 = .ok (.iload_n 3, 1) := by decide +kernel
theorem dX3_between_20 : decode cX3_between 20 = .ok (.invokestatic 140, 3) := by decide +kernel
theorem dX3_between_23 : decode cX3_between 23 = .ok (.ifCond .eq 7, 3) := by decide +kernel
theorem dX3_between_26 : decode cX3_between 26 = .ok (.iconst 0, 1) := by decide +kernel
theorem dX3_between_27 : decode cX3_between 27 = .ok (.goto 4, 3) := by decide +kernel
theorem dX3_between_30 : decode cX3_between 30 = .ok (.iconst 2, 1) := by decide +kernel
theorem dX3_between_31 : decode cX3_between 31 = .ok (.invokevirtual 125, 3) := by decide +kernel
theorem dX3_between_34 : decode cX3_between 34 = .ok (.ifCond .eq 5, 3) := by decide +kernel
theorem dX3_between_37 : decode cX3_between 37 = .ok (.lconst 0, 1) := by decide +kernel
theorem dX3_between_38 : decode cX3_between 38 = .ok (.lreturn, 1) := by decide +kernel
theorem dX3_between_39 : decode cX3_between 39 = .ok (.aload_n 0, 1) := by decide +kernel
theorem dX3_between_40 : decode cX3_between 40 = .ok (.getfield 13, 3) := by decide +kernel
theorem dX3_between_43 : decode cX3_between 43 = .ok (.iload_n 1, 1) := by decide +kernel
theorem dX3_between_44 : decode cX3_between 44 = .ok (.laload, 1) := by decide +kernel
theorem dX3_between_45 : decode cX3_between 45 = .ok (.lstore 4, 2) := by decide +kernel
theorem dX3_between_47 : decode cX3_between 47 = .ok (.aload_n 0, 1) := by decide +kernel
theorem dX3_between_48 : decode cX3_between 48 = .ok (.getfield 13, 3) := by decide +kernel
theorem dX3_between_51 : decode cX3_between 51 = .ok (.iload_n 2, 1) := by decide +kernel
theorem dX3_between_52 : decode cX3_between 52 = .ok (.laload, 1) := by decide +kernel
theorem dX3_between_53 : decode cX3_between 53 = .ok (.lstore 6, 2) := by decide +kernel
theorem dX3_between_55 : decode cX3_between 55 = .ok (.iload_n 3, 1) := by decide +kernel
theorem dX3_between_56 : decode cX3_between 56 = .ok (.bipush 100, 2) := by decide +kernel
theorem dX3_between_58 : decode cX3_between 58 = .ok (.if_icmp .ne 11, 3) := by decide +kernel
theorem dX3_between_61 : decode cX3_between 61 = .ok (.lload 6, 2) := by decide +kernel
theorem dX3_between_63 : decode cX3_between 63 = .ok (.lload 4, 2) := by decide +kernel
theorem dX3_between_65 : decode cX3_between 65 = .ok (.lsub, 1) := by decide +kernel
theorem dX3_between_66 : decode cX3_between 66 = .ok (.goto 50, 3) := by decide +kernel
theorem dX3_between_69 : decode cX3_between 69 = .ok (.iload_n 3, 1) := by decide +kernel
theorem dX3_between_70 : decode cX3_between 70 = .ok (.bipush 119, 2) := by decide +kernel
theorem dX3_between_72 : decode cX3_between 72 = .ok (.if_icmp .ne 15, 3) := by decide +kernel
theorem dX3_between_75 : decode cX3_between 75 = .ok (.lload 6, 2) := by decide +kernel
theorem dX3_between_77 : decode cX3_between 77 = .ok (.lload 4, 2) := by decide +kernel
theorem dX3_between_79 : decode cX3_between 79 = .ok (.lsub, 1) := by decide +kernel
theorem dX3_between_80 : decode cX3_between 80 = .ok (.ldc2_w 111, 3) := by decide +kernel
theorem dX3_between_83 : decode cX3_between 83 = .ok (.ldiv, 1) := by decide +kernel
theorem dX3_between_84 : decode cX3_between 84 = .ok (.goto 32, 3) := by decide +kernel
theorem dX3_between_87 : decode cX3_between 87 = .ok (.iload_n 3, 1) := by decide +kernel
theorem dX3_between_88 : decode cX3_between 88 = .ok (.bipush 109, 2) := by decide +kernel
theorem dX3_between_90 : decode cX3_between 90 = .ok (.if_icmp .ne 14, 3) := by decide +kernel
theorem dX3_between_93 : decode cX3_between 93 = .ok (.aload_n 0, 1) := by decide +kernel
theorem dX3_between_94 : decode cX3_between 94 = .ok (.lload 4, 2) := by decide +kernel
theorem dX3_between_96 : decode cX3_between 96 = .ok (.lload 6, 2) := by decide +kernel
theorem dX3_between_98 : decode cX3_between 98 = .ok (.invokevirtual 167, 3) := by decide +kernel
theorem dX3_between_101 : decode cX3_between 101 = .ok (.goto 15, 3) := by decide +kernel
theorem dX3_between_104 : decode cX3_between 104 = .ok (.aload_n 0, 1) := by decide +kernel
theorem dX3_between_105 : decode cX3_between 105 = .ok (.lload 4, 2) := by decide +kernel
theorem dX3_between_107 : decode cX3_between 107 = .ok (.lload 6, 2) := by decide +kernel
theorem dX3_between_109 : decode cX3_between 109 = .ok (.invokevirtual 167, 3) := by decide +kernel
theorem dX3_between_112 : decode cX3_between 112 = .ok (.ldc2_w 113, 3) := by decide +kernel
theorem dX3_between_115 : decode cX3_between 115 = .ok (.ldiv, 1) := by decide +kernel
theorem dX3_between_116 : decode cX3_between 116 = .ok (.lreturn, 1) := by decide +kernel
theorem dX3_totalOf_0 : decode cX3_totalOf 0 = .ok (.ldc2_w 113, 3) := by decide +kernel
theorem dX3_totalOf_3 : decode cX3_totalOf 3 = .ok (.aload_n 0, 1) := by decide +kernel
theorem dX3_totalOf_4 : decode cX3_totalOf 4 = .ok (.getfield 32, 3) := by decide +kernel
theorem dX3_totalOf_7 : decode cX3_totalOf 7 = .ok (.iload_n 1, 1) := by decide +kernel
theorem dX3_totalOf_8 : decode cX3_totalOf 8 = .ok (.laload, 1) := by decide +kernel
theorem dX3_totalOf_9 : decode cX3_totalOf 9 = .ok (.lmul, 1) := by decide +kernel
theorem dX3_totalOf_10 : decode cX3_totalOf 10 = .ok (.aload_n 0, 1) := by decide +kernel
theorem dX3_totalOf_11 : decode cX3_totalOf 11 = .ok (.getfield 35, 3) := by decide +kernel
theorem dX3_totalOf_14 : decode cX3_totalOf 14 = .ok (.iload_n 1, 1) := by decide +kernel
theorem dX3_totalOf_15 : decode cX3_totalOf 15 = .ok (.laload, 1) := by decide +kernel
theorem dX3_totalOf_16 : decode cX3_totalOf 16 = .ok (.ladd, 1) := by decide +kernel
theorem dX3_totalOf_17 : decode cX3_totalOf 17 = .ok (.lreturn, 1) := by decide +kernel
set_option maxRecDepth 20000 in
theorem ggX3_spanned_X3_in : GoodIn wsX3_spanned wsX3_in := goodIn_r _ [9] (by decide +kernel) (by decide +kernel)
set_option maxRecDepth 20000 in
theorem gX3_spanned_X3_in : GoodIn wsX3_spanned (va_wsS RX3 100 yX3_in wsX3_in) := goodIn_app (goodIn_of _ (by decide +kernel)) ggX3_spanned_X3_in
set_option maxRecDepth 20000 in
theorem ggX3_spanned_X3_fails : GoodIn wsX3_spanned wsX3_fails := goodIn_r _ [13, 14, 20, 21, 22, 23, 24, 25, 26, 27, 28, 29, 30, 31, 32, 33] (by decide +kernel) (by decide +kernel)
set_option maxRecDepth 20000 in
theorem gX3_spanned_X3_fails : GoodIn wsX3_spanned (wsV RX3 125 RX3 yX3_fails wsX3_fails) := goodIn_app (goodIn_of _ (by decide +kernel)) ggX3_spanned_X3_fails
set_option maxRecDepth 20000 in
theorem ggX3_spanned_X3_totalOf : GoodIn wsX3_spanned wsX3_totalOf := goodIn_ca (goodIn_r _ [18, 19, 3, 4, 20, 21, 22, 23, 24, 25, 26, 27, 28, 29, 30, 31, 32, 33] (by decide +kernel) (by decide +kernel)) (goodIn_sub (fun _ h => List.mem_cons_of_mem _ (List.mem_append_right _ h)) (by decide +kernel))
set_option maxRecDepth 20000 in
theorem gX3_spanned_X3_totalOf : GoodIn wsX3_spanned (wsV RX3 170 RX3 yX3_totalOf wsX3_totalOf) := goodIn_app (goodIn_of _ (by decide +kernel)) ggX3_spanned_X3_totalOf
theorem dX3_spanned_0 : decode cX3_spanned 0 = .ok (.aload_n 0, 1) := by decide +kernel
theorem dX3_spanned_1 : decode cX3_spanned 1 = .ok (.lload_n 2, 1) := by decide +kernel
theorem dX3_spanned_2 : decode cX3_spanned 2 = .ok (.ldc2_w 144, 3) := by decide +kernel
theorem dX3_spanned_5 : decode cX3_spanned 5 = .ok (.ldc2_w 146, 3) := by decide +kernel
theorem dX3_spanned_8 : decode cX3_spanned 8 = .ok (.invokestatic 100, 3) := by decide +kernel
theorem dX3_spanned_11 : decode cX3_spanned 11 = .ok (.ifCond .eq 35, 3) := by decide +kernel
theorem dX3_spanned_14 : decode cX3_spanned 14 = .ok (.lload 4, 2) := by decide +kernel
theorem dX3_spanned_16 : decode cX3_spanned 16 = .ok (.ldc2_w 144, 3) := by decide +kernel
theorem dX3_spanned_19 : decode cX3_spanned 19 = .ok (.ldc2_w 146, 3) := by decide +kernel
theorem dX3_spanned_22 : decode cX3_spanned 22 = .ok (.invokestatic 100, 3) := by decide +kernel
theorem dX3_spanned_25 : decode cX3_spanned 25 = .ok (.ifCond .eq 21, 3) := by decide +kernel
theorem dX3_spanned_28 : decode cX3_spanned 28 = .ok (.lload 6, 2) := by decide +kernel
theorem dX3_spanned_30 : decode cX3_spanned 30 = .ok (.ldc2_w 144, 3) := by decide +kernel
theorem dX3_spanned_33 : decode cX3_spanned 33 = .ok (.ldc2_w 146, 3) := by decide +kernel
theorem dX3_spanned_36 : decode cX3_spanned 36 = .ok (.invokestatic 100, 3) := by decide +kernel
theorem dX3_spanned_39 : decode cX3_spanned 39 = .ok (.ifCond .eq 7, 3) := by decide +kernel
theorem dX3_spanned_42 : decode cX3_spanned 42 = .ok (.iconst 0, 1) := by decide +kernel
theorem dX3_spanned_43 : decode cX3_spanned 43 = .ok (.goto 5, 3) := by decide +kernel
theorem dX3_spanned_46 : decode cX3_spanned 46 = .ok (.iload 8, 2) := by decide +kernel
theorem dX3_spanned_48 : decode cX3_spanned 48 = .ok (.invokevirtual 125, 3) := by decide +kernel
theorem dX3_spanned_51 : decode cX3_spanned 51 = .ok (.ifCond .eq 5, 3) := by decide +kernel
theorem dX3_spanned_54 : decode cX3_spanned 54 = .ok (.lconst 0, 1) := by decide +kernel
theorem dX3_spanned_55 : decode cX3_spanned 55 = .ok (.lreturn, 1) := by decide +kernel
theorem dX3_spanned_56 : decode cX3_spanned 56 = .ok (.aload_n 0, 1) := by decide +kernel
theorem dX3_spanned_57 : decode cX3_spanned 57 = .ok (.getfield 32, 3) := by decide +kernel
theorem dX3_spanned_60 : decode cX3_spanned 60 = .ok (.iload_n 1, 1) := by decide +kernel
theorem dX3_spanned_61 : decode cX3_spanned 61 = .ok (.lload_n 2, 1) := by decide +kernel
theorem dX3_spanned_62 : decode cX3_spanned 62 = .ok (.lastore, 1) := by decide +kernel
theorem dX3_spanned_63 : decode cX3_spanned 63 = .ok (.aload_n 0, 1) := by decide +kernel
theorem dX3_spanned_64 : decode cX3_spanned 64 = .ok (.getfield 35, 3) := by decide +kernel
theorem dX3_spanned_67 : decode cX3_spanned 67 = .ok (.iload_n 1, 1) := by decide +kernel
theorem dX3_spanned_68 : decode cX3_spanned 68 = .ok (.lload 4, 2) := by decide +kernel
theorem dX3_spanned_70 : decode cX3_spanned 70 = .ok (.lastore, 1) := by decide +kernel
theorem dX3_spanned_71 : decode cX3_spanned 71 = .ok (.aload_n 0, 1) := by decide +kernel
theorem dX3_spanned_72 : decode cX3_spanned 72 = .ok (.getfield 38, 3) := by decide +kernel
theorem dX3_spanned_75 : decode cX3_spanned 75 = .ok (.iload_n 1, 1) := by decide +kernel
theorem dX3_spanned_76 : decode cX3_spanned 76 = .ok (.lload 6, 2) := by decide +kernel
theorem dX3_spanned_78 : decode cX3_spanned 78 = .ok (.lastore, 1) := by decide +kernel
theorem dX3_spanned_79 : decode cX3_spanned 79 = .ok (.aload_n 0, 1) := by decide +kernel
theorem dX3_spanned_80 : decode cX3_spanned 80 = .ok (.iload_n 1, 1) := by decide +kernel
theorem dX3_spanned_81 : decode cX3_spanned 81 = .ok (.invokevirtual 170, 3) := by decide +kernel
theorem dX3_spanned_84 : decode cX3_spanned 84 = .ok (.lreturn, 1) := by decide +kernel
set_option maxRecDepth 20000 in
theorem ggX3_span_X3_isSlot : GoodIn wsX3_span wsX3_isSlot := goodIn_r _ [4, 5, 6, 7, 3, 8] (by decide +kernel) (by decide +kernel)
set_option maxRecDepth 20000 in
theorem gX3_span_X3_isSlot : GoodIn wsX3_span (va_wsS RX3 174 yX3_isSlot wsX3_isSlot) := goodIn_app (goodIn_of _ (by decide +kernel)) ggX3_span_X3_isSlot
set_option maxRecDepth 20000 in
theorem ggX3_span_X3_fails : GoodIn wsX3_span wsX3_fails := goodIn_r _ [12, 13, 28, 29, 30, 31, 32, 33, 34, 35, 36, 37, 38, 39, 40, 41] (by decide +kernel) (by decide +kernel)
set_option maxRecDepth 20000 in
theorem gX3_span_X3_fails : GoodIn wsX3_span (wsV RX3 125 RX3 yX3_fails wsX3_fails) := goodIn_app (goodIn_of _ (by decide +kernel)) ggX3_span_X3_fails
set_option maxRecDepth 20000 in
theorem ggX3_span_X3_spanned : GoodIn wsX3_span wsX3_spanned := goodIn_ca (goodIn_r _ [17, 18, 19, 20, 21, 22, 6, 7, 3, 8, 9, 10, 11, 12, 13, 23, 24, 25, 26, 27, 28, 29, 30, 31, 32, 33, 34, 35, 36, 37, 38, 39, 40, 41] (by decide +kernel) (by decide +kernel)) (goodIn_sub (fun _ h => List.mem_cons_of_mem _ (List.mem_append_right _ h)) (by decide +kernel))
set_option maxRecDepth 20000 in
theorem gX3_span_X3_spanned : GoodIn wsX3_span (wsV RX3 177 RX3 yX3_spanned wsX3_spanned) := goodIn_app (goodIn_of _ (by decide +kernel)) ggX3_span_X3_spanned
theorem dX3_span_0 : decode cX3_span 0 = .ok (.aload_n 0, 1) := by decide +kernel
theorem dX3_span_1 : decode cX3_span 1 = .ok (.iload_n 1, 1) := by decide +kernel
theorem dX3_span_2 : decode cX3_span 2 = .ok (.invokestatic 174, 3) := by decide +kernel
theorem dX3_span_5 : decode cX3_span 5 = .ok (.ifCond .eq 7, 3) := by decide +kernel
theorem dX3_span_8 : decode cX3_span 8 = .ok (.iconst 0, 1) := by decide +kernel
theorem dX3_span_9 : decode cX3_span 9 = .ok (.goto 4, 3) := by decide +kernel
theorem dX3_span_12 : decode cX3_span 12 = .ok (.iconst 1, 1) := by decide +kernel
theorem dX3_span_13 : decode cX3_span 13 = .ok (.invokevirtual 125, 3) := by decide +kernel
theorem dX3_span_16 : decode cX3_span 16 = .ok (.ifCond .eq 7, 3) := by decide +kernel
theorem dX3_span_19 : decode cX3_span 19 = .ok (.lconst 0, 1) := by decide +kernel
theorem dX3_span_20 : decode cX3_span 20 = .ok (.goto 16, 3) := by decide +kernel
theorem dX3_span_23 : decode cX3_span 23 = .ok (.aload_n 0, 1) := by decide +kernel
theorem dX3_span_24 : decode cX3_span 24 = .ok (.iload_n 1, 1) := by decide +kernel
theorem dX3_span_25 : decode cX3_span 25 = .ok (.iload_n 2, 1) := by decide +kernel
theorem dX3_span_26 : decode cX3_span 26 = .ok (.i2l, 1) := by decide +kernel
theorem dX3_span_27 : decode cX3_span 27 = .ok (.iload_n 3, 1) := by decide +kernel
theorem dX3_span_28 : decode cX3_span 28 = .ok (.i2l, 1) := by decide +kernel
theorem dX3_span_29 : decode cX3_span 29 = .ok (.iload 4, 2) := by decide +kernel
theorem dX3_span_31 : decode cX3_span 31 = .ok (.i2l, 1) := by decide +kernel
theorem dX3_span_32 : decode cX3_span 32 = .ok (.iconst 2, 1) := by decide +kernel
theorem dX3_span_33 : decode cX3_span 33 = .ok (.invokevirtual 177, 3) := by decide +kernel
theorem dX3_span_36 : decode cX3_span 36 = .ok (.lreturn, 1) := by decide +kernel
set_option maxRecDepth 20000 in
theorem ggX3_until_X3_isDate : GoodIn wsX3_until wsX3_isDate := goodIn_r _ [6, 7, 8, 9, 5, 10] (by decide +kernel) (by decide +kernel)
set_option maxRecDepth 20000 in
theorem gX3_until_X3_isDate : GoodIn wsX3_until (va_wsS RX3 121 yX3_isDate wsX3_isDate) := goodIn_app (goodIn_of _ (by decide +kernel)) ggX3_until_X3_isDate
set_option maxRecDepth 20000 in
theorem ggX3_until_X3_isSlot : GoodIn wsX3_until wsX3_isSlot := goodIn_r _ [13, 14, 8, 9, 5, 10] (by decide +kernel) (by decide +kernel)
set_option maxRecDepth 20000 in
theorem gX3_until_X3_isSlot : GoodIn wsX3_until (va_wsS RX3 174 yX3_isSlot wsX3_isSlot) := goodIn_app (goodIn_of _ (by decide +kernel)) ggX3_until_X3_isSlot
set_option maxRecDepth 20000 in
theorem ggX3_until_X3_fails : GoodIn wsX3_until wsX3_fails := goodIn_r _ [18, 19, 77, 78, 79, 80, 81, 82, 83, 84, 85, 86, 87, 88, 89, 90] (by decide +kernel) (by decide +kernel)
set_option maxRecDepth 20000 in
theorem gX3_until_X3_fails : GoodIn wsX3_until (wsV RX3 125 RX3 yX3_fails wsX3_fails) := goodIn_app (goodIn_of _ (by decide +kernel)) ggX3_until_X3_fails
set_option maxRecDepth 20000 in
theorem ggX3_until_X3_monthsFrom : GoodIn wsX3_until wsX3_monthsFrom := goodIn_r _ [23, 2, 24, 25, 26, 27, 28, 29, 5, 30, 31, 32, 33, 34, 35, 36, 37, 38, 39, 40, 41, 42, 43, 14, 44, 45, 46, 47, 48, 49, 50, 51, 52, 53, 54, 55, 56, 77, 78, 79, 80, 81, 82, 83, 84, 85, 86, 87, 88, 89, 90] (by decide +kernel) (by decide +kernel)
set_option maxRecDepth 20000 in
theorem gX3_until_X3_monthsFrom : GoodIn wsX3_until (wsV RX3 167 RX3 yX3_monthsFrom wsX3_monthsFrom) := goodIn_app (goodIn_of _ (by decide +kernel)) ggX3_until_X3_monthsFrom
set_option maxRecDepth 20000 in
theorem ggX3_until_X3_byMonths : GoodIn wsX3_until wsX3_byMonths := goodIn_r _ [60, 2, 24, 25, 26, 27, 28, 29, 5, 30, 31, 32, 33, 34, 35, 36, 37, 38, 39, 40, 41, 42, 43, 14, 44, 45, 46, 47, 48, 49, 50, 51, 52, 53, 54, 55, 56, 61, 62, 63, 77, 78, 79, 80, 81, 82, 83, 84, 85, 86, 87, 88, 89, 90] (by decide +kernel) (by decide +kernel)
set_option maxRecDepth 20000 in
theorem gX3_until_X3_byMonths : GoodIn wsX3_until (wsV RX3 137 RX3 yX3_byMonths wsX3_byMonths) := goodIn_app (goodIn_of _ (by decide +kernel)) ggX3_until_X3_byMonths
set_option maxRecDepth 20000 in
theorem ggX3_until_X3_spanned : GoodIn wsX3_until wsX3_spanned := goodIn_ca (goodIn_r _ [67, 68, 69, 70, 71, 72, 8, 9, 5, 10, 15, 16, 17, 18, 19, 73, 74, 75, 76, 2, 77, 78, 79, 80, 81, 82, 83, 84, 85, 86, 87, 88, 89, 90] (by decide +kernel) (by decide +kernel)) (goodIn_sub (fun _ h => List.mem_cons_of_mem _ (List.mem_append_right _ h)) (by decide +kernel))
set_option maxRecDepth 20000 in
theorem gX3_until_X3_spanned : GoodIn wsX3_until (wsV RX3 177 RX3 yX3_spanned wsX3_spanned) := goodIn_app (goodIn_of _ (by decide +kernel)) ggX3_until_X3_spanned
theorem dX3_until_0 : decode cX3_until 0 = .ok (.aload_n 0, 1) := by decide +kernel
theorem dX3_until_1 : decode cX3_until 1 = .ok (.iload_n 1, 1) := by decide +kernel
theorem dX3_until_2 : decode cX3_until 2 = .ok (.invokestatic 121, 3) := by decide +kernel
theorem dX3_until_5 : decode cX3_until 5 = .ok (.ifCond .eq 17, 3) := by decide +kernel
theorem dX3_until_8 : decode cX3_until 8 = .ok (.iload_n 2, 1) := by decide +kernel
theorem dX3_until_9 : decode cX3_until 9 = .ok (.invokestatic 121, 3) := by decide +kernel
theorem dX3_until_12 : decode cX3_until 12 = .ok (.ifCond .eq 10, 3) := by decide +kernel
theorem dX3_until_15 : decode cX3_until 15 = .ok (.iload_n 3, 1) := by decide +kernel
theorem dX3_until_16 : decode cX3_until 16 = .ok (.invokestatic 174, 3) := by decide +kernel
theorem dX3_until_19 : decode cX3_until 19 = .ok (.ifCond .ne 7, 3) := by decide +kernel
theorem dX3_until_22 : decode cX3_until 22 = .ok (.iconst 1, 1) := by decide +kernel
theorem dX3_until_23 : decode cX3_until 23 = .ok (.goto 24, 3) := by decide +kernel
theorem dX3_until_26 : decode cX3_until 26 = .ok (.aload_n 0, 1) := by decide +kernel
theorem dX3_until_27 : decode cX3_until 27 = .ok (.getfield 13, 3) := by decide +kernel
theorem dX3_until_30 : decode cX3_until 30 = .ok (.iload_n 2, 1) := by decide +kernel
theorem dX3_until_31 : decode cX3_until 31 = .ok (.laload, 1) := by decide +kernel
theorem dX3_until_32 : decode cX3_until 32 = .ok (.aload_n 0, 1) := by decide +kernel
theorem dX3_until_33 : decode cX3_until 33 = .ok (.getfield 13, 3) := by decide +kernel
theorem dX3_until_36 : decode cX3_until 36 = .ok (.iload_n 1, 1) := by decide +kernel
theorem dX3_until_37 : decode cX3_until 37 = .ok (.laload, 1) := by decide +kernel
theorem dX3_until_38 : decode cX3_until 38 = .ok (.lcmp, 1) := by decide +kernel
theorem dX3_until_39 : decode cX3_until 39 = .ok (.ifCond .ge 7, 3) := by decide +kernel
theorem dX3_until_42 : decode cX3_until 42 = .ok (.iconst 2, 1) := by decide +kernel
theorem dX3_until_43 : decode cX3_until 43 = .ok (.goto 4, 3) := by decide +kernel
theorem dX3_until_46 : decode cX3_until 46 = .ok (.iconst 0, 1) := by decide +kernel
theorem dX3_until_47 : decode cX3_until 47 = .ok (.invokevirtual 125, 3) := by decide +kernel
theorem dX3_until_50 : decode cX3_until 50 = .ok (.ifCond .eq 5, 3) := by decide +kernel
theorem dX3_until_53 : decode cX3_until 53 = .ok (.lconst 0, 1) := by decide +kernel
theorem dX3_until_54 : decode cX3_until 54 = .ok (.lreturn, 1) := by decide +kernel
theorem dX3_until_55 : decode cX3_until 55 = .ok (.aload_n 0, 1) := by decide +kernel
theorem dX3_until_56 : decode cX3_until 56 = .ok (.aload_n 0, 1) := by decide +kernel
theorem dX3_until_57 : decode cX3_until 57 = .ok (.getfield 13, 3) := by decide +kernel
theorem dX3_until_60 : decode cX3_until 60 = .ok (.iload_n 1, 1) := by decide +kernel
theorem dX3_until_61 : decode cX3_until 61 = .ok (.laload, 1) := by decide +kernel
theorem dX3_until_62 : decode cX3_until 62 = .ok (.aload_n 0, 1) := by decide +kernel
theorem dX3_until_63 : decode cX3_until 63 = .ok (.getfield 13, 3) := by decide +kernel
theorem dX3_until_66 : decode cX3_until 66 = .ok (.iload_n 2, 1) := by decide +kernel
theorem dX3_until_67 : decode cX3_until 67 = .ok (.laload, 1) := by decide +kernel
theorem dX3_until_68 : decode cX3_until 68 = .ok (.invokevirtual 167, 3) := by decide +kernel
theorem dX3_until_71 : decode cX3_until 71 = .ok (.lstore 4, 2) := by decide +kernel
theorem dX3_until_73 : decode cX3_until 73 = .ok (.aload_n 0, 1) := by decide +kernel
theorem dX3_until_74 : decode cX3_until 74 = .ok (.iload_n 3, 1) := by decide +kernel
theorem dX3_until_75 : decode cX3_until 75 = .ok (.lload 4, 2) := by decide +kernel
theorem dX3_until_77 : decode cX3_until 77 = .ok (.ldc2_w 113, 3) := by decide +kernel
theorem dX3_until_80 : decode cX3_until 80 = .ok (.ldiv, 1) := by decide +kernel
theorem dX3_until_81 : decode cX3_until 81 = .ok (.lload 4, 2) := by decide +kernel
theorem dX3_until_83 : decode cX3_until 83 = .ok (.ldc2_w 113, 3) := by decide +kernel
theorem dX3_until_86 : decode cX3_until 86 = .ok (.lrem, 1) := by decide +kernel
theorem dX3_until_87 : decode cX3_until 87 = .ok (.aload_n 0, 1) := by decide +kernel
theorem dX3_until_88 : decode cX3_until 88 = .ok (.getfield 13, 3) := by decide +kernel
theorem dX3_until_91 : decode cX3_until 91 = .ok (.iload_n 2, 1) := by decide +kernel
theorem dX3_until_92 : decode cX3_until 92 = .ok (.laload, 1) := by decide +kernel
theorem dX3_until_93 : decode cX3_until 93 = .ok (.aload_n 0, 1) := by decide +kernel
theorem dX3_until_94 : decode cX3_until 94 = .ok (.aload_n 0, 1) := by decide +kernel
theorem dX3_until_95 : decode cX3_until 95 = .ok (.getfield 13, 3) := by decide +kernel
theorem dX3_until_98 : decode cX3_until 98 = .ok (.iload_n 1, 1) := by decide +kernel
theorem dX3_until_99 : decode cX3_until 99 = .ok (.laload, 1) := by decide +kernel
theorem dX3_until_100 : decode cX3_until 100 = .ok (.lload 4, 2) := by decide +kernel
theorem dX3_until_102 : decode cX3_until 102 = .ok (.invokevirtual 137, 3) := by decide +kernel
theorem dX3_until_105 : decode cX3_until 105 = .ok (.lsub, 1) := by decide +kernel
theorem dX3_until_106 : decode cX3_until 106 = .ok (.iconst 2, 1) := by decide +kernel
theorem dX3_until_107 : decode cX3_until 107 = .ok (.invokevirtual 177, 3) := by decide +kernel
theorem dX3_until_110 : decode cX3_until 110 = .ok (.lreturn, 1) := by decide +kernel
set_option maxRecDepth 20000 in
theorem ggX3_go_X3_isDate : GoodIn wsX3_go wsX3_isDate := goodIn_r _ [7, 8, 9, 10, 6, 11] (by decide +kernel) (by decide +kernel)
set_option maxRecDepth 20000 in
theorem gX3_go_X3_isDate : GoodIn wsX3_go (va_wsS RX3 121 yX3_isDate wsX3_isDate) := goodIn_app (goodIn_of _ (by decide +kernel)) ggX3_go_X3_isDate
set_option maxRecDepth 20000 in
theorem ggX3_go_X3_isSlot : GoodIn wsX3_go wsX3_isSlot := goodIn_r _ [14, 15, 9, 10, 6, 11] (by decide +kernel) (by decide +kernel)
set_option maxRecDepth 20000 in
theorem gX3_go_X3_isSlot : GoodIn wsX3_go (va_wsS RX3 174 yX3_isSlot wsX3_isSlot) := goodIn_app (goodIn_of _ (by decide +kernel)) ggX3_go_X3_isSlot
set_option maxRecDepth 20000 in
theorem ggX3_go_X3_fails : GoodIn wsX3_go wsX3_fails := goodIn_r _ [19, 20, 81, 82, 83, 84, 85, 86, 87, 88, 89, 90, 91, 92, 93, 94] (by decide +kernel) (by decide +kernel)
set_option maxRecDepth 20000 in
theorem gX3_go_X3_fails : GoodIn wsX3_go (wsV RX3 125 RX3 yX3_fails wsX3_fails) := goodIn_app (goodIn_of _ (by decide +kernel)) ggX3_go_X3_fails
set_option maxRecDepth 20000 in
theorem ggX3_go_X3_totalOf : GoodIn wsX3_go wsX3_totalOf := goodIn_ca (goodIn_r _ [24, 25, 26, 27, 81, 82, 83, 84, 85, 86, 87, 88, 89, 90, 91, 92, 93, 94] (by decide +kernel) (by decide +kernel)) (goodIn_sub (fun _ h => List.mem_cons_of_mem _ (List.mem_append_right _ h)) (by decide +kernel))
set_option maxRecDepth 20000 in
theorem gX3_go_X3_totalOf : GoodIn wsX3_go (wsV RX3 170 RX3 yX3_totalOf wsX3_totalOf) := goodIn_app (goodIn_of _ (by decide +kernel)) ggX3_go_X3_totalOf
set_option maxRecDepth 20000 in
theorem ggX3_go_X3_byMonths : GoodIn wsX3_go wsX3_byMonths := goodIn_r _ [31, 25, 32, 33, 34, 35, 36, 37, 6, 38, 39, 40, 41, 42, 43, 44, 45, 46, 47, 48, 49, 50, 51, 15, 52, 53, 54, 55, 56, 57, 58, 59, 60, 61, 62, 63, 64, 65, 66, 67, 81, 82, 83, 84, 85, 86, 87, 88, 89, 90, 91, 92, 93, 94] (by decide +kernel) (by decide +kernel)
set_option maxRecDepth 20000 in
theorem gX3_go_X3_byMonths : GoodIn wsX3_go (wsV RX3 137 RX3 yX3_byMonths wsX3_byMonths) := goodIn_app (goodIn_of _ (by decide +kernel)) ggX3_go_X3_byMonths
set_option maxRecDepth 20000 in
theorem ggX3_go_X3_becomes : GoodIn wsX3_go wsX3_becomes := goodIn_ca (goodIn_r _ [71, 2, 72, 73, 74, 6, 75, 32, 35, 36, 37, 38, 39, 40, 41, 33, 34, 42, 43, 44, 45, 46, 47, 48, 49, 50, 51, 15, 52, 53, 54, 55, 56, 57, 58, 59, 60, 61, 62, 63, 64, 76, 77, 78, 79, 80, 9, 10, 11, 16, 17, 18, 19, 20, 81, 82, 83, 84, 85, 86, 87, 88, 89, 90, 91, 92, 93, 94] (by decide +kernel) (by decide +kernel)) (goodIn_sub (fun _ h => List.mem_cons_of_mem _ (List.mem_append_right _ h)) (by decide +kernel))
set_option maxRecDepth 20000 in
theorem gX3_go_X3_becomes : GoodIn wsX3_go (wsV RX3 152 RX3 yX3_becomes wsX3_becomes) := goodIn_app (goodIn_of _ (by decide +kernel)) ggX3_go_X3_becomes
theorem dX3_go_0 : decode cX3_go 0 = .ok (.aload_n 0, 1) := by decide +kernel
theorem dX3_go_1 : decode cX3_go 1 = .ok (.iload_n 1, 1) := by decide +kernel
theorem dX3_go_2 : decode cX3_go 2 = .ok (.invokestatic 121, 3) := by decide +kernel
theorem dX3_go_5 : decode cX3_go 5 = .ok (.ifCond .eq 22, 3) := by decide +kernel
theorem dX3_go_8 : decode cX3_go 8 = .ok (.iload_n 2, 1) := by decide +kernel
theorem dX3_go_9 : decode cX3_go 9 = .ok (.invokestatic 174, 3) := by decide +kernel
theorem dX3_go_12 : decode cX3_go 12 = .ok (.ifCond .eq 15, 3) := by decide +kernel
theorem dX3_go_15 : decode cX3_go 15 = .ok (.iload 4, 2) := by decide +kernel
theorem dX3_go_17 : decode cX3_go 17 = .ok (.invokestatic 121, 3) := by decide +kernel
theorem dX3_go_20 : decode cX3_go 20 = .ok (.ifCond .eq 7, 3) := by decide +kernel
theorem dX3_go_23 : decode cX3_go 23 = .ok (.iconst 0, 1) := by decide +kernel
theorem dX3_go_24 : decode cX3_go 24 = .ok (.goto 4, 3) := by decide +kernel
theorem dX3_go_27 : decode cX3_go 27 = .ok (.iconst 1, 1) := by decide +kernel
theorem dX3_go_28 : decode cX3_go 28 = .ok (.invokevirtual 125, 3) := by decide +kernel
theorem dX3_go_31 : decode cX3_go 31 = .ok (.ifCond .eq 5, 3) := by decide +kernel
theorem dX3_go_34 : decode cX3_go 34 = .ok (.lconst 0, 1) := by decide +kernel
theorem dX3_go_35 : decode cX3_go 35 = .ok (.lreturn, 1) := by decide +kernel
theorem dX3_go_36 : decode cX3_go 36 = .ok (.iload_n 3, 1) := by decide +kernel
theorem dX3_go_37 : decode cX3_go 37 = .ok (.ifCond .eq 9, 3) := by decide +kernel
theorem dX3_go_40 : decode cX3_go 40 = .ok (.ldc2_w 181, 3) := by decide +kernel
theorem dX3_go_43 : decode cX3_go 43 = .ok (.goto 4, 3) := by decide +kernel
theorem dX3_go_46 : decode cX3_go 46 = .ok (.lconst 1, 1) := by decide +kernel
theorem dX3_go_47 : decode cX3_go 47 = .ok (.lstore 5, 2) := by decide +kernel
theorem dX3_go_49 : decode cX3_go 49 = .ok (.aload_n 0, 1) := by decide +kernel
theorem dX3_go_50 : decode cX3_go 50 = .ok (.iload 4, 2) := by decide +kernel
theorem dX3_go_52 : decode cX3_go 52 = .ok (.aload_n 0, 1) := by decide +kernel
theorem dX3_go_53 : decode cX3_go 53 = .ok (.aload_n 0, 1) := by decide +kernel
theorem dX3_go_54 : decode cX3_go 54 = .ok (.getfield 13, 3) := by decide +kernel
theorem dX3_go_57 : decode cX3_go 57 = .ok (.iload_n 1, 1) := by decide +kernel
theorem dX3_go_58 : decode cX3_go 58 = .ok (.laload, 1) := by decide +kernel
theorem dX3_go_59 : decode cX3_go 59 = .ok (.lload 5, 2) := by decide +kernel
theorem dX3_go_61 : decode cX3_go 61 = .ok (.aload_n 0, 1) := by decide +kernel
theorem dX3_go_62 : decode cX3_go 62 = .ok (.iload_n 2, 1) := by decide +kernel
theorem dX3_go_63 : decode cX3_go 63 = .ok (.invokevirtual 170, 3) := by decide +kernel
theorem dX3_go_66 : decode cX3_go 66 = .ok (.lmul, 1) := by decide +kernel
theorem dX3_go_67 : decode cX3_go 67 = .ok (.invokevirtual 137, 3) := by decide +kernel
theorem dX3_go_70 : decode cX3_go 70 = .ok (.lload 5, 2) := by decide +kernel
theorem dX3_go_72 : decode cX3_go 72 = .ok (.aload_n 0, 1) := by decide +kernel
theorem dX3_go_73 : decode cX3_go 73 = .ok (.getfield 38, 3) := by decide +kernel
theorem dX3_go_76 : decode cX3_go 76 = .ok (.iload_n 2, 1) := by decide +kernel
theorem dX3_go_77 : decode cX3_go 77 = .ok (.laload, 1) := by decide +kernel
theorem dX3_go_78 : decode cX3_go 78 = .ok (.lmul, 1) := by decide +kernel
theorem dX3_go_79 : decode cX3_go 79 = .ok (.ladd, 1) := by decide +kernel
theorem dX3_go_80 : decode cX3_go 80 = .ok (.iconst 2, 1) := by decide +kernel
theorem dX3_go_81 : decode cX3_go 81 = .ok (.invokevirtual 152, 3) := by decide +kernel
theorem dX3_go_84 : decode cX3_go 84 = .ok (.lreturn, 1) := by decide +kernel
set_option maxRecDepth 20000 in
theorem ggX3_spanPart_X3_isSlot : GoodIn wsX3_spanPart wsX3_isSlot := goodIn_r _ [7, 8, 9, 10, 6, 11] (by decide +kernel) (by decide +kernel)
set_option maxRecDepth 20000 in
theorem gX3_spanPart_X3_isSlot : GoodIn wsX3_spanPart (va_wsS RX3 174 yX3_isSlot wsX3_isSlot) := goodIn_app (goodIn_of _ (by decide +kernel)) ggX3_spanPart_X3_isSlot
set_option maxRecDepth 20000 in
theorem ggX3_spanPart_X3_fails : GoodIn wsX3_spanPart wsX3_fails := goodIn_r _ [15, 16, 17, 18, 19, 20, 21, 22, 23, 24, 25, 26, 27, 28, 29, 30] (by decide +kernel) (by decide +kernel)
set_option maxRecDepth 20000 in
theorem gX3_spanPart_X3_fails : GoodIn wsX3_spanPart (wsV RX3 125 RX3 yX3_fails wsX3_fails) := goodIn_app (goodIn_of _ (by decide +kernel)) ggX3_spanPart_X3_fails
theorem dX3_spanPart_0 : decode cX3_spanPart 0 = .ok (.aload_n 0, 1) := by decide +kernel
theorem dX3_spanPart_1 : decode cX3_spanPart 1 = .ok (.iload_n 1, 1) := by decide +kernel
theorem dX3_spanPart_2 : decode cX3_spanPart 2 = .ok (.invokestatic 174, 3) := by decide +kernel
theorem dX3_spanPart_5 : decode cX3_spanPart 5 = .ok (.ifCond .ne 7, 3) := by decide +kernel
theorem dX3_spanPart_8 : decode cX3_spanPart 8 = .ok (.iconst 1, 1) := by decide +kernel
theorem dX3_spanPart_9 : decode cX3_spanPart 9 = .ok (.goto 26, 3) := by decide +kernel
theorem dX3_spanPart_12 : decode cX3_spanPart 12 = .ok (.iload_n 2, 1) := by decide +kernel
theorem dX3_spanPart_13 : decode cX3_spanPart 13 = .ok (.bipush 121, 2) := by decide +kernel
theorem dX3_spanPart_15 : decode cX3_spanPart 15 = .ok (.if_icmp .eq 15, 3) := by decide +kernel
theorem dX3_spanPart_18 : decode cX3_spanPart 18 = .ok (.iload_n 2, 1) := by decide +kernel
theorem dX3_spanPart_19 : decode cX3_spanPart 19 = .ok (.bipush 109, 2) := by decide +kernel
theorem dX3_spanPart_21 : decode cX3_spanPart 21 = .ok (.if_icmp .eq 9, 3) := by decide +kernel
theorem dX3_spanPart_24 : decode cX3_spanPart 24 = .ok (.iload_n 2, 1) := by decide +kernel
theorem dX3_spanPart_25 : decode cX3_spanPart 25 = .ok (.bipush 100, 2) := by decide +kernel
theorem dX3_spanPart_27 : decode cX3_spanPart 27 = .ok (.if_icmp .ne 7, 3) := by decide +kernel
theorem dX3_spanPart_30 : decode cX3_spanPart 30 = .ok (.iconst 0, 1) := by decide +kernel
theorem dX3_spanPart_31 : decode cX3_spanPart 31 = .ok (.goto 4, 3) := by decide +kernel
theorem dX3_spanPart_34 : decode cX3_spanPart 34 = .ok (.iconst 2, 1) := by decide +kernel
theorem dX3_spanPart_35 : decode cX3_spanPart 35 = .ok (.invokevirtual 125, 3) := by decide +kernel
theorem dX3_spanPart_38 : decode cX3_spanPart 38 = .ok (.ifCond .eq 5, 3) := by decide +kernel
theorem dX3_spanPart_41 : decode cX3_spanPart 41 = .ok (.iconst 0, 1) := by decide +kernel
theorem dX3_spanPart_42 : decode cX3_spanPart 42 = .ok (.ireturn, 1) := by decide +kernel
theorem dX3_spanPart_43 : decode cX3_spanPart 43 = .ok (.iload_n 2, 1) := by decide +kernel
theorem dX3_spanPart_44 : decode cX3_spanPart 44 = .ok (.bipush 121, 2) := by decide +kernel
theorem dX3_spanPart_46 : decode cX3_spanPart 46 = .ok (.if_icmp .ne 12, 3) := by decide +kernel
theorem dX3_spanPart_49 : decode cX3_spanPart 49 = .ok (.aload_n 0, 1) := by decide +kernel
theorem dX3_spanPart_50 : decode cX3_spanPart 50 = .ok (.getfield 32, 3) := by decide +kernel
theorem dX3_spanPart_53 : decode cX3_spanPart 53 = .ok (.iload_n 1, 1) := by decide +kernel
theorem dX3_spanPart_54 : decode cX3_spanPart 54 = .ok (.laload, 1) := by decide +kernel
theorem dX3_spanPart_55 : decode cX3_spanPart 55 = .ok (.goto 24, 3) := by decide +kernel
theorem dX3_spanPart_58 : decode cX3_spanPart 58 = .ok (.iload_n 2, 1) := by decide +kernel
theorem dX3_spanPart_59 : decode cX3_spanPart 59 = .ok (.bipush 109, 2) := by decide +kernel
theorem dX3_spanPart_61 : decode cX3_spanPart 61 = .ok (.if_icmp .ne 12, 3) := by decide +kernel
theorem dX3_spanPart_64 : decode cX3_spanPart 64 = .ok (.aload_n 0, 1) := by decide +kernel
theorem dX3_spanPart_65 : decode cX3_spanPart 65 = .ok (.getfield 35, 3) := by decide +kernel
theorem dX3_spanPart_68 : decode cX3_spanPart 68 = .ok (.iload_n 1, 1) := by decide +kernel
theorem dX3_spanPart_69 : decode cX3_spanPart 69 = .ok (.laload, 1) := by decide +kernel
theorem dX3_spanPart_70 : decode cX3_spanPart 70 = .ok (.goto 9, 3) := by decide +kernel
theorem dX3_spanPart_73 : decode cX3_spanPart 73 = .ok (.aload_n 0, 1) := by decide +kernel
theorem dX3_spanPart_74 : decode cX3_spanPart 74 = .ok (.getfield 38, 3) := by decide +kernel
theorem dX3_spanPart_77 : decode cX3_spanPart 77 = .ok (.iload_n 1, 1) := by decide +kernel
theorem dX3_spanPart_78 : decode cX3_spanPart 78 = .ok (.laload, 1) := by decide +kernel
theorem dX3_spanPart_79 : decode cX3_spanPart 79 = .ok (.l2i, 1) := by decide +kernel
theorem dX3_spanPart_80 : decode cX3_spanPart 80 = .ok (.ireturn, 1) := by decide +kernel
set_option maxRecDepth 20000 in
theorem ggX3_addSpan_X3_isSlot : GoodIn wsX3_addSpan wsX3_isSlot := goodIn_r _ [8, 9, 10, 11, 7, 12] (by decide +kernel) (by decide +kernel)
set_option maxRecDepth 20000 in
theorem gX3_addSpan_X3_isSlot : GoodIn wsX3_addSpan (va_wsS RX3 174 yX3_isSlot wsX3_isSlot) := goodIn_app (goodIn_of _ (by decide +kernel)) ggX3_addSpan_X3_isSlot
set_option maxRecDepth 20000 in
theorem ggX3_addSpan_X3_fails : GoodIn wsX3_addSpan wsX3_fails := goodIn_r _ [16, 17, 29, 30, 31, 32, 33, 34, 35, 36, 37, 38, 39, 40, 41, 42] (by decide +kernel) (by decide +kernel)
set_option maxRecDepth 20000 in
theorem gX3_addSpan_X3_fails : GoodIn wsX3_addSpan (wsV RX3 125 RX3 yX3_fails wsX3_fails) := goodIn_app (goodIn_of _ (by decide +kernel)) ggX3_addSpan_X3_fails
set_option maxRecDepth 20000 in
theorem ggX3_addSpan_X3_spanned : GoodIn wsX3_addSpan wsX3_spanned := goodIn_ca (goodIn_r _ [21, 22, 23, 2, 3, 4, 10, 11, 7, 12, 13, 14, 15, 16, 17, 24, 25, 26, 27, 28, 29, 30, 31, 32, 33, 34, 35, 36, 37, 38, 39, 40, 41, 42] (by decide +kernel) (by decide +kernel)) (goodIn_sub (fun _ h => List.mem_cons_of_mem _ (List.mem_append_right _ h)) (by decide +kernel))
set_option maxRecDepth 20000 in
theorem gX3_addSpan_X3_spanned : GoodIn wsX3_addSpan (wsV RX3 177 RX3 yX3_spanned wsX3_spanned) := goodIn_app (goodIn_of _ (by decide +kernel)) ggX3_addSpan_X3_spanned
theorem dX3_addSpan_0 : decode cX3_addSpan 0 = .ok (.aload_n 0, 1) := by decide +kernel
theorem dX3_addSpan_1 : decode cX3_addSpan 1 = .ok (.iload_n 1, 1) := by decide +kernel
theorem dX3_addSpan_2 : decode cX3_addSpan 2 = .ok (.invokestatic 174, 3) := by decide +kernel
theorem dX3_addSpan_5 : decode cX3_addSpan 5 = .ok (.ifCond .eq 22, 3) := by decide +kernel
theorem dX3_addSpan_8 : decode cX3_addSpan 8 = .ok (.iload_n 2, 1) := by decide +kernel
theorem dX3_addSpan_9 : decode cX3_addSpan 9 = .ok (.invokestatic 174, 3) := by decide +kernel
theorem dX3_addSpan_12 : decode cX3_addSpan 12 = .ok (.ifCond .eq 15, 3) := by decide +kernel
theorem dX3_addSpan_15 : decode cX3_addSpan 15 = .ok (.iload 4, 2) := by decide +kernel
theorem dX3_addSpan_17 : decode cX3_addSpan 17 = .ok (.invokestatic 174, 3) := by decide +kernel
theorem dX3_addSpan_20 : decode cX3_addSpan 20 = .ok (.ifCond .eq 7, 3) := by decide +kernel
theorem dX3_addSpan_23 : decode cX3_addSpan 23 = .ok (.iconst 0, 1) := by decide +kernel
theorem dX3_addSpan_24 : decode cX3_addSpan 24 = .ok (.goto 4, 3) := by decide +kernel
theorem dX3_addSpan_27 : decode cX3_addSpan 27 = .ok (.iconst 1, 1) := by decide +kernel
theorem dX3_addSpan_28 : decode cX3_addSpan 28 = .ok (.invokevirtual 125, 3) := by decide +kernel
theorem dX3_addSpan_31 : decode cX3_addSpan 31 = .ok (.ifCond .eq 5, 3) := by decide +kernel
theorem dX3_addSpan_34 : decode cX3_addSpan 34 = .ok (.lconst 0, 1) := by decide +kernel
theorem dX3_addSpan_35 : decode cX3_addSpan 35 = .ok (.lreturn, 1) := by decide +kernel
theorem dX3_addSpan_36 : decode cX3_addSpan 36 = .ok (.iload_n 3, 1) := by decide +kernel
theorem dX3_addSpan_37 : decode cX3_addSpan 37 = .ok (.ifCond .eq 9, 3) := by decide +kernel
theorem dX3_addSpan_40 : decode cX3_addSpan 40 = .ok (.ldc2_w 181, 3) := by decide +kernel
theorem dX3_addSpan_43 : decode cX3_addSpan 43 = .ok (.goto 4, 3) := by decide +kernel
theorem dX3_addSpan_46 : decode cX3_addSpan 46 = .ok (.lconst 1, 1) := by decide +kernel
theorem dX3_addSpan_47 : decode cX3_addSpan 47 = .ok (.lstore 5, 2) := by decide +kernel
theorem dX3_addSpan_49 : decode cX3_addSpan 49 = .ok (.aload_n 0, 1) := by decide +kernel
theorem dX3_addSpan_50 : decode cX3_addSpan 50 = .ok (.iload 4, 2) := by decide +kernel
theorem dX3_addSpan_52 : decode cX3_addSpan 52 = .ok (.aload_n 0, 1) := by decide +kernel
theorem dX3_addSpan_53 : decode cX3_addSpan 53 = .ok (.getfield 32, 3) := by decide +kernel
theorem dX3_addSpan_56 : decode cX3_addSpan 56 = .ok (.iload_n 1, 1) := by decide +kernel
theorem dX3_addSpan_57 : decode cX3_addSpan 57 = .ok (.laload, 1) := by decide +kernel
theorem dX3_addSpan_58 : decode cX3_addSpan 58 = .ok (.lload 5, 2) := by decide +kernel
theorem dX3_addSpan_60 : decode cX3_addSpan 60 = .ok (.aload_n 0, 1) := by decide +kernel
theorem dX3_addSpan_61 : decode cX3_addSpan 61 = .ok (.getfield 32, 3) := by decide +kernel
theorem dX3_addSpan_64 : decode cX3_addSpan 64 = .ok (.iload_n 2, 1) := by decide +kernel
theorem dX3_addSpan_65 : decode cX3_addSpan 65 = .ok (.laload, 1) := by decide +kernel
theorem dX3_addSpan_66 : decode cX3_addSpan 66 = .ok (.lmul, 1) := by decide +kernel
theorem dX3_addSpan_67 : decode cX3_addSpan 67 = .ok (.ladd, 1) := by decide +kernel
theorem dX3_addSpan_68 : decode cX3_addSpan 68 = .ok (.aload_n 0, 1) := by decide +kernel
theorem dX3_addSpan_69 : decode cX3_addSpan 69 = .ok (.getfield 35, 3) := by decide +kernel
theorem dX3_addSpan_72 : decode cX3_addSpan 72 = .ok (.iload_n 1, 1) := by decide +kernel
theorem dX3_addSpan_73 : decode cX3_addSpan 73 = .ok (.laload, 1) := by decide +kernel
theorem dX3_addSpan_74 : decode cX3_addSpan 74 = .ok (.lload 5, 2) := by decide +kernel
theorem dX3_addSpan_76 : decode cX3_addSpan 76 = .ok (.aload_n 0, 1) := by decide +kernel
theorem dX3_addSpan_77 : decode cX3_addSpan 77 = .ok (.getfield 35, 3) := by decide +kernel
theorem dX3_addSpan_80 : decode cX3_addSpan 80 = .ok (.iload_n 2, 1) := by decide +kernel
theorem dX3_addSpan_81 : decode cX3_addSpan 81 = .ok (.laload, 1) := by decide +kernel
theorem dX3_addSpan_82 : decode cX3_addSpan 82 = .ok (.lmul, 1) := by decide +kernel
theorem dX3_addSpan_83 : decode cX3_addSpan 83 = .ok (.ladd, 1) := by decide +kernel
theorem dX3_addSpan_84 : decode cX3_addSpan 84 = .ok (.aload_n 0, 1) := by decide +kernel
theorem dX3_addSpan_85 : decode cX3_addSpan 85 = .ok (.getfield 38, 3) := by decide +kernel
theorem dX3_addSpan_88 : decode cX3_addSpan 88 = .ok (.iload_n 1, 1) := by decide +kernel
theorem dX3_addSpan_89 : decode cX3_addSpan 89 = .ok (.laload, 1) := by decide +kernel
theorem dX3_addSpan_90 : decode cX3_addSpan 90 = .ok (.lload 5, 2) := by decide +kernel
theorem dX3_addSpan_92 : decode cX3_addSpan 92 = .ok (.aload_n 0, 1) := by decide +kernel
theorem dX3_addSpan_93 : decode cX3_addSpan 93 = .ok (.getfield 38, 3) := by decide +kernel
theorem dX3_addSpan_96 : decode cX3_addSpan 96 = .ok (.iload_n 2, 1) := by decide +kernel
theorem dX3_addSpan_97 : decode cX3_addSpan 97 = .ok (.laload, 1) := by decide +kernel
theorem dX3_addSpan_98 : decode cX3_addSpan 98 = .ok (.lmul, 1) := by decide +kernel
theorem dX3_addSpan_99 : decode cX3_addSpan 99 = .ok (.ladd, 1) := by decide +kernel
theorem dX3_addSpan_100 : decode cX3_addSpan 100 = .ok (.iconst 2, 1) := by decide +kernel
theorem dX3_addSpan_101 : decode cX3_addSpan 101 = .ok (.invokevirtual 177, 3) := by decide +kernel
theorem dX3_addSpan_104 : decode cX3_addSpan 104 = .ok (.lreturn, 1) := by decide +kernel
set_option maxRecDepth 20000 in
theorem ggX3_timesSpan_X3_isSlot : GoodIn wsX3_timesSpan wsX3_isSlot := goodIn_r _ [9, 10, 11, 12, 8, 13] (by decide +kernel) (by decide +kernel)
set_option maxRecDepth 20000 in
theorem gX3_timesSpan_X3_isSlot : GoodIn wsX3_timesSpan (va_wsS RX3 174 yX3_isSlot wsX3_isSlot) := goodIn_app (goodIn_of _ (by decide +kernel)) ggX3_timesSpan_X3_isSlot
set_option maxRecDepth 20000 in
theorem ggX3_timesSpan_X3_in : GoodIn wsX3_timesSpan wsX3_in := goodIn_r _ [13] (by decide +kernel) (by decide +kernel)
set_option maxRecDepth 20000 in
theorem gX3_timesSpan_X3_in : GoodIn wsX3_timesSpan (va_wsS RX3 100 yX3_in wsX3_in) := goodIn_app (goodIn_of _ (by decide +kernel)) ggX3_timesSpan_X3_in
