theorem dL_timePart_17 : decode cL_timePart 17 = .ok (.astore 4, 2) := by decide +kernel
theorem dL_timePart_19 : decode cL_timePart 19 = .ok (.iconst 2, 1) := by decide +kernel
theorem dL_timePart_20 : decode cL_timePart 20 = .ok (.ireturn, 1) := by decide +kernel
theorem dL_timePart_21 : decode cL_timePart 21 = .ok (.iconst 0, 1) := by decide +kernel
theorem dL_timePart_22 : decode cL_timePart 22 = .ok (.ireturn, 1) := by decide +kernel
set_option maxRecDepth 20000 in
theorem ggL_moveTime_X2_moveTime : GoodIn wsL_moveTime wsX2_moveTime := goodIn_ca (goodIn_ca (goodIn_ca (goodIn_r _ [7, 8, 9, 10, 11, 12, 6, 13, 14, 15, 16, 17, 18, 19, 20, 21, 22, 23, 24, 25, 26, 27, 28, 29, 30, 31, 32, 33, 34, 35, 36, 37, 38, 39, 40, 41, 42, 43, 44, 45, 46, 47, 48, 49, 50, 51] (by decide +kernel) (by decide +kernel)) (goodIn_sub (fun _ h => List.mem_cons_of_mem _ (List.mem_append_left _ (List.mem_append_left _ (List.mem_append_right _ h)))) (by decide +kernel))) (goodIn_sub (fun _ h => List.mem_cons_of_mem _ (List.mem_append_left _ (List.mem_append_right _ h))) (by decide +kernel))) (goodIn_sub (fun _ h => List.mem_cons_of_mem _ (List.mem_append_right _ h)) (by decide +kernel))
set_option maxRecDepth 20000 in
theorem gL_moveTime_X2_moveTime : GoodIn wsL_moveTime (wsV RL 110 RX2 yX2_moveTime wsX2_moveTime) := goodIn_app (goodIn_of _ (by decide +kernel)) ggL_moveTime_X2_moveTime
theorem dL_moveTime_0 : decode cL_moveTime 0 = .ok (.aload 6, 2) := by decide +kernel
theorem dL_moveTime_2 : decode cL_moveTime 2 = .ok (.iconst 0, 1) := by decide +kernel
theorem dL_moveTime_3 : decode cL_moveTime 3 = .ok (.aload_n 0, 1) := by decide +kernel
theorem dL_moveTime_4 : decode cL_moveTime 4 = .ok (.iload_n 1, 1) := by decide +kernel
theorem dL_moveTime_5 : decode cL_moveTime 5 = .ok (.iload_n 2, 1) := by decide +kernel
theorem dL_moveTime_6 : decode cL_moveTime 6 = .ok (.lload_n 3, 1) := by decide +kernel
theorem dL_moveTime_7 : decode cL_moveTime 7 = .ok (.iload 5, 2) := by decide +kernel
theorem dL_moveTime_9 : decode cL_moveTime 9 = .ok (.invokevirtual 110, 3) := by decide +kernel
theorem dL_moveTime_12 : decode cL_moveTime 12 = .ok (.lastore, 1) := by decide +kernel
theorem dL_moveTime_13 : decode cL_moveTime 13 = .ok (.goto 11, 3) := by decide +kernel
theorem dL_moveTime_16 : decode cL_moveTime 16 = .ok (.astore 7, 2) := by decide +kernel
theorem dL_moveTime_18 : decode cL_moveTime 18 = .ok (.iconst 1, 1) := by decide +kernel
theorem dL_moveTime_19 : decode cL_moveTime 19 = .ok (.ireturn, 1) := by decide +kernel
theorem dL_moveTime_20 : decode cL_moveTime 20 = .ok (.astore 7, 2) := by decide +kernel
theorem dL_moveTime_22 : decode cL_moveTime 22 = .ok (.iconst 2, 1) := by decide +kernel
theorem dL_moveTime_23 : decode cL_moveTime 23 = .ok (.ireturn, 1) := by decide +kernel
theorem dL_moveTime_24 : decode cL_moveTime 24 = .ok (.iconst 0, 1) := by decide +kernel
theorem dL_moveTime_25 : decode cL_moveTime 25 = .ok (.ireturn, 1) := by decide +kernel
set_option maxRecDepth 20000 in
theorem ggL_cutTime_X2_cutTime : GoodIn wsL_cutTime wsX2_cutTime := goodIn_ca (goodIn_ca (goodIn_ca (goodIn_r _ [7, 8, 9, 10, 11, 12, 13, 14, 15, 6, 16, 17, 18, 19, 20, 21, 22, 23, 24, 25, 26, 27, 28] (by decide +kernel) (by decide +kernel)) (goodIn_sub (fun _ h => List.mem_cons_of_mem _ (List.mem_append_left _ (List.mem_append_left _ (List.mem_append_right _ h)))) (by decide +kernel))) (goodIn_sub (fun _ h => List.mem_cons_of_mem _ (List.mem_append_left _ (List.mem_append_right _ h))) (by decide +kernel))) (goodIn_sub (fun _ h => List.mem_cons_of_mem _ (List.mem_append_right _ h)) (by decide +kernel))
set_option maxRecDepth 20000 in
theorem gL_cutTime_X2_cutTime : GoodIn wsL_cutTime (wsV RL 114 RX2 yX2_cutTime wsX2_cutTime) := goodIn_app (goodIn_of _ (by decide +kernel)) ggL_cutTime_X2_cutTime
theorem dL_cutTime_0 : decode cL_cutTime 0 = .ok (.aload 4, 2) := by decide +kernel
theorem dL_cutTime_2 : decode cL_cutTime 2 = .ok (.iconst 0, 1) := by decide +kernel
theorem dL_cutTime_3 : decode cL_cutTime 3 = .ok (.aload_n 0, 1) := by decide +kernel
theorem dL_cutTime_4 : decode cL_cutTime 4 = .ok (.iload_n 1, 1) := by decide +kernel
theorem dL_cutTime_5 : decode cL_cutTime 5 = .ok (.iload_n 2, 1) := by decide +kernel
theorem dL_cutTime_6 : decode cL_cutTime 6 = .ok (.iload_n 3, 1) := by decide +kernel
theorem dL_cutTime_7 : decode cL_cutTime 7 = .ok (.invokevirtual 114, 3) := by decide +kernel
theorem dL_cutTime_10 : decode cL_cutTime 10 = .ok (.lastore, 1) := by decide +kernel
theorem dL_cutTime_11 : decode cL_cutTime 11 = .ok (.goto 11, 3) := by decide +kernel
theorem dL_cutTime_14 : decode cL_cutTime 14 = .ok (.astore 5, 2) := by decide +kernel
theorem dL_cutTime_16 : decode cL_cutTime 16 = .ok (.iconst 1, 1) := by decide +kernel
theorem dL_cutTime_17 : decode cL_cutTime 17 = .ok (.ireturn, 1) := by decide +kernel
theorem dL_cutTime_18 : decode cL_cutTime 18 = .ok (.astore 5, 2) := by decide +kernel
theorem dL_cutTime_20 : decode cL_cutTime 20 = .ok (.iconst 2, 1) := by decide +kernel
theorem dL_cutTime_21 : decode cL_cutTime 21 = .ok (.ireturn, 1) := by decide +kernel
theorem dL_cutTime_22 : decode cL_cutTime 22 = .ok (.iconst 0, 1) := by decide +kernel
theorem dL_cutTime_23 : decode cL_cutTime 23 = .ok (.ireturn, 1) := by decide +kernel
set_option maxRecDepth 20000 in
theorem ggL_goTime_X2_goTime : GoodIn wsL_goTime wsX2_goTime := goodIn_ca (goodIn_ca (goodIn_r _ [6, 7, 8, 9, 10, 11, 12, 5, 13, 14, 15, 16, 17, 18, 19, 20, 21, 22, 23, 24, 25, 26, 27, 28, 29, 30, 31, 32, 33, 34, 35, 36, 37] (by decide +kernel) (by decide +kernel)) (goodIn_sub (fun _ h => List.mem_cons_of_mem _ (List.mem_append_left _ (List.mem_append_right _ h))) (by decide +kernel))) (goodIn_sub (fun _ h => List.mem_cons_of_mem _ (List.mem_append_right _ h)) (by decide +kernel))
set_option maxRecDepth 20000 in
theorem gL_goTime_X2_goTime : GoodIn wsL_goTime (wsV RL 117 RX2 yX2_goTime wsX2_goTime) := goodIn_app (goodIn_of _ (by decide +kernel)) ggL_goTime_X2_goTime
theorem dL_goTime_0 : decode cL_goTime 0 = .ok (.aload 5, 2) := by decide +kernel
theorem dL_goTime_2 : decode cL_goTime 2 = .ok (.iconst 0, 1) := by decide +kernel
theorem dL_goTime_3 : decode cL_goTime 3 = .ok (.aload_n 0, 1) := by decide +kernel
theorem dL_goTime_4 : decode cL_goTime 4 = .ok (.iload_n 1, 1) := by decide +kernel
theorem dL_goTime_5 : decode cL_goTime 5 = .ok (.iload_n 2, 1) := by decide +kernel
theorem dL_goTime_6 : decode cL_goTime 6 = .ok (.iload_n 3, 1) := by decide +kernel
theorem dL_goTime_7 : decode cL_goTime 7 = .ok (.iload 4, 2) := by decide +kernel
theorem dL_goTime_9 : decode cL_goTime 9 = .ok (.invokevirtual 117, 3) := by decide +kernel
theorem dL_goTime_12 : decode cL_goTime 12 = .ok (.lastore, 1) := by decide +kernel
theorem dL_goTime_13 : decode cL_goTime 13 = .ok (.goto 7, 3) := by decide +kernel
theorem dL_goTime_16 : decode cL_goTime 16 = .ok (.astore 6, 2) := by decide +kernel
theorem dL_goTime_18 : decode cL_goTime 18 = .ok (.iconst 1, 1) := by decide +kernel
theorem dL_goTime_19 : decode cL_goTime 19 = .ok (.ireturn, 1) := by decide +kernel
theorem dL_goTime_20 : decode cL_goTime 20 = .ok (.iconst 0, 1) := by decide +kernel
theorem dL_goTime_21 : decode cL_goTime 21 = .ok (.ireturn, 1) := by decide +kernel
set_option maxRecDepth 20000 in
theorem ggL_orderTimes_X2_orderTimes : GoodIn wsL_orderTimes wsX2_orderTimes := goodIn_ca (goodIn_ca (goodIn_r _ [6, 7, 8, 9, 5, 10, 11, 12, 13, 14, 15, 16, 17, 18, 19, 20, 21, 22, 23, 24, 25] (by decide +kernel) (by decide +kernel)) (goodIn_sub (fun _ h => List.mem_cons_of_mem _ (List.mem_append_left _ (List.mem_append_right _ h))) (by decide +kernel))) (goodIn_sub (fun _ h => List.mem_cons_of_mem _ (List.mem_append_right _ h)) (by decide +kernel))
set_option maxRecDepth 20000 in
theorem gL_orderTimes_X2_orderTimes : GoodIn wsL_orderTimes (wsV RL 120 RX2 yX2_orderTimes wsX2_orderTimes) := goodIn_app (goodIn_of _ (by decide +kernel)) ggL_orderTimes_X2_orderTimes
theorem dL_orderTimes_0 : decode cL_orderTimes 0 = .ok (.aload_n 3, 1) := by decide +kernel
theorem dL_orderTimes_1 : decode cL_orderTimes 1 = .ok (.iconst 0, 1) := by decide +kernel
theorem dL_orderTimes_2 : decode cL_orderTimes 2 = .ok (.aload_n 0, 1) := by decide +kernel
theorem dL_orderTimes_3 : decode cL_orderTimes 3 = .ok (.iload_n 1, 1) := by decide +kernel
theorem dL_orderTimes_4 : decode cL_orderTimes 4 = .ok (.iload_n 2, 1) := by decide +kernel
theorem dL_orderTimes_5 : decode cL_orderTimes 5 = .ok (.invokevirtual 120, 3) := by decide +kernel
theorem dL_orderTimes_8 : decode cL_orderTimes 8 = .ok (.i2l, 1) := by decide +kernel
theorem dL_orderTimes_9 : decode cL_orderTimes 9 = .ok (.lastore, 1) := by decide +kernel
theorem dL_orderTimes_10 : decode cL_orderTimes 10 = .ok (.goto 7, 3) := by decide +kernel
theorem dL_orderTimes_13 : decode cL_orderTimes 13 = .ok (.astore 4, 2) := by decide +kernel
theorem dL_orderTimes_15 : decode cL_orderTimes 15 = .ok (.iconst 1, 1) := by decide +kernel
theorem dL_orderTimes_16 : decode cL_orderTimes 16 = .ok (.ireturn, 1) := by decide +kernel
theorem dL_orderTimes_17 : decode cL_orderTimes 17 = .ok (.iconst 0, 1) := by decide +kernel
theorem dL_orderTimes_18 : decode cL_orderTimes 18 = .ok (.ireturn, 1) := by decide +kernel
set_option maxRecDepth 20000 in
theorem ggL_length_X2_length : GoodIn wsL_length wsX2_length := goodIn_ca (goodIn_ca (goodIn_ca (goodIn_ca (goodIn_r _ [8, 9, 10, 11, 12, 13, 14, 7, 15, 16, 17, 18, 19, 20, 21, 22, 23, 24, 25, 26, 27, 28, 29, 30, 31, 32, 33, 34, 35, 36, 37, 38, 39, 40, 41, 42, 43, 44, 45, 46, 47, 48, 49, 50, 51, 52, 53, 54] (by decide +kernel) (by decide +kernel)) (goodIn_sub (fun _ h => List.mem_cons_of_mem _ (List.mem_append_left _ (List.mem_append_left _ (List.mem_append_right _ h)))) (by decide +kernel))) (goodIn_sub (fun _ h => List.mem_cons_of_mem _ (List.mem_append_left _ (List.mem_append_right _ h))) (by decide +kernel))) (goodIn_sub (fun _ h => List.mem_cons_of_mem _ (List.mem_append_left _ (List.mem_append_left _ (List.mem_append_left _ (List.mem_append_right _ h))))) (by decide +kernel))) (goodIn_sub (fun _ h => List.mem_cons_of_mem _ (List.mem_append_right _ h)) (by decide +kernel))
set_option maxRecDepth 20000 in
theorem gL_length_X2_length : GoodIn wsL_length (wsV RL 123 RX2 yX2_length wsX2_length) := goodIn_app (goodIn_of _ (by decide +kernel)) ggL_length_X2_length
theorem dL_length_0 : decode cL_length 0 = .ok (.aload 6, 2) := by decide +kernel
theorem dL_length_2 : decode cL_length 2 = .ok (.iconst 0, 1) := by decide +kernel
theorem dL_length_3 : decode cL_length 3 = .ok (.aload_n 0, 1) := by decide +kernel
theorem dL_length_4 : decode cL_length 4 = .ok (.iload_n 1, 1) := by decide +kernel
theorem dL_length_5 : decode cL_length 5 = .ok (.lload_n 2, 1) := by decide +kernel
theorem dL_length_6 : decode cL_length 6 = .ok (.lload 4, 2) := by decide +kernel
theorem dL_length_8 : decode cL_length 8 = .ok (.invokevirtual 123, 3) := by decide +kernel
theorem dL_length_11 : decode cL_length 11 = .ok (.lastore, 1) := by decide +kernel
theorem dL_length_12 : decode cL_length 12 = .ok (.goto 15, 3) := by decide +kernel
theorem dL_length_15 : decode cL_length 15 = .ok (.astore 7, 2) := by decide +kernel
theorem dL_length_17 : decode cL_length 17 = .ok (.iconst 1, 1) := by decide +kernel
theorem dL_length_18 : decode cL_length 18 = .ok (.ireturn, 1) := by decide +kernel
theorem dL_length_19 : decode cL_length 19 = .ok (.astore 7, 2) := by decide +kernel
theorem dL_length_21 : decode cL_length 21 = .ok (.iconst 2, 1) := by decide +kernel
theorem dL_length_22 : decode cL_length 22 = .ok (.ireturn, 1) := by decide +kernel
theorem dL_length_23 : decode cL_length 23 = .ok (.astore 7, 2) := by decide +kernel
theorem dL_length_25 : decode cL_length 25 = .ok (.iconst 3, 1) := by decide +kernel
theorem dL_length_26 : decode cL_length 26 = .ok (.ireturn, 1) := by decide +kernel
theorem dL_length_27 : decode cL_length 27 = .ok (.iconst 0, 1) := by decide +kernel
theorem dL_length_28 : decode cL_length 28 = .ok (.ireturn, 1) := by decide +kernel
set_option maxRecDepth 20000 in
theorem ggL_lengthPart_X2_lengthPart : GoodIn wsL_lengthPart wsX2_lengthPart := goodIn_ca (goodIn_ca (goodIn_ca (goodIn_r _ [7, 8, 9, 10, 11, 12, 13, 6, 14, 15, 16, 17, 18, 19, 20, 21, 22, 23, 24, 25, 26] (by decide +kernel) (by decide +kernel)) (goodIn_sub (fun _ h => List.mem_cons_of_mem _ (List.mem_append_left _ (List.mem_append_left _ (List.mem_append_right _ h)))) (by decide +kernel))) (goodIn_sub (fun _ h => List.mem_cons_of_mem _ (List.mem_append_left _ (List.mem_append_right _ h))) (by decide +kernel))) (goodIn_sub (fun _ h => List.mem_cons_of_mem _ (List.mem_append_right _ h)) (by decide +kernel))
set_option maxRecDepth 20000 in
theorem gL_lengthPart_X2_lengthPart : GoodIn wsL_lengthPart (wsV RL 127 RX2 yX2_lengthPart wsX2_lengthPart) := goodIn_app (goodIn_of _ (by decide +kernel)) ggL_lengthPart_X2_lengthPart
theorem dL_lengthPart_0 : decode cL_lengthPart 0 = .ok (.aload_n 3, 1) := by decide +kernel
theorem dL_lengthPart_1 : decode cL_lengthPart 1 = .ok (.iconst 0, 1) := by decide +kernel
theorem dL_lengthPart_2 : decode cL_lengthPart 2 = .ok (.aload_n 0, 1) := by decide +kernel
theorem dL_lengthPart_3 : decode cL_lengthPart 3 = .ok (.iload_n 1, 1) := by decide +kernel
theorem dL_lengthPart_4 : decode cL_lengthPart 4 = .ok (.iload_n 2, 1) := by decide +kernel
theorem dL_lengthPart_5 : decode cL_lengthPart 5 = .ok (.invokevirtual 127, 3) := by decide +kernel
theorem dL_lengthPart_8 : decode cL_lengthPart 8 = .ok (.lastore, 1) := by decide +kernel
theorem dL_lengthPart_9 : decode cL_lengthPart 9 = .ok (.goto 11, 3) := by decide +kernel
theorem dL_lengthPart_12 : decode cL_lengthPart 12 = .ok (.astore 4, 2) := by decide +kernel
theorem dL_lengthPart_14 : decode cL_lengthPart 14 = .ok (.iconst 1, 1) := by decide +kernel
theorem dL_lengthPart_15 : decode cL_lengthPart 15 = .ok (.ireturn, 1) := by decide +kernel
theorem dL_lengthPart_16 : decode cL_lengthPart 16 = .ok (.astore 4, 2) := by decide +kernel
theorem dL_lengthPart_18 : decode cL_lengthPart 18 = .ok (.iconst 2, 1) := by decide +kernel
theorem dL_lengthPart_19 : decode cL_lengthPart 19 = .ok (.ireturn, 1) := by decide +kernel
theorem dL_lengthPart_20 : decode cL_lengthPart 20 = .ok (.iconst 0, 1) := by decide +kernel
theorem dL_lengthPart_21 : decode cL_lengthPart 21 = .ok (.ireturn, 1) := by decide +kernel
set_option maxRecDepth 20000 in
theorem ggL_addLength_X2_addLength : GoodIn wsL_addLength wsX2_addLength := goodIn_ca (goodIn_ca (goodIn_ca (goodIn_r _ [7, 8, 9, 10, 11, 6, 12, 13, 14, 15, 16, 17, 18, 19, 20, 21, 22, 23, 24, 25, 26, 27, 28, 29, 30, 31, 32, 33, 34, 35, 36, 37, 38, 39, 40, 41, 42, 43, 44, 45, 46] (by decide +kernel) (by decide +kernel)) (goodIn_sub (fun _ h => List.mem_cons_of_mem _ (List.mem_append_left _ (List.mem_append_left _ (List.mem_append_right _ h)))) (by decide +kernel))) (goodIn_sub (fun _ h => List.mem_cons_of_mem _ (List.mem_append_left _ (List.mem_append_right _ h))) (by decide +kernel))) (goodIn_sub (fun _ h => List.mem_cons_of_mem _ (List.mem_append_right _ h)) (by decide +kernel))
set_option maxRecDepth 20000 in
theorem gL_addLength_X2_addLength : GoodIn wsL_addLength (wsV RL 131 RX2 yX2_addLength wsX2_addLength) := goodIn_app (goodIn_of _ (by decide +kernel)) ggL_addLength_X2_addLength
theorem dL_addLength_0 : decode cL_addLength 0 = .ok (.aload 5, 2) := by decide +kernel
theorem dL_addLength_2 : decode cL_addLength 2 = .ok (.iconst 0, 1) := by decide +kernel
theorem dL_addLength_3 : decode cL_addLength 3 = .ok (.aload_n 0, 1) := by decide +kernel
theorem dL_addLength_4 : decode cL_addLength 4 = .ok (.iload_n 1, 1) := by decide +kernel
theorem dL_addLength_5 : decode cL_addLength 5 = .ok (.iload_n 2, 1) := by decide +kernel
theorem dL_addLength_6 : decode cL_addLength 6 = .ok (.iload_n 3, 1) := by decide +kernel
theorem dL_addLength_7 : decode cL_addLength 7 = .ok (.iload 4, 2) := by decide +kernel
theorem dL_addLength_9 : decode cL_addLength 9 = .ok (.invokevirtual 131, 3) := by decide +kernel
theorem dL_addLength_12 : decode cL_addLength 12 = .ok (.lastore, 1) := by decide +kernel
theorem dL_addLength_13 : decode cL_addLength 13 = .ok (.goto 11, 3) := by decide +kernel
theorem dL_addLength_16 : decode cL_addLength 16 = .ok (.astore 6, 2) := by decide +kernel
theorem dL_addLength_18 : decode cL_addLength 18 = .ok (.iconst 1, 1) := by decide +kernel
theorem dL_addLength_19 : decode cL_addLength 19 = .ok (.ireturn, 1) := by decide +kernel
theorem dL_addLength_20 : decode cL_addLength 20 = .ok (.astore 6, 2) := by decide +kernel
theorem dL_addLength_22 : decode cL_addLength 22 = .ok (.iconst 2, 1) := by decide +kernel
theorem dL_addLength_23 : decode cL_addLength 23 = .ok (.ireturn, 1) := by decide +kernel
theorem dL_addLength_24 : decode cL_addLength 24 = .ok (.iconst 0, 1) := by decide +kernel
theorem dL_addLength_25 : decode cL_addLength 25 = .ok (.ireturn, 1) := by decide +kernel
set_option maxRecDepth 20000 in
theorem ggL_timesLength_X2_timesLength : GoodIn wsL_timesLength wsX2_timesLength := goodIn_ca (goodIn_ca (goodIn_ca (goodIn_ca (goodIn_r _ [8, 9, 10, 11, 12, 13, 14, 7, 15, 16, 17, 18, 19, 20, 21, 22, 23, 24, 25, 26, 27, 28, 29, 30, 31, 32, 33, 34, 35, 36, 37, 38, 39, 40, 41, 42, 43, 44, 45, 46, 47, 48, 49, 50, 51, 52, 53, 54] (by decide +kernel) (by decide +kernel)) (goodIn_sub (fun _ h => List.mem_cons_of_mem _ (List.mem_append_left _ (List.mem_append_left _ (List.mem_append_left _ (List.mem_append_right _ h))))) (by decide +kernel))) (goodIn_sub (fun _ h => List.mem_cons_of_mem _ (List.mem_append_left _ (List.mem_append_left _ (List.mem_append_right _ h)))) (by decide +kernel))) (goodIn_sub (fun _ h => List.mem_cons_of_mem _ (List.mem_append_left _ (List.mem_append_right _ h))) (by decide +kernel))) (goodIn_sub (fun _ h => List.mem_cons_of_mem _ (List.mem_append_right _ h)) (by decide +kernel))
set_option maxRecDepth 20000 in
theorem gL_timesLength_X2_timesLength : GoodIn wsL_timesLength (wsV RL 134 RX2 yX2_timesLength wsX2_timesLength) := goodIn_app (goodIn_of _ (by decide +kernel)) ggL_timesLength_X2_timesLength
theorem dL_timesLength_0 : decode cL_timesLength 0 = .ok (.aload 4, 2) := by decide +kernel
theorem dL_timesLength_2 : decode cL_timesLength 2 = .ok (.iconst 0, 1) := by decide +kernel
theorem dL_timesLength_3 : decode cL_timesLength 3 = .ok (.aload_n 0, 1) := by decide +kernel
theorem dL_timesLength_4 : decode cL_timesLength 4 = .ok (.iload_n 1, 1) := by decide +kernel
theorem dL_timesLength_5 : decode cL_timesLength 5 = .ok (.iload_n 2, 1) := by decide +kernel
theorem dL_timesLength_6 : decode cL_timesLength 6 = .ok (.iload_n 3, 1) := by decide +kernel
theorem dL_timesLength_7 : decode cL_timesLength 7 = .ok (.invokevirtual 134, 3) := by decide +kernel
theorem dL_timesLength_10 : decode cL_timesLength 10 = .ok (.lastore, 1) := by decide +kernel
theorem dL_timesLength_11 : decode cL_timesLength 11 = .ok (.goto 15, 3) := by decide +kernel
theorem dL_timesLength_14 : decode cL_timesLength 14 = .ok (.astore 5, 2) := by decide +kernel
theorem dL_timesLength_16 : decode cL_timesLength 16 = .ok (.iconst 1, 1) := by decide +kernel
theorem dL_timesLength_17 : decode cL_timesLength 17 = .ok (.ireturn, 1) := by decide +kernel
theorem dL_timesLength_18 : decode cL_timesLength 18 = .ok (.astore 5, 2) := by decide +kernel
theorem dL_timesLength_20 : decode cL_timesLength 20 = .ok (.iconst 2, 1) := by decide +kernel
theorem dL_timesLength_21 : decode cL_timesLength 21 = .ok (.ireturn, 1) := by decide +kernel
theorem dL_timesLength_22 : decode cL_timesLength 22 = .ok (.astore 5, 2) := by decide +kernel
theorem dL_timesLength_24 : decode cL_timesLength 24 = .ok (.iconst 3, 1) := by decide +kernel
theorem dL_timesLength_25 : decode cL_timesLength 25 = .ok (.ireturn, 1) := by decide +kernel
theorem dL_timesLength_26 : decode cL_timesLength 26 = .ok (.iconst 0, 1) := by decide +kernel
theorem dL_timesLength_27 : decode cL_timesLength 27 = .ok (.ireturn, 1) := by decide +kernel
set_option maxRecDepth 20000 in
theorem ggL_lengthOfTimes_X2_lengthOfTimes : GoodIn wsL_lengthOfTimes wsX2_lengthOfTimes := goodIn_ca (goodIn_ca (goodIn_ca (goodIn_r _ [6, 7, 8, 9, 5, 10, 11, 12, 13, 14, 15, 16, 17, 18, 19, 20, 21, 22, 23, 24, 25, 26, 27, 28, 29, 30, 31, 32, 33, 34, 35, 36, 37, 38, 39, 40, 41, 42, 43, 44, 45, 46] (by decide +kernel) (by decide +kernel)) (goodIn_sub (fun _ h => List.mem_cons_of_mem _ (List.mem_append_left _ (List.mem_append_left _ (List.mem_append_right _ h)))) (by decide +kernel))) (goodIn_sub (fun _ h => List.mem_cons_of_mem _ (List.mem_append_left _ (List.mem_append_right _ h))) (by decide +kernel))) (goodIn_sub (fun _ h => List.mem_cons_of_mem _ (List.mem_append_right _ h)) (by decide +kernel))
set_option maxRecDepth 20000 in
theorem gL_lengthOfTimes_X2_lengthOfTimes : GoodIn wsL_lengthOfTimes (wsV RL 137 RX2 yX2_lengthOfTimes wsX2_lengthOfTimes) := goodIn_app (goodIn_of _ (by decide +kernel)) ggL_lengthOfTimes_X2_lengthOfTimes
theorem dL_lengthOfTimes_0 : decode cL_lengthOfTimes 0 = .ok (.aload 4, 2) := by decide +kernel
theorem dL_lengthOfTimes_2 : decode cL_lengthOfTimes 2 = .ok (.iconst 0, 1) := by decide +kernel
theorem dL_lengthOfTimes_3 : decode cL_lengthOfTimes 3 = .ok (.aload_n 0, 1) := by decide +kernel
theorem dL_lengthOfTimes_4 : decode cL_lengthOfTimes 4 = .ok (.iload_n 1, 1) := by decide +kernel
theorem dL_lengthOfTimes_5 : decode cL_lengthOfTimes 5 = .ok (.iload_n 2, 1) := by decide +kernel
theorem dL_lengthOfTimes_6 : decode cL_lengthOfTimes 6 = .ok (.iload_n 3, 1) := by decide +kernel
theorem dL_lengthOfTimes_7 : decode cL_lengthOfTimes 7 = .ok (.invokevirtual 137, 3) := by decide +kernel
theorem dL_lengthOfTimes_10 : decode cL_lengthOfTimes 10 = .ok (.lastore, 1) := by decide +kernel
theorem dL_lengthOfTimes_11 : decode cL_lengthOfTimes 11 = .ok (.goto 7, 3) := by decide +kernel
theorem dL_lengthOfTimes_14 : decode cL_lengthOfTimes 14 = .ok (.astore 5, 2) := by decide +kernel
theorem dL_lengthOfTimes_16 : decode cL_lengthOfTimes 16 = .ok (.iconst 1, 1) := by decide +kernel
theorem dL_lengthOfTimes_17 : decode cL_lengthOfTimes 17 = .ok (.ireturn, 1) := by decide +kernel
theorem dL_lengthOfTimes_18 : decode cL_lengthOfTimes 18 = .ok (.iconst 0, 1) := by decide +kernel
theorem dL_lengthOfTimes_19 : decode cL_lengthOfTimes 19 = .ok (.ireturn, 1) := by decide +kernel
set_option maxRecDepth 20000 in
theorem ggL_orderLengths_X2_orderLengths : GoodIn wsL_orderLengths wsX2_orderLengths := goodIn_ca (goodIn_ca (goodIn_r _ [6, 7, 8, 9, 10, 5, 11, 12, 13, 14, 15, 16, 17, 18, 19, 20, 21, 22, 23, 24, 25, 26] (by decide +kernel) (by decide +kernel)) (goodIn_sub (fun _ h => List.mem_cons_of_mem _ (List.mem_append_left _ (List.mem_append_right _ h))) (by decide +kernel))) (goodIn_sub (fun _ h => List.mem_cons_of_mem _ (List.mem_append_right _ h)) (by decide +kernel))
set_option maxRecDepth 20000 in
theorem gL_orderLengths_X2_orderLengths : GoodIn wsL_orderLengths (wsV RL 140 RX2 yX2_orderLengths wsX2_orderLengths) := goodIn_app (goodIn_of _ (by decide +kernel)) ggL_orderLengths_X2_orderLengths
theorem dL_orderLengths_0 : decode cL_orderLengths 0 = .ok (.aload_n 3, 1) := by decide +kernel
theorem dL_orderLengths_1 : decode cL_orderLengths 1 = .ok (.iconst 0, 1) := by decide +kernel
theorem dL_orderLengths_2 : decode cL_orderLengths 2 = .ok (.aload_n 0, 1) := by decide +kernel
theorem dL_orderLengths_3 : decode cL_orderLengths 3 = .ok (.iload_n 1, 1) := by decide +kernel
theorem dL_orderLengths_4 : decode cL_orderLengths 4 = .ok (.iload_n 2, 1) := by decide +kernel
theorem dL_orderLengths_5 : decode cL_orderLengths 5 = .ok (.invokevirtual 140, 3) := by decide +kernel
theorem dL_orderLengths_8 : decode cL_orderLengths 8 = .ok (.i2l, 1) := by decide +kernel
theorem dL_orderLengths_9 : decode cL_orderLengths 9 = .ok (.lastore, 1) := by decide +kernel
theorem dL_orderLengths_10 : decode cL_orderLengths 10 = .ok (.goto 7, 3) := by decide +kernel
theorem dL_orderLengths_13 : decode cL_orderLengths 13 = .ok (.astore 4, 2) := by decide +kernel
theorem dL_orderLengths_15 : decode cL_orderLengths 15 = .ok (.iconst 1, 1) := by decide +kernel
theorem dL_orderLengths_16 : decode cL_orderLengths 16 = .ok (.ireturn, 1) := by decide +kernel
theorem dL_orderLengths_17 : decode cL_orderLengths 17 = .ok (.iconst 0, 1) := by decide +kernel
theorem dL_orderLengths_18 : decode cL_orderLengths 18 = .ok (.ireturn, 1) := by decide +kernel
set_option maxRecDepth 20000 in
theorem ggL_moment_X2_moment : GoodIn wsL_moment wsX2_moment := goodIn_ca (goodIn_ca (goodIn_ca (goodIn_r _ [6, 7, 8, 9, 10, 5, 11, 12, 13, 14, 15, 16, 17, 18, 19, 20, 21, 22, 23, 24, 25, 26, 27, 28, 29, 30, 31, 32, 33, 34, 35, 36, 37, 38, 39, 40, 41, 42, 43, 44, 45, 46, 47, 48, 49, 50, 51, 52, 53] (by decide +kernel) (by decide +kernel)) (goodIn_sub (fun _ h => List.mem_cons_of_mem _ (List.mem_append_left _ (List.mem_append_left _ (List.mem_append_right _ h)))) (by decide +kernel))) (goodIn_sub (fun _ h => List.mem_cons_of_mem _ (List.mem_append_left _ (List.mem_append_right _ h))) (by decide +kernel))) (goodIn_sub (fun _ h => List.mem_cons_of_mem _ (List.mem_append_right _ h)) (by decide +kernel))
set_option maxRecDepth 20000 in
theorem gL_moment_X2_moment : GoodIn wsL_moment (wsV RL 143 RX2 yX2_moment wsX2_moment) := goodIn_app (goodIn_of _ (by decide +kernel)) ggL_moment_X2_moment
theorem dL_moment_0 : decode cL_moment 0 = .ok (.aload 4, 2) := by decide +kernel
theorem dL_moment_2 : decode cL_moment 2 = .ok (.iconst 0, 1) := by decide +kernel
theorem dL_moment_3 : decode cL_moment 3 = .ok (.aload_n 0, 1) := by decide +kernel
theorem dL_moment_4 : decode cL_moment 4 = .ok (.iload_n 1, 1) := by decide +kernel
theorem dL_moment_5 : decode cL_moment 5 = .ok (.iload_n 2, 1) := by decide +kernel
theorem dL_moment_6 : decode cL_moment 6 = .ok (.iload_n 3, 1) := by decide +kernel
theorem dL_moment_7 : decode cL_moment 7 = .ok (.invokevirtual 143, 3) := by decide +kernel
theorem dL_moment_10 : decode cL_moment 10 = .ok (.lastore, 1) := by decide +kernel
theorem dL_moment_11 : decode cL_moment 11 = .ok (.goto 7, 3) := by decide +kernel
theorem dL_moment_14 : decode cL_moment 14 = .ok (.astore 5, 2) := by decide +kernel
theorem dL_moment_16 : decode cL_moment 16 = .ok (.iconst 1, 1) := by decide +kernel
theorem dL_moment_17 : decode cL_moment 17 = .ok (.ireturn, 1) := by decide +kernel
theorem dL_moment_18 : decode cL_moment 18 = .ok (.iconst 0, 1) := by decide +kernel
theorem dL_moment_19 : decode cL_moment 19 = .ok (.ireturn, 1) := by decide +kernel
set_option maxRecDepth 20000 in
theorem ggL_dateOf_X2_dateOf : GoodIn wsL_dateOf wsX2_dateOf := goodIn_ca (goodIn_ca (goodIn_ca (goodIn_r _ [6, 7, 8, 9, 5, 10, 11, 12, 13, 14, 15, 16, 17, 18, 19, 20, 21, 22, 23, 24, 25, 26, 27, 28, 29, 30, 31, 32, 33, 34, 35, 36, 37, 38] (by decide +kernel) (by decide +kernel)) (goodIn_sub (fun _ h => List.mem_cons_of_mem _ (List.mem_append_left _ (List.mem_append_left _ (List.mem_append_right _ h)))) (by decide +kernel))) (goodIn_sub (fun _ h => List.mem_cons_of_mem _ (List.mem_append_left _ (List.mem_append_right _ h))) (by decide +kernel))) (goodIn_sub (fun _ h => List.mem_cons_of_mem _ (List.mem_append_right _ h)) (by decide +kernel))
set_option maxRecDepth 20000 in
theorem gL_dateOf_X2_dateOf : GoodIn wsL_dateOf (wsV RL 146 RX2 yX2_dateOf wsX2_dateOf) := goodIn_app (goodIn_of _ (by decide +kernel)) ggL_dateOf_X2_dateOf
theorem dL_dateOf_0 : decode cL_dateOf 0 = .ok (.aload_n 3, 1) := by decide +kernel
theorem dL_dateOf_1 : decode cL_dateOf 1 = .ok (.iconst 0, 1) := by decide +kernel
theorem dL_dateOf_2 : decode cL_dateOf 2 = .ok (.aload_n 0, 1) := by decide +kernel
theorem dL_dateOf_3 : decode cL_dateOf 3 = .ok (.iload_n 1, 1) := by decide +kernel
theorem dL_dateOf_4 : decode cL_dateOf 4 = .ok (.iload_n 2, 1) := by decide +kernel
theorem dL_dateOf_5 : decode cL_dateOf 5 = .ok (.invokevirtual 146, 3) := by decide +kernel
theorem dL_dateOf_8 : decode cL_dateOf 8 = .ok (.lastore, 1) := by decide +kernel
theorem dL_dateOf_9 : decode cL_dateOf 9 = .ok (.goto 7, 3) := by decide +kernel
theorem dL_dateOf_12 : decode cL_dateOf 12 = .ok (.astore 4, 2) := by decide +kernel
theorem dL_dateOf_14 : decode cL_dateOf 14 = .ok (.iconst 1, 1) := by decide +kernel
theorem dL_dateOf_15 : decode cL_dateOf 15 = .ok (.ireturn, 1) := by decide +kernel
theorem dL_dateOf_16 : decode cL_dateOf 16 = .ok (.iconst 0, 1) := by decide +kernel
theorem dL_dateOf_17 : decode cL_dateOf 17 = .ok (.ireturn, 1) := by decide +kernel
set_option maxRecDepth 20000 in
theorem ggL_timeOf_X2_timeOf : GoodIn wsL_timeOf wsX2_timeOf := goodIn_ca (goodIn_ca (goodIn_r _ [6, 7, 8, 9, 10, 5, 11, 12, 13, 14, 15, 16, 17, 18, 19, 20, 21, 22, 23] (by decide +kernel) (by decide +kernel)) (goodIn_sub (fun _ h => List.mem_cons_of_mem _ (List.mem_append_left _ (List.mem_append_right _ h))) (by decide +kernel))) (goodIn_sub (fun _ h => List.mem_cons_of_mem _ (List.mem_append_right _ h)) (by decide +kernel))
set_option maxRecDepth 20000 in
theorem gL_timeOf_X2_timeOf : GoodIn wsL_timeOf (wsV RL 149 RX2 yX2_timeOf wsX2_timeOf) := goodIn_app (goodIn_of _ (by decide +kernel)) ggL_timeOf_X2_timeOf
theorem dL_timeOf_0 : decode cL_timeOf 0 = .ok (.aload_n 3, 1) := by decide +kernel
theorem dL_timeOf_1 : decode cL_timeOf 1 = .ok (.iconst 0, 1) := by decide +kernel
theorem dL_timeOf_2 : decode cL_timeOf 2 = .ok (.aload_n 0, 1) := by decide +kernel
theorem dL_timeOf_3 : decode cL_timeOf 3 = .ok (.iload_n 1, 1) := by decide +kernel
theorem dL_timeOf_4 : decode cL_timeOf 4 = .ok (.iload_n 2, 1) := by decide +kernel
theorem dL_timeOf_5 : decode cL_timeOf 5 = .ok (.invokevirtual 149, 3) := by decide +kernel
theorem dL_timeOf_8 : decode cL_timeOf 8 = .ok (.lastore, 1) := by decide +kernel
theorem dL_timeOf_9 : decode cL_timeOf 9 = .ok (.goto 7, 3) := by decide +kernel
theorem dL_timeOf_12 : decode cL_timeOf 12 = .ok (.astore 4, 2) := by decide +kernel
theorem dL_timeOf_14 : decode cL_timeOf 14 = .ok (.iconst 1, 1) := by decide +kernel
theorem dL_timeOf_15 : decode cL_timeOf 15 = .ok (.ireturn, 1) := by decide +kernel
theorem dL_timeOf_16 : decode cL_timeOf 16 = .ok (.iconst 0, 1) := by decide +kernel
theorem dL_timeOf_17 : decode cL_timeOf 17 = .ok (.ireturn, 1) := by decide +kernel
set_option maxRecDepth 20000 in
theorem ggL_moveMoment_X2_moveMoment : GoodIn wsL_moveMoment wsX2_moveMoment := goodIn_ca (goodIn_ca (goodIn_ca (goodIn_ca (goodIn_r _ [8, 9, 10, 11, 12, 13, 14, 15, 16, 7, 17, 18, 19, 20, 21, 22, 23, 24, 25, 26, 27, 28, 29, 30, 31, 32, 33, 34, 35, 36, 37, 38, 39, 40, 41, 42, 43, 44, 45, 46, 47, 48, 49, 50, 51, 52, 53, 54, 55, 56, 57, 58, 59, 60, 61, 62, 63, 64, 65, 66, 67, 68, 69, 70, 71, 72, 73, 74, 75, 76, 77, 78, 79, 80, 81, 82, 83, 84, 85, 86, 87, 88, 89, 90, 91, 92, 93, 94, 95, 96, 97, 98, 99, 100, 101, 102, 103, 104, 105, 106, 107, 108, 109, 110, 111, 112, 113, 114, 115, 116, 117, 118, 119, 120, 121, 122, 123, 124, 125, 126, 127, 128, 129, 130, 131, 132, 133, 134, 135, 136, 137] (by decide +kernel) (by decide +kernel)) (goodIn_sub (fun _ h => List.mem_cons_of_mem _ (List.mem_append_left _ (List.mem_append_left _ (List.mem_append_left _ (List.mem_append_right _ h))))) (by decide +kernel))) (goodIn_sub (fun _ h => List.mem_cons_of_mem _ (List.mem_append_left _ (List.mem_append_left _ (List.mem_append_right _ h)))) (by decide +kernel))) (goodIn_sub (fun _ h => List.mem_cons_of_mem _ (List.mem_append_left _ (List.mem_append_right _ h))) (by decide +kernel))) (goodIn_sub (fun _ h => List.mem_cons_of_mem _ (List.mem_append_right _ h)) (by decide +kernel))
set_option maxRecDepth 20000 in
theorem gL_moveMoment_X2_moveMoment : GoodIn wsL_moveMoment (wsV RL 152 RX2 yX2_moveMoment wsX2_moveMoment) := goodIn_app (goodIn_of _ (by decide +kernel)) ggL_moveMoment_X2_moveMoment
theorem dL_moveMoment_0 : decode cL_moveMoment 0 = .ok (.aload 6, 2) := by decide +kernel
theorem dL_moveMoment_2 : decode cL_moveMoment 2 = .ok (.iconst 0, 1) := by decide +kernel
theorem dL_moveMoment_3 : decode cL_moveMoment 3 = .ok (.aload_n 0, 1) := by decide +kernel
theorem dL_moveMoment_4 : decode cL_moveMoment 4 = .ok (.iload_n 1, 1) := by decide +kernel
theorem dL_moveMoment_5 : decode cL_moveMoment 5 = .ok (.iload_n 2, 1) := by decide +kernel
theorem dL_moveMoment_6 : decode cL_moveMoment 6 = .ok (.lload_n 3, 1) := by decide +kernel
theorem dL_moveMoment_7 : decode cL_moveMoment 7 = .ok (.iload 5, 2) := by decide +kernel
theorem dL_moveMoment_9 : decode cL_moveMoment 9 = .ok (.invokevirtual 152, 3) := by decide +kernel
theorem dL_moveMoment_12 : decode cL_moveMoment 12 = .ok (.lastore, 1) := by decide +kernel
theorem dL_moveMoment_13 : decode cL_moveMoment 13 = .ok (.goto 15, 3) := by decide +kernel
theorem dL_moveMoment_16 : decode cL_moveMoment 16 = .ok (.astore 7, 2) := by decide +kernel
theorem dL_moveMoment_18 : decode cL_moveMoment 18 = .ok (.iconst 1, 1) := by decide +kernel
theorem dL_moveMoment_19 : decode cL_moveMoment 19 = .ok (.ireturn, 1) := by decide +kernel
theorem dL_moveMoment_20 : decode cL_moveMoment 20 = .ok (.astore 7, 2) := by decide +kernel
theorem dL_moveMoment_22 : decode cL_moveMoment 22 = .ok (.iconst 2, 1) := by decide +kernel
theorem dL_moveMoment_23 : decode cL_moveMoment 23 = .ok (.ireturn, 1) := by decide +kernel
theorem dL_moveMoment_24 : decode cL_moveMoment 24 = .ok (.astore 7, 2) := by decide +kernel
theorem dL_moveMoment_26 : decode cL_moveMoment 26 = .ok (.iconst 3, 1) := by decide +kernel
theorem dL_moveMoment_27 : decode cL_moveMoment 27 = .ok (.ireturn, 1) := by decide +kernel
theorem dL_moveMoment_28 : decode cL_moveMoment 28 = .ok (.iconst 0, 1) := by decide +kernel
theorem dL_moveMoment_29 : decode cL_moveMoment 29 = .ok (.ireturn, 1) := by decide +kernel
set_option maxRecDepth 20000 in
theorem ggL_goMoment_X2_goMoment : GoodIn wsL_goMoment wsX2_goMoment := goodIn_ca (goodIn_ca (goodIn_ca (goodIn_r _ [7, 8, 9, 10, 11, 12, 13, 14, 6, 15, 16, 17, 18, 19, 20, 21, 22, 23, 24, 25, 26, 27, 28, 29, 30, 31, 32, 33, 34, 35, 36, 37, 38, 39, 40, 41, 42, 43, 44, 45, 46, 47, 48, 49, 50, 51, 52, 53, 54, 55, 56, 57, 58, 59, 60, 61, 62] (by decide +kernel) (by decide +kernel)) (goodIn_sub (fun _ h => List.mem_cons_of_mem _ (List.mem_append_left _ (List.mem_append_left _ (List.mem_append_right _ h)))) (by decide +kernel))) (goodIn_sub (fun _ h => List.mem_cons_of_mem _ (List.mem_append_left _ (List.mem_append_right _ h))) (by decide +kernel))) (goodIn_sub (fun _ h => List.mem_cons_of_mem _ (List.mem_append_right _ h)) (by decide +kernel))
set_option maxRecDepth 20000 in
theorem gL_goMoment_X2_goMoment : GoodIn wsL_goMoment (wsV RL 155 RX2 yX2_goMoment wsX2_goMoment) := goodIn_app (goodIn_of _ (by decide +kernel)) ggL_goMoment_X2_goMoment
theorem dL_goMoment_0 : decode cL_goMoment 0 = .ok (.aload 5, 2) := by decide +kernel
theorem dL_goMoment_2 : decode cL_goMoment 2 = .ok (.iconst 0, 1) := by decide +kernel
theorem dL_goMoment_3 : decode cL_goMoment 3 = .ok (.aload_n 0, 1) := by decide +kernel
theorem dL_goMoment_4 : decode cL_goMoment 4 = .ok (.iload_n 1, 1) := by decide +kernel
theorem dL_goMoment_5 : decode cL_goMoment 5 = .ok (.iload_n 2, 1) := by decide +kernel
theorem dL_goMoment_6 : decode cL_goMoment 6 = .ok (.iload_n 3, 1) := by decide +kernel
theorem dL_goMoment_7 : decode cL_goMoment 7 = .ok (.iload 4, 2) := by decide +kernel
theorem dL_goMoment_9 : decode cL_goMoment 9 = .ok (.invokevirtual 155, 3) := by decide +kernel
theorem dL_goMoment_12 : decode cL_goMoment 12 = .ok (.lastore, 1) := by decide +kernel
theorem dL_goMoment_13 : decode cL_goMoment 13 = .ok (.goto 11, 3) := by decide +kernel
theorem dL_goMoment_16 : decode cL_goMoment 16 = .ok (.astore 6, 2) := by decide +kernel
theorem dL_goMoment_18 : decode cL_goMoment 18 = .ok (.iconst 1, 1) := by decide +kernel
theorem dL_goMoment_19 : decode cL_goMoment 19 = .ok (.ireturn, 1) := by decide +kernel
theorem dL_goMoment_20 : decode cL_goMoment 20 = .ok (.astore 6, 2) := by decide +kernel
theorem dL_goMoment_22 : decode cL_goMoment 22 = .ok (.iconst 2, 1) := by decide +kernel
theorem dL_goMoment_23 : decode cL_goMoment 23 = .ok (.ireturn, 1) := by decide +kernel
theorem dL_goMoment_24 : decode cL_goMoment 24 = .ok (.iconst 0, 1) := by decide +kernel
theorem dL_goMoment_25 : decode cL_goMoment 25 = .ok (.ireturn, 1) := by decide +kernel
set_option maxRecDepth 20000 in
theorem ggL_lengthOfMoments_X2_lengthOfMoments : GoodIn wsL_lengthOfMoments wsX2_lengthOfMoments := goodIn_ca (goodIn_ca (goodIn_ca (goodIn_r _ [6, 7, 8, 9, 10, 11, 5, 12, 13, 14, 15, 16, 17, 18, 19, 20, 21, 22, 23, 24, 25, 26, 27, 28, 29, 30, 31, 32, 33, 34, 35, 36, 37, 38, 39, 40, 41, 42, 43, 44, 45, 46, 47, 48] (by decide +kernel) (by decide +kernel)) (goodIn_sub (fun _ h => List.mem_cons_of_mem _ (List.mem_append_left _ (List.mem_append_left _ (List.mem_append_right _ h)))) (by decide +kernel))) (goodIn_sub (fun _ h => List.mem_cons_of_mem _ (List.mem_append_left _ (List.mem_append_right _ h))) (by decide +kernel))) (goodIn_sub (fun _ h => List.mem_cons_of_mem _ (List.mem_append_right _ h)) (by decide +kernel))
set_option maxRecDepth 20000 in
theorem gL_lengthOfMoments_X2_lengthOfMoments : GoodIn wsL_lengthOfMoments (wsV RL 158 RX2 yX2_lengthOfMoments wsX2_lengthOfMoments) := goodIn_app (goodIn_of _ (by decide +kernel)) ggL_lengthOfMoments_X2_lengthOfMoments
theorem dL_lengthOfMoments_0 : decode cL_lengthOfMoments 0 = .ok (.aload 4, 2) := by decide +kernel
theorem dL_lengthOfMoments_2 : decode cL_lengthOfMoments 2 = .ok (.iconst 0, 1) := by decide +kernel
theorem dL_lengthOfMoments_3 : decode cL_lengthOfMoments 3 = .ok (.aload_n 0, 1) := by decide +kernel
theorem dL_lengthOfMoments_4 : decode cL_lengthOfMoments 4 = .ok (.iload_n 1, 1) := by decide +kernel
theorem dL_lengthOfMoments_5 : decode cL_lengthOfMoments 5 = .ok (.iload_n 2, 1) := by decide +kernel
theorem dL_lengthOfMoments_6 : decode cL_lengthOfMoments 6 = .ok (.iload_n 3, 1) := by decide +kernel
theorem dL_lengthOfMoments_7 : decode cL_lengthOfMoments 7 = .ok (.invokevirtual 158, 3) := by decide +kernel
theorem dL_lengthOfMoments_10 : decode cL_lengthOfMoments 10 = .ok (.lastore, 1) := by decide +kernel
theorem dL_lengthOfMoments_11 : decode cL_lengthOfMoments 11 = .ok (.goto 7, 3) := by decide +kernel
theorem dL_lengthOfMoments_14 : decode cL_lengthOfMoments 14 = .ok (.astore 5, 2) := by decide +kernel
theorem dL_lengthOfMoments_16 : decode cL_lengthOfMoments 16 = .ok (.iconst 1, 1) := by decide +kernel
theorem dL_lengthOfMoments_17 : decode cL_lengthOfMoments 17 = .ok (.ireturn, 1) := by decide +kernel
theorem dL_lengthOfMoments_18 : decode cL_lengthOfMoments 18 = .ok (.iconst 0, 1) := by decide +kernel
theorem dL_lengthOfMoments_19 : decode cL_lengthOfMoments 19 = .ok (.ireturn, 1) := by decide +kernel
set_option maxRecDepth 20000 in
theorem ggL_whole_X2_whole : GoodIn wsL_whole wsX2_whole := goodIn_ca (goodIn_ca (goodIn_ca (goodIn_r _ [7, 8, 9, 10, 11, 12, 13, 14, 15, 6, 16, 17, 18, 19, 20, 21, 22, 23, 24, 25, 26, 27, 28, 29, 30, 31, 32, 33, 34, 35, 36, 37, 38] (by decide +kernel) (by decide +kernel)) (goodIn_sub (fun _ h => List.mem_cons_of_mem _ (List.mem_append_left _ (List.mem_append_left _ (List.mem_append_right _ h)))) (by decide +kernel))) (goodIn_sub (fun _ h => List.mem_cons_of_mem _ (List.mem_append_left _ (List.mem_append_right _ h))) (by decide +kernel))) (goodIn_sub (fun _ h => List.mem_cons_of_mem _ (List.mem_append_right _ h)) (by decide +kernel))
set_option maxRecDepth 20000 in
theorem gL_whole_X2_whole : GoodIn wsL_whole (wsV RL 161 RX2 yX2_whole wsX2_whole) := goodIn_app (goodIn_of _ (by decide +kernel)) ggL_whole_X2_whole
theorem dL_whole_0 : decode cL_whole 0 = .ok (.aload 4, 2) := by decide +kernel
theorem dL_whole_2 : decode cL_whole 2 = .ok (.iconst 0, 1) := by decide +kernel
theorem dL_whole_3 : decode cL_whole 3 = .ok (.aload_n 0, 1) := by decide +kernel
theorem dL_whole_4 : decode cL_whole 4 = .ok (.iload_n 1, 1) := by decide +kernel
theorem dL_whole_5 : decode cL_whole 5 = .ok (.iload_n 2, 1) := by decide +kernel
theorem dL_whole_6 : decode cL_whole 6 = .ok (.iload_n 3, 1) := by decide +kernel
theorem dL_whole_7 : decode cL_whole 7 = .ok (.invokevirtual 161, 3) := by decide +kernel
theorem dL_whole_10 : decode cL_whole 10 = .ok (.lastore, 1) := by decide +kernel
theorem dL_whole_11 : decode cL_whole 11 = .ok (.goto 11, 3) := by decide +kernel
theorem dL_whole_14 : decode cL_whole 14 = .ok (.astore 5, 2) := by decide +kernel
theorem dL_whole_16 : decode cL_whole 16 = .ok (.iconst 1, 1) := by decide +kernel
theorem dL_whole_17 : decode cL_whole 17 = .ok (.ireturn, 1) := by decide +kernel
theorem dL_whole_18 : decode cL_whole 18 = .ok (.astore 5, 2) := by decide +kernel
theorem dL_whole_20 : decode cL_whole 20 = .ok (.iconst 2, 1) := by decide +kernel
theorem dL_whole_21 : decode cL_whole 21 = .ok (.ireturn, 1) := by decide +kernel
theorem dL_whole_22 : decode cL_whole 22 = .ok (.iconst 0, 1) := by decide +kernel
theorem dL_whole_23 : decode cL_whole 23 = .ok (.ireturn, 1) := by decide +kernel
set_option maxRecDepth 20000 in
theorem ggL_orderMoments_X2_orderMoments : GoodIn wsL_orderMoments wsX2_orderMoments := goodIn_ca (goodIn_ca (goodIn_r _ [6, 7, 8, 9, 10, 5, 11, 12, 13, 14, 15, 16, 17, 18, 19, 20, 21, 22, 23, 24, 25, 26] (by decide +kernel) (by decide +kernel)) (goodIn_sub (fun _ h => List.mem_cons_of_mem _ (List.mem_append_left _ (List.mem_append_right _ h))) (by decide +kernel))) (goodIn_sub (fun _ h => List.mem_cons_of_mem _ (List.mem_append_right _ h)) (by decide +kernel))
set_option maxRecDepth 20000 in
theorem gL_orderMoments_X2_orderMoments : GoodIn wsL_orderMoments (wsV RL 164 RX2 yX2_orderMoments wsX2_orderMoments) := goodIn_app (goodIn_of _ (by decide +kernel)) ggL_orderMoments_X2_orderMoments
theorem dL_orderMoments_0 : decode cL_orderMoments 0 = .ok (.aload_n 3, 1) := by decide +kernel
theorem dL_orderMoments_1 : decode cL_orderMoments 1 = .ok (.iconst 0, 1) := by decide +kernel
theorem dL_orderMoments_2 : decode cL_orderMoments 2 = .ok (.aload_n 0, 1) := by decide +kernel
theorem dL_orderMoments_3 : decode cL_orderMoments 3 = .ok (.iload_n 1, 1) := by decide +kernel
theorem dL_orderMoments_4 : decode cL_orderMoments 4 = .ok (.iload_n 2, 1) := by decide +kernel
theorem dL_orderMoments_5 : decode cL_orderMoments 5 = .ok (.invokevirtual 164, 3) := by decide +kernel
theorem dL_orderMoments_8 : decode cL_orderMoments 8 = .ok (.i2l, 1) := by decide +kernel
theorem dL_orderMoments_9 : decode cL_orderMoments 9 = .ok (.lastore, 1) := by decide +kernel
theorem dL_orderMoments_10 : decode cL_orderMoments 10 = .ok (.goto 7, 3) := by decide +kernel
theorem dL_orderMoments_13 : decode cL_orderMoments 13 = .ok (.astore 4, 2) := by decide +kernel
theorem dL_orderMoments_15 : decode cL_orderMoments 15 = .ok (.iconst 1, 1) := by decide +kernel
theorem dL_orderMoments_16 : decode cL_orderMoments 16 = .ok (.ireturn, 1) := by decide +kernel
theorem dL_orderMoments_17 : decode cL_orderMoments 17 = .ok (.iconst 0, 1) := by decide +kernel
theorem dL_orderMoments_18 : decode cL_orderMoments 18 = .ok (.ireturn, 1) := by decide +kernel
set_option maxRecDepth 20000 in
theorem ggL_law_X2_init : GoodIn wsL_law wsX2_init := goodIn_ca (goodIn_r _ [10, 11, 12, 13, 6, 14, 15, 16, 17, 18, 19, 20, 21, 22, 23, 24, 953, 954, 955, 956, 957, 958, 959, 960, 961, 962] (by decide +kernel) (by decide +kernel)) (goodIn_sub (fun _ h => List.mem_append_left _ (List.mem_append_left _ (List.mem_append_left _ (List.mem_append_right _ h)))) (by decide +kernel))
set_option maxRecDepth 20000 in
theorem gL_law_X2_init : GoodIn wsL_law (wsX2_init) := ggL_law_X2_init
set_option maxRecDepth 20000 in
theorem ggL_law_X3_init : GoodIn wsL_law wsX3_init := goodIn_ca (goodIn_r _ [27, 28, 12, 13, 6, 29, 30, 31, 32, 33, 34, 35, 36, 37, 38, 39, 963, 964, 965, 966, 967, 968, 969, 970, 971, 972, 973, 974, 975, 976] (by decide +kernel) (by decide +kernel)) (goodIn_sub (fun _ h => List.mem_append_left _ (List.mem_append_left _ (List.mem_append_left _ (List.mem_append_right _ h)))) (by decide +kernel))
set_option maxRecDepth 20000 in
theorem gL_law_X3_init : GoodIn wsL_law (wsX3_init) := ggL_law_X3_init
set_option maxRecDepth 20000 in
theorem ggL_law_L_date : GoodIn wsL_law wsL_date := goodIn_ca (goodIn_ca (goodIn_ca (goodIn_ca (goodIn_r _ [43, 44, 45, 46, 47, 48, 2, 49, 50, 51, 52, 53, 54, 55, 56, 57, 58, 59, 60, 61, 62, 63, 64, 65, 66, 67, 68, 69, 70, 71, 72, 73, 74, 75, 76, 77, 78, 79, 80, 81, 82, 83, 84, 85, 86, 87, 88, 89, 90, 91, 92, 93, 94, 95, 96, 97, 98, 99, 100, 101, 102, 103, 104, 105, 106, 107, 108, 109, 110, 111, 14, 112, 113, 114, 115, 116, 117, 118, 119, 120, 121, 953, 954, 955, 956, 957, 958, 959, 960, 961, 962] (by decide +kernel) (by decide +kernel)) (goodIn_sub (fun _ h => List.mem_append_left _ (List.mem_append_left _ (List.mem_append_left _ (List.mem_append_right _ h)))) (by decide +kernel))) (goodIn_sub (fun _ h => List.mem_append_left _ (List.mem_append_left _ (List.mem_append_right _ h))) (by decide +kernel))) (goodIn_sub (fun _ h => List.mem_append_left _ (List.mem_append_right _ h)) (by decide +kernel))) (goodIn_sub (fun _ h => List.mem_append_right _ h) (by decide +kernel))
set_option maxRecDepth 20000 in
theorem gL_law_L_date : GoodIn wsL_law (va_wsS RL 171 yL_date wsL_date) := goodIn_app (goodIn_of _ (by decide +kernel)) ggL_law_L_date
set_option maxRecDepth 20000 in
theorem ggL_law_X3_date : GoodIn wsL_law wsX3_date := goodIn_ca (goodIn_r _ [125, 126, 29, 127, 128, 5, 129, 130, 131, 132, 133, 134, 135, 136, 137, 138, 139, 140, 141, 142, 143, 144, 145, 146, 147, 148, 149, 150, 151, 152, 153, 154, 155, 156, 157, 158, 159, 160, 161, 162, 163, 164, 165, 166, 167, 168, 169, 170, 171, 172, 963, 964, 965, 966, 967, 968, 969, 970, 971, 972, 973, 974, 975, 976] (by decide +kernel) (by decide +kernel)) (goodIn_sub (fun _ h => List.mem_append_left _ (List.mem_append_left _ (List.mem_append_left _ (List.mem_append_right _ h)))) (by decide +kernel))
set_option maxRecDepth 20000 in
theorem gL_law_X3_date : GoodIn wsL_law (wsV RL 176 RX3 yX3_date wsX3_date) := goodIn_app (goodIn_of _ (by decide +kernel)) ggL_law_X3_date
set_option maxRecDepth 20000 in
theorem ggL_law_X3_thrown : GoodIn wsL_law wsX3_thrown := goodIn_r _ [176, 158, 963, 964, 965, 966, 967, 968, 969, 970, 971, 972, 973, 974, 975, 976] (by decide +kernel) (by decide +kernel)
set_option maxRecDepth 20000 in
theorem gL_law_X3_thrown : GoodIn wsL_law (wsV RL 177 RX3 yX3_thrown wsX3_thrown) := goodIn_app (goodIn_of _ (by decide +kernel)) ggL_law_X3_thrown
set_option maxRecDepth 20000 in
theorem ggL_law_L_ofDay : GoodIn wsL_law wsL_ofDay := goodIn_ca (goodIn_ca (goodIn_ca (goodIn_r _ [179, 44, 180, 181, 182, 183, 2, 184, 51, 52, 53, 54, 55, 108, 109, 110, 111, 14, 112, 113, 71, 114, 115, 116, 117, 118, 119, 120, 121, 185, 186, 187, 95, 107, 188, 87, 88, 82, 89, 100, 101, 102, 103, 93, 104, 94, 105, 106, 953, 954, 955, 956, 957, 958, 959, 960, 961, 962] (by decide +kernel) (by decide +kernel)) (goodIn_sub (fun _ h => List.mem_append_left _ (List.mem_append_left _ (List.mem_append_left _ (List.mem_append_right _ h)))) (by decide +kernel))) (goodIn_sub (fun _ h => List.mem_append_left _ (List.mem_append_left _ (List.mem_append_right _ h))) (by decide +kernel))) (goodIn_sub (fun _ h => List.mem_append_right _ h) (by decide +kernel))
set_option maxRecDepth 20000 in
theorem gL_law_L_ofDay : GoodIn wsL_law (va_wsS RL 183 yL_ofDay wsL_ofDay) := goodIn_app (goodIn_of _ (by decide +kernel)) ggL_law_L_ofDay
set_option maxRecDepth 20000 in
theorem ggL_law_X3_ofDay : GoodIn wsL_law wsX3_ofDay := goodIn_ca (goodIn_r _ [192, 137, 193, 29, 194, 127, 128, 5, 129, 130, 131, 132, 133, 162, 163, 164, 165, 166, 167, 168, 169, 170, 145, 171, 146, 172, 147, 151, 152, 153, 154, 155, 156, 157, 158, 195, 196, 197, 198, 199, 200, 201, 139, 140, 141, 142, 143, 144, 148, 149, 150, 963, 964, 965, 966, 967, 968, 969, 970, 971, 972, 973, 974, 975, 976] (by decide +kernel) (by decide +kernel)) (goodIn_sub (fun _ h => List.mem_append_left _ (List.mem_append_left _ (List.mem_append_left _ (List.mem_append_right _ h)))) (by decide +kernel))
set_option maxRecDepth 20000 in
theorem gL_law_X3_ofDay : GoodIn wsL_law (wsV RL 186 RX3 yX3_ofDay wsX3_ofDay) := goodIn_app (goodIn_of _ (by decide +kernel)) ggL_law_X3_ofDay
set_option maxRecDepth 20000 in
theorem ggL_law_L_day : GoodIn wsL_law wsL_day := goodIn_ca (goodIn_ca (goodIn_r _ [204, 44, 205, 206, 207, 2, 208, 14, 51, 52, 53, 54, 55, 953, 954, 955, 956, 957, 958, 959, 960, 961, 962] (by decide +kernel) (by decide +kernel)) (goodIn_sub (fun _ h => List.mem_append_left _ (List.mem_append_left _ (List.mem_append_left _ (List.mem_append_right _ h)))) (by decide +kernel))) (goodIn_sub (fun _ h => List.mem_append_left _ (List.mem_append_left _ (List.mem_append_right _ h))) (by decide +kernel))
set_option maxRecDepth 20000 in
theorem gL_law_L_day : GoodIn wsL_law (va_wsS RL 187 yL_day wsL_day) := goodIn_app (goodIn_of _ (by decide +kernel)) ggL_law_L_day
set_option maxRecDepth 20000 in
theorem ggL_law_X3_day : GoodIn wsL_law wsX3_day := goodIn_ca (goodIn_r _ [212, 29, 127, 128, 5, 129, 130, 131, 132, 133, 154, 155, 156, 157, 158, 963, 964, 965, 966, 967, 968, 969, 970, 971, 972, 973, 974, 975, 976] (by decide +kernel) (by decide +kernel)) (goodIn_sub (fun _ h => List.mem_append_left _ (List.mem_append_left _ (List.mem_append_left _ (List.mem_append_right _ h)))) (by decide +kernel))
set_option maxRecDepth 20000 in
theorem gL_law_X3_day : GoodIn wsL_law (wsV RL 190 RX3 yX3_day wsX3_day) := goodIn_app (goodIn_of _ (by decide +kernel)) ggL_law_X3_day
set_option maxRecDepth 20000 in
theorem ggL_law_L_part : GoodIn wsL_law wsL_part := goodIn_ca (goodIn_ca (goodIn_ca (goodIn_r _ [215, 44, 45, 216, 217, 218, 2, 219, 67, 68, 14, 51, 52, 53, 54, 55, 185, 186, 71, 187, 95, 107, 188, 87, 88, 82, 89, 100, 101, 102, 103, 93, 104, 94, 105, 106, 220, 221, 222, 73, 223, 224, 225, 90, 91, 92, 226, 70, 72, 227, 78, 79, 80, 81, 83, 228, 229, 230, 231, 232, 97, 98, 99, 84, 85, 86, 77, 233, 234, 235, 236, 237, 74, 75, 76, 238, 239, 240, 241, 953, 954, 955, 956, 957, 958, 959, 960, 961, 962] (by decide +kernel) (by decide +kernel)) (goodIn_sub (fun _ h => List.mem_append_left _ (List.mem_append_left _ (List.mem_append_left _ (List.mem_append_right _ h)))) (by decide +kernel))) (goodIn_sub (fun _ h => List.mem_append_left _ (List.mem_append_right _ h)) (by decide +kernel))) (goodIn_sub (fun _ h => List.mem_append_left _ (List.mem_append_left _ (List.mem_append_right _ h))) (by decide +kernel))
set_option maxRecDepth 20000 in
theorem gL_law_L_part : GoodIn wsL_law (va_wsS RL 191 yL_part wsL_part) := goodIn_app (goodIn_of _ (by decide +kernel)) ggL_law_L_part
set_option maxRecDepth 20000 in
theorem ggL_law_X3_part : GoodIn wsL_law wsX3_part := goodIn_ca (goodIn_r _ [245, 29, 194, 200, 201, 127, 128, 5, 129, 130, 131, 132, 133, 154, 155, 156, 157, 158, 195, 196, 197, 198, 165, 147, 199, 151, 152, 153, 162, 163, 164, 166, 167, 168, 169, 170, 145, 171, 146, 172, 139, 140, 141, 142, 143, 144, 148, 149, 150, 246, 247, 248, 249, 963, 964, 965, 966, 967, 968, 969, 970, 971, 972, 973, 974, 975, 976] (by decide +kernel) (by decide +kernel)) (goodIn_sub (fun _ h => List.mem_append_left _ (List.mem_append_left _ (List.mem_append_left _ (List.mem_append_right _ h)))) (by decide +kernel))
set_option maxRecDepth 20000 in
theorem gL_law_X3_part : GoodIn wsL_law (wsV RL 194 RX3 yX3_part wsX3_part) := goodIn_app (goodIn_of _ (by decide +kernel)) ggL_law_X3_part
set_option maxRecDepth 20000 in
theorem ggL_law_L_move : GoodIn wsL_law wsL_move := goodIn_ca (goodIn_ca (goodIn_ca (goodIn_ca (goodIn_r _ [252, 44, 45, 180, 253, 254, 255, 2, 256, 257, 258, 14, 51, 52, 53, 54, 55, 259, 260, 71, 261, 64, 65, 66, 67, 68, 61, 62, 63, 262, 263, 264, 237, 73, 265, 266, 267, 231, 221, 222, 223, 224, 225, 186, 187, 95, 107, 188, 87, 88, 82, 89, 100, 101, 102, 103, 93, 104, 94, 105, 106, 90, 91, 92, 226, 70, 72, 232, 97, 98, 99, 84, 85, 86, 77, 78, 79, 80, 81, 83, 268, 269, 270, 271, 272, 273, 274, 275, 75, 76, 108, 109, 110, 111, 112, 113, 114, 115, 116, 117, 118, 119, 120, 121, 953, 954, 955, 956, 957, 958, 959, 960, 961, 962] (by decide +kernel) (by decide +kernel)) (goodIn_sub (fun _ h => List.mem_append_left _ (List.mem_append_left _ (List.mem_append_left _ (List.mem_append_right _ h)))) (by decide +kernel))) (goodIn_sub (fun _ h => List.mem_append_left _ (List.mem_append_left _ (List.mem_append_right _ h))) (by decide +kernel))) (goodIn_sub (fun _ h => List.mem_append_left _ (List.mem_append_right _ h)) (by decide +kernel))) (goodIn_sub (fun _ h => List.mem_append_right _ h) (by decide +kernel))
set_option maxRecDepth 20000 in
theorem gL_law_L_move : GoodIn wsL_law (va_wsS RL 195 yL_move wsL_move) := goodIn_app (goodIn_of _ (by decide +kernel)) ggL_law_L_move
set_option maxRecDepth 20000 in
theorem ggL_law_X3_move : GoodIn wsL_law wsX3_move := goodIn_ca (goodIn_r _ [279, 280, 281, 29, 127, 128, 5, 129, 130, 131, 132, 133, 282, 283, 284, 154, 155, 156, 157, 158, 285, 286, 287, 288, 249, 126, 289, 290, 291, 292, 194, 200, 201, 195, 196, 197, 198, 165, 147, 199, 151, 152, 153, 162, 163, 164, 166, 167, 168, 169, 170, 145, 171, 146, 172, 139, 140, 141, 142, 143, 144, 148, 149, 150, 159, 160, 161, 293, 294, 295, 296, 297, 298, 299, 300, 134, 135, 136, 137, 138, 963, 964, 965, 966, 967, 968, 969, 970, 971, 972, 973, 974, 975, 976] (by decide +kernel) (by decide +kernel)) (goodIn_sub (fun _ h => List.mem_append_left _ (List.mem_append_left _ (List.mem_append_left _ (List.mem_append_right _ h)))) (by decide +kernel))
set_option maxRecDepth 20000 in
theorem gL_law_X3_move : GoodIn wsL_law (wsV RL 198 RX3 yX3_move wsX3_move) := goodIn_app (goodIn_of _ (by decide +kernel)) ggL_law_X3_move
set_option maxRecDepth 20000 in
theorem ggL_law_L_with : GoodIn wsL_law wsL_with := goodIn_ca (goodIn_ca (goodIn_ca (goodIn_ca (goodIn_r _ [303, 44, 45, 304, 305, 306, 2, 307, 67, 68, 14, 50, 51, 52, 53, 54, 55, 220, 221, 71, 222, 73, 223, 224, 225, 186, 187, 95, 107, 188, 87, 88, 82, 89, 100, 101, 102, 103, 93, 104, 94, 105, 106, 90, 91, 92, 226, 70, 72, 308, 85, 86, 74, 75, 76, 77, 78, 79, 80, 81, 83, 84, 61, 62, 63, 64, 65, 66, 96, 97, 98, 99, 108, 109, 110, 111, 112, 113, 114, 115, 116, 117, 118, 119, 120, 121, 238, 239, 240, 233, 227, 309, 266, 267, 231, 232, 268, 269, 270, 271, 272, 273, 274, 275, 56, 57, 58, 59, 60, 953, 954, 955, 956, 957, 958, 959, 960, 961, 962] (by decide +kernel) (by decide +kernel)) (goodIn_sub (fun _ h => List.mem_append_left _ (List.mem_append_left _ (List.mem_append_left _ (List.mem_append_right _ h)))) (by decide +kernel))) (goodIn_sub (fun _ h => List.mem_append_left _ (List.mem_append_right _ h)) (by decide +kernel))) (goodIn_sub (fun _ h => List.mem_append_left _ (List.mem_append_left _ (List.mem_append_right _ h))) (by decide +kernel))) (goodIn_sub (fun _ h => List.mem_append_right _ h) (by decide +kernel))
set_option maxRecDepth 20000 in
theorem gL_law_L_with : GoodIn wsL_law (va_wsS RL 199 yL_with wsL_with) := goodIn_app (goodIn_of _ (by decide +kernel)) ggL_law_L_with
set_option maxRecDepth 20000 in
theorem ggL_law_X3_with : GoodIn wsL_law wsX3_with := goodIn_ca (goodIn_r _ [313, 29, 194, 200, 126, 201, 127, 128, 5, 129, 130, 131, 132, 133, 154, 155, 156, 157, 158, 195, 196, 197, 198, 165, 147, 199, 151, 152, 153, 162, 163, 164, 166, 167, 168, 169, 170, 145, 171, 146, 172, 139, 140, 141, 142, 143, 144, 148, 149, 150, 134, 135, 136, 137, 138, 159, 160, 161, 293, 294, 295, 296, 297, 298, 299, 300, 963, 964, 965, 966, 967, 968, 969, 970, 971, 972, 973, 974, 975, 976] (by decide +kernel) (by decide +kernel)) (goodIn_sub (fun _ h => List.mem_append_left _ (List.mem_append_left _ (List.mem_append_left _ (List.mem_append_right _ h)))) (by decide +kernel))
set_option maxRecDepth 20000 in
theorem gL_law_X3_with : GoodIn wsL_law (wsV RL 201 RX3 yX3_with wsX3_with) := goodIn_app (goodIn_of _ (by decide +kernel)) ggL_law_X3_with
set_option maxRecDepth 20000 in
theorem ggL_law_L_adjust : GoodIn wsL_law wsL_adjust := goodIn_ca (goodIn_ca (goodIn_ca (goodIn_ca (goodIn_r _ [316, 44, 45, 180, 317, 318, 319, 2, 320, 67, 68, 14, 51, 52, 53, 54, 55, 220, 221, 71, 222, 73, 223, 224, 225, 186, 187, 95, 107, 188, 87, 88, 82, 89, 100, 101, 102, 103, 93, 104, 94, 105, 106, 90, 91, 92, 226, 70, 72, 308, 85, 86, 96, 97, 98, 99, 84, 77, 78, 79, 80, 81, 83, 108, 109, 110, 111, 112, 113, 114, 115, 116, 117, 118, 119, 120, 121, 233, 953, 954, 955, 956, 957, 958, 959, 960, 961, 962] (by decide +kernel) (by decide +kernel)) (goodIn_sub (fun _ h => List.mem_append_left _ (List.mem_append_left _ (List.mem_append_left _ (List.mem_append_right _ h)))) (by decide +kernel))) (goodIn_sub (fun _ h => List.mem_append_left _ (List.mem_append_right _ h)) (by decide +kernel))) (goodIn_sub (fun _ h => List.mem_append_left _ (List.mem_append_left _ (List.mem_append_right _ h))) (by decide +kernel))) (goodIn_sub (fun _ h => List.mem_append_right _ h) (by decide +kernel))
set_option maxRecDepth 20000 in
theorem gL_law_L_adjust : GoodIn wsL_law (va_wsS RL 202 yL_adjust wsL_adjust) := goodIn_app (goodIn_of _ (by decide +kernel)) ggL_law_L_adjust
set_option maxRecDepth 20000 in
theorem ggL_law_X3_adjust : GoodIn wsL_law wsX3_adjust := goodIn_ca (goodIn_r _ [324, 29, 194, 200, 127, 128, 5, 129, 130, 131, 132, 133, 154, 155, 156, 157, 158, 195, 196, 197, 198, 165, 147, 199, 201, 151, 152, 153, 162, 163, 164, 166, 167, 168, 169, 170, 145, 171, 146, 172, 139, 140, 141, 142, 143, 144, 148, 149, 150, 159, 160, 161, 293, 294, 295, 296, 297, 298, 299, 300, 134, 135, 136, 137, 138, 963, 964, 965, 966, 967, 968, 969, 970, 971, 972, 973, 974, 975, 976] (by decide +kernel) (by decide +kernel)) (goodIn_sub (fun _ h => List.mem_append_left _ (List.mem_append_left _ (List.mem_append_left _ (List.mem_append_right _ h)))) (by decide +kernel))
set_option maxRecDepth 20000 in
theorem gL_law_X3_adjust : GoodIn wsL_law (wsV RL 205 RX3 yX3_adjust wsX3_adjust) := goodIn_app (goodIn_of _ (by decide +kernel)) ggL_law_X3_adjust
set_option maxRecDepth 20000 in
theorem ggL_law_L_weekday : GoodIn wsL_law wsL_weekday := goodIn_ca (goodIn_ca (goodIn_ca (goodIn_ca (goodIn_r _ [327, 44, 45, 180, 328, 329, 330, 2, 331, 67, 68, 332, 14, 51, 52, 53, 54, 55, 61, 62, 63, 64, 65, 66, 220, 221, 71, 222, 73, 223, 224, 225, 186, 187, 95, 107, 188, 87, 88, 82, 89, 100, 101, 102, 103, 93, 104, 94, 105, 106, 90, 91, 92, 226, 70, 72, 333, 334, 335, 336, 235, 236, 237, 80, 81, 83, 337, 338, 339, 108, 109, 110, 111, 112, 113, 114, 115, 116, 117, 118, 119, 120, 121, 340, 341, 342, 96, 97, 98, 99, 84, 85, 86, 77, 78, 79, 953, 954, 955, 956, 957, 958, 959, 960, 961, 962] (by decide +kernel) (by decide +kernel)) (goodIn_sub (fun _ h => List.mem_append_left _ (List.mem_append_left _ (List.mem_append_left _ (List.mem_append_right _ h)))) (by decide +kernel))) (goodIn_sub (fun _ h => List.mem_append_left _ (List.mem_append_right _ h)) (by decide +kernel))) (goodIn_sub (fun _ h => List.mem_append_left _ (List.mem_append_left _ (List.mem_append_right _ h))) (by decide +kernel))) (goodIn_sub (fun _ h => List.mem_append_right _ h) (by decide +kernel))
set_option maxRecDepth 20000 in
theorem gL_law_L_weekday : GoodIn wsL_law (va_wsS RL 206 yL_weekday wsL_weekday) := goodIn_app (goodIn_of _ (by decide +kernel)) ggL_law_L_weekday
set_option maxRecDepth 20000 in
theorem ggL_law_X3_weekday : GoodIn wsL_law wsX3_weekday := goodIn_ca (goodIn_r _ [346, 249, 29, 194, 200, 127, 128, 5, 129, 130, 131, 132, 133, 154, 155, 156, 157, 158, 195, 196, 197, 198, 165, 147, 199, 201, 151, 152, 153, 162, 163, 164, 166, 167, 168, 169, 170, 145, 171, 146, 172, 139, 140, 141, 142, 143, 144, 148, 149, 150, 159, 160, 161, 347, 348, 349, 246, 247, 248, 293, 294, 295, 296, 297, 298, 299, 300, 134, 135, 136, 137, 138, 963, 964, 965, 966, 967, 968, 969, 970, 971, 972, 973, 974, 975, 976] (by decide +kernel) (by decide +kernel)) (goodIn_sub (fun _ h => List.mem_append_left _ (List.mem_append_left _ (List.mem_append_left _ (List.mem_append_right _ h)))) (by decide +kernel))
set_option maxRecDepth 20000 in
theorem gL_law_X3_weekday : GoodIn wsL_law (wsV RL 208 RX3 yX3_weekday wsX3_weekday) := goodIn_app (goodIn_of _ (by decide +kernel)) ggL_law_X3_weekday
set_option maxRecDepth 20000 in
theorem ggL_law_L_inMonth : GoodIn wsL_law wsL_inMonth := goodIn_ca (goodIn_ca (goodIn_ca (goodIn_ca (goodIn_r _ [352, 44, 45, 180, 353, 354, 355, 2, 356, 357, 358, 332, 14, 51, 52, 53, 54, 55, 61, 62, 63, 64, 65, 66, 67, 68, 220, 221, 71, 222, 73, 223, 224, 225, 186, 187, 95, 107, 188, 87, 88, 82, 89, 100, 101, 102, 103, 93, 104, 94, 105, 106, 90, 91, 92, 226, 70, 72, 96, 97, 98, 99, 84, 85, 86, 77, 78, 79, 80, 81, 83, 340, 341, 342, 336, 235, 236, 237, 337, 338, 339, 108, 109, 110, 111, 112, 113, 114, 115, 116, 117, 118, 119, 120, 121, 333, 334, 335, 953, 954, 955, 956, 957, 958, 959, 960, 961, 962] (by decide +kernel) (by decide +kernel)) (goodIn_sub (fun _ h => List.mem_append_left _ (List.mem_append_left _ (List.mem_append_left _ (List.mem_append_right _ h)))) (by decide +kernel))) (goodIn_sub (fun _ h => List.mem_append_left _ (List.mem_append_left _ (List.mem_append_right _ h))) (by decide +kernel))) (goodIn_sub (fun _ h => List.mem_append_left _ (List.mem_append_right _ h)) (by decide +kernel))) (goodIn_sub (fun _ h => List.mem_append_right _ h) (by decide +kernel))
set_option maxRecDepth 20000 in
theorem gL_law_L_inMonth : GoodIn wsL_law (va_wsS RL 209 yL_inMonth wsL_inMonth) := goodIn_app (goodIn_of _ (by decide +kernel)) ggL_law_L_inMonth
set_option maxRecDepth 20000 in
theorem ggL_law_X3_inMonth : GoodIn wsL_law wsX3_inMonth := goodIn_ca (goodIn_r _ [362, 363, 364, 249, 29, 194, 200, 127, 128, 5, 129, 130, 131, 132, 133, 154, 155, 156, 157, 158, 195, 196, 197, 198, 165, 147, 199, 201, 151, 152, 153, 162, 163, 164, 166, 167, 168, 169, 170, 145, 171, 146, 172, 139, 140, 141, 142, 143, 144, 148, 149, 150, 159, 160, 161, 347, 348, 349, 246, 247, 248, 293, 294, 295, 296, 297, 298, 299, 300, 134, 135, 136, 137, 138, 963, 964, 965, 966, 967, 968, 969, 970, 971, 972, 973, 974, 975, 976] (by decide +kernel) (by decide +kernel)) (goodIn_sub (fun _ h => List.mem_append_left _ (List.mem_append_left _ (List.mem_append_left _ (List.mem_append_right _ h)))) (by decide +kernel))
set_option maxRecDepth 20000 in
theorem gL_law_X3_inMonth : GoodIn wsL_law (wsV RL 211 RX3 yX3_inMonth wsX3_inMonth) := goodIn_app (goodIn_of _ (by decide +kernel)) ggL_law_X3_inMonth
set_option maxRecDepth 20000 in
theorem ggL_law_L_atYear : GoodIn wsL_law wsL_atYear := goodIn_ca (goodIn_ca (goodIn_ca (goodIn_ca (goodIn_r _ [367, 44, 45, 368, 369, 370, 2, 371, 50, 51, 52, 53, 54, 55, 61, 62, 63, 64, 65, 66, 67, 68, 69, 70, 71, 72, 73, 74, 75, 76, 77, 78, 79, 80, 81, 82, 83, 84, 85, 86, 87, 88, 89, 90, 91, 92, 93, 94, 95, 56, 57, 58, 59, 60, 372, 269, 270, 271, 272, 273, 274, 232, 97, 98, 99, 100, 101, 102, 103, 104, 105, 106, 107, 275, 108, 109, 110, 111, 14, 112, 113, 114, 115, 116, 117, 118, 119, 120, 121, 953, 954, 955, 956, 957, 958, 959, 960, 961, 962] (by decide +kernel) (by decide +kernel)) (goodIn_sub (fun _ h => List.mem_append_left _ (List.mem_append_left _ (List.mem_append_left _ (List.mem_append_right _ h)))) (by decide +kernel))) (goodIn_sub (fun _ h => List.mem_append_left _ (List.mem_append_left _ (List.mem_append_right _ h))) (by decide +kernel))) (goodIn_sub (fun _ h => List.mem_append_left _ (List.mem_append_right _ h)) (by decide +kernel))) (goodIn_sub (fun _ h => List.mem_append_right _ h) (by decide +kernel))
set_option maxRecDepth 20000 in
theorem gL_law_L_atYear : GoodIn wsL_law (va_wsS RL 212 yL_atYear wsL_atYear) := goodIn_app (goodIn_of _ (by decide +kernel)) ggL_law_L_atYear
set_option maxRecDepth 20000 in
theorem ggL_law_X3_atYear : GoodIn wsL_law wsX3_atYear := goodIn_ca (goodIn_r _ [376, 126, 127, 128, 5, 129, 130, 131, 132, 133, 139, 140, 141, 142, 143, 144, 145, 146, 147, 148, 149, 150, 151, 152, 153, 134, 135, 136, 137, 138, 154, 155, 156, 157, 158, 159, 160, 161, 162, 163, 164, 165, 166, 167, 168, 169, 170, 171, 172, 293, 294, 295, 296, 29, 297, 298, 299, 300, 194, 195, 196, 197, 198, 199, 200, 201, 963, 964, 965, 966, 967, 968, 969, 970, 971, 972, 973, 974, 975, 976] (by decide +kernel) (by decide +kernel)) (goodIn_sub (fun _ h => List.mem_append_left _ (List.mem_append_left _ (List.mem_append_left _ (List.mem_append_right _ h)))) (by decide +kernel))
set_option maxRecDepth 20000 in
theorem gL_law_X3_atYear : GoodIn wsL_law (wsV RL 214 RX3 yX3_atYear wsX3_atYear) := goodIn_app (goodIn_of _ (by decide +kernel)) ggL_law_X3_atYear
set_option maxRecDepth 20000 in
theorem ggL_law_L_order : GoodIn wsL_law wsL_order := goodIn_ca (goodIn_ca (goodIn_r _ [379, 44, 380, 381, 382, 2, 383, 14, 51, 52, 53, 54, 55, 384, 385, 386, 953, 954, 955, 956, 957, 958, 959, 960, 961, 962] (by decide +kernel) (by decide +kernel)) (goodIn_sub (fun _ h => List.mem_append_left _ (List.mem_append_left _ (List.mem_append_left _ (List.mem_append_right _ h)))) (by decide +kernel))) (goodIn_sub (fun _ h => List.mem_append_left _ (List.mem_append_left _ (List.mem_append_right _ h))) (by decide +kernel))
set_option maxRecDepth 20000 in
theorem gL_law_L_order : GoodIn wsL_law (va_wsS RL 215 yL_order wsL_order) := goodIn_app (goodIn_of _ (by decide +kernel)) ggL_law_L_order
set_option maxRecDepth 20000 in
theorem ggL_law_X3_order : GoodIn wsL_law wsX3_order := goodIn_ca (goodIn_r _ [390, 29, 127, 128, 5, 129, 130, 131, 132, 133, 154, 155, 156, 157, 158, 391, 392, 393, 963, 964, 965, 966, 967, 968, 969, 970, 971, 972, 973, 974, 975, 976] (by decide +kernel) (by decide +kernel)) (goodIn_sub (fun _ h => List.mem_append_left _ (List.mem_append_left _ (List.mem_append_left _ (List.mem_append_right _ h)))) (by decide +kernel))
set_option maxRecDepth 20000 in
theorem gL_law_X3_order : GoodIn wsL_law (wsV RL 218 RX3 yX3_order wsX3_order) := goodIn_app (goodIn_of _ (by decide +kernel)) ggL_law_X3_order
set_option maxRecDepth 20000 in
theorem ggL_law_L_between : GoodIn wsL_law wsL_between := goodIn_ca (goodIn_ca (goodIn_ca (goodIn_r _ [396, 44, 45, 397, 398, 399, 2, 400, 67, 68, 14, 332, 50, 51, 52, 53, 54, 55, 401, 402, 71, 403, 271, 272, 273, 274, 404, 405, 406, 231, 221, 222, 73, 223, 224, 225, 186, 187, 95, 107, 188, 87, 88, 82, 89, 100, 101, 102, 103, 93, 104, 94, 105, 106, 90, 91, 92, 226, 70, 72, 232, 97, 98, 99, 84, 85, 86, 77, 78, 79, 80, 81, 83, 953, 954, 955, 956, 957, 958, 959, 960, 961, 962] (by decide +kernel) (by decide +kernel)) (goodIn_sub (fun _ h => List.mem_append_left _ (List.mem_append_left _ (List.mem_append_left _ (List.mem_append_right _ h)))) (by decide +kernel))) (goodIn_sub (fun _ h => List.mem_append_left _ (List.mem_append_right _ h)) (by decide +kernel))) (goodIn_sub (fun _ h => List.mem_append_left _ (List.mem_append_left _ (List.mem_append_right _ h))) (by decide +kernel))
set_option maxRecDepth 20000 in
theorem gL_law_L_between : GoodIn wsL_law (va_wsS RL 219 yL_between wsL_between) := goodIn_app (goodIn_of _ (by decide +kernel)) ggL_law_L_between
set_option maxRecDepth 20000 in
theorem ggL_law_X3_between : GoodIn wsL_law wsX3_between := goodIn_ca (goodIn_r _ [410, 29, 249, 126, 127, 128, 5, 129, 130, 131, 132, 133, 282, 283, 284, 154, 155, 156, 157, 158, 411, 412, 413, 414, 194, 200, 201, 195, 196, 197, 198, 165, 147, 199, 151, 152, 153, 162, 163, 164, 166, 167, 168, 169, 170, 145, 171, 146, 172, 139, 140, 141, 142, 143, 144, 148, 149, 150, 963, 964, 965, 966, 967, 968, 969, 970, 971, 972, 973, 974, 975, 976] (by decide +kernel) (by decide +kernel)) (goodIn_sub (fun _ h => List.mem_append_left _ (List.mem_append_left _ (List.mem_append_left _ (List.mem_append_right _ h)))) (by decide +kernel))
set_option maxRecDepth 20000 in
theorem gL_law_X3_between : GoodIn wsL_law (wsV RL 222 RX3 yX3_between wsX3_between) := goodIn_app (goodIn_of _ (by decide +kernel)) ggL_law_X3_between
set_option maxRecDepth 20000 in
theorem ggL_law_L_span : GoodIn wsL_law wsL_span := goodIn_ca (goodIn_ca (goodIn_ca (goodIn_ca (goodIn_r _ [417, 44, 45, 418, 419, 420, 2, 421, 51, 52, 53, 54, 55, 422, 423, 424, 257, 258, 61, 62, 63, 64, 65, 66, 67, 68, 425, 426, 427, 428, 16, 17, 18, 117, 118, 119, 120, 121, 429, 430, 431, 432, 50, 953, 954, 955, 956, 957, 958, 959, 960, 961, 962] (by decide +kernel) (by decide +kernel)) (goodIn_sub (fun _ h => List.mem_append_left _ (List.mem_append_left _ (List.mem_append_left _ (List.mem_append_right _ h)))) (by decide +kernel))) (goodIn_sub (fun _ h => List.mem_append_left _ (List.mem_append_left _ (List.mem_append_right _ h))) (by decide +kernel))) (goodIn_sub (fun _ h => List.mem_append_left _ (List.mem_append_right _ h)) (by decide +kernel))) (goodIn_sub (fun _ h => List.mem_append_right _ h) (by decide +kernel))
set_option maxRecDepth 20000 in
theorem gL_law_L_span : GoodIn wsL_law (va_wsS RL 223 yL_span wsL_span) := goodIn_app (goodIn_of _ (by decide +kernel)) ggL_law_L_span
set_option maxRecDepth 20000 in
theorem ggL_law_X3_span : GoodIn wsL_law wsX3_span := goodIn_ca (goodIn_r _ [436, 437, 438, 5, 439, 170, 131, 132, 133, 154, 155, 156, 157, 158, 440, 441, 442, 443, 280, 281, 35, 36, 37, 444, 445, 446, 447, 126, 963, 964, 965, 966, 967, 968, 969, 970, 971, 972, 973, 974, 975, 976] (by decide +kernel) (by decide +kernel)) (goodIn_sub (fun _ h => List.mem_append_left _ (List.mem_append_left _ (List.mem_append_left _ (List.mem_append_right _ h)))) (by decide +kernel))
set_option maxRecDepth 20000 in
theorem gL_law_X3_span : GoodIn wsL_law (wsV RL 225 RX3 yX3_span wsX3_span) := goodIn_app (goodIn_of _ (by decide +kernel)) ggL_law_X3_span
set_option maxRecDepth 20000 in
theorem ggL_law_L_until : GoodIn wsL_law wsL_until := goodIn_ca (goodIn_ca (goodIn_ca (goodIn_r _ [450, 44, 180, 451, 452, 453, 2, 454, 14, 50, 51, 52, 53, 54, 55, 117, 118, 119, 120, 121, 401, 402, 71, 403, 271, 272, 273, 274, 404, 405, 406, 231, 221, 222, 73, 223, 224, 225, 186, 187, 95, 107, 188, 87, 88, 82, 89, 100, 101, 102, 103, 93, 104, 94, 105, 106, 90, 91, 92, 226, 70, 72, 232, 97, 98, 99, 84, 85, 86, 77, 78, 79, 80, 81, 83, 309, 266, 267, 268, 269, 270, 275, 75, 76, 425, 426, 427, 428, 16, 17, 18, 422, 423, 424, 257, 258, 61, 62, 63, 429, 430, 431, 432, 953, 954, 955, 956, 957, 958, 959, 960, 961, 962] (by decide +kernel) (by decide +kernel)) (goodIn_sub (fun _ h => List.mem_append_left _ (List.mem_append_left _ (List.mem_append_left _ (List.mem_append_right _ h)))) (by decide +kernel))) (goodIn_sub (fun _ h => List.mem_append_left _ (List.mem_append_left _ (List.mem_append_right _ h))) (by decide +kernel))) (goodIn_sub (fun _ h => List.mem_append_right _ h) (by decide +kernel))
set_option maxRecDepth 20000 in
theorem gL_law_L_until : GoodIn wsL_law (va_wsS RL 226 yL_until wsL_until) := goodIn_app (goodIn_of _ (by decide +kernel)) ggL_law_L_until
set_option maxRecDepth 20000 in
theorem ggL_law_X3_until : GoodIn wsL_law wsX3_until := goodIn_ca (goodIn_r _ [458, 29, 126, 127, 128, 5, 129, 130, 131, 132, 133, 437, 438, 439, 170, 154, 155, 156, 157, 158, 411, 412, 413, 414, 194, 200, 201, 195, 196, 197, 198, 165, 147, 199, 151, 152, 153, 162, 163, 164, 166, 167, 168, 169, 145, 171, 146, 172, 139, 140, 141, 142, 143, 144, 148, 149, 150, 289, 290, 291, 292, 159, 160, 161, 440, 441, 442, 443, 280, 281, 35, 36, 37, 444, 445, 446, 447, 963, 964, 965, 966, 967, 968, 969, 970, 971, 972, 973, 974, 975, 976] (by decide +kernel) (by decide +kernel)) (goodIn_sub (fun _ h => List.mem_append_left _ (List.mem_append_left _ (List.mem_append_left _ (List.mem_append_right _ h)))) (by decide +kernel))
set_option maxRecDepth 20000 in
theorem gL_law_X3_until : GoodIn wsL_law (wsV RL 229 RX3 yX3_until wsX3_until) := goodIn_app (goodIn_of _ (by decide +kernel)) ggL_law_X3_until
set_option maxRecDepth 20000 in
theorem ggL_law_L_go : GoodIn wsL_law wsL_go := goodIn_ca (goodIn_ca (goodIn_ca (goodIn_r _ [461, 44, 180, 462, 463, 464, 2, 465, 14, 18, 51, 52, 53, 54, 55, 429, 430, 431, 432, 50, 16, 17, 309, 266, 71, 267, 231, 221, 222, 73, 223, 224, 225, 186, 187, 95, 107, 188, 87, 88, 82, 89, 100, 101, 102, 103, 93, 104, 94, 105, 106, 90, 91, 92, 226, 70, 72, 232, 97, 98, 99, 84, 85, 86, 77, 78, 79, 80, 81, 83, 268, 269, 270, 271, 272, 273, 274, 275, 75, 76, 108, 109, 110, 111, 112, 113, 114, 115, 116, 117, 118, 119, 120, 121, 953, 954, 955, 956, 957, 958, 959, 960, 961, 962] (by decide +kernel) (by decide +kernel)) (goodIn_sub (fun _ h => List.mem_append_left _ (List.mem_append_left _ (List.mem_append_left _ (List.mem_append_right _ h)))) (by decide +kernel))) (goodIn_sub (fun _ h => List.mem_append_left _ (List.mem_append_left _ (List.mem_append_right _ h))) (by decide +kernel))) (goodIn_sub (fun _ h => List.mem_append_right _ h) (by decide +kernel))
set_option maxRecDepth 20000 in
theorem gL_law_L_go : GoodIn wsL_law (va_wsS RL 230 yL_go wsL_go) := goodIn_app (goodIn_of _ (by decide +kernel)) ggL_law_L_go
set_option maxRecDepth 20000 in
theorem ggL_law_X3_go : GoodIn wsL_law wsX3_go := goodIn_ca (goodIn_r _ [469, 470, 29, 37, 127, 128, 5, 129, 130, 131, 132, 133, 437, 438, 439, 170, 154, 155, 156, 157, 158, 444, 445, 446, 447, 126, 35, 36, 289, 290, 291, 292, 194, 200, 201, 195, 196, 197, 198, 165, 147, 199, 151, 152, 153, 162, 163, 164, 166, 167, 168, 169, 145, 171, 146, 172, 139, 140, 141, 142, 143, 144, 148, 149, 150, 159, 160, 161, 293, 294, 295, 296, 297, 298, 299, 300, 134, 135, 136, 137, 138, 963, 964, 965, 966, 967, 968, 969, 970, 971, 972, 973, 974, 975, 976] (by decide +kernel) (by decide +kernel)) (goodIn_sub (fun _ h => List.mem_append_left _ (List.mem_append_left _ (List.mem_append_left _ (List.mem_append_right _ h)))) (by decide +kernel))
set_option maxRecDepth 20000 in
theorem gL_law_X3_go : GoodIn wsL_law (wsV RL 233 RX3 yX3_go wsX3_go) := goodIn_app (goodIn_of _ (by decide +kernel)) ggL_law_X3_go
set_option maxRecDepth 20000 in
theorem ggL_law_L_spanPart : GoodIn wsL_law wsL_spanPart := goodIn_ca (goodIn_ca (goodIn_ca (goodIn_r _ [473, 44, 45, 474, 475, 476, 2, 477, 67, 68, 16, 17, 18, 51, 52, 53, 54, 55, 953, 954, 955, 956, 957, 958, 959, 960, 961, 962] (by decide +kernel) (by decide +kernel)) (goodIn_sub (fun _ h => List.mem_append_left _ (List.mem_append_left _ (List.mem_append_left _ (List.mem_append_right _ h)))) (by decide +kernel))) (goodIn_sub (fun _ h => List.mem_append_left _ (List.mem_append_right _ h)) (by decide +kernel))) (goodIn_sub (fun _ h => List.mem_append_left _ (List.mem_append_left _ (List.mem_append_right _ h))) (by decide +kernel))
set_option maxRecDepth 20000 in
theorem gL_law_L_spanPart : GoodIn wsL_law (va_wsS RL 234 yL_spanPart wsL_spanPart) := goodIn_app (goodIn_of _ (by decide +kernel)) ggL_law_L_spanPart
set_option maxRecDepth 20000 in
theorem ggL_law_X3_spanPart : GoodIn wsL_law wsX3_spanPart := goodIn_ca (goodIn_r _ [481, 35, 36, 37, 437, 438, 5, 439, 170, 131, 132, 133, 154, 155, 156, 157, 158, 963, 964, 965, 966, 967, 968, 969, 970, 971, 972, 973, 974, 975, 976] (by decide +kernel) (by decide +kernel)) (goodIn_sub (fun _ h => List.mem_append_left _ (List.mem_append_left _ (List.mem_append_left _ (List.mem_append_right _ h)))) (by decide +kernel))
set_option maxRecDepth 20000 in
theorem gL_law_X3_spanPart : GoodIn wsL_law (wsV RL 236 RX3 yX3_spanPart wsX3_spanPart) := goodIn_app (goodIn_of _ (by decide +kernel)) ggL_law_X3_spanPart
set_option maxRecDepth 20000 in
theorem ggL_law_L_addSpan : GoodIn wsL_law wsL_addSpan := goodIn_ca (goodIn_ca (goodIn_ca (goodIn_r _ [484, 44, 180, 485, 486, 487, 2, 488, 489, 16, 17, 18, 51, 52, 53, 54, 55, 425, 426, 427, 428, 422, 423, 424, 257, 258, 61, 62, 63, 117, 118, 119, 120, 121, 429, 430, 431, 432, 50, 953, 954, 955, 956, 957, 958, 959, 960, 961, 962] (by decide +kernel) (by decide +kernel)) (goodIn_sub (fun _ h => List.mem_append_left _ (List.mem_append_left _ (List.mem_append_left _ (List.mem_append_right _ h)))) (by decide +kernel))) (goodIn_sub (fun _ h => List.mem_append_left _ (List.mem_append_left _ (List.mem_append_right _ h))) (by decide +kernel))) (goodIn_sub (fun _ h => List.mem_append_right _ h) (by decide +kernel))
set_option maxRecDepth 20000 in
theorem gL_law_L_addSpan : GoodIn wsL_law (va_wsS RL 237 yL_addSpan wsL_addSpan) := goodIn_app (goodIn_of _ (by decide +kernel)) ggL_law_L_addSpan
set_option maxRecDepth 20000 in
theorem ggL_law_X3_addSpan : GoodIn wsL_law wsX3_addSpan := goodIn_ca (goodIn_r _ [493, 470, 35, 36, 37, 437, 438, 5, 439, 170, 131, 132, 133, 154, 155, 156, 157, 158, 440, 441, 442, 443, 280, 281, 444, 445, 446, 447, 126, 963, 964, 965, 966, 967, 968, 969, 970, 971, 972, 973, 974, 975, 976] (by decide +kernel) (by decide +kernel)) (goodIn_sub (fun _ h => List.mem_append_left _ (List.mem_append_left _ (List.mem_append_left _ (List.mem_append_right _ h)))) (by decide +kernel))
set_option maxRecDepth 20000 in
theorem gL_law_X3_addSpan : GoodIn wsL_law (wsV RL 239 RX3 yX3_addSpan wsX3_addSpan) := goodIn_app (goodIn_of _ (by decide +kernel)) ggL_law_X3_addSpan
set_option maxRecDepth 20000 in
theorem ggL_law_L_timesSpan : GoodIn wsL_law wsL_timesSpan := goodIn_ca (goodIn_ca (goodIn_ca (goodIn_ca (goodIn_r _ [496, 44, 45, 180, 497, 498, 499, 2, 500, 501, 502, 16, 17, 18, 51, 52, 53, 54, 55, 61, 62, 63, 64, 65, 66, 67, 68, 425, 426, 427, 428, 422, 423, 424, 257, 258, 117, 118, 119, 120, 121, 429, 430, 431, 432, 50, 953, 954, 955, 956, 957, 958, 959, 960, 961, 962] (by decide +kernel) (by decide +kernel)) (goodIn_sub (fun _ h => List.mem_append_left _ (List.mem_append_left _ (List.mem_append_left _ (List.mem_append_right _ h)))) (by decide +kernel))) (goodIn_sub (fun _ h => List.mem_append_left _ (List.mem_append_left _ (List.mem_append_right _ h))) (by decide +kernel))) (goodIn_sub (fun _ h => List.mem_append_left _ (List.mem_append_right _ h)) (by decide +kernel))) (goodIn_sub (fun _ h => List.mem_append_right _ h) (by decide +kernel))
set_option maxRecDepth 20000 in
theorem gL_law_L_timesSpan : GoodIn wsL_law (va_wsS RL 240 yL_timesSpan wsL_timesSpan) := goodIn_app (goodIn_of _ (by decide +kernel)) ggL_law_L_timesSpan
set_option maxRecDepth 20000 in
theorem ggL_law_X3_timesSpan : GoodIn wsL_law wsX3_timesSpan := goodIn_ca (goodIn_r _ [506, 507, 146, 35, 36, 37, 437, 438, 5, 439, 170, 131, 132, 133, 154, 155, 156, 157, 158, 440, 441, 442, 443, 280, 281, 444, 445, 446, 447, 126, 963, 964, 965, 966, 967, 968, 969, 970, 971, 972, 973, 974, 975, 976] (by decide +kernel) (by decide +kernel)) (goodIn_sub (fun _ h => List.mem_append_left _ (List.mem_append_left _ (List.mem_append_left _ (List.mem_append_right _ h)))) (by decide +kernel))
set_option maxRecDepth 20000 in
theorem gL_law_X3_timesSpan : GoodIn wsL_law (wsV RL 242 RX3 yX3_timesSpan wsX3_timesSpan) := goodIn_app (goodIn_of _ (by decide +kernel)) ggL_law_X3_timesSpan
set_option maxRecDepth 20000 in
theorem ggL_law_L_plainSpan : GoodIn wsL_law wsL_plainSpan := goodIn_ca (goodIn_ca (goodIn_ca (goodIn_r _ [510, 44, 180, 511, 512, 513, 2, 514, 50, 18, 51, 52, 53, 54, 55, 429, 430, 431, 432, 16, 17, 425, 426, 427, 428, 422, 423, 424, 257, 258, 61, 62, 63, 117, 118, 119, 120, 121, 953, 954, 955, 956, 957, 958, 959, 960, 961, 962] (by decide +kernel) (by decide +kernel)) (goodIn_sub (fun _ h => List.mem_append_left _ (List.mem_append_left _ (List.mem_append_left _ (List.mem_append_right _ h)))) (by decide +kernel))) (goodIn_sub (fun _ h => List.mem_append_left _ (List.mem_append_left _ (List.mem_append_right _ h))) (by decide +kernel))) (goodIn_sub (fun _ h => List.mem_append_right _ h) (by decide +kernel))
set_option maxRecDepth 20000 in
theorem gL_law_L_plainSpan : GoodIn wsL_law (va_wsS RL 243 yL_plainSpan wsL_plainSpan) := goodIn_app (goodIn_of _ (by decide +kernel)) ggL_law_L_plainSpan
set_option maxRecDepth 20000 in
theorem ggL_law_X3_plainSpan : GoodIn wsL_law wsX3_plainSpan := goodIn_ca (goodIn_r _ [518, 126, 37, 437, 438, 5, 439, 170, 131, 132, 133, 154, 155, 156, 157, 158, 444, 445, 446, 447, 35, 36, 440, 441, 442, 443, 280, 281, 963, 964, 965, 966, 967, 968, 969, 970, 971, 972, 973, 974, 975, 976] (by decide +kernel) (by decide +kernel)) (goodIn_sub (fun _ h => List.mem_append_left _ (List.mem_append_left _ (List.mem_append_left _ (List.mem_append_right _ h)))) (by decide +kernel))
set_option maxRecDepth 20000 in
theorem gL_law_X3_plainSpan : GoodIn wsL_law (wsV RL 245 RX3 yX3_plainSpan wsX3_plainSpan) := goodIn_app (goodIn_of _ (by decide +kernel)) ggL_law_X3_plainSpan
set_option maxRecDepth 20000 in
theorem ggL_law_L_month : GoodIn wsL_law wsL_month := goodIn_ca (goodIn_ca (goodIn_ca (goodIn_ca (goodIn_r _ [521, 44, 45, 522, 523, 524, 2, 525, 50, 51, 52, 53, 54, 55, 61, 62, 63, 64, 65, 66, 67, 68, 56, 57, 58, 59, 60, 69, 70, 71, 72, 73, 526, 527, 528, 529, 19, 308, 85, 86, 87, 88, 82, 89, 117, 118, 119, 120, 121, 74, 75, 76, 77, 78, 79, 80, 81, 83, 84, 90, 91, 92, 93, 94, 95, 953, 954, 955, 956, 957, 958, 959, 960, 961, 962] (by decide +kernel) (by decide +kernel)) (goodIn_sub (fun _ h => List.mem_append_left _ (List.mem_append_left _ (List.mem_append_left _ (List.mem_append_right _ h)))) (by decide +kernel))) (goodIn_sub (fun _ h => List.mem_append_left _ (List.mem_append_left _ (List.mem_append_right _ h))) (by decide +kernel))) (goodIn_sub (fun _ h => List.mem_append_left _ (List.mem_append_right _ h)) (by decide +kernel))) (goodIn_sub (fun _ h => List.mem_append_right _ h) (by decide +kernel))
set_option maxRecDepth 20000 in
theorem gL_law_L_month : GoodIn wsL_law (va_wsS RL 246 yL_month wsL_month) := goodIn_app (goodIn_of _ (by decide +kernel)) ggL_law_L_month
set_option maxRecDepth 20000 in
theorem ggL_law_X3_month : GoodIn wsL_law wsX3_month := goodIn_ca (goodIn_r _ [533, 126, 38, 437, 438, 5, 439, 170, 131, 132, 133, 134, 135, 136, 137, 138, 154, 155, 156, 157, 158, 534, 535, 536, 537, 151, 152, 153, 148, 149, 150, 139, 140, 141, 142, 143, 144, 145, 146, 147, 963, 964, 965, 966, 967, 968, 969, 970, 971, 972, 973, 974, 975, 976] (by decide +kernel) (by decide +kernel)) (goodIn_sub (fun _ h => List.mem_append_left _ (List.mem_append_left _ (List.mem_append_left _ (List.mem_append_right _ h)))) (by decide +kernel))
set_option maxRecDepth 20000 in
theorem gL_law_X3_month : GoodIn wsL_law (wsV RL 248 RX3 yX3_month wsX3_month) := goodIn_app (goodIn_of _ (by decide +kernel)) ggL_law_X3_month
set_option maxRecDepth 20000 in
theorem ggL_law_L_moveMonth : GoodIn wsL_law wsL_moveMonth := goodIn_ca (goodIn_ca (goodIn_ca (goodIn_ca (goodIn_r _ [540, 44, 45, 180, 541, 542, 543, 2, 544, 257, 258, 19, 50, 51, 52, 53, 54, 55, 64, 65, 66, 67, 68, 61, 62, 63, 526, 527, 528, 529, 308, 85, 71, 86, 73, 87, 88, 82, 89, 56, 57, 58, 59, 60, 117, 118, 119, 120, 121, 74, 75, 76, 77, 78, 79, 80, 81, 83, 84, 90, 91, 92, 93, 94, 95, 953, 954, 955, 956, 957, 958, 959, 960, 961, 962] (by decide +kernel) (by decide +kernel)) (goodIn_sub (fun _ h => List.mem_append_left _ (List.mem_append_left _ (List.mem_append_left _ (List.mem_append_right _ h)))) (by decide +kernel))) (goodIn_sub (fun _ h => List.mem_append_left _ (List.mem_append_left _ (List.mem_append_right _ h))) (by decide +kernel))) (goodIn_sub (fun _ h => List.mem_append_left _ (List.mem_append_right _ h)) (by decide +kernel))) (goodIn_sub (fun _ h => List.mem_append_right _ h) (by decide +kernel))
set_option maxRecDepth 20000 in
theorem gL_law_L_moveMonth : GoodIn wsL_law (va_wsS RL 249 yL_moveMonth wsL_moveMonth) := goodIn_app (goodIn_of _ (by decide +kernel)) ggL_law_L_moveMonth
set_option maxRecDepth 20000 in
theorem ggL_law_X3_moveMonth : GoodIn wsL_law wsX3_moveMonth := goodIn_ca (goodIn_r _ [548, 280, 281, 38, 126, 437, 438, 5, 439, 170, 131, 132, 133, 154, 155, 156, 157, 158, 151, 152, 153, 134, 135, 136, 137, 138, 534, 535, 536, 537, 148, 149, 150, 139, 140, 141, 142, 143, 144, 145, 146, 147, 963, 964, 965, 966, 967, 968, 969, 970, 971, 972, 973, 974, 975, 976] (by decide +kernel) (by decide +kernel)) (goodIn_sub (fun _ h => List.mem_append_left _ (List.mem_append_left _ (List.mem_append_left _ (List.mem_append_right _ h)))) (by decide +kernel))
set_option maxRecDepth 20000 in
theorem gL_law_X3_moveMonth : GoodIn wsL_law (wsV RL 251 RX3 yX3_moveMonth wsX3_moveMonth) := goodIn_app (goodIn_of _ (by decide +kernel)) ggL_law_X3_moveMonth
set_option maxRecDepth 20000 in
theorem ggL_law_L_monthPart : GoodIn wsL_law wsL_monthPart := goodIn_ca (goodIn_ca (goodIn_ca (goodIn_r _ [551, 44, 45, 552, 553, 554, 2, 555, 67, 68, 19, 51, 52, 53, 54, 55, 308, 85, 71, 86, 73, 87, 88, 82, 89, 227, 78, 79, 80, 81, 83, 74, 75, 76, 77, 84, 90, 91, 92, 93, 94, 95, 238, 239, 240, 953, 954, 955, 956, 957, 958, 959, 960, 961, 962] (by decide +kernel) (by decide +kernel)) (goodIn_sub (fun _ h => List.mem_append_left _ (List.mem_append_left _ (List.mem_append_left _ (List.mem_append_right _ h)))) (by decide +kernel))) (goodIn_sub (fun _ h => List.mem_append_left _ (List.mem_append_right _ h)) (by decide +kernel))) (goodIn_sub (fun _ h => List.mem_append_left _ (List.mem_append_left _ (List.mem_append_right _ h))) (by decide +kernel))
set_option maxRecDepth 20000 in
theorem gL_law_L_monthPart : GoodIn wsL_law (va_wsS RL 252 yL_monthPart wsL_monthPart) := goodIn_app (goodIn_of _ (by decide +kernel)) ggL_law_L_monthPart
set_option maxRecDepth 20000 in
theorem ggL_law_X3_monthPart : GoodIn wsL_law wsX3_monthPart := goodIn_ca (goodIn_r _ [559, 38, 126, 437, 438, 5, 439, 170, 131, 132, 133, 154, 155, 156, 157, 158, 151, 152, 153, 148, 149, 150, 534, 535, 536, 537, 139, 140, 141, 142, 143, 144, 145, 146, 147, 963, 964, 965, 966, 967, 968, 969, 970, 971, 972, 973, 974, 975, 976] (by decide +kernel) (by decide +kernel)) (goodIn_sub (fun _ h => List.mem_append_left _ (List.mem_append_left _ (List.mem_append_left _ (List.mem_append_right _ h)))) (by decide +kernel))
set_option maxRecDepth 20000 in
theorem gL_law_X3_monthPart : GoodIn wsL_law (wsV RL 254 RX3 yX3_monthPart wsX3_monthPart) := goodIn_app (goodIn_of _ (by decide +kernel)) ggL_law_X3_monthPart
set_option maxRecDepth 20000 in
theorem ggL_law_L_atDay : GoodIn wsL_law wsL_atDay := goodIn_ca (goodIn_ca (goodIn_ca (goodIn_ca (goodIn_r _ [562, 44, 45, 563, 564, 565, 2, 566, 19, 51, 52, 53, 54, 55, 74, 75, 71, 76, 77, 78, 79, 73, 80, 81, 82, 83, 84, 85, 86, 87, 88, 89, 90, 91, 92, 93, 94, 95, 61, 62, 63, 64, 65, 66, 67, 68, 96, 97, 98, 99, 100, 101, 102, 103, 104, 105, 106, 107, 108, 109, 110, 111, 14, 112, 113, 114, 115, 116, 117, 118, 119, 120, 121, 953, 954, 955, 956, 957, 958, 959, 960, 961, 962] (by decide +kernel) (by decide +kernel)) (goodIn_sub (fun _ h => List.mem_append_left _ (List.mem_append_left _ (List.mem_append_left _ (List.mem_append_right _ h)))) (by decide +kernel))) (goodIn_sub (fun _ h => List.mem_append_left _ (List.mem_append_left _ (List.mem_append_right _ h))) (by decide +kernel))) (goodIn_sub (fun _ h => List.mem_append_left _ (List.mem_append_right _ h)) (by decide +kernel))) (goodIn_sub (fun _ h => List.mem_append_right _ h) (by decide +kernel))
set_option maxRecDepth 20000 in
theorem gL_law_L_atDay : GoodIn wsL_law (va_wsS RL 255 yL_atDay wsL_atDay) := goodIn_app (goodIn_of _ (by decide +kernel)) ggL_law_L_atDay
set_option maxRecDepth 20000 in
theorem ggL_law_X3_atDay : GoodIn wsL_law wsX3_atDay := goodIn_ca (goodIn_r _ [570, 29, 38, 126, 437, 438, 5, 439, 170, 131, 132, 133, 127, 128, 129, 130, 534, 535, 536, 537, 151, 152, 153, 148, 149, 150, 139, 140, 141, 142, 143, 144, 145, 146, 147, 154, 155, 156, 157, 158, 159, 160, 161, 162, 163, 164, 165, 166, 167, 168, 169, 171, 172, 963, 964, 965, 966, 967, 968, 969, 970, 971, 972, 973, 974, 975, 976] (by decide +kernel) (by decide +kernel)) (goodIn_sub (fun _ h => List.mem_append_left _ (List.mem_append_left _ (List.mem_append_left _ (List.mem_append_right _ h)))) (by decide +kernel))
set_option maxRecDepth 20000 in
theorem gL_law_X3_atDay : GoodIn wsL_law (wsV RL 257 RX3 yX3_atDay wsX3_atDay) := goodIn_app (goodIn_of _ (by decide +kernel)) ggL_law_X3_atDay
set_option maxRecDepth 20000 in
theorem ggL_law_L_orderMonths : GoodIn wsL_law wsL_orderMonths := goodIn_ca (goodIn_ca (goodIn_r _ [573, 44, 574, 575, 576, 2, 577, 19, 51, 52, 53, 54, 55, 384, 385, 386, 953, 954, 955, 956, 957, 958, 959, 960, 961, 962] (by decide +kernel) (by decide +kernel)) (goodIn_sub (fun _ h => List.mem_append_left _ (List.mem_append_left _ (List.mem_append_left _ (List.mem_append_right _ h)))) (by decide +kernel))) (goodIn_sub (fun _ h => List.mem_append_left _ (List.mem_append_left _ (List.mem_append_right _ h))) (by decide +kernel))
set_option maxRecDepth 20000 in
theorem gL_law_L_orderMonths : GoodIn wsL_law (va_wsS RL 258 yL_orderMonths wsL_orderMonths) := goodIn_app (goodIn_of _ (by decide +kernel)) ggL_law_L_orderMonths
set_option maxRecDepth 20000 in
theorem ggL_law_X3_orderMonths : GoodIn wsL_law wsX3_orderMonths := goodIn_ca (goodIn_r _ [581, 38, 437, 438, 5, 439, 170, 131, 132, 133, 154, 155, 156, 157, 158, 391, 392, 393, 963, 964, 965, 966, 967, 968, 969, 970, 971, 972, 973, 974, 975, 976] (by decide +kernel) (by decide +kernel)) (goodIn_sub (fun _ h => List.mem_append_left _ (List.mem_append_left _ (List.mem_append_left _ (List.mem_append_right _ h)))) (by decide +kernel))
set_option maxRecDepth 20000 in
theorem gL_law_X3_orderMonths : GoodIn wsL_law (wsV RL 260 RX3 yX3_orderMonths wsX3_orderMonths) := goodIn_app (goodIn_of _ (by decide +kernel)) ggL_law_X3_orderMonths
set_option maxRecDepth 20000 in
theorem ggL_law_L_time : GoodIn wsL_law wsL_time := goodIn_ca (goodIn_ca (goodIn_ca (goodIn_r _ [584, 44, 45, 585, 586, 587, 2, 588, 589, 590, 591, 20, 592, 593, 594, 51, 52, 53, 54, 55, 61, 62, 63, 64, 65, 66, 67, 68, 953, 954, 955, 956, 957, 958, 959, 960, 961, 962] (by decide +kernel) (by decide +kernel)) (goodIn_sub (fun _ h => List.mem_append_left _ (List.mem_append_left _ (List.mem_append_left _ (List.mem_append_right _ h)))) (by decide +kernel))) (goodIn_sub (fun _ h => List.mem_append_left _ (List.mem_append_left _ (List.mem_append_right _ h))) (by decide +kernel))) (goodIn_sub (fun _ h => List.mem_append_left _ (List.mem_append_right _ h)) (by decide +kernel))
set_option maxRecDepth 20000 in
theorem gL_law_L_time : GoodIn wsL_law (va_wsS RL 261 yL_time wsL_time) := goodIn_app (goodIn_of _ (by decide +kernel)) ggL_law_L_time
set_option maxRecDepth 20000 in
theorem ggL_law_X3_time : GoodIn wsL_law wsX3_time := goodIn_ca (goodIn_r _ [598, 599, 600, 601, 30, 602, 603, 604, 437, 438, 5, 439, 170, 131, 132, 133, 154, 155, 156, 157, 158, 963, 964, 965, 966, 967, 968, 969, 970, 971, 972, 973, 974, 975, 976] (by decide +kernel) (by decide +kernel)) (goodIn_sub (fun _ h => List.mem_append_left _ (List.mem_append_left _ (List.mem_append_left _ (List.mem_append_right _ h)))) (by decide +kernel))
set_option maxRecDepth 20000 in
theorem gL_law_X3_time : GoodIn wsL_law (wsV RL 264 RX3 yX3_time wsX3_time) := goodIn_app (goodIn_of _ (by decide +kernel)) ggL_law_X3_time
set_option maxRecDepth 20000 in
theorem ggL_law_L_ofBillionths : GoodIn wsL_law wsL_ofBillionths := goodIn_ca (goodIn_ca (goodIn_ca (goodIn_r _ [607, 44, 45, 608, 609, 610, 2, 611, 612, 20, 592, 51, 52, 53, 54, 55, 61, 62, 63, 64, 65, 66, 67, 68, 953, 954, 955, 956, 957, 958, 959, 960, 961, 962] (by decide +kernel) (by decide +kernel)) (goodIn_sub (fun _ h => List.mem_append_left _ (List.mem_append_left _ (List.mem_append_left _ (List.mem_append_right _ h)))) (by decide +kernel))) (goodIn_sub (fun _ h => List.mem_append_left _ (List.mem_append_left _ (List.mem_append_right _ h))) (by decide +kernel))) (goodIn_sub (fun _ h => List.mem_append_left _ (List.mem_append_right _ h)) (by decide +kernel))
set_option maxRecDepth 20000 in
theorem gL_law_L_ofBillionths : GoodIn wsL_law (va_wsS RL 265 yL_ofBillionths wsL_ofBillionths) := goodIn_app (goodIn_of _ (by decide +kernel)) ggL_law_L_ofBillionths
set_option maxRecDepth 20000 in
theorem ggL_law_X3_ofBillionths : GoodIn wsL_law wsX3_ofBillionths := goodIn_ca (goodIn_r _ [616, 617, 30, 618, 437, 438, 5, 439, 170, 131, 132, 133, 154, 155, 156, 157, 158, 963, 964, 965, 966, 967, 968, 969, 970, 971, 972, 973, 974, 975, 976] (by decide +kernel) (by decide +kernel)) (goodIn_sub (fun _ h => List.mem_append_left _ (List.mem_append_left _ (List.mem_append_left _ (List.mem_append_right _ h)))) (by decide +kernel))
set_option maxRecDepth 20000 in
theorem gL_law_X3_ofBillionths : GoodIn wsL_law (wsV RL 267 RX3 yX3_ofBillionths wsX3_ofBillionths) := goodIn_app (goodIn_of _ (by decide +kernel)) ggL_law_X3_ofBillionths
set_option maxRecDepth 20000 in
theorem ggL_law_L_timePart : GoodIn wsL_law wsL_timePart := goodIn_ca (goodIn_ca (goodIn_ca (goodIn_r _ [621, 44, 45, 622, 623, 624, 2, 625, 67, 68, 20, 592, 593, 626, 594, 51, 52, 53, 54, 55, 953, 954, 955, 956, 957, 958, 959, 960, 961, 962] (by decide +kernel) (by decide +kernel)) (goodIn_sub (fun _ h => List.mem_append_left _ (List.mem_append_left _ (List.mem_append_left _ (List.mem_append_right _ h)))) (by decide +kernel))) (goodIn_sub (fun _ h => List.mem_append_left _ (List.mem_append_right _ h)) (by decide +kernel))) (goodIn_sub (fun _ h => List.mem_append_left _ (List.mem_append_left _ (List.mem_append_right _ h))) (by decide +kernel))
set_option maxRecDepth 20000 in
theorem gL_law_L_timePart : GoodIn wsL_law (va_wsS RL 268 yL_timePart wsL_timePart) := goodIn_app (goodIn_of _ (by decide +kernel)) ggL_law_L_timePart
set_option maxRecDepth 20000 in
theorem ggL_law_X3_timePart : GoodIn wsL_law wsX3_timePart := goodIn_ca (goodIn_r _ [630, 30, 604, 602, 603, 437, 438, 5, 439, 170, 131, 132, 133, 154, 155, 156, 157, 158, 963, 964, 965, 966, 967, 968, 969, 970, 971, 972, 973, 974, 975, 976] (by decide +kernel) (by decide +kernel)) (goodIn_sub (fun _ h => List.mem_append_left _ (List.mem_append_left _ (List.mem_append_left _ (List.mem_append_right _ h)))) (by decide +kernel))
set_option maxRecDepth 20000 in
theorem gL_law_X3_timePart : GoodIn wsL_law (wsV RL 270 RX3 yX3_timePart wsX3_timePart) := goodIn_app (goodIn_of _ (by decide +kernel)) ggL_law_X3_timePart
set_option maxRecDepth 20000 in
theorem ggL_law_L_moveTime : GoodIn wsL_law wsL_moveTime := goodIn_ca (goodIn_ca (goodIn_ca (goodIn_r _ [633, 44, 45, 634, 635, 636, 2, 637, 638, 639, 20, 51, 52, 53, 54, 55, 64, 65, 66, 67, 68, 640, 641, 642, 643, 644, 645, 646, 647, 61, 62, 63, 648, 649, 650, 651, 81, 82, 83, 652, 653, 654, 953, 954, 955, 956, 957, 958, 959, 960, 961, 962] (by decide +kernel) (by decide +kernel)) (goodIn_sub (fun _ h => List.mem_append_left _ (List.mem_append_left _ (List.mem_append_left _ (List.mem_append_right _ h)))) (by decide +kernel))) (goodIn_sub (fun _ h => List.mem_append_left _ (List.mem_append_left _ (List.mem_append_right _ h))) (by decide +kernel))) (goodIn_sub (fun _ h => List.mem_append_left _ (List.mem_append_right _ h)) (by decide +kernel))
set_option maxRecDepth 20000 in
theorem gL_law_L_moveTime : GoodIn wsL_law (va_wsS RL 271 yL_moveTime wsL_moveTime) := goodIn_app (goodIn_of _ (by decide +kernel)) ggL_law_L_moveTime
set_option maxRecDepth 20000 in
theorem ggL_law_X3_moveTime : GoodIn wsL_law wsX3_moveTime := goodIn_ca (goodIn_r _ [658, 659, 660, 30, 618, 661, 604, 662, 437, 438, 5, 439, 170, 131, 132, 133, 154, 155, 156, 157, 158, 663, 664, 665, 148, 149, 150, 151, 152, 153, 963, 964, 965, 966, 967, 968, 969, 970, 971, 972, 973, 974, 975, 976] (by decide +kernel) (by decide +kernel)) (goodIn_sub (fun _ h => List.mem_append_left _ (List.mem_append_left _ (List.mem_append_left _ (List.mem_append_right _ h)))) (by decide +kernel))
set_option maxRecDepth 20000 in
theorem gL_law_X3_moveTime : GoodIn wsL_law (wsV RL 274 RX3 yX3_moveTime wsX3_moveTime) := goodIn_app (goodIn_of _ (by decide +kernel)) ggL_law_X3_moveTime
set_option maxRecDepth 20000 in
theorem ggL_law_L_cutTime : GoodIn wsL_law wsL_cutTime := goodIn_ca (goodIn_ca (goodIn_ca (goodIn_r _ [668, 44, 45, 669, 670, 671, 2, 672, 67, 68, 20, 592, 593, 594, 51, 52, 53, 54, 55, 953, 954, 955, 956, 957, 958, 959, 960, 961, 962] (by decide +kernel) (by decide +kernel)) (goodIn_sub (fun _ h => List.mem_append_left _ (List.mem_append_left _ (List.mem_append_left _ (List.mem_append_right _ h)))) (by decide +kernel))) (goodIn_sub (fun _ h => List.mem_append_left _ (List.mem_append_right _ h)) (by decide +kernel))) (goodIn_sub (fun _ h => List.mem_append_left _ (List.mem_append_left _ (List.mem_append_right _ h))) (by decide +kernel))
set_option maxRecDepth 20000 in
theorem gL_law_L_cutTime : GoodIn wsL_law (va_wsS RL 275 yL_cutTime wsL_cutTime) := goodIn_app (goodIn_of _ (by decide +kernel)) ggL_law_L_cutTime
set_option maxRecDepth 20000 in
theorem ggL_law_X3_cutTime : GoodIn wsL_law wsX3_cutTime := goodIn_ca (goodIn_r _ [676, 618, 661, 604, 662, 30, 437, 438, 5, 439, 170, 131, 132, 133, 154, 155, 156, 157, 158, 963, 964, 965, 966, 967, 968, 969, 970, 971, 972, 973, 974, 975, 976] (by decide +kernel) (by decide +kernel)) (goodIn_sub (fun _ h => List.mem_append_left _ (List.mem_append_left _ (List.mem_append_left _ (List.mem_append_right _ h)))) (by decide +kernel))
set_option maxRecDepth 20000 in
theorem gL_law_X3_cutTime : GoodIn wsL_law (wsV RL 277 RX3 yX3_cutTime wsX3_cutTime) := goodIn_app (goodIn_of _ (by decide +kernel)) ggL_law_X3_cutTime
set_option maxRecDepth 20000 in
theorem ggL_law_L_goTime : GoodIn wsL_law wsL_goTime := goodIn_ca (goodIn_ca (goodIn_r _ [679, 44, 680, 681, 682, 2, 683, 21, 684, 22, 20, 51, 52, 53, 54, 55, 648, 649, 642, 650, 647, 651, 81, 82, 83, 652, 653, 654, 953, 954, 955, 956, 957, 958, 959, 960, 961, 962] (by decide +kernel) (by decide +kernel)) (goodIn_sub (fun _ h => List.mem_append_left _ (List.mem_append_left _ (List.mem_append_left _ (List.mem_append_right _ h)))) (by decide +kernel))) (goodIn_sub (fun _ h => List.mem_append_left _ (List.mem_append_left _ (List.mem_append_right _ h))) (by decide +kernel))
set_option maxRecDepth 20000 in
theorem gL_law_L_goTime : GoodIn wsL_law (va_wsS RL 278 yL_goTime wsL_goTime) := goodIn_app (goodIn_of _ (by decide +kernel)) ggL_law_L_goTime
set_option maxRecDepth 20000 in
theorem ggL_law_X3_goTime : GoodIn wsL_law wsX3_goTime := goodIn_ca (goodIn_r _ [688, 31, 604, 32, 30, 662, 437, 438, 5, 439, 170, 131, 132, 133, 154, 155, 156, 157, 158, 663, 664, 665, 148, 149, 150, 151, 152, 153, 963, 964, 965, 966, 967, 968, 969, 970, 971, 972, 973, 974, 975, 976] (by decide +kernel) (by decide +kernel)) (goodIn_sub (fun _ h => List.mem_append_left _ (List.mem_append_left _ (List.mem_append_left _ (List.mem_append_right _ h)))) (by decide +kernel))
set_option maxRecDepth 20000 in
theorem gL_law_X3_goTime : GoodIn wsL_law (wsV RL 280 RX3 yX3_goTime wsX3_goTime) := goodIn_app (goodIn_of _ (by decide +kernel)) ggL_law_X3_goTime
set_option maxRecDepth 20000 in
theorem ggL_law_L_orderTimes : GoodIn wsL_law wsL_orderTimes := goodIn_ca (goodIn_ca (goodIn_r _ [691, 44, 692, 693, 694, 2, 695, 20, 51, 52, 53, 54, 55, 384, 385, 386, 953, 954, 955, 956, 957, 958, 959, 960, 961, 962] (by decide +kernel) (by decide +kernel)) (goodIn_sub (fun _ h => List.mem_append_left _ (List.mem_append_left _ (List.mem_append_left _ (List.mem_append_right _ h)))) (by decide +kernel))) (goodIn_sub (fun _ h => List.mem_append_left _ (List.mem_append_left _ (List.mem_append_right _ h))) (by decide +kernel))
set_option maxRecDepth 20000 in
theorem gL_law_L_orderTimes : GoodIn wsL_law (va_wsS RL 281 yL_orderTimes wsL_orderTimes) := goodIn_app (goodIn_of _ (by decide +kernel)) ggL_law_L_orderTimes
set_option maxRecDepth 20000 in
theorem ggL_law_X3_orderTimes : GoodIn wsL_law wsX3_orderTimes := goodIn_ca (goodIn_r _ [699, 30, 437, 438, 5, 439, 170, 131, 132, 133, 154, 155, 156, 157, 158, 391, 392, 393, 963, 964, 965, 966, 967, 968, 969, 970, 971, 972, 973, 974, 975, 976] (by decide +kernel) (by decide +kernel)) (goodIn_sub (fun _ h => List.mem_append_left _ (List.mem_append_left _ (List.mem_append_left _ (List.mem_append_right _ h)))) (by decide +kernel))
set_option maxRecDepth 20000 in
theorem gL_law_X3_orderTimes : GoodIn wsL_law (wsV RL 283 RX3 yX3_orderTimes wsX3_orderTimes) := goodIn_app (goodIn_of _ (by decide +kernel)) ggL_law_X3_orderTimes
set_option maxRecDepth 20000 in
theorem ggL_law_L_length : GoodIn wsL_law wsL_length := goodIn_ca (goodIn_ca (goodIn_ca (goodIn_ca (goodIn_r _ [702, 44, 45, 180, 703, 704, 705, 2, 706, 707, 708, 638, 639, 51, 52, 53, 54, 55, 61, 62, 63, 64, 65, 66, 67, 68, 709, 710, 711, 712, 594, 21, 22, 713, 88, 82, 89, 714, 81, 83, 117, 118, 119, 120, 121, 953, 954, 955, 956, 957, 958, 959, 960, 961, 962] (by decide +kernel) (by decide +kernel)) (goodIn_sub (fun _ h => List.mem_append_left _ (List.mem_append_left _ (List.mem_append_left _ (List.mem_append_right _ h)))) (by decide +kernel))) (goodIn_sub (fun _ h => List.mem_append_left _ (List.mem_append_left _ (List.mem_append_right _ h))) (by decide +kernel))) (goodIn_sub (fun _ h => List.mem_append_left _ (List.mem_append_right _ h)) (by decide +kernel))) (goodIn_sub (fun _ h => List.mem_append_right _ h) (by decide +kernel))
set_option maxRecDepth 20000 in
theorem gL_law_L_length : GoodIn wsL_law (va_wsS RL 284 yL_length wsL_length) := goodIn_app (goodIn_of _ (by decide +kernel)) ggL_law_L_length
set_option maxRecDepth 20000 in
theorem ggL_law_X3_length : GoodIn wsL_law wsX3_length := goodIn_ca (goodIn_r _ [718, 719, 720, 659, 660, 437, 438, 5, 439, 170, 131, 132, 133, 154, 155, 156, 157, 158, 721, 722, 723, 724, 604, 31, 32, 151, 152, 153, 148, 149, 150, 963, 964, 965, 966, 967, 968, 969, 970, 971, 972, 973, 974, 975, 976] (by decide +kernel) (by decide +kernel)) (goodIn_sub (fun _ h => List.mem_append_left _ (List.mem_append_left _ (List.mem_append_left _ (List.mem_append_right _ h)))) (by decide +kernel))
set_option maxRecDepth 20000 in
theorem gL_law_X3_length : GoodIn wsL_law (wsV RL 287 RX3 yX3_length wsX3_length) := goodIn_app (goodIn_of _ (by decide +kernel)) ggL_law_X3_length
set_option maxRecDepth 20000 in
theorem ggL_law_L_lengthPart : GoodIn wsL_law wsL_lengthPart := goodIn_ca (goodIn_ca (goodIn_ca (goodIn_r _ [727, 44, 45, 728, 729, 730, 2, 731, 67, 68, 21, 22, 51, 52, 53, 54, 55, 953, 954, 955, 956, 957, 958, 959, 960, 961, 962] (by decide +kernel) (by decide +kernel)) (goodIn_sub (fun _ h => List.mem_append_left _ (List.mem_append_left _ (List.mem_append_left _ (List.mem_append_right _ h)))) (by decide +kernel))) (goodIn_sub (fun _ h => List.mem_append_left _ (List.mem_append_right _ h)) (by decide +kernel))) (goodIn_sub (fun _ h => List.mem_append_left _ (List.mem_append_left _ (List.mem_append_right _ h))) (by decide +kernel))
set_option maxRecDepth 20000 in
theorem gL_law_L_lengthPart : GoodIn wsL_law (va_wsS RL 288 yL_lengthPart wsL_lengthPart) := goodIn_app (goodIn_of _ (by decide +kernel)) ggL_law_L_lengthPart
set_option maxRecDepth 20000 in
theorem ggL_law_X3_lengthPart : GoodIn wsL_law wsX3_lengthPart := goodIn_ca (goodIn_r _ [735, 31, 32, 437, 438, 5, 439, 170, 131, 132, 133, 154, 155, 156, 157, 158, 963, 964, 965, 966, 967, 968, 969, 970, 971, 972, 973, 974, 975, 976] (by decide +kernel) (by decide +kernel)) (goodIn_sub (fun _ h => List.mem_append_left _ (List.mem_append_left _ (List.mem_append_left _ (List.mem_append_right _ h)))) (by decide +kernel))
set_option maxRecDepth 20000 in
theorem gL_law_X3_lengthPart : GoodIn wsL_law (wsV RL 290 RX3 yX3_lengthPart wsX3_lengthPart) := goodIn_app (goodIn_of _ (by decide +kernel)) ggL_law_X3_lengthPart
set_option maxRecDepth 20000 in
theorem ggL_law_L_addLength : GoodIn wsL_law wsL_addLength := goodIn_ca (goodIn_ca (goodIn_ca (goodIn_r _ [738, 44, 180, 739, 740, 741, 2, 742, 21, 22, 51, 52, 53, 54, 55, 709, 710, 711, 712, 594, 707, 708, 713, 88, 82, 89, 714, 81, 83, 61, 62, 63, 117, 118, 119, 120, 121, 953, 954, 955, 956, 957, 958, 959, 960, 961, 962] (by decide +kernel) (by decide +kernel)) (goodIn_sub (fun _ h => List.mem_append_left _ (List.mem_append_left _ (List.mem_append_left _ (List.mem_append_right _ h)))) (by decide +kernel))) (goodIn_sub (fun _ h => List.mem_append_left _ (List.mem_append_left _ (List.mem_append_right _ h))) (by decide +kernel))) (goodIn_sub (fun _ h => List.mem_append_right _ h) (by decide +kernel))
set_option maxRecDepth 20000 in
theorem gL_law_L_addLength : GoodIn wsL_law (va_wsS RL 291 yL_addLength wsL_addLength) := goodIn_app (goodIn_of _ (by decide +kernel)) ggL_law_L_addLength
set_option maxRecDepth 20000 in
theorem ggL_law_X3_addLength : GoodIn wsL_law wsX3_addLength := goodIn_ca (goodIn_r _ [746, 470, 31, 32, 437, 438, 5, 439, 170, 131, 132, 133, 154, 155, 156, 157, 158, 721, 722, 723, 724, 604, 719, 720, 151, 152, 153, 148, 149, 150, 963, 964, 965, 966, 967, 968, 969, 970, 971, 972, 973, 974, 975, 976] (by decide +kernel) (by decide +kernel)) (goodIn_sub (fun _ h => List.mem_append_left _ (List.mem_append_left _ (List.mem_append_left _ (List.mem_append_right _ h)))) (by decide +kernel))
set_option maxRecDepth 20000 in
theorem gL_law_X3_addLength : GoodIn wsL_law (wsV RL 293 RX3 yX3_addLength wsX3_addLength) := goodIn_app (goodIn_of _ (by decide +kernel)) ggL_law_X3_addLength
set_option maxRecDepth 20000 in
theorem ggL_law_L_timesLength : GoodIn wsL_law wsL_timesLength := goodIn_ca (goodIn_ca (goodIn_ca (goodIn_ca (goodIn_r _ [749, 44, 45, 180, 750, 751, 752, 2, 753, 754, 755, 21, 22, 51, 52, 53, 54, 55, 61, 62, 63, 64, 65, 66, 67, 68, 709, 710, 711, 712, 594, 707, 708, 713, 88, 82, 89, 714, 81, 83, 117, 118, 119, 120, 121, 953, 954, 955, 956, 957, 958, 959, 960, 961, 962] (by decide +kernel) (by decide +kernel)) (goodIn_sub (fun _ h => List.mem_append_left _ (List.mem_append_left _ (List.mem_append_left _ (List.mem_append_right _ h)))) (by decide +kernel))) (goodIn_sub (fun _ h => List.mem_append_left _ (List.mem_append_left _ (List.mem_append_right _ h))) (by decide +kernel))) (goodIn_sub (fun _ h => List.mem_append_left _ (List.mem_append_right _ h)) (by decide +kernel))) (goodIn_sub (fun _ h => List.mem_append_right _ h) (by decide +kernel))
set_option maxRecDepth 20000 in
theorem gL_law_L_timesLength : GoodIn wsL_law (va_wsS RL 294 yL_timesLength wsL_timesLength) := goodIn_app (goodIn_of _ (by decide +kernel)) ggL_law_L_timesLength
set_option maxRecDepth 20000 in
theorem ggL_law_X3_timesLength : GoodIn wsL_law wsX3_timesLength := goodIn_ca (goodIn_r _ [759, 760, 761, 31, 32, 437, 438, 5, 439, 170, 131, 132, 133, 154, 155, 156, 157, 158, 721, 722, 723, 724, 604, 719, 720, 151, 152, 153, 148, 149, 150, 963, 964, 965, 966, 967, 968, 969, 970, 971, 972, 973, 974, 975, 976] (by decide +kernel) (by decide +kernel)) (goodIn_sub (fun _ h => List.mem_append_left _ (List.mem_append_left _ (List.mem_append_left _ (List.mem_append_right _ h)))) (by decide +kernel))
set_option maxRecDepth 20000 in
theorem gL_law_X3_timesLength : GoodIn wsL_law (wsV RL 296 RX3 yX3_timesLength wsX3_timesLength) := goodIn_app (goodIn_of _ (by decide +kernel)) ggL_law_X3_timesLength
set_option maxRecDepth 20000 in
theorem ggL_law_L_lengthOfTimes : GoodIn wsL_law wsL_lengthOfTimes := goodIn_ca (goodIn_ca (goodIn_ca (goodIn_r _ [764, 44, 765, 766, 767, 2, 768, 20, 51, 52, 53, 54, 55, 709, 710, 711, 712, 594, 707, 708, 21, 22, 713, 88, 82, 89, 714, 81, 83, 61, 62, 63, 117, 118, 119, 120, 121, 953, 954, 955, 956, 957, 958, 959, 960, 961, 962] (by decide +kernel) (by decide +kernel)) (goodIn_sub (fun _ h => List.mem_append_left _ (List.mem_append_left _ (List.mem_append_left _ (List.mem_append_right _ h)))) (by decide +kernel))) (goodIn_sub (fun _ h => List.mem_append_left _ (List.mem_append_left _ (List.mem_append_right _ h))) (by decide +kernel))) (goodIn_sub (fun _ h => List.mem_append_right _ h) (by decide +kernel))
set_option maxRecDepth 20000 in
theorem gL_law_L_lengthOfTimes : GoodIn wsL_law (va_wsS RL 297 yL_lengthOfTimes wsL_lengthOfTimes) := goodIn_app (goodIn_of _ (by decide +kernel)) ggL_law_L_lengthOfTimes
set_option maxRecDepth 20000 in
theorem ggL_law_X3_lengthOfTimes : GoodIn wsL_law wsX3_lengthOfTimes := goodIn_ca (goodIn_r _ [772, 30, 437, 438, 5, 439, 170, 131, 132, 133, 154, 155, 156, 157, 158, 721, 722, 723, 724, 604, 719, 720, 31, 32, 151, 152, 153, 148, 149, 150, 963, 964, 965, 966, 967, 968, 969, 970, 971, 972, 973, 974, 975, 976] (by decide +kernel) (by decide +kernel)) (goodIn_sub (fun _ h => List.mem_append_left _ (List.mem_append_left _ (List.mem_append_left _ (List.mem_append_right _ h)))) (by decide +kernel))
set_option maxRecDepth 20000 in
theorem gL_law_X3_lengthOfTimes : GoodIn wsL_law (wsV RL 299 RX3 yX3_lengthOfTimes wsX3_lengthOfTimes) := goodIn_app (goodIn_of _ (by decide +kernel)) ggL_law_X3_lengthOfTimes
set_option maxRecDepth 20000 in
theorem ggL_law_L_orderLengths : GoodIn wsL_law wsL_orderLengths := goodIn_ca (goodIn_ca (goodIn_r _ [775, 44, 776, 777, 778, 2, 779, 21, 22, 51, 52, 53, 54, 55, 384, 385, 386, 953, 954, 955, 956, 957, 958, 959, 960, 961, 962] (by decide +kernel) (by decide +kernel)) (goodIn_sub (fun _ h => List.mem_append_left _ (List.mem_append_left _ (List.mem_append_left _ (List.mem_append_right _ h)))) (by decide +kernel))) (goodIn_sub (fun _ h => List.mem_append_left _ (List.mem_append_left _ (List.mem_append_right _ h))) (by decide +kernel))
set_option maxRecDepth 20000 in
theorem gL_law_L_orderLengths : GoodIn wsL_law (va_wsS RL 300 yL_orderLengths wsL_orderLengths) := goodIn_app (goodIn_of _ (by decide +kernel)) ggL_law_L_orderLengths
set_option maxRecDepth 20000 in
theorem ggL_law_X3_orderLengths : GoodIn wsL_law wsX3_orderLengths := goodIn_ca (goodIn_r _ [783, 31, 32, 437, 438, 5, 439, 170, 131, 132, 133, 154, 155, 156, 157, 158, 391, 392, 393, 963, 964, 965, 966, 967, 968, 969, 970, 971, 972, 973, 974, 975, 976] (by decide +kernel) (by decide +kernel)) (goodIn_sub (fun _ h => List.mem_append_left _ (List.mem_append_left _ (List.mem_append_left _ (List.mem_append_right _ h)))) (by decide +kernel))
set_option maxRecDepth 20000 in
theorem gL_law_X3_orderLengths : GoodIn wsL_law (wsV RL 302 RX3 yX3_orderLengths wsX3_orderLengths) := goodIn_app (goodIn_of _ (by decide +kernel)) ggL_law_X3_orderLengths
set_option maxRecDepth 20000 in
theorem ggL_law_L_moment : GoodIn wsL_law wsL_moment := goodIn_ca (goodIn_ca (goodIn_ca (goodIn_r _ [786, 44, 787, 788, 789, 2, 790, 14, 20, 51, 52, 53, 54, 55, 791, 792, 793, 794, 795, 23, 24, 713, 88, 82, 89, 112, 113, 71, 114, 115, 116, 117, 118, 119, 120, 121, 652, 653, 642, 654, 647, 651, 81, 83, 953, 954, 955, 956, 957, 958, 959, 960, 961, 962] (by decide +kernel) (by decide +kernel)) (goodIn_sub (fun _ h => List.mem_append_left _ (List.mem_append_left _ (List.mem_append_left _ (List.mem_append_right _ h)))) (by decide +kernel))) (goodIn_sub (fun _ h => List.mem_append_left _ (List.mem_append_left _ (List.mem_append_right _ h))) (by decide +kernel))) (goodIn_sub (fun _ h => List.mem_append_right _ h) (by decide +kernel))
