theorem dX3_date_65 : decode cX3_date 65 = .ok (.iconst 0, 1) := by decide +kernel
theorem dX3_date_66 : decode cX3_date 66 = .ok (.goto 4, 3) := by decide +kernel
theorem dX3_date_69 : decode cX3_date 69 = .ok (.iconst 2, 1) := by decide +kernel
theorem dX3_date_70 : decode cX3_date 70 = .ok (.invokevirtual 125, 3) := by decide +kernel
theorem dX3_date_73 : decode cX3_date 73 = .ok (.ifCond .eq 5, 3) := by decide +kernel
theorem dX3_date_76 : decode cX3_date 76 = .ok (.lconst 0, 1) := by decide +kernel
theorem dX3_date_77 : decode cX3_date 77 = .ok (.lreturn, 1) := by decide +kernel
theorem dX3_date_78 : decode cX3_date 78 = .ok (.aload_n 0, 1) := by decide +kernel
theorem dX3_date_79 : decode cX3_date 79 = .ok (.getfield 13, 3) := by decide +kernel
theorem dX3_date_82 : decode cX3_date 82 = .ok (.iload_n 1, 1) := by decide +kernel
theorem dX3_date_83 : decode cX3_date 83 = .ok (.iload_n 2, 1) := by decide +kernel
theorem dX3_date_84 : decode cX3_date 84 = .ok (.i2l, 1) := by decide +kernel
theorem dX3_date_85 : decode cX3_date 85 = .ok (.iload_n 3, 1) := by decide +kernel
theorem dX3_date_86 : decode cX3_date 86 = .ok (.iload 4, 2) := by decide +kernel
theorem dX3_date_88 : decode cX3_date 88 = .ok (.invokestatic 115, 3) := by decide +kernel
theorem dX3_date_91 : decode cX3_date 91 = .ok (.lastore, 1) := by decide +kernel
theorem dX3_date_92 : decode cX3_date 92 = .ok (.aload_n 0, 1) := by decide +kernel
theorem dX3_date_93 : decode cX3_date 93 = .ok (.getfield 13, 3) := by decide +kernel
theorem dX3_date_96 : decode cX3_date 96 = .ok (.iload_n 1, 1) := by decide +kernel
theorem dX3_date_97 : decode cX3_date 97 = .ok (.laload, 1) := by decide +kernel
theorem dX3_date_98 : decode cX3_date 98 = .ok (.lreturn, 1) := by decide +kernel
set_option maxRecDepth 20000 in
theorem ggX3_ofDay_X3_isDate : GoodIn wsX3_ofDay wsX3_isDate := goodIn_r _ [8, 9, 10, 11, 7, 12] (by decide +kernel) (by decide +kernel)
set_option maxRecDepth 20000 in
theorem gX3_ofDay_X3_isDate : GoodIn wsX3_ofDay (va_wsS RX3 121 yX3_isDate wsX3_isDate) := goodIn_app (goodIn_of _ (by decide +kernel)) ggX3_ofDay_X3_isDate
set_option maxRecDepth 20000 in
theorem ggX3_ofDay_X3_first : GoodIn wsX3_ofDay wsX3_first := goodIn_r _ [15, 16, 17, 18, 7, 19, 20, 21, 22, 23, 24, 25, 26, 27, 28, 29] (by decide +kernel) (by decide +kernel)
set_option maxRecDepth 20000 in
theorem gX3_ofDay_X3_first : GoodIn wsX3_ofDay (va_wsS RX3 77 yX3_first wsX3_first) := goodIn_app (goodIn_of _ (by decide +kernel)) ggX3_ofDay_X3_first
set_option maxRecDepth 20000 in
theorem ggX3_ofDay_X3_in : GoodIn wsX3_ofDay wsX3_in := goodIn_r _ [12] (by decide +kernel) (by decide +kernel)
set_option maxRecDepth 20000 in
theorem gX3_ofDay_X3_in : GoodIn wsX3_ofDay (va_wsS RX3 100 yX3_in wsX3_in) := goodIn_app (goodIn_of _ (by decide +kernel)) ggX3_ofDay_X3_in
set_option maxRecDepth 20000 in
theorem ggX3_ofDay_X3_fails : GoodIn wsX3_ofDay wsX3_fails := goodIn_r _ [33, 34, 51, 52, 53, 54, 55, 56, 57, 58, 59, 60, 61, 62, 63, 64] (by decide +kernel) (by decide +kernel)
set_option maxRecDepth 20000 in
theorem gX3_ofDay_X3_fails : GoodIn wsX3_ofDay (wsV RX3 125 RX3 yX3_fails wsX3_fails) := goodIn_app (goodIn_of _ (by decide +kernel)) ggX3_ofDay_X3_fails
set_option maxRecDepth 20000 in
theorem ggX3_ofDay_X3_parts : GoodIn wsX3_ofDay wsX3_parts := goodIn_r _ [38, 16, 26, 39, 4, 40, 41, 27, 28, 7, 29, 13, 14, 15, 17, 18, 19, 20, 21, 22, 23, 24, 25, 42, 43, 44, 45, 46, 47, 48, 49, 50, 51, 52, 53, 54, 55, 56, 57, 58, 59, 60, 61, 62, 63, 64] (by decide +kernel) (by decide +kernel)
set_option maxRecDepth 20000 in
theorem gX3_ofDay_X3_parts : GoodIn wsX3_ofDay (wsV RX3 104 RX3 yX3_parts wsX3_parts) := goodIn_app (goodIn_of _ (by decide +kernel)) ggX3_ofDay_X3_parts
theorem dX3_ofDay_0 : decode cX3_ofDay 0 = .ok (.aload_n 0, 1) := by decide +kernel
theorem dX3_ofDay_1 : decode cX3_ofDay 1 = .ok (.iload_n 1, 1) := by decide +kernel
theorem dX3_ofDay_2 : decode cX3_ofDay 2 = .ok (.invokestatic 121, 3) := by decide +kernel
theorem dX3_ofDay_5 : decode cX3_ofDay 5 = .ok (.ifCond .ne 7, 3) := by decide +kernel
theorem dX3_ofDay_8 : decode cX3_ofDay 8 = .ok (.iconst 1, 1) := by decide +kernel
theorem dX3_ofDay_9 : decode cX3_ofDay 9 = .ok (.goto 29, 3) := by decide +kernel
theorem dX3_ofDay_12 : decode cX3_ofDay 12 = .ok (.lload_n 2, 1) := by decide +kernel
theorem dX3_ofDay_13 : decode cX3_ofDay 13 = .ok (.ldc2_w 96, 3) := by decide +kernel
theorem dX3_ofDay_16 : decode cX3_ofDay 16 = .ok (.invokestatic 77, 3) := by decide +kernel
theorem dX3_ofDay_19 : decode cX3_ofDay 19 = .ok (.ldc2_w 128, 3) := by decide +kernel
theorem dX3_ofDay_22 : decode cX3_ofDay 22 = .ok (.invokestatic 77, 3) := by decide +kernel
theorem dX3_ofDay_25 : decode cX3_ofDay 25 = .ok (.lconst 1, 1) := by decide +kernel
theorem dX3_ofDay_26 : decode cX3_ofDay 26 = .ok (.lsub, 1) := by decide +kernel
theorem dX3_ofDay_27 : decode cX3_ofDay 27 = .ok (.invokestatic 100, 3) := by decide +kernel
theorem dX3_ofDay_30 : decode cX3_ofDay 30 = .ok (.ifCond .eq 7, 3) := by decide +kernel
theorem dX3_ofDay_33 : decode cX3_ofDay 33 = .ok (.iconst 0, 1) := by decide +kernel
theorem dX3_ofDay_34 : decode cX3_ofDay 34 = .ok (.goto 4, 3) := by decide +kernel
theorem dX3_ofDay_37 : decode cX3_ofDay 37 = .ok (.iconst 2, 1) := by decide +kernel
theorem dX3_ofDay_38 : decode cX3_ofDay 38 = .ok (.invokevirtual 125, 3) := by decide +kernel
theorem dX3_ofDay_41 : decode cX3_ofDay 41 = .ok (.ifCond .eq 5, 3) := by decide +kernel
theorem dX3_ofDay_44 : decode cX3_ofDay 44 = .ok (.iconst 0, 1) := by decide +kernel
theorem dX3_ofDay_45 : decode cX3_ofDay 45 = .ok (.ireturn, 1) := by decide +kernel
theorem dX3_ofDay_46 : decode cX3_ofDay 46 = .ok (.aload_n 0, 1) := by decide +kernel
theorem dX3_ofDay_47 : decode cX3_ofDay 47 = .ok (.getfield 13, 3) := by decide +kernel
theorem dX3_ofDay_50 : decode cX3_ofDay 50 = .ok (.iload_n 1, 1) := by decide +kernel
theorem dX3_ofDay_51 : decode cX3_ofDay 51 = .ok (.lload_n 2, 1) := by decide +kernel
theorem dX3_ofDay_52 : decode cX3_ofDay 52 = .ok (.lastore, 1) := by decide +kernel
theorem dX3_ofDay_53 : decode cX3_ofDay 53 = .ok (.aload_n 0, 1) := by decide +kernel
theorem dX3_ofDay_54 : decode cX3_ofDay 54 = .ok (.lload_n 2, 1) := by decide +kernel
theorem dX3_ofDay_55 : decode cX3_ofDay 55 = .ok (.invokevirtual 104, 3) := by decide +kernel
theorem dX3_ofDay_58 : decode cX3_ofDay 58 = .ok (.aload_n 0, 1) := by decide +kernel
theorem dX3_ofDay_59 : decode cX3_ofDay 59 = .ok (.getfield 86, 3) := by decide +kernel
theorem dX3_ofDay_62 : decode cX3_ofDay 62 = .ok (.l2i, 1) := by decide +kernel
theorem dX3_ofDay_63 : decode cX3_ofDay 63 = .ok (.ireturn, 1) := by decide +kernel
set_option maxRecDepth 20000 in
theorem ggX3_day_X3_isDate : GoodIn wsX3_day wsX3_isDate := goodIn_r _ [5, 6, 7, 8, 4, 9] (by decide +kernel) (by decide +kernel)
set_option maxRecDepth 20000 in
theorem gX3_day_X3_isDate : GoodIn wsX3_day (va_wsS RX3 121 yX3_isDate wsX3_isDate) := goodIn_app (goodIn_of _ (by decide +kernel)) ggX3_day_X3_isDate
set_option maxRecDepth 20000 in
theorem ggX3_day_X3_fails : GoodIn wsX3_day wsX3_fails := goodIn_r _ [13, 14, 15, 16, 17, 18, 19, 20, 21, 22, 23, 24, 25, 26, 27, 28] (by decide +kernel) (by decide +kernel)
set_option maxRecDepth 20000 in
theorem gX3_day_X3_fails : GoodIn wsX3_day (wsV RX3 125 RX3 yX3_fails wsX3_fails) := goodIn_app (goodIn_of _ (by decide +kernel)) ggX3_day_X3_fails
theorem dX3_day_0 : decode cX3_day 0 = .ok (.aload_n 0, 1) := by decide +kernel
theorem dX3_day_1 : decode cX3_day 1 = .ok (.iload_n 1, 1) := by decide +kernel
theorem dX3_day_2 : decode cX3_day 2 = .ok (.invokestatic 121, 3) := by decide +kernel
theorem dX3_day_5 : decode cX3_day 5 = .ok (.ifCond .eq 7, 3) := by decide +kernel
theorem dX3_day_8 : decode cX3_day 8 = .ok (.iconst 0, 1) := by decide +kernel
theorem dX3_day_9 : decode cX3_day 9 = .ok (.goto 4, 3) := by decide +kernel
theorem dX3_day_12 : decode cX3_day 12 = .ok (.iconst 1, 1) := by decide +kernel
theorem dX3_day_13 : decode cX3_day 13 = .ok (.invokevirtual 125, 3) := by decide +kernel
theorem dX3_day_16 : decode cX3_day 16 = .ok (.ifCond .eq 7, 3) := by decide +kernel
theorem dX3_day_19 : decode cX3_day 19 = .ok (.lconst 0, 1) := by decide +kernel
theorem dX3_day_20 : decode cX3_day 20 = .ok (.goto 9, 3) := by decide +kernel
theorem dX3_day_23 : decode cX3_day 23 = .ok (.aload_n 0, 1) := by decide +kernel
theorem dX3_day_24 : decode cX3_day 24 = .ok (.getfield 13, 3) := by decide +kernel
theorem dX3_day_27 : decode cX3_day 27 = .ok (.iload_n 1, 1) := by decide +kernel
theorem dX3_day_28 : decode cX3_day 28 = .ok (.laload, 1) := by decide +kernel
theorem dX3_day_29 : decode cX3_day 29 = .ok (.lreturn, 1) := by decide +kernel
set_option maxRecDepth 20000 in
theorem ggX3_part_X3_isDate : GoodIn wsX3_part wsX3_isDate := goodIn_r _ [8, 9, 10, 11, 7, 12] (by decide +kernel) (by decide +kernel)
set_option maxRecDepth 20000 in
theorem gX3_part_X3_isDate : GoodIn wsX3_part (va_wsS RX3 121 yX3_isDate wsX3_isDate) := goodIn_app (goodIn_of _ (by decide +kernel)) ggX3_part_X3_isDate
set_option maxRecDepth 20000 in
theorem ggX3_part_X3_fails : GoodIn wsX3_part wsX3_fails := goodIn_r _ [16, 17, 53, 54, 55, 56, 57, 58, 59, 60, 61, 62, 63, 64, 65, 66] (by decide +kernel) (by decide +kernel)
set_option maxRecDepth 20000 in
theorem gX3_part_X3_fails : GoodIn wsX3_part (wsV RX3 125 RX3 yX3_fails wsX3_fails) := goodIn_app (goodIn_of _ (by decide +kernel)) ggX3_part_X3_fails
set_option maxRecDepth 20000 in
theorem ggX3_part_X3_parts : GoodIn wsX3_part wsX3_parts := goodIn_r _ [21, 22, 23, 24, 2, 3, 4, 25, 26, 7, 27, 28, 29, 30, 31, 32, 33, 34, 35, 36, 37, 38, 39, 40, 41, 42, 43, 44, 45, 46, 47, 48, 53, 54, 55, 56, 57, 58, 59, 60, 61, 62, 63, 64, 65, 66] (by decide +kernel) (by decide +kernel)
set_option maxRecDepth 20000 in
theorem gX3_part_X3_parts : GoodIn wsX3_part (wsV RX3 104 RX3 yX3_parts wsX3_parts) := goodIn_app (goodIn_of _ (by decide +kernel)) ggX3_part_X3_parts
set_option maxRecDepth 20000 in
theorem ggX3_part_X3_first : GoodIn wsX3_part wsX3_first := goodIn_r _ [30, 22, 31, 32, 7, 33, 34, 35, 36, 37, 38, 39, 23, 25, 26, 27] (by decide +kernel) (by decide +kernel)
set_option maxRecDepth 20000 in
theorem gX3_part_X3_first : GoodIn wsX3_part (va_wsS RX3 77 yX3_first wsX3_first) := goodIn_app (goodIn_of _ (by decide +kernel)) ggX3_part_X3_first
set_option maxRecDepth 20000 in
theorem ggX3_part_X3_weekdayOf : GoodIn wsX3_part wsX3_weekdayOf := goodIn_r _ [51, 35, 52, 46, 47, 7, 48, 25, 26, 27] (by decide +kernel) (by decide +kernel)
set_option maxRecDepth 20000 in
theorem gX3_part_X3_weekdayOf : GoodIn wsX3_part (va_wsS RX3 130 yX3_weekdayOf wsX3_weekdayOf) := goodIn_app (goodIn_of _ (by decide +kernel)) ggX3_part_X3_weekdayOf
set_option maxRecDepth 20000 in
theorem ggX3_part_X3_many : GoodIn wsX3_part wsX3_many := goodIn_r _ [42, 43, 44, 7, 45, 36, 38, 23, 46, 47, 48, 25, 26, 27] (by decide +kernel) (by decide +kernel)
set_option maxRecDepth 20000 in
theorem gX3_part_X3_many : GoodIn wsX3_part (va_wsS RX3 80 yX3_many wsX3_many) := goodIn_app (goodIn_of _ (by decide +kernel)) ggX3_part_X3_many
set_option maxRecDepth 20000 in
theorem ggX3_part_X3_isLong : GoodIn wsX3_part wsX3_isLong := goodIn_r _ [45, 36, 38, 23, 46, 47, 7, 48, 25, 26, 27] (by decide +kernel) (by decide +kernel)
set_option maxRecDepth 20000 in
theorem gX3_part_X3_isLong : GoodIn wsX3_part (va_wsS RX3 73 yX3_isLong wsX3_isLong) := goodIn_app (goodIn_of _ (by decide +kernel)) ggX3_part_X3_isLong
theorem dX3_part_0 : decode cX3_part 0 = .ok (.aload_n 0, 1) := by decide +kernel
theorem dX3_part_1 : decode cX3_part 1 = .ok (.iload_n 1, 1) := by decide +kernel
theorem dX3_part_2 : decode cX3_part 2 = .ok (.invokestatic 121, 3) := by decide +kernel
theorem dX3_part_5 : decode cX3_part 5 = .ok (.ifCond .ne 7, 3) := by decide +kernel
theorem dX3_part_8 : decode cX3_part 8 = .ok (.iconst 1, 1) := by decide +kernel
theorem dX3_part_9 : decode cX3_part 9 = .ok (.goto 56, 3) := by decide +kernel
theorem dX3_part_12 : decode cX3_part 12 = .ok (.iload_n 2, 1) := by decide +kernel
theorem dX3_part_13 : decode cX3_part 13 = .ok (.bipush 121, 2) := by decide +kernel
theorem dX3_part_15 : decode cX3_part 15 = .ok (.if_icmp .eq 45, 3) := by decide +kernel
theorem dX3_part_18 : decode cX3_part 18 = .ok (.iload_n 2, 1) := by decide +kernel
theorem dX3_part_19 : decode cX3_part 19 = .ok (.bipush 109, 2) := by decide +kernel
theorem dX3_part_21 : decode cX3_part 21 = .ok (.if_icmp .eq 39, 3) := by decide +kernel
theorem dX3_part_24 : decode cX3_part 24 = .ok (.iload_n 2, 1) := by decide +kernel
theorem dX3_part_25 : decode cX3_part 25 = .ok (.bipush 100, 2) := by decide +kernel
theorem dX3_part_27 : decode cX3_part 27 = .ok (.if_icmp .eq 33, 3) := by decide +kernel
theorem dX3_part_30 : decode cX3_part 30 = .ok (.iload_n 2, 1) := by decide +kernel
theorem dX3_part_31 : decode cX3_part 31 = .ok (.bipush 110, 2) := by decide +kernel
theorem dX3_part_33 : decode cX3_part 33 = .ok (.if_icmp .eq 27, 3) := by decide +kernel
theorem dX3_part_36 : decode cX3_part 36 = .ok (.iload_n 2, 1) := by decide +kernel
theorem dX3_part_37 : decode cX3_part 37 = .ok (.bipush 119, 2) := by decide +kernel
theorem dX3_part_39 : decode cX3_part 39 = .ok (.if_icmp .eq 21, 3) := by decide +kernel
theorem dX3_part_42 : decode cX3_part 42 = .ok (.iload_n 2, 1) := by decide +kernel
theorem dX3_part_43 : decode cX3_part 43 = .ok (.bipush 108, 2) := by decide +kernel
theorem dX3_part_45 : decode cX3_part 45 = .ok (.if_icmp .eq 15, 3) := by decide +kernel
theorem dX3_part_48 : decode cX3_part 48 = .ok (.iload_n 2, 1) := by decide +kernel
theorem dX3_part_49 : decode cX3_part 49 = .ok (.bipush 76, 2) := by decide +kernel
theorem dX3_part_51 : decode cX3_part 51 = .ok (.if_icmp .eq 9, 3) := by decide +kernel
theorem dX3_part_54 : decode cX3_part 54 = .ok (.iload_n 2, 1) := by decide +kernel
theorem dX3_part_55 : decode cX3_part 55 = .ok (.bipush 98, 2) := by decide +kernel
theorem dX3_part_57 : decode cX3_part 57 = .ok (.if_icmp .ne 7, 3) := by decide +kernel
theorem dX3_part_60 : decode cX3_part 60 = .ok (.iconst 0, 1) := by decide +kernel
theorem dX3_part_61 : decode cX3_part 61 = .ok (.goto 4, 3) := by decide +kernel
theorem dX3_part_64 : decode cX3_part 64 = .ok (.iconst 2, 1) := by decide +kernel
theorem dX3_part_65 : decode cX3_part 65 = .ok (.invokevirtual 125, 3) := by decide +kernel
theorem dX3_part_68 : decode cX3_part 68 = .ok (.ifCond .eq 5, 3) := by decide +kernel
theorem dX3_part_71 : decode cX3_part 71 = .ok (.iconst 0, 1) := by decide +kernel
theorem dX3_part_72 : decode cX3_part 72 = .ok (.ireturn, 1) := by decide +kernel
theorem dX3_part_73 : decode cX3_part 73 = .ok (.aload_n 0, 1) := by decide +kernel
theorem dX3_part_74 : decode cX3_part 74 = .ok (.aload_n 0, 1) := by decide +kernel
theorem dX3_part_75 : decode cX3_part 75 = .ok (.getfield 13, 3) := by decide +kernel
theorem dX3_part_78 : decode cX3_part 78 = .ok (.iload_n 1, 1) := by decide +kernel
theorem dX3_part_79 : decode cX3_part 79 = .ok (.laload, 1) := by decide +kernel
theorem dX3_part_80 : decode cX3_part 80 = .ok (.invokevirtual 104, 3) := by decide +kernel
theorem dX3_part_83 : decode cX3_part 83 = .ok (.iload_n 2, 1) := by decide +kernel
theorem dX3_part_84 : decode cX3_part 84 = .ok (.lookupswitch 144 #[(76, 124), (100, 79), (108, 112), (109, 74), (110, 84), (119, 102), (121, 68)], 68) := by decide +kernel
theorem dX3_part_152 : decode cX3_part 152 = .ok (.aload_n 0, 1) := by decide +kernel
theorem dX3_part_153 : decode cX3_part 153 = .ok (.getfield 86, 3) := by decide +kernel
theorem dX3_part_156 : decode cX3_part 156 = .ok (.l2i, 1) := by decide +kernel
theorem dX3_part_157 : decode cX3_part 157 = .ok (.ireturn, 1) := by decide +kernel
theorem dX3_part_158 : decode cX3_part 158 = .ok (.aload_n 0, 1) := by decide +kernel
theorem dX3_part_159 : decode cX3_part 159 = .ok (.getfield 90, 3) := by decide +kernel
theorem dX3_part_162 : decode cX3_part 162 = .ok (.ireturn, 1) := by decide +kernel
theorem dX3_part_163 : decode cX3_part 163 = .ok (.aload_n 0, 1) := by decide +kernel
theorem dX3_part_164 : decode cX3_part 164 = .ok (.getfield 93, 3) := by decide +kernel
theorem dX3_part_167 : decode cX3_part 167 = .ok (.ireturn, 1) := by decide +kernel
theorem dX3_part_168 : decode cX3_part 168 = .ok (.aload_n 0, 1) := by decide +kernel
theorem dX3_part_169 : decode cX3_part 169 = .ok (.getfield 13, 3) := by decide +kernel
theorem dX3_part_172 : decode cX3_part 172 = .ok (.iload_n 1, 1) := by decide +kernel
theorem dX3_part_173 : decode cX3_part 173 = .ok (.laload, 1) := by decide +kernel
theorem dX3_part_174 : decode cX3_part 174 = .ok (.aload_n 0, 1) := by decide +kernel
theorem dX3_part_175 : decode cX3_part 175 = .ok (.getfield 86, 3) := by decide +kernel
theorem dX3_part_178 : decode cX3_part 178 = .ok (.invokestatic 77, 3) := by decide +kernel
theorem dX3_part_181 : decode cX3_part 181 = .ok (.lsub, 1) := by decide +kernel
theorem dX3_part_182 : decode cX3_part 182 = .ok (.l2i, 1) := by decide +kernel
theorem dX3_part_183 : decode cX3_part 183 = .ok (.iconst 1, 1) := by decide +kernel
theorem dX3_part_184 : decode cX3_part 184 = .ok (.iadd, 1) := by decide +kernel
theorem dX3_part_185 : decode cX3_part 185 = .ok (.ireturn, 1) := by decide +kernel
theorem dX3_part_186 : decode cX3_part 186 = .ok (.aload_n 0, 1) := by decide +kernel
theorem dX3_part_187 : decode cX3_part 187 = .ok (.getfield 13, 3) := by decide +kernel
theorem dX3_part_190 : decode cX3_part 190 = .ok (.iload_n 1, 1) := by decide +kernel
theorem dX3_part_191 : decode cX3_part 191 = .ok (.laload, 1) := by decide +kernel
theorem dX3_part_192 : decode cX3_part 192 = .ok (.invokestatic 130, 3) := by decide +kernel
theorem dX3_part_195 : decode cX3_part 195 = .ok (.ireturn, 1) := by decide +kernel
theorem dX3_part_196 : decode cX3_part 196 = .ok (.aload_n 0, 1) := by decide +kernel
theorem dX3_part_197 : decode cX3_part 197 = .ok (.getfield 86, 3) := by decide +kernel
theorem dX3_part_200 : decode cX3_part 200 = .ok (.aload_n 0, 1) := by decide +kernel
theorem dX3_part_201 : decode cX3_part 201 = .ok (.getfield 90, 3) := by decide +kernel
theorem dX3_part_204 : decode cX3_part 204 = .ok (.invokestatic 80, 3) := by decide +kernel
theorem dX3_part_207 : decode cX3_part 207 = .ok (.ireturn, 1) := by decide +kernel
theorem dX3_part_208 : decode cX3_part 208 = .ok (.aload_n 0, 1) := by decide +kernel
theorem dX3_part_209 : decode cX3_part 209 = .ok (.getfield 86, 3) := by decide +kernel
theorem dX3_part_212 : decode cX3_part 212 = .ok (.invokestatic 73, 3) := by decide +kernel
theorem dX3_part_215 : decode cX3_part 215 = .ok (.ifCond .eq 9, 3) := by decide +kernel
theorem dX3_part_218 : decode cX3_part 218 = .ok (.sipush 366, 3) := by decide +kernel
theorem dX3_part_221 : decode cX3_part 221 = .ok (.goto 6, 3) := by decide +kernel
theorem dX3_part_224 : decode cX3_part 224 = .ok (.sipush 365, 3) := by decide +kernel
theorem dX3_part_227 : decode cX3_part 227 = .ok (.ireturn, 1) := by decide +kernel
theorem dX3_part_228 : decode cX3_part 228 = .ok (.aload_n 0, 1) := by decide +kernel
theorem dX3_part_229 : decode cX3_part 229 = .ok (.getfield 86, 3) := by decide +kernel
theorem dX3_part_232 : decode cX3_part 232 = .ok (.invokestatic 73, 3) := by decide +kernel
theorem dX3_part_235 : decode cX3_part 235 = .ok (.ifCond .eq 7, 3) := by decide +kernel
theorem dX3_part_238 : decode cX3_part 238 = .ok (.iconst 1, 1) := by decide +kernel
theorem dX3_part_239 : decode cX3_part 239 = .ok (.goto 4, 3) := by decide +kernel
theorem dX3_part_242 : decode cX3_part 242 = .ok (.iconst 0, 1) := by decide +kernel
theorem dX3_part_243 : decode cX3_part 243 = .ok (.ireturn, 1) := by decide +kernel
set_option maxRecDepth 20000 in
theorem ggX3_becomes_X3_isKept : GoodIn wsX3_becomes wsX3_isKept := goodIn_r _ [6, 7, 8, 9, 10, 5, 11, 12, 13, 14, 15, 16, 17, 18, 19, 20, 21, 22, 23, 24, 25, 26, 27, 28, 29, 30, 31, 32, 33, 34, 35, 36, 37, 38, 39, 40, 41, 42, 43, 44, 45, 46, 47, 48, 54, 55, 56, 57, 58, 59, 60, 61, 62, 63, 64, 65, 66, 67] (by decide +kernel) (by decide +kernel)
set_option maxRecDepth 20000 in
theorem gX3_becomes_X3_isKept : GoodIn wsX3_becomes (wsV RX3 134 RX3 yX3_isKept wsX3_isKept) := goodIn_app (goodIn_of _ (by decide +kernel)) ggX3_becomes_X3_isKept
set_option maxRecDepth 20000 in
theorem ggX3_becomes_X3_fails : GoodIn wsX3_becomes wsX3_fails := goodIn_r _ [52, 53, 54, 55, 56, 57, 58, 59, 60, 61, 62, 63, 64, 65, 66, 67] (by decide +kernel) (by decide +kernel)
set_option maxRecDepth 20000 in
theorem gX3_becomes_X3_fails : GoodIn wsX3_becomes (wsV RX3 125 RX3 yX3_fails wsX3_fails) := goodIn_app (goodIn_of _ (by decide +kernel)) ggX3_becomes_X3_fails
theorem dX3_becomes_0 : decode cX3_becomes 0 = .ok (.aload_n 0, 1) := by decide +kernel
theorem dX3_becomes_1 : decode cX3_becomes 1 = .ok (.aload_n 0, 1) := by decide +kernel
theorem dX3_becomes_2 : decode cX3_becomes 2 = .ok (.lload_n 2, 1) := by decide +kernel
theorem dX3_becomes_3 : decode cX3_becomes 3 = .ok (.invokevirtual 134, 3) := by decide +kernel
theorem dX3_becomes_6 : decode cX3_becomes 6 = .ok (.ifCond .eq 7, 3) := by decide +kernel
theorem dX3_becomes_9 : decode cX3_becomes 9 = .ok (.iconst 0, 1) := by decide +kernel
theorem dX3_becomes_10 : decode cX3_becomes 10 = .ok (.goto 5, 3) := by decide +kernel
theorem dX3_becomes_13 : decode cX3_becomes 13 = .ok (.iload 4, 2) := by decide +kernel
theorem dX3_becomes_15 : decode cX3_becomes 15 = .ok (.invokevirtual 125, 3) := by decide +kernel
theorem dX3_becomes_18 : decode cX3_becomes 18 = .ok (.ifCond .eq 5, 3) := by decide +kernel
theorem dX3_becomes_21 : decode cX3_becomes 21 = .ok (.lconst 0, 1) := by decide +kernel
theorem dX3_becomes_22 : decode cX3_becomes 22 = .ok (.lreturn, 1) := by decide +kernel
theorem dX3_becomes_23 : decode cX3_becomes 23 = .ok (.aload_n 0, 1) := by decide +kernel
theorem dX3_becomes_24 : decode cX3_becomes 24 = .ok (.getfield 13, 3) := by decide +kernel
theorem dX3_becomes_27 : decode cX3_becomes 27 = .ok (.iload_n 1, 1) := by decide +kernel
theorem dX3_becomes_28 : decode cX3_becomes 28 = .ok (.lload_n 2, 1) := by decide +kernel
theorem dX3_becomes_29 : decode cX3_becomes 29 = .ok (.lastore, 1) := by decide +kernel
theorem dX3_becomes_30 : decode cX3_becomes 30 = .ok (.lload_n 2, 1) := by decide +kernel
theorem dX3_becomes_31 : decode cX3_becomes 31 = .ok (.lreturn, 1) := by decide +kernel
theorem dX3_isUnit_0 : decode cX3_isUnit 0 = .ok (.iload_n 0, 1) := by decide +kernel
theorem dX3_isUnit_1 : decode cX3_isUnit 1 = .ok (.bipush 100, 2) := by decide +kernel
theorem dX3_isUnit_3 : decode cX3_isUnit 3 = .ok (.if_icmp .eq 21, 3) := by decide +kernel
theorem dX3_isUnit_6 : decode cX3_isUnit 6 = .ok (.iload_n 0, 1) := by decide +kernel
theorem dX3_isUnit_7 : decode cX3_isUnit 7 = .ok (.bipush 119, 2) := by decide +kernel
theorem dX3_isUnit_9 : decode cX3_isUnit 9 = .ok (.if_icmp .eq 15, 3) := by decide +kernel
theorem dX3_isUnit_12 : decode cX3_isUnit 12 = .ok (.iload_n 0, 1) := by decide +kernel
theorem dX3_isUnit_13 : decode cX3_isUnit 13 = .ok (.bipush 109, 2) := by decide +kernel
theorem dX3_isUnit_15 : decode cX3_isUnit 15 = .ok (.if_icmp .eq 9, 3) := by decide +kernel
theorem dX3_isUnit_18 : decode cX3_isUnit 18 = .ok (.iload_n 0, 1) := by decide +kernel
theorem dX3_isUnit_19 : decode cX3_isUnit 19 = .ok (.bipush 121, 2) := by decide +kernel
theorem dX3_isUnit_21 : decode cX3_isUnit 21 = .ok (.if_icmp .ne 7, 3) := by decide +kernel
theorem dX3_isUnit_24 : decode cX3_isUnit 24 = .ok (.iconst 1, 1) := by decide +kernel
theorem dX3_isUnit_25 : decode cX3_isUnit 25 = .ok (.goto 4, 3) := by decide +kernel
theorem dX3_isUnit_28 : decode cX3_isUnit 28 = .ok (.iconst 0, 1) := by decide +kernel
theorem dX3_isUnit_29 : decode cX3_isUnit 29 = .ok (.ireturn, 1) := by decide +kernel
set_option maxRecDepth 20000 in
theorem ggX3_moved_X3_byMonths : GoodIn wsX3_moved wsX3_byMonths := goodIn_r _ [7, 2, 8, 9, 10, 11, 12, 13, 6, 14, 15, 16, 17, 18, 19, 20, 21, 22, 23, 24, 25, 26, 27, 28, 29, 30, 31, 32, 33, 34, 35, 36, 37, 38, 39, 40, 41, 42, 43, 44, 45, 46, 47, 48, 49, 50, 51, 52, 53, 54, 55, 56, 57, 58] (by decide +kernel) (by decide +kernel)
set_option maxRecDepth 20000 in
theorem gX3_moved_X3_byMonths : GoodIn wsX3_moved (wsV RX3 137 RX3 yX3_byMonths wsX3_byMonths) := goodIn_app (goodIn_of _ (by decide +kernel)) ggX3_moved_X3_byMonths
theorem dX3_moved_0 : decode cX3_moved 0 = .ok (.iload_n 3, 1) := by decide +kernel
theorem dX3_moved_1 : decode cX3_moved 1 = .ok (.bipush 100, 2) := by decide +kernel
theorem dX3_moved_3 : decode cX3_moved 3 = .ok (.if_icmp .ne 10, 3) := by decide +kernel
theorem dX3_moved_6 : decode cX3_moved 6 = .ok (.lload_n 1, 1) := by decide +kernel
theorem dX3_moved_7 : decode cX3_moved 7 = .ok (.lload 4, 2) := by decide +kernel
theorem dX3_moved_9 : decode cX3_moved 9 = .ok (.ladd, 1) := by decide +kernel
theorem dX3_moved_10 : decode cX3_moved 10 = .ok (.goto 42, 3) := by decide +kernel
theorem dX3_moved_13 : decode cX3_moved 13 = .ok (.iload_n 3, 1) := by decide +kernel
theorem dX3_moved_14 : decode cX3_moved 14 = .ok (.bipush 119, 2) := by decide +kernel
theorem dX3_moved_16 : decode cX3_moved 16 = .ok (.if_icmp .ne 14, 3) := by decide +kernel
theorem dX3_moved_19 : decode cX3_moved 19 = .ok (.lload_n 1, 1) := by decide +kernel
theorem dX3_moved_20 : decode cX3_moved 20 = .ok (.ldc2_w 111, 3) := by decide +kernel
theorem dX3_moved_23 : decode cX3_moved 23 = .ok (.lload 4, 2) := by decide +kernel
theorem dX3_moved_25 : decode cX3_moved 25 = .ok (.lmul, 1) := by decide +kernel
theorem dX3_moved_26 : decode cX3_moved 26 = .ok (.ladd, 1) := by decide +kernel
theorem dX3_moved_27 : decode cX3_moved 27 = .ok (.goto 25, 3) := by decide +kernel
theorem dX3_moved_30 : decode cX3_moved 30 = .ok (.aload_n 0, 1) := by decide +kernel
theorem dX3_moved_31 : decode cX3_moved 31 = .ok (.lload_n 1, 1) := by decide +kernel
theorem dX3_moved_32 : decode cX3_moved 32 = .ok (.iload_n 3, 1) := by decide +kernel
theorem dX3_moved_33 : decode cX3_moved 33 = .ok (.bipush 109, 2) := by decide +kernel
theorem dX3_moved_35 : decode cX3_moved 35 = .ok (.if_icmp .ne 8, 3) := by decide +kernel
theorem dX3_moved_38 : decode cX3_moved 38 = .ok (.lload 4, 2) := by decide +kernel
theorem dX3_moved_40 : decode cX3_moved 40 = .ok (.goto 9, 3) := by decide +kernel
theorem dX3_moved_43 : decode cX3_moved 43 = .ok (.ldc2_w 113, 3) := by decide +kernel
theorem dX3_moved_46 : decode cX3_moved 46 = .ok (.lload 4, 2) := by decide +kernel
theorem dX3_moved_48 : decode cX3_moved 48 = .ok (.lmul, 1) := by decide +kernel
theorem dX3_moved_49 : decode cX3_moved 49 = .ok (.invokevirtual 137, 3) := by decide +kernel
theorem dX3_moved_52 : decode cX3_moved 52 = .ok (.lreturn, 1) := by decide +kernel
set_option maxRecDepth 20000 in
theorem ggX3_move_X3_isDate : GoodIn wsX3_move wsX3_isDate := goodIn_r _ [7, 8, 9, 10, 6, 11] (by decide +kernel) (by decide +kernel)
set_option maxRecDepth 20000 in
theorem gX3_move_X3_isDate : GoodIn wsX3_move (va_wsS RX3 121 yX3_isDate wsX3_isDate) := goodIn_app (goodIn_of _ (by decide +kernel)) ggX3_move_X3_isDate
set_option maxRecDepth 20000 in
theorem ggX3_move_X3_isUnit : GoodIn wsX3_move wsX3_isUnit := goodIn_r _ [14] (by decide +kernel) (by decide +kernel)
set_option maxRecDepth 20000 in
theorem gX3_move_X3_isUnit : GoodIn wsX3_move (va_wsS RX3 140 yX3_isUnit wsX3_isUnit) := goodIn_app (goodIn_of _ (by decide +kernel)) ggX3_move_X3_isUnit
set_option maxRecDepth 20000 in
theorem ggX3_move_X3_in : GoodIn wsX3_move wsX3_in := goodIn_r _ [11] (by decide +kernel) (by decide +kernel)
set_option maxRecDepth 20000 in
theorem gX3_move_X3_in : GoodIn wsX3_move (va_wsS RX3 100 yX3_in wsX3_in) := goodIn_app (goodIn_of _ (by decide +kernel)) ggX3_move_X3_in
set_option maxRecDepth 20000 in
theorem ggX3_move_X3_fails : GoodIn wsX3_move wsX3_fails := goodIn_r _ [18, 19, 80, 81, 82, 83, 84, 85, 86, 87, 88, 89, 90, 91, 92, 93] (by decide +kernel) (by decide +kernel)
set_option maxRecDepth 20000 in
theorem gX3_move_X3_fails : GoodIn wsX3_move (wsV RX3 125 RX3 yX3_fails wsX3_fails) := goodIn_app (goodIn_of _ (by decide +kernel)) ggX3_move_X3_fails
set_option maxRecDepth 20000 in
theorem ggX3_move_X3_moved : GoodIn wsX3_move wsX3_moved := goodIn_r _ [23, 24, 25, 26, 27, 28, 6, 29, 30, 31, 32, 33, 34, 35, 36, 37, 38, 39, 40, 41, 42, 43, 44, 45, 46, 47, 48, 49, 50, 51, 52, 53, 54, 55, 56, 57, 58, 59, 60, 61, 62, 63, 64, 65, 66, 80, 81, 82, 83, 84, 85, 86, 87, 88, 89, 90, 91, 92, 93] (by decide +kernel) (by decide +kernel)
set_option maxRecDepth 20000 in
theorem gX3_move_X3_moved : GoodIn wsX3_move (wsV RX3 148 RX3 yX3_moved wsX3_moved) := goodIn_app (goodIn_of _ (by decide +kernel)) ggX3_move_X3_moved
set_option maxRecDepth 20000 in
theorem ggX3_move_X3_becomes : GoodIn wsX3_move wsX3_becomes := goodIn_ca (goodIn_r _ [70, 3, 71, 72, 73, 6, 74, 30, 33, 34, 35, 36, 37, 38, 39, 31, 32, 40, 41, 42, 43, 44, 45, 46, 47, 48, 49, 50, 51, 52, 53, 54, 55, 56, 57, 58, 59, 60, 61, 62, 63, 75, 76, 77, 78, 79, 9, 10, 11, 15, 16, 17, 18, 19, 80, 81, 82, 83, 84, 85, 86, 87, 88, 89, 90, 91, 92, 93] (by decide +kernel) (by decide +kernel)) (goodIn_sub (fun _ h => List.mem_cons_of_mem _ (List.mem_append_right _ h)) (by decide +kernel))
set_option maxRecDepth 20000 in
theorem gX3_move_X3_becomes : GoodIn wsX3_move (wsV RX3 152 RX3 yX3_becomes wsX3_becomes) := goodIn_app (goodIn_of _ (by decide +kernel)) ggX3_move_X3_becomes
theorem dX3_move_0 : decode cX3_move 0 = .ok (.aload_n 0, 1) := by decide +kernel
theorem dX3_move_1 : decode cX3_move 1 = .ok (.iload_n 1, 1) := by decide +kernel
theorem dX3_move_2 : decode cX3_move 2 = .ok (.invokestatic 121, 3) := by decide +kernel
theorem dX3_move_5 : decode cX3_move 5 = .ok (.ifCond .eq 11, 3) := by decide +kernel
theorem dX3_move_8 : decode cX3_move 8 = .ok (.iload 4, 2) := by decide +kernel
theorem dX3_move_10 : decode cX3_move 10 = .ok (.invokestatic 121, 3) := by decide +kernel
theorem dX3_move_13 : decode cX3_move 13 = .ok (.ifCond .ne 7, 3) := by decide +kernel
theorem dX3_move_16 : decode cX3_move 16 = .ok (.iconst 1, 1) := by decide +kernel
theorem dX3_move_17 : decode cX3_move 17 = .ok (.goto 29, 3) := by decide +kernel
theorem dX3_move_20 : decode cX3_move 20 = .ok (.iload_n 2, 1) := by decide +kernel
theorem dX3_move_21 : decode cX3_move 21 = .ok (.invokestatic 140, 3) := by decide +kernel
theorem dX3_move_24 : decode cX3_move 24 = .ok (.ifCond .eq 21, 3) := by decide +kernel
theorem dX3_move_27 : decode cX3_move 27 = .ok (.iload_n 3, 1) := by decide +kernel
theorem dX3_move_28 : decode cX3_move 28 = .ok (.i2l, 1) := by decide +kernel
theorem dX3_move_29 : decode cX3_move 29 = .ok (.ldc2_w 144, 3) := by decide +kernel
theorem dX3_move_32 : decode cX3_move 32 = .ok (.ldc2_w 146, 3) := by decide +kernel
theorem dX3_move_35 : decode cX3_move 35 = .ok (.invokestatic 100, 3) := by decide +kernel
theorem dX3_move_38 : decode cX3_move 38 = .ok (.ifCond .eq 7, 3) := by decide +kernel
theorem dX3_move_41 : decode cX3_move 41 = .ok (.iconst 0, 1) := by decide +kernel
theorem dX3_move_42 : decode cX3_move 42 = .ok (.goto 4, 3) := by decide +kernel
theorem dX3_move_45 : decode cX3_move 45 = .ok (.iconst 2, 1) := by decide +kernel
theorem dX3_move_46 : decode cX3_move 46 = .ok (.invokevirtual 125, 3) := by decide +kernel
theorem dX3_move_49 : decode cX3_move 49 = .ok (.ifCond .eq 5, 3) := by decide +kernel
theorem dX3_move_52 : decode cX3_move 52 = .ok (.lconst 0, 1) := by decide +kernel
theorem dX3_move_53 : decode cX3_move 53 = .ok (.lreturn, 1) := by decide +kernel
theorem dX3_move_54 : decode cX3_move 54 = .ok (.aload_n 0, 1) := by decide +kernel
theorem dX3_move_55 : decode cX3_move 55 = .ok (.iload 4, 2) := by decide +kernel
theorem dX3_move_57 : decode cX3_move 57 = .ok (.aload_n 0, 1) := by decide +kernel
theorem dX3_move_58 : decode cX3_move 58 = .ok (.aload_n 0, 1) := by decide +kernel
theorem dX3_move_59 : decode cX3_move 59 = .ok (.getfield 13, 3) := by decide +kernel
theorem dX3_move_62 : decode cX3_move 62 = .ok (.iload_n 1, 1) := by decide +kernel
theorem dX3_move_63 : decode cX3_move 63 = .ok (.laload, 1) := by decide +kernel
theorem dX3_move_64 : decode cX3_move 64 = .ok (.iload_n 2, 1) := by decide +kernel
theorem dX3_move_65 : decode cX3_move 65 = .ok (.iload_n 3, 1) := by decide +kernel
theorem dX3_move_66 : decode cX3_move 66 = .ok (.i2l, 1) := by decide +kernel
theorem dX3_move_67 : decode cX3_move 67 = .ok (.invokevirtual 148, 3) := by decide +kernel
theorem dX3_move_70 : decode cX3_move 70 = .ok (.iconst 3, 1) := by decide +kernel
theorem dX3_move_71 : decode cX3_move 71 = .ok (.invokevirtual 152, 3) := by decide +kernel
theorem dX3_move_74 : decode cX3_move 74 = .ok (.lreturn, 1) := by decide +kernel
set_option maxRecDepth 20000 in
theorem ggX3_with_X3_isDate : GoodIn wsX3_with wsX3_isDate := goodIn_r _ [9, 10, 11, 12, 8, 13] (by decide +kernel) (by decide +kernel)
set_option maxRecDepth 20000 in
theorem gX3_with_X3_isDate : GoodIn wsX3_with (va_wsS RX3 121 yX3_isDate wsX3_isDate) := goodIn_app (goodIn_of _ (by decide +kernel)) ggX3_with_X3_isDate
set_option maxRecDepth 20000 in
theorem ggX3_with_X3_fails : GoodIn wsX3_with wsX3_fails := goodIn_r _ [17, 18, 66, 67, 68, 69, 70, 71, 72, 73, 74, 75, 76, 77, 78, 79] (by decide +kernel) (by decide +kernel)
set_option maxRecDepth 20000 in
theorem gX3_with_X3_fails : GoodIn wsX3_with (wsV RX3 125 RX3 yX3_fails wsX3_fails) := goodIn_app (goodIn_of _ (by decide +kernel)) ggX3_with_X3_fails
set_option maxRecDepth 20000 in
theorem ggX3_with_X3_parts : GoodIn wsX3_with wsX3_parts := goodIn_r _ [22, 23, 24, 25, 2, 3, 5, 26, 27, 8, 28, 29, 30, 31, 32, 33, 34, 35, 36, 37, 38, 39, 40, 41, 42, 43, 44, 45, 46, 47, 48, 49, 66, 67, 68, 69, 70, 71, 72, 73, 74, 75, 76, 77, 78, 79] (by decide +kernel) (by decide +kernel)
set_option maxRecDepth 20000 in
theorem gX3_with_X3_parts : GoodIn wsX3_with (wsV RX3 104 RX3 yX3_parts wsX3_parts) := goodIn_app (goodIn_of _ (by decide +kernel)) ggX3_with_X3_parts
set_option maxRecDepth 20000 in
theorem ggX3_with_X3_isLong : GoodIn wsX3_with wsX3_isLong := goodIn_r _ [46, 37, 39, 24, 47, 48, 8, 49, 26, 27, 28] (by decide +kernel) (by decide +kernel)
set_option maxRecDepth 20000 in
theorem gX3_with_X3_isLong : GoodIn wsX3_with (va_wsS RX3 73 yX3_isLong wsX3_isLong) := goodIn_app (goodIn_of _ (by decide +kernel)) ggX3_with_X3_isLong
set_option maxRecDepth 20000 in
theorem ggX3_with_X3_many : GoodIn wsX3_with wsX3_many := goodIn_r _ [43, 44, 45, 8, 46, 37, 39, 24, 47, 48, 49, 26, 27, 28] (by decide +kernel) (by decide +kernel)
set_option maxRecDepth 20000 in
theorem gX3_with_X3_many : GoodIn wsX3_with (va_wsS RX3 80 yX3_many wsX3_many) := goodIn_app (goodIn_of _ (by decide +kernel)) ggX3_with_X3_many
set_option maxRecDepth 20000 in
theorem ggX3_with_X3_in : GoodIn wsX3_with wsX3_in := goodIn_r _ [13] (by decide +kernel) (by decide +kernel)
set_option maxRecDepth 20000 in
theorem gX3_with_X3_in : GoodIn wsX3_with (va_wsS RX3 100 yX3_in wsX3_in) := goodIn_app (goodIn_of _ (by decide +kernel)) ggX3_with_X3_in
set_option maxRecDepth 20000 in
theorem ggX3_with_X3_isYear : GoodIn wsX3_with wsX3_isYear := goodIn_r _ [52, 53, 54, 11, 12, 8, 13] (by decide +kernel) (by decide +kernel)
set_option maxRecDepth 20000 in
theorem gX3_with_X3_isYear : GoodIn wsX3_with (va_wsS RX3 108 yX3_isYear wsX3_isYear) := goodIn_app (goodIn_of _ (by decide +kernel)) ggX3_with_X3_isYear
set_option maxRecDepth 20000 in
theorem ggX3_with_X3_number : GoodIn wsX3_with wsX3_number := goodIn_r _ [57, 29, 30, 8, 31, 23, 32, 33, 34, 35, 36, 37, 38, 39, 40, 24, 26, 27, 28, 41, 42, 43, 44, 45, 46, 47, 48, 49] (by decide +kernel) (by decide +kernel)
set_option maxRecDepth 20000 in
theorem gX3_with_X3_number : GoodIn wsX3_with (va_wsS RX3 115 yX3_number wsX3_number) := goodIn_app (goodIn_of _ (by decide +kernel)) ggX3_with_X3_number
set_option maxRecDepth 20000 in
theorem ggX3_with_X3_first : GoodIn wsX3_with wsX3_first := goodIn_r _ [31, 23, 32, 33, 8, 34, 35, 36, 37, 38, 39, 40, 24, 26, 27, 28] (by decide +kernel) (by decide +kernel)
set_option maxRecDepth 20000 in
theorem gX3_with_X3_first : GoodIn wsX3_with (va_wsS RX3 77 yX3_first wsX3_first) := goodIn_app (goodIn_of _ (by decide +kernel)) ggX3_with_X3_first
set_option maxRecDepth 20000 in
theorem ggX3_with_X3_becomes : GoodIn wsX3_with wsX3_becomes := goodIn_ca (goodIn_r _ [61, 1, 62, 63, 64, 8, 65, 2, 19, 20, 21, 22, 23, 24, 25, 3, 5, 26, 27, 28, 29, 30, 31, 32, 33, 34, 35, 36, 37, 38, 39, 40, 41, 42, 43, 44, 45, 46, 47, 48, 49, 50, 51, 52, 53, 54, 11, 12, 13, 14, 15, 16, 17, 18, 66, 67, 68, 69, 70, 71, 72, 73, 74, 75, 76, 77, 78, 79] (by decide +kernel) (by decide +kernel)) (goodIn_sub (fun _ h => List.mem_cons_of_mem _ (List.mem_append_right _ h)) (by decide +kernel))
set_option maxRecDepth 20000 in
theorem gX3_with_X3_becomes : GoodIn wsX3_with (wsV RX3 152 RX3 yX3_becomes wsX3_becomes) := goodIn_app (goodIn_of _ (by decide +kernel)) ggX3_with_X3_becomes
theorem dX3_with_0 : decode cX3_with 0 = .ok (.aload_n 0, 1) := by decide +kernel
theorem dX3_with_1 : decode cX3_with 1 = .ok (.iload_n 1, 1) := by decide +kernel
theorem dX3_with_2 : decode cX3_with 2 = .ok (.invokestatic 121, 3) := by decide +kernel
theorem dX3_with_5 : decode cX3_with 5 = .ok (.ifCond .eq 11, 3) := by decide +kernel
theorem dX3_with_8 : decode cX3_with 8 = .ok (.iload 4, 2) := by decide +kernel
theorem dX3_with_10 : decode cX3_with 10 = .ok (.invokestatic 121, 3) := by decide +kernel
theorem dX3_with_13 : decode cX3_with 13 = .ok (.ifCond .ne 7, 3) := by decide +kernel
theorem dX3_with_16 : decode cX3_with 16 = .ok (.iconst 1, 1) := by decide +kernel
theorem dX3_with_17 : decode cX3_with 17 = .ok (.goto 32, 3) := by decide +kernel
theorem dX3_with_20 : decode cX3_with 20 = .ok (.iload_n 2, 1) := by decide +kernel
theorem dX3_with_21 : decode cX3_with 21 = .ok (.bipush 100, 2) := by decide +kernel
theorem dX3_with_23 : decode cX3_with 23 = .ok (.if_icmp .eq 21, 3) := by decide +kernel
theorem dX3_with_26 : decode cX3_with 26 = .ok (.iload_n 2, 1) := by decide +kernel
theorem dX3_with_27 : decode cX3_with 27 = .ok (.bipush 110, 2) := by decide +kernel
theorem dX3_with_29 : decode cX3_with 29 = .ok (.if_icmp .eq 15, 3) := by decide +kernel
theorem dX3_with_32 : decode cX3_with 32 = .ok (.iload_n 2, 1) := by decide +kernel
theorem dX3_with_33 : decode cX3_with 33 = .ok (.bipush 109, 2) := by decide +kernel
theorem dX3_with_35 : decode cX3_with 35 = .ok (.if_icmp .eq 9, 3) := by decide +kernel
theorem dX3_with_38 : decode cX3_with 38 = .ok (.iload_n 2, 1) := by decide +kernel
theorem dX3_with_39 : decode cX3_with 39 = .ok (.bipush 121, 2) := by decide +kernel
theorem dX3_with_41 : decode cX3_with 41 = .ok (.if_icmp .ne 7, 3) := by decide +kernel
theorem dX3_with_44 : decode cX3_with 44 = .ok (.iconst 0, 1) := by decide +kernel
theorem dX3_with_45 : decode cX3_with 45 = .ok (.goto 4, 3) := by decide +kernel
theorem dX3_with_48 : decode cX3_with 48 = .ok (.iconst 2, 1) := by decide +kernel
theorem dX3_with_49 : decode cX3_with 49 = .ok (.invokevirtual 125, 3) := by decide +kernel
theorem dX3_with_52 : decode cX3_with 52 = .ok (.ifCond .eq 5, 3) := by decide +kernel
theorem dX3_with_55 : decode cX3_with 55 = .ok (.lconst 0, 1) := by decide +kernel
theorem dX3_with_56 : decode cX3_with 56 = .ok (.lreturn, 1) := by decide +kernel
theorem dX3_with_57 : decode cX3_with 57 = .ok (.aload_n 0, 1) := by decide +kernel
theorem dX3_with_58 : decode cX3_with 58 = .ok (.aload_n 0, 1) := by decide +kernel
theorem dX3_with_59 : decode cX3_with 59 = .ok (.getfield 13, 3) := by decide +kernel
theorem dX3_with_62 : decode cX3_with 62 = .ok (.iload_n 1, 1) := by decide +kernel
theorem dX3_with_63 : decode cX3_with 63 = .ok (.laload, 1) := by decide +kernel
theorem dX3_with_64 : decode cX3_with 64 = .ok (.invokevirtual 104, 3) := by decide +kernel
theorem dX3_with_67 : decode cX3_with 67 = .ok (.aload_n 0, 1) := by decide +kernel
theorem dX3_with_68 : decode cX3_with 68 = .ok (.getfield 86, 3) := by decide +kernel
theorem dX3_with_71 : decode cX3_with 71 = .ok (.invokestatic 73, 3) := by decide +kernel
theorem dX3_with_74 : decode cX3_with 74 = .ok (.ifCond .eq 9, 3) := by decide +kernel
theorem dX3_with_77 : decode cX3_with 77 = .ok (.sipush 366, 3) := by decide +kernel
theorem dX3_with_80 : decode cX3_with 80 = .ok (.goto 6, 3) := by decide +kernel
theorem dX3_with_83 : decode cX3_with 83 = .ok (.sipush 365, 3) := by decide +kernel
theorem dX3_with_86 : decode cX3_with 86 = .ok (.istore 5, 2) := by decide +kernel
theorem dX3_with_88 : decode cX3_with 88 = .ok (.aload_n 0, 1) := by decide +kernel
theorem dX3_with_89 : decode cX3_with 89 = .ok (.iload_n 2, 1) := by decide +kernel
theorem dX3_with_90 : decode cX3_with 90 = .ok (.bipush 100, 2) := by decide +kernel
theorem dX3_with_92 : decode cX3_with 92 = .ok (.if_icmp .ne 24, 3) := by decide +kernel
theorem dX3_with_95 : decode cX3_with 95 = .ok (.iload_n 3, 1) := by decide +kernel
theorem dX3_with_96 : decode cX3_with 96 = .ok (.i2l, 1) := by decide +kernel
theorem dX3_with_97 : decode cX3_with 97 = .ok (.lconst 1, 1) := by decide +kernel
theorem dX3_with_98 : decode cX3_with 98 = .ok (.aload_n 0, 1) := by decide +kernel
theorem dX3_with_99 : decode cX3_with 99 = .ok (.getfield 86, 3) := by decide +kernel
theorem dX3_with_102 : decode cX3_with 102 = .ok (.aload_n 0, 1) := by decide +kernel
theorem dX3_with_103 : decode cX3_with 103 = .ok (.getfield 90, 3) := by decide +kernel
theorem dX3_with_106 : decode cX3_with 106 = .ok (.invokestatic 80, 3) := by decide +kernel
theorem dX3_with_109 : decode cX3_with 109 = .ok (.i2l, 1) := by decide +kernel
theorem dX3_with_110 : decode cX3_with 110 = .ok (.invokestatic 100, 3) := by decide +kernel
theorem dX3_with_113 : decode cX3_with 113 = .ok (.ifCond .eq 53, 3) := by decide +kernel
theorem dX3_with_116 : decode cX3_with 116 = .ok (.iload_n 2, 1) := by decide +kernel
theorem dX3_with_117 : decode cX3_with 117 = .ok (.bipush 110, 2) := by decide +kernel
theorem dX3_with_119 : decode cX3_with 119 = .ok (.if_icmp .ne 15, 3) := by decide +kernel
theorem dX3_with_122 : decode cX3_with 122 = .ok (.iload_n 3, 1) := by decide +kernel
theorem dX3_with_123 : decode cX3_with 123 = .ok (.i2l, 1) := by decide +kernel
theorem dX3_with_124 : decode cX3_with 124 = .ok (.lconst 1, 1) := by decide +kernel
theorem dX3_with_125 : decode cX3_with 125 = .ok (.iload 5, 2) := by decide +kernel
theorem dX3_with_127 : decode cX3_with 127 = .ok (.i2l, 1) := by decide +kernel
theorem dX3_with_128 : decode cX3_with 128 = .ok (.invokestatic 100, 3) := by decide +kernel
theorem dX3_with_131 : decode cX3_with 131 = .ok (.ifCond .eq 35, 3) := by decide +kernel
theorem dX3_with_134 : decode cX3_with 134 = .ok (.iload_n 2, 1) := by decide +kernel
theorem dX3_with_135 : decode cX3_with 135 = .ok (.bipush 109, 2) := by decide +kernel
theorem dX3_with_137 : decode cX3_with 137 = .ok (.if_icmp .ne 15, 3) := by decide +kernel
theorem dX3_with_140 : decode cX3_with 140 = .ok (.iload_n 3, 1) := by decide +kernel
theorem dX3_with_141 : decode cX3_with 141 = .ok (.i2l, 1) := by decide +kernel
theorem dX3_with_142 : decode cX3_with 142 = .ok (.lconst 1, 1) := by decide +kernel
theorem dX3_with_143 : decode cX3_with 143 = .ok (.ldc2_w 113, 3) := by decide +kernel
theorem dX3_with_146 : decode cX3_with 146 = .ok (.invokestatic 100, 3) := by decide +kernel
theorem dX3_with_149 : decode cX3_with 149 = .ok (.ifCond .eq 17, 3) := by decide +kernel
theorem dX3_with_152 : decode cX3_with 152 = .ok (.iload_n 2, 1) := by decide +kernel
theorem dX3_with_153 : decode cX3_with 153 = .ok (.bipush 121, 2) := by decide +kernel
theorem dX3_with_155 : decode cX3_with 155 = .ok (.if_icmp .ne 15, 3) := by decide +kernel
theorem dX3_with_158 : decode cX3_with 158 = .ok (.iload_n 3, 1) := by decide +kernel
theorem dX3_with_159 : decode cX3_with 159 = .ok (.i2l, 1) := by decide +kernel
theorem dX3_with_160 : decode cX3_with 160 = .ok (.invokestatic 108, 3) := by decide +kernel
theorem dX3_with_163 : decode cX3_with 163 = .ok (.ifCond .ne 7, 3) := by decide +kernel
theorem dX3_with_166 : decode cX3_with 166 = .ok (.iconst 2, 1) := by decide +kernel
theorem dX3_with_167 : decode cX3_with 167 = .ok (.goto 4, 3) := by decide +kernel
theorem dX3_with_170 : decode cX3_with 170 = .ok (.iconst 0, 1) := by decide +kernel
theorem dX3_with_171 : decode cX3_with 171 = .ok (.invokevirtual 125, 3) := by decide +kernel
theorem dX3_with_174 : decode cX3_with 174 = .ok (.ifCond .eq 5, 3) := by decide +kernel
theorem dX3_with_177 : decode cX3_with 177 = .ok (.lconst 0, 1) := by decide +kernel
theorem dX3_with_178 : decode cX3_with 178 = .ok (.lreturn, 1) := by decide +kernel
theorem dX3_with_179 : decode cX3_with 179 = .ok (.iload_n 2, 1) := by decide +kernel
theorem dX3_with_180 : decode cX3_with 180 = .ok (.bipush 100, 2) := by decide +kernel
theorem dX3_with_182 : decode cX3_with 182 = .ok (.if_icmp .ne 20, 3) := by decide +kernel
theorem dX3_with_185 : decode cX3_with 185 = .ok (.aload_n 0, 1) := by decide +kernel
theorem dX3_with_186 : decode cX3_with 186 = .ok (.getfield 86, 3) := by decide +kernel
theorem dX3_with_189 : decode cX3_with 189 = .ok (.aload_n 0, 1) := by decide +kernel
theorem dX3_with_190 : decode cX3_with 190 = .ok (.getfield 90, 3) := by decide +kernel
theorem dX3_with_193 : decode cX3_with 193 = .ok (.iload_n 3, 1) := by decide +kernel
theorem dX3_with_194 : decode cX3_with 194 = .ok (.invokestatic 115, 3) := by decide +kernel
theorem dX3_with_197 : decode cX3_with 197 = .ok (.lstore 6, 2) := by decide +kernel
theorem dX3_with_199 : decode cX3_with 199 = .ok (.goto 118, 3) := by decide +kernel
theorem dX3_with_202 : decode cX3_with 202 = .ok (.iload_n 2, 1) := by decide +kernel
theorem dX3_with_203 : decode cX3_with 203 = .ok (.bipush 110, 2) := by decide +kernel
theorem dX3_with_205 : decode cX3_with 205 = .ok (.if_icmp .ne 20, 3) := by decide +kernel
theorem dX3_with_208 : decode cX3_with 208 = .ok (.aload_n 0, 1) := by decide +kernel
theorem dX3_with_209 : decode cX3_with 209 = .ok (.getfield 86, 3) := by decide +kernel
theorem dX3_with_212 : decode cX3_with 212 = .ok (.invokestatic 77, 3) := by decide +kernel
theorem dX3_with_215 : decode cX3_with 215 = .ok (.iload_n 3, 1) := by decide +kernel
theorem dX3_with_216 : decode cX3_with 216 = .ok (.i2l, 1) := by decide +kernel
theorem dX3_with_217 : decode cX3_with 217 = .ok (.ladd, 1) := by decide +kernel
theorem dX3_with_218 : decode cX3_with 218 = .ok (.lconst 1, 1) := by decide +kernel
theorem dX3_with_219 : decode cX3_with 219 = .ok (.lsub, 1) := by decide +kernel
theorem dX3_with_220 : decode cX3_with 220 = .ok (.lstore 6, 2) := by decide +kernel
theorem dX3_with_222 : decode cX3_with 222 = .ok (.goto 95, 3) := by decide +kernel
theorem dX3_with_225 : decode cX3_with 225 = .ok (.iload_n 2, 1) := by decide +kernel
theorem dX3_with_226 : decode cX3_with 226 = .ok (.bipush 109, 2) := by decide +kernel
theorem dX3_with_228 : decode cX3_with 228 = .ok (.if_icmp .ne 46, 3) := by decide +kernel
theorem dX3_with_231 : decode cX3_with 231 = .ok (.aload_n 0, 1) := by decide +kernel
theorem dX3_with_232 : decode cX3_with 232 = .ok (.getfield 86, 3) := by decide +kernel
theorem dX3_with_235 : decode cX3_with 235 = .ok (.iload_n 3, 1) := by decide +kernel
theorem dX3_with_236 : decode cX3_with 236 = .ok (.aload_n 0, 1) := by decide +kernel
theorem dX3_with_237 : decode cX3_with 237 = .ok (.getfield 93, 3) := by decide +kernel
theorem dX3_with_240 : decode cX3_with 240 = .ok (.aload_n 0, 1) := by decide +kernel
theorem dX3_with_241 : decode cX3_with 241 = .ok (.getfield 86, 3) := by decide +kernel
theorem dX3_with_244 : decode cX3_with 244 = .ok (.iload_n 3, 1) := by decide +kernel
theorem dX3_with_245 : decode cX3_with 245 = .ok (.invokestatic 80, 3) := by decide +kernel
theorem dX3_with_248 : decode cX3_with 248 = .ok (.if_icmp .le 14, 3) := by decide +kernel
theorem dX3_with_251 : decode cX3_with 251 = .ok (.aload_n 0, 1) := by decide +kernel
theorem dX3_with_252 : decode cX3_with 252 = .ok (.getfield 86, 3) := by decide +kernel
theorem dX3_with_255 : decode cX3_with 255 = .ok (.iload_n 3, 1) := by decide +kernel
theorem dX3_with_256 : decode cX3_with 256 = .ok (.invokestatic 80, 3) := by decide +kernel
theorem dX3_with_259 : decode cX3_with 259 = .ok (.goto 7, 3) := by decide +kernel
theorem dX3_with_262 : decode cX3_with 262 = .ok (.aload_n 0, 1) := by decide +kernel
theorem dX3_with_263 : decode cX3_with 263 = .ok (.getfield 93, 3) := by decide +kernel
theorem dX3_with_266 : decode cX3_with 266 = .ok (.invokestatic 115, 3) := by decide +kernel
theorem dX3_with_269 : decode cX3_with 269 = .ok (.lstore 6, 2) := by decide +kernel
theorem dX3_with_271 : decode cX3_with 271 = .ok (.goto 46, 3) := by decide +kernel
theorem dX3_with_274 : decode cX3_with 274 = .ok (.iload_n 3, 1) := by decide +kernel
theorem dX3_with_275 : decode cX3_with 275 = .ok (.i2l, 1) := by decide +kernel
theorem dX3_with_276 : decode cX3_with 276 = .ok (.aload_n 0, 1) := by decide +kernel
theorem dX3_with_277 : decode cX3_with 277 = .ok (.getfield 90, 3) := by decide +kernel
theorem dX3_with_280 : decode cX3_with 280 = .ok (.aload_n 0, 1) := by decide +kernel
theorem dX3_with_281 : decode cX3_with 281 = .ok (.getfield 93, 3) := by decide +kernel
theorem dX3_with_284 : decode cX3_with 284 = .ok (.iload_n 3, 1) := by decide +kernel
theorem dX3_with_285 : decode cX3_with 285 = .ok (.i2l, 1) := by decide +kernel
theorem dX3_with_286 : decode cX3_with 286 = .ok (.aload_n 0, 1) := by decide +kernel
theorem dX3_with_287 : decode cX3_with 287 = .ok (.getfield 90, 3) := by decide +kernel
theorem dX3_with_290 : decode cX3_with 290 = .ok (.invokestatic 80, 3) := by decide +kernel
theorem dX3_with_293 : decode cX3_with 293 = .ok (.if_icmp .le 15, 3) := by decide +kernel
theorem dX3_with_296 : decode cX3_with 296 = .ok (.iload_n 3, 1) := by decide +kernel
theorem dX3_with_297 : decode cX3_with 297 = .ok (.i2l, 1) := by decide +kernel
theorem dX3_with_298 : decode cX3_with 298 = .ok (.aload_n 0, 1) := by decide +kernel
theorem dX3_with_299 : decode cX3_with 299 = .ok (.getfield 90, 3) := by decide +kernel
theorem dX3_with_302 : decode cX3_with 302 = .ok (.invokestatic 80, 3) := by decide +kernel
theorem dX3_with_305 : decode cX3_with 305 = .ok (.goto 7, 3) := by decide +kernel
theorem dX3_with_308 : decode cX3_with 308 = .ok (.aload_n 0, 1) := by decide +kernel
theorem dX3_with_309 : decode cX3_with 309 = .ok (.getfield 93, 3) := by decide +kernel
theorem dX3_with_312 : decode cX3_with 312 = .ok (.invokestatic 115, 3) := by decide +kernel
theorem dX3_with_315 : decode cX3_with 315 = .ok (.lstore 6, 2) := by decide +kernel
theorem dX3_with_317 : decode cX3_with 317 = .ok (.aload_n 0, 1) := by decide +kernel
theorem dX3_with_318 : decode cX3_with 318 = .ok (.iload 4, 2) := by decide +kernel
theorem dX3_with_320 : decode cX3_with 320 = .ok (.lload 6, 2) := by decide +kernel
theorem dX3_with_322 : decode cX3_with 322 = .ok (.iconst 3, 1) := by decide +kernel
theorem dX3_with_323 : decode cX3_with 323 = .ok (.invokevirtual 152, 3) := by decide +kernel
theorem dX3_with_326 : decode cX3_with 326 = .ok (.lreturn, 1) := by decide +kernel
set_option maxRecDepth 20000 in
theorem ggX3_adjust_X3_isDate : GoodIn wsX3_adjust wsX3_isDate := goodIn_r _ [7, 8, 9, 10, 6, 11] (by decide +kernel) (by decide +kernel)
set_option maxRecDepth 20000 in
theorem gX3_adjust_X3_isDate : GoodIn wsX3_adjust (va_wsS RX3 121 yX3_isDate wsX3_isDate) := goodIn_app (goodIn_of _ (by decide +kernel)) ggX3_adjust_X3_isDate
set_option maxRecDepth 20000 in
theorem ggX3_adjust_X3_fails : GoodIn wsX3_adjust wsX3_fails := goodIn_r _ [15, 16, 65, 66, 67, 68, 69, 70, 71, 72, 73, 74, 75, 76, 77, 78] (by decide +kernel) (by decide +kernel)
set_option maxRecDepth 20000 in
theorem gX3_adjust_X3_fails : GoodIn wsX3_adjust (wsV RX3 125 RX3 yX3_fails wsX3_fails) := goodIn_app (goodIn_of _ (by decide +kernel)) ggX3_adjust_X3_fails
set_option maxRecDepth 20000 in
theorem ggX3_adjust_X3_parts : GoodIn wsX3_adjust wsX3_parts := goodIn_r _ [20, 21, 22, 23, 2, 3, 24, 25, 26, 6, 27, 28, 29, 30, 31, 32, 33, 34, 35, 36, 37, 38, 39, 40, 41, 42, 43, 44, 45, 46, 47, 48, 65, 66, 67, 68, 69, 70, 71, 72, 73, 74, 75, 76, 77, 78] (by decide +kernel) (by decide +kernel)
set_option maxRecDepth 20000 in
theorem gX3_adjust_X3_parts : GoodIn wsX3_adjust (wsV RX3 104 RX3 yX3_parts wsX3_parts) := goodIn_app (goodIn_of _ (by decide +kernel)) ggX3_adjust_X3_parts
set_option maxRecDepth 20000 in
theorem ggX3_adjust_X3_number : GoodIn wsX3_adjust wsX3_number := goodIn_r _ [51, 28, 29, 6, 30, 21, 31, 32, 33, 34, 35, 36, 37, 38, 39, 22, 25, 26, 27, 40, 41, 42, 43, 44, 45, 46, 47, 48] (by decide +kernel) (by decide +kernel)
set_option maxRecDepth 20000 in
theorem gX3_adjust_X3_number : GoodIn wsX3_adjust (va_wsS RX3 115 yX3_number wsX3_number) := goodIn_app (goodIn_of _ (by decide +kernel)) ggX3_adjust_X3_number
set_option maxRecDepth 20000 in
theorem ggX3_adjust_X3_many : GoodIn wsX3_adjust wsX3_many := goodIn_r _ [42, 43, 44, 6, 45, 36, 38, 22, 46, 47, 48, 25, 26, 27] (by decide +kernel) (by decide +kernel)
set_option maxRecDepth 20000 in
theorem gX3_adjust_X3_many : GoodIn wsX3_adjust (va_wsS RX3 80 yX3_many wsX3_many) := goodIn_app (goodIn_of _ (by decide +kernel)) ggX3_adjust_X3_many
set_option maxRecDepth 20000 in
theorem ggX3_adjust_X3_first : GoodIn wsX3_adjust wsX3_first := goodIn_r _ [30, 21, 31, 32, 6, 33, 34, 35, 36, 37, 38, 39, 22, 25, 26, 27] (by decide +kernel) (by decide +kernel)
set_option maxRecDepth 20000 in
theorem gX3_adjust_X3_first : GoodIn wsX3_adjust (va_wsS RX3 77 yX3_first wsX3_first) := goodIn_app (goodIn_of _ (by decide +kernel)) ggX3_adjust_X3_first
set_option maxRecDepth 20000 in
theorem ggX3_adjust_X3_becomes : GoodIn wsX3_adjust wsX3_becomes := goodIn_ca (goodIn_r _ [55, 1, 56, 57, 58, 6, 59, 2, 17, 18, 19, 20, 21, 22, 23, 3, 24, 25, 26, 27, 28, 29, 30, 31, 32, 33, 34, 35, 36, 37, 38, 39, 40, 41, 42, 43, 44, 45, 46, 47, 48, 60, 61, 62, 63, 64, 9, 10, 11, 12, 13, 14, 15, 16, 65, 66, 67, 68, 69, 70, 71, 72, 73, 74, 75, 76, 77, 78] (by decide +kernel) (by decide +kernel)) (goodIn_sub (fun _ h => List.mem_cons_of_mem _ (List.mem_append_right _ h)) (by decide +kernel))
set_option maxRecDepth 20000 in
theorem gX3_adjust_X3_becomes : GoodIn wsX3_adjust (wsV RX3 152 RX3 yX3_becomes wsX3_becomes) := goodIn_app (goodIn_of _ (by decide +kernel)) ggX3_adjust_X3_becomes
theorem dX3_adjust_0 : decode cX3_adjust 0 = .ok (.aload_n 0, 1) := by decide +kernel
theorem dX3_adjust_1 : decode cX3_adjust 1 = .ok (.iload_n 1, 1) := by decide +kernel
theorem dX3_adjust_2 : decode cX3_adjust 2 = .ok (.invokestatic 121, 3) := by decide +kernel
theorem dX3_adjust_5 : decode cX3_adjust 5 = .ok (.ifCond .eq 10, 3) := by decide +kernel
theorem dX3_adjust_8 : decode cX3_adjust 8 = .ok (.iload_n 3, 1) := by decide +kernel
theorem dX3_adjust_9 : decode cX3_adjust 9 = .ok (.invokestatic 121, 3) := by decide +kernel
theorem dX3_adjust_12 : decode cX3_adjust 12 = .ok (.ifCond .ne 7, 3) := by decide +kernel
theorem dX3_adjust_15 : decode cX3_adjust 15 = .ok (.iconst 1, 1) := by decide +kernel
theorem dX3_adjust_16 : decode cX3_adjust 16 = .ok (.goto 44, 3) := by decide +kernel
theorem dX3_adjust_19 : decode cX3_adjust 19 = .ok (.iload_n 2, 1) := by decide +kernel
theorem dX3_adjust_20 : decode cX3_adjust 20 = .ok (.bipush 102, 2) := by decide +kernel
theorem dX3_adjust_22 : decode cX3_adjust 22 = .ok (.if_icmp .eq 33, 3) := by decide +kernel
theorem dX3_adjust_25 : decode cX3_adjust 25 = .ok (.iload_n 2, 1) := by decide +kernel
theorem dX3_adjust_26 : decode cX3_adjust 26 = .ok (.bipush 108, 2) := by decide +kernel
theorem dX3_adjust_28 : decode cX3_adjust 28 = .ok (.if_icmp .eq 27, 3) := by decide +kernel
theorem dX3_adjust_31 : decode cX3_adjust 31 = .ok (.iload_n 2, 1) := by decide +kernel
theorem dX3_adjust_32 : decode cX3_adjust 32 = .ok (.bipush 110, 2) := by decide +kernel
theorem dX3_adjust_34 : decode cX3_adjust 34 = .ok (.if_icmp .eq 21, 3) := by decide +kernel
theorem dX3_adjust_37 : decode cX3_adjust 37 = .ok (.iload_n 2, 1) := by decide +kernel
theorem dX3_adjust_38 : decode cX3_adjust 38 = .ok (.bipush 70, 2) := by decide +kernel
theorem dX3_adjust_40 : decode cX3_adjust 40 = .ok (.if_icmp .eq 15, 3) := by decide +kernel
theorem dX3_adjust_43 : decode cX3_adjust 43 = .ok (.iload_n 2, 1) := by decide +kernel
theorem dX3_adjust_44 : decode cX3_adjust 44 = .ok (.bipush 76, 2) := by decide +kernel
theorem dX3_adjust_46 : decode cX3_adjust 46 = .ok (.if_icmp .eq 9, 3) := by decide +kernel
theorem dX3_adjust_49 : decode cX3_adjust 49 = .ok (.iload_n 2, 1) := by decide +kernel
theorem dX3_adjust_50 : decode cX3_adjust 50 = .ok (.bipush 78, 2) := by decide +kernel
theorem dX3_adjust_52 : decode cX3_adjust 52 = .ok (.if_icmp .ne 7, 3) := by decide +kernel
theorem dX3_adjust_55 : decode cX3_adjust 55 = .ok (.iconst 0, 1) := by decide +kernel
theorem dX3_adjust_56 : decode cX3_adjust 56 = .ok (.goto 4, 3) := by decide +kernel
theorem dX3_adjust_59 : decode cX3_adjust 59 = .ok (.iconst 2, 1) := by decide +kernel
theorem dX3_adjust_60 : decode cX3_adjust 60 = .ok (.invokevirtual 125, 3) := by decide +kernel
theorem dX3_adjust_63 : decode cX3_adjust 63 = .ok (.ifCond .eq 5, 3) := by decide +kernel
theorem dX3_adjust_66 : decode cX3_adjust 66 = .ok (.lconst 0, 1) := by decide +kernel
theorem dX3_adjust_67 : decode cX3_adjust 67 = .ok (.lreturn, 1) := by decide +kernel
theorem dX3_adjust_68 : decode cX3_adjust 68 = .ok (.aload_n 0, 1) := by decide +kernel
theorem dX3_adjust_69 : decode cX3_adjust 69 = .ok (.aload_n 0, 1) := by decide +kernel
theorem dX3_adjust_70 : decode cX3_adjust 70 = .ok (.getfield 13, 3) := by decide +kernel
theorem dX3_adjust_73 : decode cX3_adjust 73 = .ok (.iload_n 1, 1) := by decide +kernel
theorem dX3_adjust_74 : decode cX3_adjust 74 = .ok (.laload, 1) := by decide +kernel
theorem dX3_adjust_75 : decode cX3_adjust 75 = .ok (.invokevirtual 104, 3) := by decide +kernel
theorem dX3_adjust_78 : decode cX3_adjust 78 = .ok (.aload_n 0, 1) := by decide +kernel
theorem dX3_adjust_79 : decode cX3_adjust 79 = .ok (.getfield 86, 3) := by decide +kernel
theorem dX3_adjust_82 : decode cX3_adjust 82 = .ok (.aload_n 0, 1) := by decide +kernel
theorem dX3_adjust_83 : decode cX3_adjust 83 = .ok (.getfield 90, 3) := by decide +kernel
theorem dX3_adjust_86 : decode cX3_adjust 86 = .ok (.iconst 1, 1) := by decide +kernel
theorem dX3_adjust_87 : decode cX3_adjust 87 = .ok (.invokestatic 115, 3) := by decide +kernel
theorem dX3_adjust_90 : decode cX3_adjust 90 = .ok (.lstore 4, 2) := by decide +kernel
theorem dX3_adjust_92 : decode cX3_adjust 92 = .ok (.lload 4, 2) := by decide +kernel
theorem dX3_adjust_94 : decode cX3_adjust 94 = .ok (.aload_n 0, 1) := by decide +kernel
theorem dX3_adjust_95 : decode cX3_adjust 95 = .ok (.getfield 86, 3) := by decide +kernel
theorem dX3_adjust_98 : decode cX3_adjust 98 = .ok (.aload_n 0, 1) := by decide +kernel
theorem dX3_adjust_99 : decode cX3_adjust 99 = .ok (.getfield 90, 3) := by decide +kernel
theorem dX3_adjust_102 : decode cX3_adjust 102 = .ok (.invokestatic 80, 3) := by decide +kernel
theorem dX3_adjust_105 : decode cX3_adjust 105 = .ok (.i2l, 1) := by decide +kernel
theorem dX3_adjust_106 : decode cX3_adjust 106 = .ok (.ladd, 1) := by decide +kernel
theorem dX3_adjust_107 : decode cX3_adjust 107 = .ok (.lstore 6, 2) := by decide +kernel
theorem dX3_adjust_109 : decode cX3_adjust 109 = .ok (.iload_n 2, 1) := by decide +kernel
theorem dX3_adjust_110 : decode cX3_adjust 110 = .ok (.bipush 102, 2) := by decide +kernel
theorem dX3_adjust_112 : decode cX3_adjust 112 = .ok (.if_icmp .ne 8, 3) := by decide +kernel
theorem dX3_adjust_115 : decode cX3_adjust 115 = .ok (.lload 4, 2) := by decide +kernel
theorem dX3_adjust_117 : decode cX3_adjust 117 = .ok (.goto 72, 3) := by decide +kernel
theorem dX3_adjust_120 : decode cX3_adjust 120 = .ok (.iload_n 2, 1) := by decide +kernel
theorem dX3_adjust_121 : decode cX3_adjust 121 = .ok (.bipush 108, 2) := by decide +kernel
theorem dX3_adjust_123 : decode cX3_adjust 123 = .ok (.if_icmp .ne 10, 3) := by decide +kernel
theorem dX3_adjust_126 : decode cX3_adjust 126 = .ok (.lload 6, 2) := by decide +kernel
theorem dX3_adjust_128 : decode cX3_adjust 128 = .ok (.lconst 1, 1) := by decide +kernel
theorem dX3_adjust_129 : decode cX3_adjust 129 = .ok (.lsub, 1) := by decide +kernel
theorem dX3_adjust_130 : decode cX3_adjust 130 = .ok (.goto 59, 3) := by decide +kernel
theorem dX3_adjust_133 : decode cX3_adjust 133 = .ok (.iload_n 2, 1) := by decide +kernel
theorem dX3_adjust_134 : decode cX3_adjust 134 = .ok (.bipush 110, 2) := by decide +kernel
theorem dX3_adjust_136 : decode cX3_adjust 136 = .ok (.if_icmp .ne 8, 3) := by decide +kernel
theorem dX3_adjust_139 : decode cX3_adjust 139 = .ok (.lload 6, 2) := by decide +kernel
theorem dX3_adjust_141 : decode cX3_adjust 141 = .ok (.goto 48, 3) := by decide +kernel
theorem dX3_adjust_144 : decode cX3_adjust 144 = .ok (.iload_n 2, 1) := by decide +kernel
theorem dX3_adjust_145 : decode cX3_adjust 145 = .ok (.bipush 70, 2) := by decide +kernel
theorem dX3_adjust_147 : decode cX3_adjust 147 = .ok (.if_icmp .ne 13, 3) := by decide +kernel
theorem dX3_adjust_150 : decode cX3_adjust 150 = .ok (.aload_n 0, 1) := by decide +kernel
theorem dX3_adjust_151 : decode cX3_adjust 151 = .ok (.getfield 86, 3) := by decide +kernel
theorem dX3_adjust_154 : decode cX3_adjust 154 = .ok (.invokestatic 77, 3) := by decide +kernel
theorem dX3_adjust_157 : decode cX3_adjust 157 = .ok (.goto 32, 3) := by decide +kernel
theorem dX3_adjust_160 : decode cX3_adjust 160 = .ok (.iload_n 2, 1) := by decide +kernel
theorem dX3_adjust_161 : decode cX3_adjust 161 = .ok (.bipush 76, 2) := by decide +kernel
theorem dX3_adjust_163 : decode cX3_adjust 163 = .ok (.if_icmp .ne 17, 3) := by decide +kernel
theorem dX3_adjust_166 : decode cX3_adjust 166 = .ok (.aload_n 0, 1) := by decide +kernel
theorem dX3_adjust_167 : decode cX3_adjust 167 = .ok (.getfield 86, 3) := by decide +kernel
theorem dX3_adjust_170 : decode cX3_adjust 170 = .ok (.lconst 1, 1) := by decide +kernel
theorem dX3_adjust_171 : decode cX3_adjust 171 = .ok (.ladd, 1) := by decide +kernel
theorem dX3_adjust_172 : decode cX3_adjust 172 = .ok (.invokestatic 77, 3) := by decide +kernel
theorem dX3_adjust_175 : decode cX3_adjust 175 = .ok (.lconst 1, 1) := by decide +kernel
theorem dX3_adjust_176 : decode cX3_adjust 176 = .ok (.lsub, 1) := by decide +kernel
theorem dX3_adjust_177 : decode cX3_adjust 177 = .ok (.goto 12, 3) := by decide +kernel
theorem dX3_adjust_180 : decode cX3_adjust 180 = .ok (.aload_n 0, 1) := by decide +kernel
theorem dX3_adjust_181 : decode cX3_adjust 181 = .ok (.getfield 86, 3) := by decide +kernel
theorem dX3_adjust_184 : decode cX3_adjust 184 = .ok (.lconst 1, 1) := by decide +kernel
theorem dX3_adjust_185 : decode cX3_adjust 185 = .ok (.ladd, 1) := by decide +kernel
theorem dX3_adjust_186 : decode cX3_adjust 186 = .ok (.invokestatic 77, 3) := by decide +kernel
theorem dX3_adjust_189 : decode cX3_adjust 189 = .ok (.lstore 8, 2) := by decide +kernel
theorem dX3_adjust_191 : decode cX3_adjust 191 = .ok (.aload_n 0, 1) := by decide +kernel
theorem dX3_adjust_192 : decode cX3_adjust 192 = .ok (.iload_n 3, 1) := by decide +kernel
theorem dX3_adjust_193 : decode cX3_adjust 193 = .ok (.lload 8, 2) := by decide +kernel
theorem dX3_adjust_195 : decode cX3_adjust 195 = .ok (.iconst 3, 1) := by decide +kernel
theorem dX3_adjust_196 : decode cX3_adjust 196 = .ok (.invokevirtual 152, 3) := by decide +kernel
theorem dX3_adjust_199 : decode cX3_adjust 199 = .ok (.lreturn, 1) := by decide +kernel
set_option maxRecDepth 20000 in
theorem ggX3_sought_X3_weekdayOf : GoodIn wsX3_sought wsX3_weekdayOf := goodIn_r _ [4, 5, 6, 7, 8, 3, 9, 10, 11, 12] (by decide +kernel) (by decide +kernel)
set_option maxRecDepth 20000 in
theorem gX3_sought_X3_weekdayOf : GoodIn wsX3_sought (va_wsS RX3 130 yX3_weekdayOf wsX3_weekdayOf) := goodIn_app (goodIn_of _ (by decide +kernel)) ggX3_sought_X3_weekdayOf
theorem dX3_sought_0 : decode cX3_sought 0 = .ok (.lload_n 0, 1) := by decide +kernel
theorem dX3_sought_1 : decode cX3_sought 1 = .ok (.lstore 4, 2) := by decide +kernel
theorem dX3_sought_3 : decode cX3_sought 3 = .ok (.lload 4, 2) := by decide +kernel
theorem dX3_sought_5 : decode cX3_sought 5 = .ok (.invokestatic 130, 3) := by decide +kernel
theorem dX3_sought_8 : decode cX3_sought 8 = .ok (.iload_n 2, 1) := by decide +kernel
theorem dX3_sought_9 : decode cX3_sought 9 = .ok (.if_icmp .eq 13, 3) := by decide +kernel
theorem dX3_sought_12 : decode cX3_sought 12 = .ok (.lload 4, 2) := by decide +kernel
theorem dX3_sought_14 : decode cX3_sought 14 = .ok (.iload_n 3, 1) := by decide +kernel
theorem dX3_sought_15 : decode cX3_sought 15 = .ok (.i2l, 1) := by decide +kernel
theorem dX3_sought_16 : decode cX3_sought 16 = .ok (.ladd, 1) := by decide +kernel
theorem dX3_sought_17 : decode cX3_sought 17 = .ok (.lstore 4, 2) := by decide +kernel
theorem dX3_sought_19 : decode cX3_sought 19 = .ok (.goto (-16), 3) := by decide +kernel
theorem dX3_sought_22 : decode cX3_sought 22 = .ok (.lload 4, 2) := by decide +kernel
theorem dX3_sought_24 : decode cX3_sought 24 = .ok (.lreturn, 1) := by decide +kernel
set_option maxRecDepth 20000 in
theorem ggX3_weekday_X3_isDate : GoodIn wsX3_weekday wsX3_isDate := goodIn_r _ [8, 9, 10, 11, 7, 12] (by decide +kernel) (by decide +kernel)
set_option maxRecDepth 20000 in
theorem gX3_weekday_X3_isDate : GoodIn wsX3_weekday (va_wsS RX3 121 yX3_isDate wsX3_isDate) := goodIn_app (goodIn_of _ (by decide +kernel)) ggX3_weekday_X3_isDate
set_option maxRecDepth 20000 in
theorem ggX3_weekday_X3_in : GoodIn wsX3_weekday wsX3_in := goodIn_r _ [12] (by decide +kernel) (by decide +kernel)
set_option maxRecDepth 20000 in
theorem gX3_weekday_X3_in : GoodIn wsX3_weekday (va_wsS RX3 100 yX3_in wsX3_in) := goodIn_app (goodIn_of _ (by decide +kernel)) ggX3_weekday_X3_in
set_option maxRecDepth 20000 in
theorem ggX3_weekday_X3_fails : GoodIn wsX3_weekday wsX3_fails := goodIn_r _ [16, 17, 72, 73, 74, 75, 76, 77, 78, 79, 80, 81, 82, 83, 84, 85] (by decide +kernel) (by decide +kernel)
set_option maxRecDepth 20000 in
theorem gX3_weekday_X3_fails : GoodIn wsX3_weekday (wsV RX3 125 RX3 yX3_fails wsX3_fails) := goodIn_app (goodIn_of _ (by decide +kernel)) ggX3_weekday_X3_fails
set_option maxRecDepth 20000 in
theorem ggX3_weekday_X3_parts : GoodIn wsX3_weekday wsX3_parts := goodIn_r _ [21, 22, 23, 24, 3, 4, 25, 26, 27, 7, 28, 29, 30, 31, 32, 33, 34, 35, 36, 37, 38, 39, 40, 41, 42, 43, 44, 45, 46, 47, 48, 49, 72, 73, 74, 75, 76, 77, 78, 79, 80, 81, 82, 83, 84, 85] (by decide +kernel) (by decide +kernel)
set_option maxRecDepth 20000 in
theorem gX3_weekday_X3_parts : GoodIn wsX3_weekday (wsV RX3 104 RX3 yX3_parts wsX3_parts) := goodIn_app (goodIn_of _ (by decide +kernel)) ggX3_weekday_X3_parts
set_option maxRecDepth 20000 in
theorem ggX3_weekday_X3_number : GoodIn wsX3_weekday wsX3_number := goodIn_r _ [52, 29, 30, 7, 31, 22, 32, 33, 34, 35, 36, 37, 38, 39, 40, 23, 26, 27, 28, 41, 42, 43, 44, 45, 46, 47, 48, 49] (by decide +kernel) (by decide +kernel)
set_option maxRecDepth 20000 in
theorem gX3_weekday_X3_number : GoodIn wsX3_weekday (va_wsS RX3 115 yX3_number wsX3_number) := goodIn_app (goodIn_of _ (by decide +kernel)) ggX3_weekday_X3_number
set_option maxRecDepth 20000 in
theorem ggX3_weekday_X3_many : GoodIn wsX3_weekday wsX3_many := goodIn_r _ [43, 44, 45, 7, 46, 37, 39, 23, 47, 48, 49, 26, 27, 28] (by decide +kernel) (by decide +kernel)
set_option maxRecDepth 20000 in
theorem gX3_weekday_X3_many : GoodIn wsX3_weekday (va_wsS RX3 80 yX3_many wsX3_many) := goodIn_app (goodIn_of _ (by decide +kernel)) ggX3_weekday_X3_many
set_option maxRecDepth 20000 in
theorem ggX3_weekday_X3_sought : GoodIn wsX3_weekday wsX3_sought := goodIn_r _ [55, 56, 57, 7, 58, 36, 1, 47, 48, 49, 26, 27, 28] (by decide +kernel) (by decide +kernel)
set_option maxRecDepth 20000 in
theorem gX3_weekday_X3_sought : GoodIn wsX3_weekday (va_wsS RX3 156 yX3_sought wsX3_sought) := goodIn_app (goodIn_of _ (by decide +kernel)) ggX3_weekday_X3_sought
set_option maxRecDepth 20000 in
theorem ggX3_weekday_X3_becomes : GoodIn wsX3_weekday wsX3_becomes := goodIn_ca (goodIn_r _ [62, 2, 63, 64, 65, 7, 66, 3, 18, 19, 20, 21, 22, 23, 24, 4, 25, 26, 27, 28, 29, 30, 31, 32, 33, 34, 35, 36, 37, 38, 39, 40, 41, 42, 43, 44, 45, 46, 47, 48, 49, 67, 68, 69, 70, 71, 10, 11, 12, 13, 14, 15, 16, 17, 72, 73, 74, 75, 76, 77, 78, 79, 80, 81, 82, 83, 84, 85] (by decide +kernel) (by decide +kernel)) (goodIn_sub (fun _ h => List.mem_cons_of_mem _ (List.mem_append_right _ h)) (by decide +kernel))
set_option maxRecDepth 20000 in
theorem gX3_weekday_X3_becomes : GoodIn wsX3_weekday (wsV RX3 152 RX3 yX3_becomes wsX3_becomes) := goodIn_app (goodIn_of _ (by decide +kernel)) ggX3_weekday_X3_becomes
theorem dX3_weekday_0 : decode cX3_weekday 0 = .ok (.aload_n 0, 1) := by decide +kernel
theorem dX3_weekday_1 : decode cX3_weekday 1 = .ok (.iload_n 1, 1) := by decide +kernel
theorem dX3_weekday_2 : decode cX3_weekday 2 = .ok (.invokestatic 121, 3) := by decide +kernel
theorem dX3_weekday_5 : decode cX3_weekday 5 = .ok (.ifCond .eq 11, 3) := by decide +kernel
theorem dX3_weekday_8 : decode cX3_weekday 8 = .ok (.iload 4, 2) := by decide +kernel
theorem dX3_weekday_10 : decode cX3_weekday 10 = .ok (.invokestatic 121, 3) := by decide +kernel
theorem dX3_weekday_13 : decode cX3_weekday 13 = .ok (.ifCond .ne 7, 3) := by decide +kernel
theorem dX3_weekday_16 : decode cX3_weekday 16 = .ok (.iconst 1, 1) := by decide +kernel
theorem dX3_weekday_17 : decode cX3_weekday 17 = .ok (.goto 56, 3) := by decide +kernel
theorem dX3_weekday_20 : decode cX3_weekday 20 = .ok (.iload_n 2, 1) := by decide +kernel
theorem dX3_weekday_21 : decode cX3_weekday 21 = .ok (.bipush 110, 2) := by decide +kernel
theorem dX3_weekday_23 : decode cX3_weekday 23 = .ok (.if_icmp .eq 33, 3) := by decide +kernel
theorem dX3_weekday_26 : decode cX3_weekday 26 = .ok (.iload_n 2, 1) := by decide +kernel
theorem dX3_weekday_27 : decode cX3_weekday 27 = .ok (.bipush 112, 2) := by decide +kernel
theorem dX3_weekday_29 : decode cX3_weekday 29 = .ok (.if_icmp .eq 27, 3) := by decide +kernel
theorem dX3_weekday_32 : decode cX3_weekday 32 = .ok (.iload_n 2, 1) := by decide +kernel
theorem dX3_weekday_33 : decode cX3_weekday 33 = .ok (.bipush 78, 2) := by decide +kernel
theorem dX3_weekday_35 : decode cX3_weekday 35 = .ok (.if_icmp .eq 21, 3) := by decide +kernel
theorem dX3_weekday_38 : decode cX3_weekday 38 = .ok (.iload_n 2, 1) := by decide +kernel
theorem dX3_weekday_39 : decode cX3_weekday 39 = .ok (.bipush 80, 2) := by decide +kernel
theorem dX3_weekday_41 : decode cX3_weekday 41 = .ok (.if_icmp .eq 15, 3) := by decide +kernel
theorem dX3_weekday_44 : decode cX3_weekday 44 = .ok (.iload_n 2, 1) := by decide +kernel
theorem dX3_weekday_45 : decode cX3_weekday 45 = .ok (.bipush 102, 2) := by decide +kernel
theorem dX3_weekday_47 : decode cX3_weekday 47 = .ok (.if_icmp .eq 9, 3) := by decide +kernel
theorem dX3_weekday_50 : decode cX3_weekday 50 = .ok (.iload_n 2, 1) := by decide +kernel
theorem dX3_weekday_51 : decode cX3_weekday 51 = .ok (.bipush 108, 2) := by decide +kernel
theorem dX3_weekday_53 : decode cX3_weekday 53 = .ok (.if_icmp .ne 19, 3) := by decide +kernel
theorem dX3_weekday_56 : decode cX3_weekday 56 = .ok (.iload_n 3, 1) := by decide +kernel
theorem dX3_weekday_57 : decode cX3_weekday 57 = .ok (.i2l, 1) := by decide +kernel
theorem dX3_weekday_58 : decode cX3_weekday 58 = .ok (.lconst 1, 1) := by decide +kernel
theorem dX3_weekday_59 : decode cX3_weekday 59 = .ok (.ldc2_w 111, 3) := by decide +kernel
theorem dX3_weekday_62 : decode cX3_weekday 62 = .ok (.invokestatic 100, 3) := by decide +kernel
theorem dX3_weekday_65 : decode cX3_weekday 65 = .ok (.ifCond .eq 7, 3) := by decide +kernel
theorem dX3_weekday_68 : decode cX3_weekday 68 = .ok (.iconst 0, 1) := by decide +kernel
theorem dX3_weekday_69 : decode cX3_weekday 69 = .ok (.goto 4, 3) := by decide +kernel
theorem dX3_weekday_72 : decode cX3_weekday 72 = .ok (.iconst 2, 1) := by decide +kernel
theorem dX3_weekday_73 : decode cX3_weekday 73 = .ok (.invokevirtual 125, 3) := by decide +kernel
theorem dX3_weekday_76 : decode cX3_weekday 76 = .ok (.ifCond .eq 5, 3) := by decide +kernel
theorem dX3_weekday_79 : decode cX3_weekday 79 = .ok (.lconst 0, 1) := by decide +kernel
theorem dX3_weekday_80 : decode cX3_weekday 80 = .ok (.lreturn, 1) := by decide +kernel
theorem dX3_weekday_81 : decode cX3_weekday 81 = .ok (.aload_n 0, 1) := by decide +kernel
theorem dX3_weekday_82 : decode cX3_weekday 82 = .ok (.getfield 13, 3) := by decide +kernel
theorem dX3_weekday_85 : decode cX3_weekday 85 = .ok (.iload_n 1, 1) := by decide +kernel
theorem dX3_weekday_86 : decode cX3_weekday 86 = .ok (.laload, 1) := by decide +kernel
theorem dX3_weekday_87 : decode cX3_weekday 87 = .ok (.lstore 5, 2) := by decide +kernel
theorem dX3_weekday_89 : decode cX3_weekday 89 = .ok (.aload_n 0, 1) := by decide +kernel
theorem dX3_weekday_90 : decode cX3_weekday 90 = .ok (.lload 5, 2) := by decide +kernel
theorem dX3_weekday_92 : decode cX3_weekday 92 = .ok (.invokevirtual 104, 3) := by decide +kernel
theorem dX3_weekday_95 : decode cX3_weekday 95 = .ok (.aload_n 0, 1) := by decide +kernel
theorem dX3_weekday_96 : decode cX3_weekday 96 = .ok (.getfield 86, 3) := by decide +kernel
theorem dX3_weekday_99 : decode cX3_weekday 99 = .ok (.aload_n 0, 1) := by decide +kernel
theorem dX3_weekday_100 : decode cX3_weekday 100 = .ok (.getfield 90, 3) := by decide +kernel
theorem dX3_weekday_103 : decode cX3_weekday 103 = .ok (.iconst 1, 1) := by decide +kernel
theorem dX3_weekday_104 : decode cX3_weekday 104 = .ok (.invokestatic 115, 3) := by decide +kernel
theorem dX3_weekday_107 : decode cX3_weekday 107 = .ok (.lstore 7, 2) := by decide +kernel
theorem dX3_weekday_109 : decode cX3_weekday 109 = .ok (.lload 7, 2) := by decide +kernel
theorem dX3_weekday_111 : decode cX3_weekday 111 = .ok (.aload_n 0, 1) := by decide +kernel
theorem dX3_weekday_112 : decode cX3_weekday 112 = .ok (.getfield 86, 3) := by decide +kernel
theorem dX3_weekday_115 : decode cX3_weekday 115 = .ok (.aload_n 0, 1) := by decide +kernel
theorem dX3_weekday_116 : decode cX3_weekday 116 = .ok (.getfield 90, 3) := by decide +kernel
theorem dX3_weekday_119 : decode cX3_weekday 119 = .ok (.invokestatic 80, 3) := by decide +kernel
theorem dX3_weekday_122 : decode cX3_weekday 122 = .ok (.i2l, 1) := by decide +kernel
theorem dX3_weekday_123 : decode cX3_weekday 123 = .ok (.ladd, 1) := by decide +kernel
theorem dX3_weekday_124 : decode cX3_weekday 124 = .ok (.lconst 1, 1) := by decide +kernel
theorem dX3_weekday_125 : decode cX3_weekday 125 = .ok (.lsub, 1) := by decide +kernel
theorem dX3_weekday_126 : decode cX3_weekday 126 = .ok (.lstore 9, 2) := by decide +kernel
theorem dX3_weekday_128 : decode cX3_weekday 128 = .ok (.iload_n 2, 1) := by decide +kernel
theorem dX3_weekday_129 : decode cX3_weekday 129 = .ok (.bipush 110, 2) := by decide +kernel
theorem dX3_weekday_131 : decode cX3_weekday 131 = .ok (.if_icmp .ne 10, 3) := by decide +kernel
theorem dX3_weekday_134 : decode cX3_weekday 134 = .ok (.lload 5, 2) := by decide +kernel
theorem dX3_weekday_136 : decode cX3_weekday 136 = .ok (.lconst 1, 1) := by decide +kernel
theorem dX3_weekday_137 : decode cX3_weekday 137 = .ok (.ladd, 1) := by decide +kernel
theorem dX3_weekday_138 : decode cX3_weekday 138 = .ok (.goto 40, 3) := by decide +kernel
theorem dX3_weekday_141 : decode cX3_weekday 141 = .ok (.iload_n 2, 1) := by decide +kernel
theorem dX3_weekday_142 : decode cX3_weekday 142 = .ok (.bipush 112, 2) := by decide +kernel
theorem dX3_weekday_144 : decode cX3_weekday 144 = .ok (.if_icmp .ne 10, 3) := by decide +kernel
theorem dX3_weekday_147 : decode cX3_weekday 147 = .ok (.lload 5, 2) := by decide +kernel
theorem dX3_weekday_149 : decode cX3_weekday 149 = .ok (.lconst 1, 1) := by decide +kernel
theorem dX3_weekday_150 : decode cX3_weekday 150 = .ok (.lsub, 1) := by decide +kernel
theorem dX3_weekday_151 : decode cX3_weekday 151 = .ok (.goto 27, 3) := by decide +kernel
theorem dX3_weekday_154 : decode cX3_weekday 154 = .ok (.iload_n 2, 1) := by decide +kernel
theorem dX3_weekday_155 : decode cX3_weekday 155 = .ok (.bipush 102, 2) := by decide +kernel
theorem dX3_weekday_157 : decode cX3_weekday 157 = .ok (.if_icmp .ne 8, 3) := by decide +kernel
theorem dX3_weekday_160 : decode cX3_weekday 160 = .ok (.lload 7, 2) := by decide +kernel
theorem dX3_weekday_162 : decode cX3_weekday 162 = .ok (.goto 16, 3) := by decide +kernel
theorem dX3_weekday_165 : decode cX3_weekday 165 = .ok (.iload_n 2, 1) := by decide +kernel
theorem dX3_weekday_166 : decode cX3_weekday 166 = .ok (.bipush 108, 2) := by decide +kernel
theorem dX3_weekday_168 : decode cX3_weekday 168 = .ok (.if_icmp .ne 8, 3) := by decide +kernel
theorem dX3_weekday_171 : decode cX3_weekday 171 = .ok (.lload 9, 2) := by decide +kernel
theorem dX3_weekday_173 : decode cX3_weekday 173 = .ok (.goto 5, 3) := by decide +kernel
theorem dX3_weekday_176 : decode cX3_weekday 176 = .ok (.lload 5, 2) := by decide +kernel
theorem dX3_weekday_178 : decode cX3_weekday 178 = .ok (.lstore 11, 2) := by decide +kernel
theorem dX3_weekday_180 : decode cX3_weekday 180 = .ok (.aload_n 0, 1) := by decide +kernel
theorem dX3_weekday_181 : decode cX3_weekday 181 = .ok (.iload 4, 2) := by decide +kernel
theorem dX3_weekday_183 : decode cX3_weekday 183 = .ok (.lload 11, 2) := by decide +kernel
theorem dX3_weekday_185 : decode cX3_weekday 185 = .ok (.iload_n 3, 1) := by decide +kernel
theorem dX3_weekday_186 : decode cX3_weekday 186 = .ok (.iload_n 2, 1) := by decide +kernel
theorem dX3_weekday_187 : decode cX3_weekday 187 = .ok (.bipush 110, 2) := by decide +kernel
theorem dX3_weekday_189 : decode cX3_weekday 189 = .ok (.if_icmp .eq 15, 3) := by decide +kernel
theorem dX3_weekday_192 : decode cX3_weekday 192 = .ok (.iload_n 2, 1) := by decide +kernel
theorem dX3_weekday_193 : decode cX3_weekday 193 = .ok (.bipush 78, 2) := by decide +kernel
theorem dX3_weekday_195 : decode cX3_weekday 195 = .ok (.if_icmp .eq 9, 3) := by decide +kernel
theorem dX3_weekday_198 : decode cX3_weekday 198 = .ok (.iload_n 2, 1) := by decide +kernel
theorem dX3_weekday_199 : decode cX3_weekday 199 = .ok (.bipush 102, 2) := by decide +kernel
theorem dX3_weekday_201 : decode cX3_weekday 201 = .ok (.if_icmp .ne 7, 3) := by decide +kernel
theorem dX3_weekday_204 : decode cX3_weekday 204 = .ok (.iconst 1, 1) := by decide +kernel
theorem dX3_weekday_205 : decode cX3_weekday 205 = .ok (.goto 4, 3) := by decide +kernel
theorem dX3_weekday_208 : decode cX3_weekday 208 = .ok (.iconst (-1), 1) := by decide +kernel
theorem dX3_weekday_209 : decode cX3_weekday 209 = .ok (.invokestatic 156, 3) := by decide +kernel
theorem dX3_weekday_212 : decode cX3_weekday 212 = .ok (.iconst 3, 1) := by decide +kernel
theorem dX3_weekday_213 : decode cX3_weekday 213 = .ok (.invokevirtual 152, 3) := by decide +kernel
theorem dX3_weekday_216 : decode cX3_weekday 216 = .ok (.lreturn, 1) := by decide +kernel
set_option maxRecDepth 20000 in
theorem ggX3_inMonth_X3_isDate : GoodIn wsX3_inMonth wsX3_isDate := goodIn_r _ [10, 11, 12, 13, 9, 14] (by decide +kernel) (by decide +kernel)
set_option maxRecDepth 20000 in
theorem gX3_inMonth_X3_isDate : GoodIn wsX3_inMonth (va_wsS RX3 121 yX3_isDate wsX3_isDate) := goodIn_app (goodIn_of _ (by decide +kernel)) ggX3_inMonth_X3_isDate
set_option maxRecDepth 20000 in
theorem ggX3_inMonth_X3_in : GoodIn wsX3_inMonth wsX3_in := goodIn_r _ [14] (by decide +kernel) (by decide +kernel)
set_option maxRecDepth 20000 in
theorem gX3_inMonth_X3_in : GoodIn wsX3_inMonth (va_wsS RX3 100 yX3_in wsX3_in) := goodIn_app (goodIn_of _ (by decide +kernel)) ggX3_inMonth_X3_in
set_option maxRecDepth 20000 in
theorem ggX3_inMonth_X3_fails : GoodIn wsX3_inMonth wsX3_fails := goodIn_r _ [18, 19, 74, 75, 76, 77, 78, 79, 80, 81, 82, 83, 84, 85, 86, 87] (by decide +kernel) (by decide +kernel)
set_option maxRecDepth 20000 in
theorem gX3_inMonth_X3_fails : GoodIn wsX3_inMonth (wsV RX3 125 RX3 yX3_fails wsX3_fails) := goodIn_app (goodIn_of _ (by decide +kernel)) ggX3_inMonth_X3_fails
set_option maxRecDepth 20000 in
theorem ggX3_inMonth_X3_parts : GoodIn wsX3_inMonth wsX3_parts := goodIn_r _ [23, 24, 25, 26, 5, 6, 27, 28, 29, 9, 30, 31, 32, 33, 34, 35, 36, 37, 38, 39, 40, 41, 42, 43, 44, 45, 46, 47, 48, 49, 50, 51, 74, 75, 76, 77, 78, 79, 80, 81, 82, 83, 84, 85, 86, 87] (by decide +kernel) (by decide +kernel)
set_option maxRecDepth 20000 in
theorem gX3_inMonth_X3_parts : GoodIn wsX3_inMonth (wsV RX3 104 RX3 yX3_parts wsX3_parts) := goodIn_app (goodIn_of _ (by decide +kernel)) ggX3_inMonth_X3_parts
set_option maxRecDepth 20000 in
theorem ggX3_inMonth_X3_number : GoodIn wsX3_inMonth wsX3_number := goodIn_r _ [54, 31, 32, 9, 33, 24, 34, 35, 36, 37, 38, 39, 40, 41, 42, 25, 28, 29, 30, 43, 44, 45, 46, 47, 48, 49, 50, 51] (by decide +kernel) (by decide +kernel)
set_option maxRecDepth 20000 in
theorem gX3_inMonth_X3_number : GoodIn wsX3_inMonth (va_wsS RX3 115 yX3_number wsX3_number) := goodIn_app (goodIn_of _ (by decide +kernel)) ggX3_inMonth_X3_number
set_option maxRecDepth 20000 in
theorem ggX3_inMonth_X3_many : GoodIn wsX3_inMonth wsX3_many := goodIn_r _ [45, 46, 47, 9, 48, 39, 41, 25, 49, 50, 51, 28, 29, 30] (by decide +kernel) (by decide +kernel)
set_option maxRecDepth 20000 in
theorem gX3_inMonth_X3_many : GoodIn wsX3_inMonth (va_wsS RX3 80 yX3_many wsX3_many) := goodIn_app (goodIn_of _ (by decide +kernel)) ggX3_inMonth_X3_many
set_option maxRecDepth 20000 in
theorem ggX3_inMonth_X3_sought : GoodIn wsX3_inMonth wsX3_sought := goodIn_r _ [57, 58, 59, 9, 60, 38, 3, 49, 50, 51, 28, 29, 30] (by decide +kernel) (by decide +kernel)
set_option maxRecDepth 20000 in
theorem gX3_inMonth_X3_sought : GoodIn wsX3_inMonth (va_wsS RX3 156 yX3_sought wsX3_sought) := goodIn_app (goodIn_of _ (by decide +kernel)) ggX3_inMonth_X3_sought
set_option maxRecDepth 20000 in
theorem ggX3_inMonth_X3_becomes : GoodIn wsX3_inMonth wsX3_becomes := goodIn_ca (goodIn_r _ [64, 4, 65, 66, 67, 9, 68, 5, 20, 21, 22, 23, 24, 25, 26, 6, 27, 28, 29, 30, 31, 32, 33, 34, 35, 36, 37, 38, 39, 40, 41, 42, 43, 44, 45, 46, 47, 48, 49, 50, 51, 69, 70, 71, 72, 73, 12, 13, 14, 15, 16, 17, 18, 19, 74, 75, 76, 77, 78, 79, 80, 81, 82, 83, 84, 85, 86, 87] (by decide +kernel) (by decide +kernel)) (goodIn_sub (fun _ h => List.mem_cons_of_mem _ (List.mem_append_right _ h)) (by decide +kernel))
set_option maxRecDepth 20000 in
theorem gX3_inMonth_X3_becomes : GoodIn wsX3_inMonth (wsV RX3 152 RX3 yX3_becomes wsX3_becomes) := goodIn_app (goodIn_of _ (by decide +kernel)) ggX3_inMonth_X3_becomes
theorem dX3_inMonth_0 : decode cX3_inMonth 0 = .ok (.aload_n 0, 1) := by decide +kernel
theorem dX3_inMonth_1 : decode cX3_inMonth 1 = .ok (.iload_n 1, 1) := by decide +kernel
theorem dX3_inMonth_2 : decode cX3_inMonth 2 = .ok (.invokestatic 121, 3) := by decide +kernel
theorem dX3_inMonth_5 : decode cX3_inMonth 5 = .ok (.ifCond .eq 11, 3) := by decide +kernel
theorem dX3_inMonth_8 : decode cX3_inMonth 8 = .ok (.iload 4, 2) := by decide +kernel
theorem dX3_inMonth_10 : decode cX3_inMonth 10 = .ok (.invokestatic 121, 3) := by decide +kernel
theorem dX3_inMonth_13 : decode cX3_inMonth 13 = .ok (.ifCond .ne 7, 3) := by decide +kernel
theorem dX3_inMonth_16 : decode cX3_inMonth 16 = .ok (.iconst 1, 1) := by decide +kernel
theorem dX3_inMonth_17 : decode cX3_inMonth 17 = .ok (.goto 34, 3) := by decide +kernel
theorem dX3_inMonth_20 : decode cX3_inMonth 20 = .ok (.iload_n 2, 1) := by decide +kernel
theorem dX3_inMonth_21 : decode cX3_inMonth 21 = .ok (.i2l, 1) := by decide +kernel
theorem dX3_inMonth_22 : decode cX3_inMonth 22 = .ok (.ldc2_w 159, 3) := by decide +kernel
theorem dX3_inMonth_25 : decode cX3_inMonth 25 = .ok (.ldc2_w 161, 3) := by decide +kernel
theorem dX3_inMonth_28 : decode cX3_inMonth 28 = .ok (.invokestatic 100, 3) := by decide +kernel
theorem dX3_inMonth_31 : decode cX3_inMonth 31 = .ok (.ifCond .eq 19, 3) := by decide +kernel
theorem dX3_inMonth_34 : decode cX3_inMonth 34 = .ok (.iload_n 3, 1) := by decide +kernel
theorem dX3_inMonth_35 : decode cX3_inMonth 35 = .ok (.i2l, 1) := by decide +kernel
theorem dX3_inMonth_36 : decode cX3_inMonth 36 = .ok (.lconst 1, 1) := by decide +kernel
theorem dX3_inMonth_37 : decode cX3_inMonth 37 = .ok (.ldc2_w 111, 3) := by decide +kernel
theorem dX3_inMonth_40 : decode cX3_inMonth 40 = .ok (.invokestatic 100, 3) := by decide +kernel
theorem dX3_inMonth_43 : decode cX3_inMonth 43 = .ok (.ifCond .eq 7, 3) := by decide +kernel
theorem dX3_inMonth_46 : decode cX3_inMonth 46 = .ok (.iconst 0, 1) := by decide +kernel
theorem dX3_inMonth_47 : decode cX3_inMonth 47 = .ok (.goto 4, 3) := by decide +kernel
theorem dX3_inMonth_50 : decode cX3_inMonth 50 = .ok (.iconst 2, 1) := by decide +kernel
theorem dX3_inMonth_51 : decode cX3_inMonth 51 = .ok (.invokevirtual 125, 3) := by decide +kernel
theorem dX3_inMonth_54 : decode cX3_inMonth 54 = .ok (.ifCond .eq 5, 3) := by decide +kernel
theorem dX3_inMonth_57 : decode cX3_inMonth 57 = .ok (.lconst 0, 1) := by decide +kernel
theorem dX3_inMonth_58 : decode cX3_inMonth 58 = .ok (.lreturn, 1) := by decide +kernel
theorem dX3_inMonth_59 : decode cX3_inMonth 59 = .ok (.aload_n 0, 1) := by decide +kernel
theorem dX3_inMonth_60 : decode cX3_inMonth 60 = .ok (.aload_n 0, 1) := by decide +kernel
theorem dX3_inMonth_61 : decode cX3_inMonth 61 = .ok (.getfield 13, 3) := by decide +kernel
theorem dX3_inMonth_64 : decode cX3_inMonth 64 = .ok (.iload_n 1, 1) := by decide +kernel
theorem dX3_inMonth_65 : decode cX3_inMonth 65 = .ok (.laload, 1) := by decide +kernel
theorem dX3_inMonth_66 : decode cX3_inMonth 66 = .ok (.invokevirtual 104, 3) := by decide +kernel
theorem dX3_inMonth_69 : decode cX3_inMonth 69 = .ok (.aload_n 0, 1) := by decide +kernel
theorem dX3_inMonth_70 : decode cX3_inMonth 70 = .ok (.getfield 86, 3) := by decide +kernel
theorem dX3_inMonth_73 : decode cX3_inMonth 73 = .ok (.aload_n 0, 1) := by decide +kernel
theorem dX3_inMonth_74 : decode cX3_inMonth 74 = .ok (.getfield 90, 3) := by decide +kernel
theorem dX3_inMonth_77 : decode cX3_inMonth 77 = .ok (.iconst 1, 1) := by decide +kernel
theorem dX3_inMonth_78 : decode cX3_inMonth 78 = .ok (.invokestatic 115, 3) := by decide +kernel
theorem dX3_inMonth_81 : decode cX3_inMonth 81 = .ok (.lstore 5, 2) := by decide +kernel
theorem dX3_inMonth_83 : decode cX3_inMonth 83 = .ok (.lload 5, 2) := by decide +kernel
theorem dX3_inMonth_85 : decode cX3_inMonth 85 = .ok (.aload_n 0, 1) := by decide +kernel
theorem dX3_inMonth_86 : decode cX3_inMonth 86 = .ok (.getfield 86, 3) := by decide +kernel
theorem dX3_inMonth_89 : decode cX3_inMonth 89 = .ok (.aload_n 0, 1) := by decide +kernel
theorem dX3_inMonth_90 : decode cX3_inMonth 90 = .ok (.getfield 90, 3) := by decide +kernel
theorem dX3_inMonth_93 : decode cX3_inMonth 93 = .ok (.invokestatic 80, 3) := by decide +kernel
theorem dX3_inMonth_96 : decode cX3_inMonth 96 = .ok (.i2l, 1) := by decide +kernel
theorem dX3_inMonth_97 : decode cX3_inMonth 97 = .ok (.ladd, 1) := by decide +kernel
theorem dX3_inMonth_98 : decode cX3_inMonth 98 = .ok (.lconst 1, 1) := by decide +kernel
theorem dX3_inMonth_99 : decode cX3_inMonth 99 = .ok (.lsub, 1) := by decide +kernel
theorem dX3_inMonth_100 : decode cX3_inMonth 100 = .ok (.lstore 7, 2) := by decide +kernel
theorem dX3_inMonth_102 : decode cX3_inMonth 102 = .ok (.iload_n 2, 1) := by decide +kernel
theorem dX3_inMonth_103 : decode cX3_inMonth 103 = .ok (.ifCond .lt 22, 3) := by decide +kernel
theorem dX3_inMonth_106 : decode cX3_inMonth 106 = .ok (.lload 5, 2) := by decide +kernel
theorem dX3_inMonth_108 : decode cX3_inMonth 108 = .ok (.iload_n 3, 1) := by decide +kernel
theorem dX3_inMonth_109 : decode cX3_inMonth 109 = .ok (.iconst 1, 1) := by decide +kernel
theorem dX3_inMonth_110 : decode cX3_inMonth 110 = .ok (.invokestatic 156, 3) := by decide +kernel
theorem dX3_inMonth_113 : decode cX3_inMonth 113 = .ok (.ldc2_w 111, 3) := by decide +kernel
theorem dX3_inMonth_116 : decode cX3_inMonth 116 = .ok (.iload_n 2, 1) := by decide +kernel
theorem dX3_inMonth_117 : decode cX3_inMonth 117 = .ok (.i2l, 1) := by decide +kernel
theorem dX3_inMonth_118 : decode cX3_inMonth 118 = .ok (.lconst 1, 1) := by decide +kernel
theorem dX3_inMonth_119 : decode cX3_inMonth 119 = .ok (.lsub, 1) := by decide +kernel
theorem dX3_inMonth_120 : decode cX3_inMonth 120 = .ok (.lmul, 1) := by decide +kernel
theorem dX3_inMonth_121 : decode cX3_inMonth 121 = .ok (.ladd, 1) := by decide +kernel
theorem dX3_inMonth_122 : decode cX3_inMonth 122 = .ok (.goto 19, 3) := by decide +kernel
theorem dX3_inMonth_125 : decode cX3_inMonth 125 = .ok (.lload 7, 2) := by decide +kernel
theorem dX3_inMonth_127 : decode cX3_inMonth 127 = .ok (.iload_n 3, 1) := by decide +kernel
theorem dX3_inMonth_128 : decode cX3_inMonth 128 = .ok (.iconst (-1), 1) := by decide +kernel
theorem dX3_inMonth_129 : decode cX3_inMonth 129 = .ok (.invokestatic 156, 3) := by decide +kernel
theorem dX3_inMonth_132 : decode cX3_inMonth 132 = .ok (.ldc2_w 111, 3) := by decide +kernel
theorem dX3_inMonth_135 : decode cX3_inMonth 135 = .ok (.iload_n 2, 1) := by decide +kernel
theorem dX3_inMonth_136 : decode cX3_inMonth 136 = .ok (.i2l, 1) := by decide +kernel
theorem dX3_inMonth_137 : decode cX3_inMonth 137 = .ok (.lconst 1, 1) := by decide +kernel
theorem dX3_inMonth_138 : decode cX3_inMonth 138 = .ok (.ladd, 1) := by decide +kernel
theorem dX3_inMonth_139 : decode cX3_inMonth 139 = .ok (.lmul, 1) := by decide +kernel
theorem dX3_inMonth_140 : decode cX3_inMonth 140 = .ok (.ladd, 1) := by decide +kernel
theorem dX3_inMonth_141 : decode cX3_inMonth 141 = .ok (.lstore 9, 2) := by decide +kernel
theorem dX3_inMonth_143 : decode cX3_inMonth 143 = .ok (.aload_n 0, 1) := by decide +kernel
theorem dX3_inMonth_144 : decode cX3_inMonth 144 = .ok (.iload 4, 2) := by decide +kernel
theorem dX3_inMonth_146 : decode cX3_inMonth 146 = .ok (.lload 9, 2) := by decide +kernel
theorem dX3_inMonth_148 : decode cX3_inMonth 148 = .ok (.iconst 3, 1) := by decide +kernel
theorem dX3_inMonth_149 : decode cX3_inMonth 149 = .ok (.invokevirtual 152, 3) := by decide +kernel
theorem dX3_inMonth_152 : decode cX3_inMonth 152 = .ok (.lreturn, 1) := by decide +kernel
set_option maxRecDepth 20000 in
theorem ggX3_atYear_X3_isDate : GoodIn wsX3_atYear wsX3_isDate := goodIn_r _ [5, 6, 7, 8, 4, 9] (by decide +kernel) (by decide +kernel)
set_option maxRecDepth 20000 in
theorem gX3_atYear_X3_isDate : GoodIn wsX3_atYear (va_wsS RX3 121 yX3_isDate wsX3_isDate) := goodIn_app (goodIn_of _ (by decide +kernel)) ggX3_atYear_X3_isDate
set_option maxRecDepth 20000 in
theorem ggX3_atYear_X3_in : GoodIn wsX3_atYear wsX3_in := goodIn_r _ [9] (by decide +kernel) (by decide +kernel)
set_option maxRecDepth 20000 in
theorem gX3_atYear_X3_in : GoodIn wsX3_atYear (va_wsS RX3 100 yX3_in wsX3_in) := goodIn_app (goodIn_of _ (by decide +kernel)) ggX3_atYear_X3_in
set_option maxRecDepth 20000 in
theorem ggX3_atYear_X3_many : GoodIn wsX3_atYear wsX3_many := goodIn_r _ [12, 13, 14, 4, 15, 16, 17, 18, 19, 20, 21, 22, 23, 24] (by decide +kernel) (by decide +kernel)
set_option maxRecDepth 20000 in
theorem gX3_atYear_X3_many : GoodIn wsX3_atYear (va_wsS RX3 80 yX3_many wsX3_many) := goodIn_app (goodIn_of _ (by decide +kernel)) ggX3_atYear_X3_many
set_option maxRecDepth 20000 in
theorem ggX3_atYear_X3_isYear : GoodIn wsX3_atYear wsX3_isYear := goodIn_r _ [27, 28, 29, 7, 8, 4, 9] (by decide +kernel) (by decide +kernel)
set_option maxRecDepth 20000 in
theorem gX3_atYear_X3_isYear : GoodIn wsX3_atYear (va_wsS RX3 108 yX3_isYear wsX3_isYear) := goodIn_app (goodIn_of _ (by decide +kernel)) ggX3_atYear_X3_isYear
set_option maxRecDepth 20000 in
theorem ggX3_atYear_X3_fails : GoodIn wsX3_atYear wsX3_fails := goodIn_r _ [33, 34, 66, 67, 68, 69, 70, 71, 72, 73, 74, 75, 76, 77, 78, 79] (by decide +kernel) (by decide +kernel)
set_option maxRecDepth 20000 in
theorem gX3_atYear_X3_fails : GoodIn wsX3_atYear (wsV RX3 125 RX3 yX3_fails wsX3_fails) := goodIn_app (goodIn_of _ (by decide +kernel)) ggX3_atYear_X3_fails
set_option maxRecDepth 20000 in
theorem ggX3_atYear_X3_number : GoodIn wsX3_atYear wsX3_number := goodIn_r _ [37, 38, 39, 4, 40, 41, 42, 43, 44, 45, 46, 16, 47, 17, 48, 18, 22, 23, 24, 10, 11, 12, 13, 14, 15, 19, 20, 21] (by decide +kernel) (by decide +kernel)
set_option maxRecDepth 20000 in
theorem gX3_atYear_X3_number : GoodIn wsX3_atYear (va_wsS RX3 115 yX3_number wsX3_number) := goodIn_app (goodIn_of _ (by decide +kernel)) ggX3_atYear_X3_number
set_option maxRecDepth 20000 in
theorem ggX3_atYear_X3_becomes : GoodIn wsX3_atYear wsX3_becomes := goodIn_ca (goodIn_r _ [52, 53, 54, 55, 56, 4, 57, 58, 59, 60, 61, 62, 41, 18, 63, 64, 65, 22, 23, 24, 38, 39, 40, 42, 43, 44, 45, 46, 16, 47, 17, 48, 10, 11, 12, 13, 14, 15, 19, 20, 21, 25, 26, 27, 28, 29, 7, 8, 9, 30, 31, 32, 33, 34, 66, 67, 68, 69, 70, 71, 72, 73, 74, 75, 76, 77, 78, 79] (by decide +kernel) (by decide +kernel)) (goodIn_sub (fun _ h => List.mem_cons_of_mem _ (List.mem_append_right _ h)) (by decide +kernel))
set_option maxRecDepth 20000 in
theorem gX3_atYear_X3_becomes : GoodIn wsX3_atYear (wsV RX3 152 RX3 yX3_becomes wsX3_becomes) := goodIn_app (goodIn_of _ (by decide +kernel)) ggX3_atYear_X3_becomes
theorem dX3_atYear_0 : decode cX3_atYear 0 = .ok (.aload_n 0, 1) := by decide +kernel
theorem dX3_atYear_1 : decode cX3_atYear 1 = .ok (.iload 4, 2) := by decide +kernel
theorem dX3_atYear_3 : decode cX3_atYear 3 = .ok (.invokestatic 121, 3) := by decide +kernel
theorem dX3_atYear_6 : decode cX3_atYear 6 = .ok (.ifCond .ne 7, 3) := by decide +kernel
theorem dX3_atYear_9 : decode cX3_atYear 9 = .ok (.iconst 1, 1) := by decide +kernel
theorem dX3_atYear_10 : decode cX3_atYear 10 = .ok (.goto 59, 3) := by decide +kernel
theorem dX3_atYear_13 : decode cX3_atYear 13 = .ok (.iload_n 1, 1) := by decide +kernel
theorem dX3_atYear_14 : decode cX3_atYear 14 = .ok (.i2l, 1) := by decide +kernel
theorem dX3_atYear_15 : decode cX3_atYear 15 = .ok (.lconst 1, 1) := by decide +kernel
theorem dX3_atYear_16 : decode cX3_atYear 16 = .ok (.ldc2_w 113, 3) := by decide +kernel
theorem dX3_atYear_19 : decode cX3_atYear 19 = .ok (.invokestatic 100, 3) := by decide +kernel
theorem dX3_atYear_22 : decode cX3_atYear 22 = .ok (.ifCond .eq 46, 3) := by decide +kernel
theorem dX3_atYear_25 : decode cX3_atYear 25 = .ok (.iload_n 2, 1) := by decide +kernel
theorem dX3_atYear_26 : decode cX3_atYear 26 = .ok (.i2l, 1) := by decide +kernel
theorem dX3_atYear_27 : decode cX3_atYear 27 = .ok (.lconst 1, 1) := by decide +kernel
theorem dX3_atYear_28 : decode cX3_atYear 28 = .ok (.iload_n 1, 1) := by decide +kernel
theorem dX3_atYear_29 : decode cX3_atYear 29 = .ok (.i2l, 1) := by decide +kernel
theorem dX3_atYear_30 : decode cX3_atYear 30 = .ok (.lconst 1, 1) := by decide +kernel
theorem dX3_atYear_31 : decode cX3_atYear 31 = .ok (.ldc2_w 113, 3) := by decide +kernel
theorem dX3_atYear_34 : decode cX3_atYear 34 = .ok (.invokestatic 100, 3) := by decide +kernel
theorem dX3_atYear_37 : decode cX3_atYear 37 = .ok (.ifCond .eq 12, 3) := by decide +kernel
theorem dX3_atYear_40 : decode cX3_atYear 40 = .ok (.lconst 0, 1) := by decide +kernel
theorem dX3_atYear_41 : decode cX3_atYear 41 = .ok (.iload_n 1, 1) := by decide +kernel
theorem dX3_atYear_42 : decode cX3_atYear 42 = .ok (.invokestatic 80, 3) := by decide +kernel
theorem dX3_atYear_45 : decode cX3_atYear 45 = .ok (.i2l, 1) := by decide +kernel
theorem dX3_atYear_46 : decode cX3_atYear 46 = .ok (.goto 4, 3) := by decide +kernel
theorem dX3_atYear_49 : decode cX3_atYear 49 = .ok (.lconst 0, 1) := by decide +kernel
theorem dX3_atYear_50 : decode cX3_atYear 50 = .ok (.invokestatic 100, 3) := by decide +kernel
theorem dX3_atYear_53 : decode cX3_atYear 53 = .ok (.ifCond .eq 15, 3) := by decide +kernel
theorem dX3_atYear_56 : decode cX3_atYear 56 = .ok (.iload_n 3, 1) := by decide +kernel
theorem dX3_atYear_57 : decode cX3_atYear 57 = .ok (.i2l, 1) := by decide +kernel
theorem dX3_atYear_58 : decode cX3_atYear 58 = .ok (.invokestatic 108, 3) := by decide +kernel
theorem dX3_atYear_61 : decode cX3_atYear 61 = .ok (.ifCond .eq 7, 3) := by decide +kernel
theorem dX3_atYear_64 : decode cX3_atYear 64 = .ok (.iconst 0, 1) := by decide +kernel
theorem dX3_atYear_65 : decode cX3_atYear 65 = .ok (.goto 4, 3) := by decide +kernel
theorem dX3_atYear_68 : decode cX3_atYear 68 = .ok (.iconst 2, 1) := by decide +kernel
theorem dX3_atYear_69 : decode cX3_atYear 69 = .ok (.invokevirtual 125, 3) := by decide +kernel
theorem dX3_atYear_72 : decode cX3_atYear 72 = .ok (.ifCond .eq 5, 3) := by decide +kernel
theorem dX3_atYear_75 : decode cX3_atYear 75 = .ok (.lconst 0, 1) := by decide +kernel
theorem dX3_atYear_76 : decode cX3_atYear 76 = .ok (.lreturn, 1) := by decide +kernel
theorem dX3_atYear_77 : decode cX3_atYear 77 = .ok (.aload_n 0, 1) := by decide +kernel
theorem dX3_atYear_78 : decode cX3_atYear 78 = .ok (.iload 4, 2) := by decide +kernel
theorem dX3_atYear_80 : decode cX3_atYear 80 = .ok (.iload_n 3, 1) := by decide +kernel
theorem dX3_atYear_81 : decode cX3_atYear 81 = .ok (.i2l, 1) := by decide +kernel
theorem dX3_atYear_82 : decode cX3_atYear 82 = .ok (.iload_n 1, 1) := by decide +kernel
theorem dX3_atYear_83 : decode cX3_atYear 83 = .ok (.iload_n 2, 1) := by decide +kernel
theorem dX3_atYear_84 : decode cX3_atYear 84 = .ok (.iload_n 3, 1) := by decide +kernel
theorem dX3_atYear_85 : decode cX3_atYear 85 = .ok (.i2l, 1) := by decide +kernel
theorem dX3_atYear_86 : decode cX3_atYear 86 = .ok (.iload_n 1, 1) := by decide +kernel
theorem dX3_atYear_87 : decode cX3_atYear 87 = .ok (.invokestatic 80, 3) := by decide +kernel
theorem dX3_atYear_90 : decode cX3_atYear 90 = .ok (.if_icmp .le 12, 3) := by decide +kernel
theorem dX3_atYear_93 : decode cX3_atYear 93 = .ok (.iload_n 3, 1) := by decide +kernel
theorem dX3_atYear_94 : decode cX3_atYear 94 = .ok (.i2l, 1) := by decide +kernel
theorem dX3_atYear_95 : decode cX3_atYear 95 = .ok (.iload_n 1, 1) := by decide +kernel
theorem dX3_atYear_96 : decode cX3_atYear 96 = .ok (.invokestatic 80, 3) := by decide +kernel
theorem dX3_atYear_99 : decode cX3_atYear 99 = .ok (.goto 4, 3) := by decide +kernel
theorem dX3_atYear_102 : decode cX3_atYear 102 = .ok (.iload_n 2, 1) := by decide +kernel
theorem dX3_atYear_103 : decode cX3_atYear 103 = .ok (.invokestatic 115, 3) := by decide +kernel
theorem dX3_atYear_106 : decode cX3_atYear 106 = .ok (.iconst 3, 1) := by decide +kernel
theorem dX3_atYear_107 : decode cX3_atYear 107 = .ok (.invokevirtual 152, 3) := by decide +kernel
theorem dX3_atYear_110 : decode cX3_atYear 110 = .ok (.lreturn, 1) := by decide +kernel
theorem dX3_ordered_0 : decode cX3_ordered 0 = .ok (.lload_n 0, 1) := by decide +kernel
theorem dX3_ordered_1 : decode cX3_ordered 1 = .ok (.lload_n 2, 1) := by decide +kernel
theorem dX3_ordered_2 : decode cX3_ordered 2 = .ok (.lcmp, 1) := by decide +kernel
theorem dX3_ordered_3 : decode cX3_ordered 3 = .ok (.ifCond .ge 7, 3) := by decide +kernel
theorem dX3_ordered_6 : decode cX3_ordered 6 = .ok (.iconst (-1), 1) := by decide +kernel
theorem dX3_ordered_7 : decode cX3_ordered 7 = .ok (.goto 14, 3) := by decide +kernel
theorem dX3_ordered_10 : decode cX3_ordered 10 = .ok (.lload_n 0, 1) := by decide +kernel
theorem dX3_ordered_11 : decode cX3_ordered 11 = .ok (.lload_n 2, 1) := by decide +kernel
theorem dX3_ordered_12 : decode cX3_ordered 12 = .ok (.lcmp, 1) := by decide +kernel
theorem dX3_ordered_13 : decode cX3_ordered 13 = .ok (.ifCond .le 7, 3) := by decide +kernel
theorem dX3_ordered_16 : decode cX3_ordered 16 = .ok (.iconst 1, 1) := by decide +kernel
theorem dX3_ordered_17 : decode cX3_ordered 17 = .ok (.goto 4, 3) := by decide +kernel
theorem dX3_ordered_20 : decode cX3_ordered 20 = .ok (.iconst 0, 1) := by decide +kernel
theorem dX3_ordered_21 : decode cX3_ordered 21 = .ok (.ireturn, 1) := by decide +kernel
set_option maxRecDepth 20000 in
theorem ggX3_order_X3_isDate : GoodIn wsX3_order wsX3_isDate := goodIn_r _ [5, 6, 7, 8, 4, 9] (by decide +kernel) (by decide +kernel)
set_option maxRecDepth 20000 in
theorem gX3_order_X3_isDate : GoodIn wsX3_order (va_wsS RX3 121 yX3_isDate wsX3_isDate) := goodIn_app (goodIn_of _ (by decide +kernel)) ggX3_order_X3_isDate
set_option maxRecDepth 20000 in
theorem ggX3_order_X3_fails : GoodIn wsX3_order wsX3_fails := goodIn_r _ [13, 14, 18, 19, 20, 21, 22, 23, 24, 25, 26, 27, 28, 29, 30, 31] (by decide +kernel) (by decide +kernel)
set_option maxRecDepth 20000 in
theorem gX3_order_X3_fails : GoodIn wsX3_order (wsV RX3 125 RX3 yX3_fails wsX3_fails) := goodIn_app (goodIn_of _ (by decide +kernel)) ggX3_order_X3_fails
set_option maxRecDepth 20000 in
theorem ggX3_order_X3_ordered : GoodIn wsX3_order wsX3_ordered := goodIn_r _ [17] (by decide +kernel) (by decide +kernel)
set_option maxRecDepth 20000 in
theorem gX3_order_X3_ordered : GoodIn wsX3_order (va_wsS RX3 163 yX3_ordered wsX3_ordered) := goodIn_app (goodIn_of _ (by decide +kernel)) ggX3_order_X3_ordered
theorem dX3_order_0 : decode cX3_order 0 = .ok (.aload_n 0, 1) := by decide +kernel
theorem dX3_order_1 : decode cX3_order 1 = .ok (.iload_n 1, 1) := by decide +kernel
theorem dX3_order_2 : decode cX3_order 2 = .ok (.invokestatic 121, 3) := by decide +kernel
theorem dX3_order_5 : decode cX3_order 5 = .ok (.ifCond .eq 14, 3) := by decide +kernel
theorem dX3_order_8 : decode cX3_order 8 = .ok (.iload_n 2, 1) := by decide +kernel
theorem dX3_order_9 : decode cX3_order 9 = .ok (.invokestatic 121, 3) := by decide +kernel
theorem dX3_order_12 : decode cX3_order 12 = .ok (.ifCond .eq 7, 3) := by decide +kernel
theorem dX3_order_15 : decode cX3_order 15 = .ok (.iconst 0, 1) := by decide +kernel
theorem dX3_order_16 : decode cX3_order 16 = .ok (.goto 4, 3) := by decide +kernel
theorem dX3_order_19 : decode cX3_order 19 = .ok (.iconst 1, 1) := by decide +kernel
theorem dX3_order_20 : decode cX3_order 20 = .ok (.invokevirtual 125, 3) := by decide +kernel
theorem dX3_order_23 : decode cX3_order 23 = .ok (.ifCond .eq 7, 3) := by decide +kernel
theorem dX3_order_26 : decode cX3_order 26 = .ok (.iconst 0, 1) := by decide +kernel
theorem dX3_order_27 : decode cX3_order 27 = .ok (.goto 18, 3) := by decide +kernel
theorem dX3_order_30 : decode cX3_order 30 = .ok (.aload_n 0, 1) := by decide +kernel
theorem dX3_order_31 : decode cX3_order 31 = .ok (.getfield 13, 3) := by decide +kernel
theorem dX3_order_34 : decode cX3_order 34 = .ok (.iload_n 1, 1) := by decide +kernel
theorem dX3_order_35 : decode cX3_order 35 = .ok (.laload, 1) := by decide +kernel
theorem dX3_order_36 : decode cX3_order 36 = .ok (.aload_n 0, 1) := by decide +kernel
theorem dX3_order_37 : decode cX3_order 37 = .ok (.getfield 13, 3) := by decide +kernel
theorem dX3_order_40 : decode cX3_order 40 = .ok (.iload_n 2, 1) := by decide +kernel
theorem dX3_order_41 : decode cX3_order 41 = .ok (.laload, 1) := by decide +kernel
theorem dX3_order_42 : decode cX3_order 42 = .ok (.invokestatic 163, 3) := by decide +kernel
theorem dX3_order_45 : decode cX3_order 45 = .ok (.ireturn, 1) := by decide +kernel
set_option maxRecDepth 20000 in
theorem ggX3_monthsFrom_X3_parts : GoodIn wsX3_monthsFrom wsX3_parts := goodIn_r _ [9, 10, 11, 12, 2, 3, 4, 13, 14, 8, 15, 16, 17, 18, 19, 20, 21, 22, 23, 24, 25, 26, 27, 28, 29, 30, 31, 32, 33, 34, 35, 36, 37, 38, 39, 40, 41, 42, 43, 44, 45, 46, 47, 48, 49, 50] (by decide +kernel) (by decide +kernel)
set_option maxRecDepth 20000 in
theorem gX3_monthsFrom_X3_parts : GoodIn wsX3_monthsFrom (wsV RX3 104 RX3 yX3_parts wsX3_parts) := goodIn_app (goodIn_of _ (by decide +kernel)) ggX3_monthsFrom_X3_parts
theorem dX3_monthsFrom_0 : decode cX3_monthsFrom 0 = .ok (.aload_n 0, 1) := by decide +kernel
theorem dX3_monthsFrom_1 : decode cX3_monthsFrom 1 = .ok (.lload_n 1, 1) := by decide +kernel
theorem dX3_monthsFrom_2 : decode cX3_monthsFrom 2 = .ok (.lload_n 3, 1) := by decide +kernel
theorem dX3_monthsFrom_3 : decode cX3_monthsFrom 3 = .ok (.lcmp, 1) := by decide +kernel
theorem dX3_monthsFrom_4 : decode cX3_monthsFrom 4 = .ok (.ifCond .ge 7, 3) := by decide +kernel
theorem dX3_monthsFrom_7 : decode cX3_monthsFrom 7 = .ok (.lload_n 1, 1) := by decide +kernel
theorem dX3_monthsFrom_8 : decode cX3_monthsFrom 8 = .ok (.goto 4, 3) := by decide +kernel
theorem dX3_monthsFrom_11 : decode cX3_monthsFrom 11 = .ok (.lload_n 3, 1) := by decide +kernel
theorem dX3_monthsFrom_12 : decode cX3_monthsFrom 12 = .ok (.invokevirtual 104, 3) := by decide +kernel
theorem dX3_monthsFrom_15 : decode cX3_monthsFrom 15 = .ok (.ldc2_w 113, 3) := by decide +kernel
theorem dX3_monthsFrom_18 : decode cX3_monthsFrom 18 = .ok (.aload_n 0, 1) := by decide +kernel
theorem dX3_monthsFrom_19 : decode cX3_monthsFrom 19 = .ok (.getfield 86, 3) := by decide +kernel
theorem dX3_monthsFrom_22 : decode cX3_monthsFrom 22 = .ok (.lmul, 1) := by decide +kernel
theorem dX3_monthsFrom_23 : decode cX3_monthsFrom 23 = .ok (.aload_n 0, 1) := by decide +kernel
theorem dX3_monthsFrom_24 : decode cX3_monthsFrom 24 = .ok (.getfield 90, 3) := by decide +kernel
theorem dX3_monthsFrom_27 : decode cX3_monthsFrom 27 = .ok (.i2l, 1) := by decide +kernel
theorem dX3_monthsFrom_28 : decode cX3_monthsFrom 28 = .ok (.ladd, 1) := by decide +kernel
theorem dX3_monthsFrom_29 : decode cX3_monthsFrom 29 = .ok (.lneg, 1) := by decide +kernel
theorem dX3_monthsFrom_30 : decode cX3_monthsFrom 30 = .ok (.lstore 5, 2) := by decide +kernel
theorem dX3_monthsFrom_32 : decode cX3_monthsFrom 32 = .ok (.aload_n 0, 1) := by decide +kernel
theorem dX3_monthsFrom_33 : decode cX3_monthsFrom 33 = .ok (.getfield 93, 3) := by decide +kernel
theorem dX3_monthsFrom_36 : decode cX3_monthsFrom 36 = .ok (.istore 7, 2) := by decide +kernel
theorem dX3_monthsFrom_38 : decode cX3_monthsFrom 38 = .ok (.aload_n 0, 1) := by decide +kernel
theorem dX3_monthsFrom_39 : decode cX3_monthsFrom 39 = .ok (.lload_n 1, 1) := by decide +kernel
theorem dX3_monthsFrom_40 : decode cX3_monthsFrom 40 = .ok (.lload_n 3, 1) := by decide +kernel
theorem dX3_monthsFrom_41 : decode cX3_monthsFrom 41 = .ok (.lcmp, 1) := by decide +kernel
theorem dX3_monthsFrom_42 : decode cX3_monthsFrom 42 = .ok (.ifCond .ge 7, 3) := by decide +kernel
theorem dX3_monthsFrom_45 : decode cX3_monthsFrom 45 = .ok (.lload_n 3, 1) := by decide +kernel
theorem dX3_monthsFrom_46 : decode cX3_monthsFrom 46 = .ok (.goto 4, 3) := by decide +kernel
theorem dX3_monthsFrom_49 : decode cX3_monthsFrom 49 = .ok (.lload_n 1, 1) := by decide +kernel
theorem dX3_monthsFrom_50 : decode cX3_monthsFrom 50 = .ok (.invokevirtual 104, 3) := by decide +kernel
theorem dX3_monthsFrom_53 : decode cX3_monthsFrom 53 = .ok (.lload 5, 2) := by decide +kernel
theorem dX3_monthsFrom_55 : decode cX3_monthsFrom 55 = .ok (.ldc2_w 113, 3) := by decide +kernel
theorem dX3_monthsFrom_58 : decode cX3_monthsFrom 58 = .ok (.aload_n 0, 1) := by decide +kernel
theorem dX3_monthsFrom_59 : decode cX3_monthsFrom 59 = .ok (.getfield 86, 3) := by decide +kernel
theorem dX3_monthsFrom_62 : decode cX3_monthsFrom 62 = .ok (.lmul, 1) := by decide +kernel
theorem dX3_monthsFrom_63 : decode cX3_monthsFrom 63 = .ok (.ladd, 1) := by decide +kernel
theorem dX3_monthsFrom_64 : decode cX3_monthsFrom 64 = .ok (.aload_n 0, 1) := by decide +kernel
theorem dX3_monthsFrom_65 : decode cX3_monthsFrom 65 = .ok (.getfield 90, 3) := by decide +kernel
theorem dX3_monthsFrom_68 : decode cX3_monthsFrom 68 = .ok (.i2l, 1) := by decide +kernel
theorem dX3_monthsFrom_69 : decode cX3_monthsFrom 69 = .ok (.ladd, 1) := by decide +kernel
theorem dX3_monthsFrom_70 : decode cX3_monthsFrom 70 = .ok (.aload_n 0, 1) := by decide +kernel
theorem dX3_monthsFrom_71 : decode cX3_monthsFrom 71 = .ok (.getfield 93, 3) := by decide +kernel
theorem dX3_monthsFrom_74 : decode cX3_monthsFrom 74 = .ok (.iload 7, 2) := by decide +kernel
theorem dX3_monthsFrom_76 : decode cX3_monthsFrom 76 = .ok (.if_icmp .ge 7, 3) := by decide +kernel
theorem dX3_monthsFrom_79 : decode cX3_monthsFrom 79 = .ok (.lconst 1, 1) := by decide +kernel
theorem dX3_monthsFrom_80 : decode cX3_monthsFrom 80 = .ok (.goto 4, 3) := by decide +kernel
theorem dX3_monthsFrom_83 : decode cX3_monthsFrom 83 = .ok (.lconst 0, 1) := by decide +kernel
theorem dX3_monthsFrom_84 : decode cX3_monthsFrom 84 = .ok (.lsub, 1) := by decide +kernel
theorem dX3_monthsFrom_85 : decode cX3_monthsFrom 85 = .ok (.lstore 8, 2) := by decide +kernel
theorem dX3_monthsFrom_87 : decode cX3_monthsFrom 87 = .ok (.lload_n 1, 1) := by decide +kernel
theorem dX3_monthsFrom_88 : decode cX3_monthsFrom 88 = .ok (.lload_n 3, 1) := by decide +kernel
theorem dX3_monthsFrom_89 : decode cX3_monthsFrom 89 = .ok (.lcmp, 1) := by decide +kernel
theorem dX3_monthsFrom_90 : decode cX3_monthsFrom 90 = .ok (.ifCond .ge 8, 3) := by decide +kernel
theorem dX3_monthsFrom_93 : decode cX3_monthsFrom 93 = .ok (.lload 8, 2) := by decide +kernel
theorem dX3_monthsFrom_95 : decode cX3_monthsFrom 95 = .ok (.goto 6, 3) := by decide +kernel
theorem dX3_monthsFrom_98 : decode cX3_monthsFrom 98 = .ok (.lload 8, 2) := by decide +kernel
theorem dX3_monthsFrom_100 : decode cX3_monthsFrom 100 = .ok (.lneg, 1) := by decide +kernel
theorem dX3_monthsFrom_101 : decode cX3_monthsFrom 101 = .ok (.lreturn, 1) := by decide +kernel
set_option maxRecDepth 20000 in
theorem ggX3_between_X3_isDate : GoodIn wsX3_between wsX3_isDate := goodIn_r _ [7, 8, 9, 10, 6, 11] (by decide +kernel) (by decide +kernel)
set_option maxRecDepth 20000 in
theorem gX3_between_X3_isDate : GoodIn wsX3_between (va_wsS RX3 121 yX3_isDate wsX3_isDate) := goodIn_app (goodIn_of _ (by decide +kernel)) ggX3_between_X3_isDate
set_option maxRecDepth 20000 in
theorem ggX3_between_X3_isUnit : GoodIn wsX3_between wsX3_isUnit := goodIn_r _ [14] (by decide +kernel) (by decide +kernel)
set_option maxRecDepth 20000 in
theorem gX3_between_X3_isUnit : GoodIn wsX3_between (va_wsS RX3 140 yX3_isUnit wsX3_isUnit) := goodIn_app (goodIn_of _ (by decide +kernel)) ggX3_between_X3_isUnit
