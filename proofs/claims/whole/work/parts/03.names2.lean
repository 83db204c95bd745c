def wsL_length_r1 : List Cond := [Cond.classLink RL 13 "java/lang/IndexOutOfBoundsException", Cond.classLink RL 15 "java/lang/IllegalArgumentException", Cond.classLink RL 21 "java/lang/UnsupportedOperationException", Cond.methodLink RL 123 yX2_length, Cond.instanceMethod yX2_length, Cond.selects RX2 yX2_length yX2_length, Cond.initialized RX2, Cond.code yX2_length cX2_length 6 (some .long), Cond.constantLong RX2 223 (-1000000000000), Cond.constantLong RX2 225 (1000000000000), Cond.constantLong RX2 209 (-1000000000000000), Cond.constantLong RX2 211 (1000000000000000), Cond.methodLink RX2 41 yX2_checkSlot, Cond.static yX2_checkSlot, Cond.code yX2_checkSlot cX2_checkSlot 2 none, Cond.classLink RX2 289 "java/lang/IndexOutOfBoundsException", Cond.initialized "java/lang/IndexOutOfBoundsException", Cond.methodLink RX2 55 yX2_isIn, Cond.static yX2_isIn, Cond.code yX2_isIn cX2_isIn 6 (some .boolean), Cond.methodLink RX2 49 yX2_checkArgument, Cond.static yX2_checkArgument, Cond.code yX2_checkArgument cX2_checkArgument 1 none, Cond.classLink RX2 101 "java/lang/IllegalArgumentException"]
def wsL_length_r2 : List Cond := [Cond.initialized "java/lang/IllegalArgumentException", Cond.methodLink RX2 227 yX2_keepLength, Cond.instanceMethod yX2_keepLength, Cond.selects RX2 yX2_keepLength yX2_keepLength, Cond.code yX2_keepLength cX2_keepLength 10 (some .long), Cond.constantLong RX2 197 (1000000000), Cond.fieldLink RX2 29 "Yearwheel" "lengthSeconds" "[J", Cond.fieldLink RX2 32 "Yearwheel" "lengthBillionths" "[J", Cond.methodLink RX2 281 yJ9_floorDiv_f86c9, Cond.static yJ9_floorDiv_f86c9, Cond.initialized RJ9, Cond.code yJ9_floorDiv_f86c9 cJ9_floorDiv_f86c9 6 (some .long), Cond.methodLink RX2 284 yJ9_floorMod_f86c9, Cond.static yJ9_floorMod_f86c9, Cond.code yJ9_floorMod_f86c9 cJ9_floorMod_f86c9 6 (some .long), Cond.methodLink RX2 164 yX2_checkOutcome, Cond.static yX2_checkOutcome, Cond.code yX2_checkOutcome cX2_checkOutcome 1 none, Cond.classLink RX2 296 "java/lang/UnsupportedOperationException", Cond.initialized "java/lang/UnsupportedOperationException"]
def wsL_length : List Cond := .codeWith yL_length cL_length 8 (some .int) [(0, 12, 15, 13), (0, 12, 19, 15), (0, 12, 23, 21)] :: ((wsL_length_r1 ++ wsL_length_r2) ++ wsX20 ++ (vx_atM "java/lang/ArrayIndexOutOfBoundsException" ["java/lang/IndexOutOfBoundsException", "java/lang/RuntimeException", "java/lang/Exception"]).filter goodWord ++ (vx_atS RX2 293 "java/lang/IndexOutOfBoundsException" ["java/lang/RuntimeException", "java/lang/Exception"]).filter goodWord ++ (vx_atS RX2 105 "java/lang/IllegalArgumentException" ["java/lang/RuntimeException", "java/lang/Exception"]).filter goodWord ++ (vx_atS RX2 300 "java/lang/UnsupportedOperationException" ["java/lang/RuntimeException", "java/lang/Exception"]).filter goodWord)
def wsL_lengthPart : List Cond := .codeWith yL_lengthPart cL_lengthPart 5 (some .int) [(0, 9, 12, 13), (0, 9, 16, 15)] :: ([.classLink RL 13 "java/lang/IndexOutOfBoundsException", .classLink RL 15 "java/lang/IllegalArgumentException", .methodLink RL 127 yX2_lengthPart, .instanceMethod yX2_lengthPart, .selects RX2 yX2_lengthPart yX2_lengthPart, .initialized RX2, .code yX2_lengthPart cX2_lengthPart 3 (some .long), .classLink RX2 101 "java/lang/IllegalArgumentException", .initialized "java/lang/IllegalArgumentException", .fieldLink RX2 29 "Yearwheel" "lengthSeconds" "[J", .fieldLink RX2 32 "Yearwheel" "lengthBillionths" "[J", .methodLink RX2 41 yX2_checkSlot, .static yX2_checkSlot, .code yX2_checkSlot cX2_checkSlot 2 none, .classLink RX2 289 "java/lang/IndexOutOfBoundsException", .initialized "java/lang/IndexOutOfBoundsException"] ++ wsX20 ++ (vx_atM "java/lang/ArrayIndexOutOfBoundsException" ["java/lang/IndexOutOfBoundsException", "java/lang/RuntimeException", "java/lang/Exception"]).filter goodWord ++ (vx_atS RX2 105 "java/lang/IllegalArgumentException" ["java/lang/RuntimeException", "java/lang/Exception"]).filter goodWord ++ (vx_atS RX2 293 "java/lang/IndexOutOfBoundsException" ["java/lang/RuntimeException", "java/lang/Exception"]).filter goodWord)
def wsL_addLength_r1 : List Cond := [Cond.classLink RL 13 "java/lang/IndexOutOfBoundsException", Cond.classLink RL 21 "java/lang/UnsupportedOperationException", Cond.methodLink RL 131 yX2_addLength, Cond.instanceMethod yX2_addLength, Cond.selects RX2 yX2_addLength yX2_addLength, Cond.initialized RX2, Cond.code yX2_addLength cX2_addLength 8 (some .long), Cond.fieldLink RX2 29 "Yearwheel" "lengthSeconds" "[J", Cond.fieldLink RX2 32 "Yearwheel" "lengthBillionths" "[J", Cond.methodLink RX2 41 yX2_checkSlot, Cond.static yX2_checkSlot, Cond.code yX2_checkSlot cX2_checkSlot 2 none, Cond.classLink RX2 289 "java/lang/IndexOutOfBoundsException", Cond.initialized "java/lang/IndexOutOfBoundsException", Cond.methodLink RX2 227 yX2_keepLength, Cond.instanceMethod yX2_keepLength, Cond.selects RX2 yX2_keepLength yX2_keepLength, Cond.code yX2_keepLength cX2_keepLength 10 (some .long), Cond.constantLong RX2 197 (1000000000), Cond.constantLong RX2 223 (-1000000000000), Cond.constantLong RX2 225 (1000000000000), Cond.methodLink RX2 281 yJ9_floorDiv_f86c9, Cond.static yJ9_floorDiv_f86c9, Cond.initialized RJ9]
def wsL_addLength_r2 : List Cond := [Cond.code yJ9_floorDiv_f86c9 cJ9_floorDiv_f86c9 6 (some .long), Cond.methodLink RX2 284 yJ9_floorMod_f86c9, Cond.static yJ9_floorMod_f86c9, Cond.code yJ9_floorMod_f86c9 cJ9_floorMod_f86c9 6 (some .long), Cond.methodLink RX2 55 yX2_isIn, Cond.static yX2_isIn, Cond.code yX2_isIn cX2_isIn 6 (some .boolean), Cond.methodLink RX2 164 yX2_checkOutcome, Cond.static yX2_checkOutcome, Cond.code yX2_checkOutcome cX2_checkOutcome 1 none, Cond.classLink RX2 296 "java/lang/UnsupportedOperationException", Cond.initialized "java/lang/UnsupportedOperationException"]
def wsL_addLength : List Cond := .codeWith yL_addLength cL_addLength 7 (some .int) [(0, 13, 16, 13), (0, 13, 20, 21)] :: ((wsL_addLength_r1 ++ wsL_addLength_r2) ++ wsX20 ++ (vx_atM "java/lang/ArrayIndexOutOfBoundsException" ["java/lang/IndexOutOfBoundsException", "java/lang/RuntimeException", "java/lang/Exception"]).filter goodWord ++ (vx_atS RX2 293 "java/lang/IndexOutOfBoundsException" ["java/lang/RuntimeException", "java/lang/Exception"]).filter goodWord ++ (vx_atS RX2 300 "java/lang/UnsupportedOperationException" ["java/lang/RuntimeException", "java/lang/Exception"]).filter goodWord)
def wsL_timesLength_r1 : List Cond := [Cond.classLink RL 13 "java/lang/IndexOutOfBoundsException", Cond.classLink RL 15 "java/lang/IllegalArgumentException", Cond.classLink RL 21 "java/lang/UnsupportedOperationException", Cond.methodLink RL 134 yX2_timesLength, Cond.instanceMethod yX2_timesLength, Cond.selects RX2 yX2_timesLength yX2_timesLength, Cond.initialized RX2, Cond.code yX2_timesLength cX2_timesLength 4 (some .long), Cond.constantLong RX2 233 (-1000), Cond.constantLong RX2 235 (1000), Cond.fieldLink RX2 29 "Yearwheel" "lengthSeconds" "[J", Cond.fieldLink RX2 32 "Yearwheel" "lengthBillionths" "[J", Cond.methodLink RX2 41 yX2_checkSlot, Cond.static yX2_checkSlot, Cond.code yX2_checkSlot cX2_checkSlot 2 none, Cond.classLink RX2 289 "java/lang/IndexOutOfBoundsException", Cond.initialized "java/lang/IndexOutOfBoundsException", Cond.methodLink RX2 55 yX2_isIn, Cond.static yX2_isIn, Cond.code yX2_isIn cX2_isIn 6 (some .boolean), Cond.methodLink RX2 49 yX2_checkArgument, Cond.static yX2_checkArgument, Cond.code yX2_checkArgument cX2_checkArgument 1 none, Cond.classLink RX2 101 "java/lang/IllegalArgumentException"]
def wsL_timesLength_r2 : List Cond := [Cond.initialized "java/lang/IllegalArgumentException", Cond.methodLink RX2 227 yX2_keepLength, Cond.instanceMethod yX2_keepLength, Cond.selects RX2 yX2_keepLength yX2_keepLength, Cond.code yX2_keepLength cX2_keepLength 10 (some .long), Cond.constantLong RX2 197 (1000000000), Cond.constantLong RX2 223 (-1000000000000), Cond.constantLong RX2 225 (1000000000000), Cond.methodLink RX2 281 yJ9_floorDiv_f86c9, Cond.static yJ9_floorDiv_f86c9, Cond.initialized RJ9, Cond.code yJ9_floorDiv_f86c9 cJ9_floorDiv_f86c9 6 (some .long), Cond.methodLink RX2 284 yJ9_floorMod_f86c9, Cond.static yJ9_floorMod_f86c9, Cond.code yJ9_floorMod_f86c9 cJ9_floorMod_f86c9 6 (some .long), Cond.methodLink RX2 164 yX2_checkOutcome, Cond.static yX2_checkOutcome, Cond.code yX2_checkOutcome cX2_checkOutcome 1 none, Cond.classLink RX2 296 "java/lang/UnsupportedOperationException", Cond.initialized "java/lang/UnsupportedOperationException"]
def wsL_timesLength : List Cond := .codeWith yL_timesLength cL_timesLength 6 (some .int) [(0, 11, 14, 13), (0, 11, 18, 15), (0, 11, 22, 21)] :: ((wsL_timesLength_r1 ++ wsL_timesLength_r2) ++ wsX20 ++ (vx_atM "java/lang/ArrayIndexOutOfBoundsException" ["java/lang/IndexOutOfBoundsException", "java/lang/RuntimeException", "java/lang/Exception"]).filter goodWord ++ (vx_atS RX2 293 "java/lang/IndexOutOfBoundsException" ["java/lang/RuntimeException", "java/lang/Exception"]).filter goodWord ++ (vx_atS RX2 105 "java/lang/IllegalArgumentException" ["java/lang/RuntimeException", "java/lang/Exception"]).filter goodWord ++ (vx_atS RX2 300 "java/lang/UnsupportedOperationException" ["java/lang/RuntimeException", "java/lang/Exception"]).filter goodWord)
def wsL_lengthOfTimes_r1 : List Cond := [Cond.classLink RL 13 "java/lang/IndexOutOfBoundsException", Cond.methodLink RL 137 yX2_lengthOfTimes, Cond.instanceMethod yX2_lengthOfTimes, Cond.selects RX2 yX2_lengthOfTimes yX2_lengthOfTimes, Cond.initialized RX2, Cond.code yX2_lengthOfTimes cX2_lengthOfTimes 4 (some .long), Cond.fieldLink RX2 26 "Yearwheel" "times" "[J", Cond.methodLink RX2 41 yX2_checkSlot, Cond.static yX2_checkSlot, Cond.code yX2_checkSlot cX2_checkSlot 2 none, Cond.classLink RX2 289 "java/lang/IndexOutOfBoundsException", Cond.initialized "java/lang/IndexOutOfBoundsException", Cond.methodLink RX2 227 yX2_keepLength, Cond.instanceMethod yX2_keepLength, Cond.selects RX2 yX2_keepLength yX2_keepLength, Cond.code yX2_keepLength cX2_keepLength 10 (some .long), Cond.constantLong RX2 197 (1000000000), Cond.constantLong RX2 223 (-1000000000000), Cond.constantLong RX2 225 (1000000000000), Cond.fieldLink RX2 29 "Yearwheel" "lengthSeconds" "[J", Cond.fieldLink RX2 32 "Yearwheel" "lengthBillionths" "[J", Cond.methodLink RX2 281 yJ9_floorDiv_f86c9, Cond.static yJ9_floorDiv_f86c9, Cond.initialized RJ9]
def wsL_lengthOfTimes_r2 : List Cond := [Cond.code yJ9_floorDiv_f86c9 cJ9_floorDiv_f86c9 6 (some .long), Cond.methodLink RX2 284 yJ9_floorMod_f86c9, Cond.static yJ9_floorMod_f86c9, Cond.code yJ9_floorMod_f86c9 cJ9_floorMod_f86c9 6 (some .long), Cond.methodLink RX2 55 yX2_isIn, Cond.static yX2_isIn, Cond.code yX2_isIn cX2_isIn 6 (some .boolean), Cond.methodLink RX2 164 yX2_checkOutcome, Cond.static yX2_checkOutcome, Cond.code yX2_checkOutcome cX2_checkOutcome 1 none, Cond.classLink RX2 296 "java/lang/UnsupportedOperationException", Cond.initialized "java/lang/UnsupportedOperationException"]
def wsL_lengthOfTimes : List Cond := .codeWith yL_lengthOfTimes cL_lengthOfTimes 6 (some .int) [(0, 11, 14, 13)] :: ((wsL_lengthOfTimes_r1 ++ wsL_lengthOfTimes_r2) ++ wsX20 ++ (vx_atM "java/lang/ArrayIndexOutOfBoundsException" ["java/lang/IndexOutOfBoundsException", "java/lang/RuntimeException", "java/lang/Exception"]).filter goodWord ++ (vx_atS RX2 293 "java/lang/IndexOutOfBoundsException" ["java/lang/RuntimeException", "java/lang/Exception"]).filter goodWord ++ (vx_atS RX2 300 "java/lang/UnsupportedOperationException" ["java/lang/RuntimeException", "java/lang/Exception"]).filter goodWord)
def wsL_orderLengths : List Cond := .codeWith yL_orderLengths cL_orderLengths 5 (some .int) [(0, 10, 13, 13)] :: ([.classLink RL 13 "java/lang/IndexOutOfBoundsException", .methodLink RL 140 yX2_orderLengths, .instanceMethod yX2_orderLengths, .selects RX2 yX2_orderLengths yX2_orderLengths, .initialized RX2, .code yX2_orderLengths cX2_orderLengths 4 (some .int), .fieldLink RX2 29 "Yearwheel" "lengthSeconds" "[J", .fieldLink RX2 32 "Yearwheel" "lengthBillionths" "[J", .methodLink RX2 41 yX2_checkSlot, .static yX2_checkSlot, .code yX2_checkSlot cX2_checkSlot 2 none, .classLink RX2 289 "java/lang/IndexOutOfBoundsException", .initialized "java/lang/IndexOutOfBoundsException", .methodLink RX2 148 yX2_sign, .static yX2_sign, .code yX2_sign cX2_sign 4 (some .int)] ++ wsX20 ++ (vx_atM "java/lang/ArrayIndexOutOfBoundsException" ["java/lang/IndexOutOfBoundsException", "java/lang/RuntimeException", "java/lang/Exception"]).filter goodWord ++ (vx_atS RX2 293 "java/lang/IndexOutOfBoundsException" ["java/lang/RuntimeException", "java/lang/Exception"]).filter goodWord)
def wsL_moment_r1 : List Cond := [Cond.classLink RL 13 "java/lang/IndexOutOfBoundsException", Cond.methodLink RL 143 yX2_moment, Cond.instanceMethod yX2_moment, Cond.selects RX2 yX2_moment yX2_moment, Cond.initialized RX2, Cond.code yX2_moment cX2_moment 4 (some .long), Cond.fieldLink RX2 9 "Yearwheel" "dates" "[J", Cond.fieldLink RX2 26 "Yearwheel" "times" "[J", Cond.methodLink RX2 41 yX2_checkSlot, Cond.static yX2_checkSlot, Cond.code yX2_checkSlot cX2_checkSlot 2 none, Cond.classLink RX2 289 "java/lang/IndexOutOfBoundsException", Cond.initialized "java/lang/IndexOutOfBoundsException", Cond.methodLink RX2 237 yX2_keepMoment, Cond.instanceMethod yX2_keepMoment, Cond.selects RX2 yX2_keepMoment yX2_keepMoment, Cond.code yX2_keepMoment cX2_keepMoment 8 (some .long), Cond.constantLong RX2 287 (86400000000000), Cond.fieldLink RX2 35 "Yearwheel" "momentDays" "[J", Cond.fieldLink RX2 38 "Yearwheel" "momentTimes" "[J", Cond.methodLink RX2 281 yJ9_floorDiv_f86c9, Cond.static yJ9_floorDiv_f86c9, Cond.initialized RJ9, Cond.code yJ9_floorDiv_f86c9 cJ9_floorDiv_f86c9 6 (some .long)]
def wsL_moment_r2 : List Cond := [Cond.methodLink RX2 272 yX1_isDay, Cond.static yX1_isDay, Cond.initialized RX1, Cond.code yX1_isDay cX1_isDay 2 (some .boolean), Cond.constantLong RX1 9 (-4371587), Cond.constantLong RX1 11 (2932896), Cond.methodLink RX2 164 yX2_checkOutcome, Cond.static yX2_checkOutcome, Cond.code yX2_checkOutcome cX2_checkOutcome 1 none, Cond.classLink RX2 296 "java/lang/UnsupportedOperationException", Cond.initialized "java/lang/UnsupportedOperationException", Cond.methodLink RX2 216 yX0_roundDay, Cond.static yX0_roundDay, Cond.initialized RX0, Cond.code yX0_roundDay cX0_roundDay 2 (some .long), Cond.constantLong RX0 15 (86400000000000), Cond.methodLink RX0 17 yJ9_floorMod_f86c9, Cond.static yJ9_floorMod_f86c9, Cond.code yJ9_floorMod_f86c9 cJ9_floorMod_f86c9 6 (some .long)]
def wsL_moment : List Cond := .codeWith yL_moment cL_moment 6 (some .int) [(0, 11, 14, 13)] :: ((wsL_moment_r1 ++ wsL_moment_r2) ++ wsX20 ++ (vx_atM "java/lang/ArrayIndexOutOfBoundsException" ["java/lang/IndexOutOfBoundsException", "java/lang/RuntimeException", "java/lang/Exception"]).filter goodWord ++ (vx_atS RX2 293 "java/lang/IndexOutOfBoundsException" ["java/lang/RuntimeException", "java/lang/Exception"]).filter goodWord ++ (vx_atS RX2 300 "java/lang/UnsupportedOperationException" ["java/lang/RuntimeException", "java/lang/Exception"]).filter goodWord)
def wsL_dateOf_r1 : List Cond := [Cond.classLink RL 13 "java/lang/IndexOutOfBoundsException", Cond.methodLink RL 146 yX2_dateOf, Cond.instanceMethod yX2_dateOf, Cond.selects RX2 yX2_dateOf yX2_dateOf, Cond.initialized RX2, Cond.code yX2_dateOf cX2_dateOf 3 (some .long), Cond.fieldLink RX2 35 "Yearwheel" "momentDays" "[J", Cond.methodLink RX2 41 yX2_checkSlot, Cond.static yX2_checkSlot, Cond.code yX2_checkSlot cX2_checkSlot 2 none, Cond.classLink RX2 289 "java/lang/IndexOutOfBoundsException", Cond.initialized "java/lang/IndexOutOfBoundsException", Cond.methodLink RX2 73 yX2_keepDate, Cond.instanceMethod yX2_keepDate, Cond.selects RX2 yX2_keepDate yX2_keepDate, Cond.code yX2_keepDate cX2_keepDate 4 (some .long), Cond.fieldLink RX2 9 "Yearwheel" "dates" "[J", Cond.methodLink RX2 272 yX1_isDay, Cond.static yX1_isDay, Cond.initialized RX1, Cond.code yX1_isDay cX1_isDay 2 (some .boolean), Cond.constantLong RX1 9 (-4371587), Cond.constantLong RX1 11 (2932896), Cond.methodLink RX2 164 yX2_checkOutcome]
def wsL_dateOf_r2 : List Cond := [Cond.static yX2_checkOutcome, Cond.code yX2_checkOutcome cX2_checkOutcome 1 none, Cond.classLink RX2 296 "java/lang/UnsupportedOperationException", Cond.initialized "java/lang/UnsupportedOperationException"]
def wsL_dateOf : List Cond := .codeWith yL_dateOf cL_dateOf 5 (some .int) [(0, 9, 12, 13)] :: ((wsL_dateOf_r1 ++ wsL_dateOf_r2) ++ wsX20 ++ (vx_atM "java/lang/ArrayIndexOutOfBoundsException" ["java/lang/IndexOutOfBoundsException", "java/lang/RuntimeException", "java/lang/Exception"]).filter goodWord ++ (vx_atS RX2 293 "java/lang/IndexOutOfBoundsException" ["java/lang/RuntimeException", "java/lang/Exception"]).filter goodWord ++ (vx_atS RX2 300 "java/lang/UnsupportedOperationException" ["java/lang/RuntimeException", "java/lang/Exception"]).filter goodWord)
def wsL_timeOf : List Cond := .codeWith yL_timeOf cL_timeOf 5 (some .int) [(0, 9, 12, 13)] :: ([.classLink RL 13 "java/lang/IndexOutOfBoundsException", .methodLink RL 149 yX2_timeOf, .instanceMethod yX2_timeOf, .selects RX2 yX2_timeOf yX2_timeOf, .initialized RX2, .code yX2_timeOf cX2_timeOf 3 (some .long), .fieldLink RX2 26 "Yearwheel" "times" "[J", .fieldLink RX2 38 "Yearwheel" "momentTimes" "[J", .methodLink RX2 41 yX2_checkSlot, .static yX2_checkSlot, .code yX2_checkSlot cX2_checkSlot 2 none, .classLink RX2 289 "java/lang/IndexOutOfBoundsException", .initialized "java/lang/IndexOutOfBoundsException"] ++ wsX20 ++ (vx_atM "java/lang/ArrayIndexOutOfBoundsException" ["java/lang/IndexOutOfBoundsException", "java/lang/RuntimeException", "java/lang/Exception"]).filter goodWord ++ (vx_atS RX2 293 "java/lang/IndexOutOfBoundsException" ["java/lang/RuntimeException", "java/lang/Exception"]).filter goodWord)
def wsL_moveMoment_r1 : List Cond := [Cond.classLink RL 13 "java/lang/IndexOutOfBoundsException", Cond.classLink RL 15 "java/lang/IllegalArgumentException", Cond.classLink RL 21 "java/lang/UnsupportedOperationException", Cond.methodLink RL 152 yX2_moveMoment, Cond.instanceMethod yX2_moveMoment, Cond.selects RX2 yX2_moveMoment yX2_moveMoment, Cond.initialized RX2, Cond.code yX2_moveMoment cX2_moveMoment 10 (some .long), Cond.constantLong RX2 112 (-1000000), Cond.constantLong RX2 114 (1000000), Cond.fieldLink RX2 35 "Yearwheel" "momentDays" "[J", Cond.fieldLink RX2 38 "Yearwheel" "momentTimes" "[J", Cond.constantLong RX2 209 (-1000000000000000), Cond.constantLong RX2 211 (1000000000000000), Cond.methodLink RX2 41 yX2_checkSlot, Cond.static yX2_checkSlot, Cond.code yX2_checkSlot cX2_checkSlot 2 none, Cond.classLink RX2 289 "java/lang/IndexOutOfBoundsException", Cond.initialized "java/lang/IndexOutOfBoundsException", Cond.methodLink RX2 108 yX1_isUnit, Cond.static yX1_isUnit, Cond.initialized RX1, Cond.code yX1_isUnit cX1_isUnit 1 (some .boolean), Cond.methodLink RX2 55 yX2_isIn]
def wsL_moveMoment_r2 : List Cond := [Cond.static yX2_isIn, Cond.code yX2_isIn cX2_isIn 6 (some .boolean), Cond.methodLink RX2 49 yX2_checkArgument, Cond.static yX2_checkArgument, Cond.code yX2_checkArgument cX2_checkArgument 1 none, Cond.classLink RX2 101 "java/lang/IllegalArgumentException", Cond.initialized "java/lang/IllegalArgumentException", Cond.methodLink RX2 116 yX1_moved, Cond.static yX1_moved, Cond.code yX1_moved cX1_moved 5 (some .long), Cond.constantLong RX1 75 (7), Cond.constantLong RX1 23 (12), Cond.methodLink RX1 92 yX1_plusMonths, Cond.static yX1_plusMonths, Cond.code yX1_plusMonths cX1_plusMonths 6 (some .long), Cond.methodLink RX1 69 yX1_monthOfDay, Cond.static yX1_monthOfDay, Cond.code yX1_monthOfDay cX1_monthOfDay 7 (some .long), Cond.constantLong RX1 62 (373), Cond.constantLong RX1 64 (367), Cond.methodLink RX1 59 yX1_yearOfDay, Cond.static yX1_yearOfDay, Cond.code yX1_yearOfDay cX1_yearOfDay 4 (some .long), Cond.constantLong RX1 17 (400)]
def wsL_moveMoment_r3 : List Cond := [Cond.constantLong RX1 50 (719528), Cond.constantLong RX1 57 (146097), Cond.methodLink RX1 25 yJ9_floorDiv_f86c9, Cond.static yJ9_floorDiv_f86c9, Cond.initialized RJ9, Cond.code yJ9_floorDiv_f86c9 cJ9_floorDiv_f86c9 6 (some .long), Cond.methodLink RX1 54 yX1_firstOfYear, Cond.static yX1_firstOfYear, Cond.code yX1_firstOfYear cX1_firstOfYear 4 (some .long), Cond.constantLong RX1 42 (3), Cond.constantLong RX1 13 (4), Cond.constantLong RX1 44 (99), Cond.constantLong RX1 15 (100), Cond.constantLong RX1 46 (399), Cond.constantLong RX1 48 (365), Cond.methodLink RX1 19 yX1_isLongYear, Cond.static yX1_isLongYear, Cond.code yX1_isLongYear cX1_isLongYear 2 (some .boolean), Cond.methodLink RX1 66 yX1_monthIndex, Cond.static yX1_monthIndex, Cond.code yX1_monthIndex cX1_monthIndex 4 (some .long), Cond.methodLink RX1 72 yX1_firstOfMonth, Cond.static yX1_firstOfMonth, Cond.code yX1_firstOfMonth cX1_firstOfMonth 7 (some .long)]
def wsL_moveMoment_r4 : List Cond := [Cond.constantLong RX1 52 (2), Cond.methodLink RX1 38 yX1_yearOfMonth, Cond.static yX1_yearOfMonth, Cond.code yX1_yearOfMonth cX1_yearOfMonth 2 (some .long), Cond.methodLink RX1 34 yX1_monthInYear, Cond.static yX1_monthInYear, Cond.code yX1_monthInYear cX1_monthInYear 2 (some .int), Cond.methodLink RX1 31 yJ9_floorMod_f86c9, Cond.static yJ9_floorMod_f86c9, Cond.code yJ9_floorMod_f86c9 cJ9_floorMod_f86c9 6 (some .long), Cond.methodLink RX1 89 yX1_dayOrLast, Cond.static yX1_dayOrLast, Cond.code yX1_dayOrLast cX1_dayOrLast 4 (some .long), Cond.methodLink RX1 86 Lib.MathLoose.min_long.x, Cond.static Lib.MathLoose.min_long.x, Cond.initialized "java/lang/Math", Cond.code Lib.MathLoose.min_long.x Lib.MathLoose.min_long.code 4 (some .long), Cond.methodLink RX1 83 yX1_lengthOfMonth, Cond.static yX1_lengthOfMonth, Cond.code yX1_lengthOfMonth cX1_lengthOfMonth 2 (some .int), Cond.methodLink RX2 237 yX2_keepMoment, Cond.instanceMethod yX2_keepMoment, Cond.selects RX2 yX2_keepMoment yX2_keepMoment, Cond.code yX2_keepMoment cX2_keepMoment 8 (some .long)]
def wsL_moveMoment_r5 : List Cond := [Cond.constantLong RX2 287 (86400000000000), Cond.methodLink RX2 281 yJ9_floorDiv_f86c9, Cond.methodLink RX2 272 yX1_isDay, Cond.static yX1_isDay, Cond.code yX1_isDay cX1_isDay 2 (some .boolean), Cond.constantLong RX1 9 (-4371587), Cond.constantLong RX1 11 (2932896), Cond.methodLink RX2 164 yX2_checkOutcome, Cond.static yX2_checkOutcome, Cond.code yX2_checkOutcome cX2_checkOutcome 1 none, Cond.classLink RX2 296 "java/lang/UnsupportedOperationException", Cond.initialized "java/lang/UnsupportedOperationException", Cond.methodLink RX2 216 yX0_roundDay, Cond.static yX0_roundDay, Cond.initialized RX0, Cond.code yX0_roundDay cX0_roundDay 2 (some .long), Cond.constantLong RX0 15 (86400000000000), Cond.methodLink RX0 17 yJ9_floorMod_f86c9, Cond.methodLink RX2 205 yX0_countInDay, Cond.static yX0_countInDay, Cond.code yX0_countInDay cX0_countInDay 1 (some .long), Cond.constantLong RX0 7 (24), Cond.constantLong RX0 9 (1440), Cond.constantLong RX0 13 (86400)]
def wsL_moveMoment_r6 : List Cond := [Cond.methodLink RX2 240 yX0_daysOf, Cond.static yX0_daysOf, Cond.code yX0_daysOf cX0_daysOf 4 (some .long), Cond.methodLink RX0 23 yJ9_floorDiv_f86c9, Cond.methodLink RX2 213 yX0_restOfDay, Cond.static yX0_restOfDay, Cond.code yX0_restOfDay cX0_restOfDay 4 (some .long)]
def wsL_moveMoment : List Cond := .codeWith yL_moveMoment cL_moveMoment 8 (some .int) [(0, 13, 16, 13), (0, 13, 20, 15), (0, 13, 24, 21)] :: ((wsL_moveMoment_r1 ++ (wsL_moveMoment_r2 ++ (wsL_moveMoment_r3 ++ (wsL_moveMoment_r4 ++ (wsL_moveMoment_r5 ++ wsL_moveMoment_r6))))) ++ wsX20 ++ (vx_atM "java/lang/ArrayIndexOutOfBoundsException" ["java/lang/IndexOutOfBoundsException", "java/lang/RuntimeException", "java/lang/Exception"]).filter goodWord ++ (vx_atS RX2 293 "java/lang/IndexOutOfBoundsException" ["java/lang/RuntimeException", "java/lang/Exception"]).filter goodWord ++ (vx_atS RX2 105 "java/lang/IllegalArgumentException" ["java/lang/RuntimeException", "java/lang/Exception"]).filter goodWord ++ (vx_atS RX2 300 "java/lang/UnsupportedOperationException" ["java/lang/RuntimeException", "java/lang/Exception"]).filter goodWord)
def wsL_goMoment_r1 : List Cond := [Cond.classLink RL 13 "java/lang/IndexOutOfBoundsException", Cond.classLink RL 21 "java/lang/UnsupportedOperationException", Cond.methodLink RL 155 yX2_goMoment, Cond.instanceMethod yX2_goMoment, Cond.selects RX2 yX2_goMoment yX2_goMoment, Cond.initialized RX2, Cond.code yX2_goMoment cX2_goMoment 10 (some .long), Cond.fieldLink RX2 35 "Yearwheel" "momentDays" "[J", Cond.fieldLink RX2 29 "Yearwheel" "lengthSeconds" "[J", Cond.constantLong RX2 221 (86400), Cond.fieldLink RX2 32 "Yearwheel" "lengthBillionths" "[J", Cond.fieldLink RX2 38 "Yearwheel" "momentTimes" "[J", Cond.methodLink RX2 41 yX2_checkSlot, Cond.static yX2_checkSlot, Cond.code yX2_checkSlot cX2_checkSlot 2 none, Cond.classLink RX2 289 "java/lang/IndexOutOfBoundsException", Cond.initialized "java/lang/IndexOutOfBoundsException", Cond.methodLink RX2 240 yX0_daysOf, Cond.static yX0_daysOf, Cond.initialized RX0, Cond.code yX0_daysOf cX0_daysOf 4 (some .long), Cond.methodLink RX0 23 yJ9_floorDiv_f86c9, Cond.static yJ9_floorDiv_f86c9, Cond.initialized RJ9]
def wsL_goMoment_r2 : List Cond := [Cond.code yJ9_floorDiv_f86c9 cJ9_floorDiv_f86c9 6 (some .long), Cond.methodLink RX2 213 yX0_restOfDay, Cond.static yX0_restOfDay, Cond.code yX0_restOfDay cX0_restOfDay 4 (some .long), Cond.constantLong RX0 15 (86400000000000), Cond.methodLink RX0 17 yJ9_floorMod_f86c9, Cond.static yJ9_floorMod_f86c9, Cond.code yJ9_floorMod_f86c9 cJ9_floorMod_f86c9 6 (some .long), Cond.methodLink RX2 237 yX2_keepMoment, Cond.instanceMethod yX2_keepMoment, Cond.selects RX2 yX2_keepMoment yX2_keepMoment, Cond.code yX2_keepMoment cX2_keepMoment 8 (some .long), Cond.constantLong RX2 287 (86400000000000), Cond.methodLink RX2 281 yJ9_floorDiv_f86c9, Cond.methodLink RX2 272 yX1_isDay, Cond.static yX1_isDay, Cond.initialized RX1, Cond.code yX1_isDay cX1_isDay 2 (some .boolean), Cond.constantLong RX1 9 (-4371587), Cond.constantLong RX1 11 (2932896), Cond.methodLink RX2 164 yX2_checkOutcome, Cond.static yX2_checkOutcome, Cond.code yX2_checkOutcome cX2_checkOutcome 1 none, Cond.classLink RX2 296 "java/lang/UnsupportedOperationException"]
def wsL_goMoment_r3 : List Cond := [Cond.initialized "java/lang/UnsupportedOperationException", Cond.methodLink RX2 216 yX0_roundDay, Cond.static yX0_roundDay, Cond.code yX0_roundDay cX0_roundDay 2 (some .long)]
def wsL_goMoment : List Cond := .codeWith yL_goMoment cL_goMoment 7 (some .int) [(0, 13, 16, 13), (0, 13, 20, 21)] :: ((wsL_goMoment_r1 ++ (wsL_goMoment_r2 ++ wsL_goMoment_r3)) ++ wsX20 ++ (vx_atM "java/lang/ArrayIndexOutOfBoundsException" ["java/lang/IndexOutOfBoundsException", "java/lang/RuntimeException", "java/lang/Exception"]).filter goodWord ++ (vx_atS RX2 293 "java/lang/IndexOutOfBoundsException" ["java/lang/RuntimeException", "java/lang/Exception"]).filter goodWord ++ (vx_atS RX2 300 "java/lang/UnsupportedOperationException" ["java/lang/RuntimeException", "java/lang/Exception"]).filter goodWord)
def wsL_lengthOfMoments_r1 : List Cond := [Cond.classLink RL 13 "java/lang/IndexOutOfBoundsException", Cond.methodLink RL 158 yX2_lengthOfMoments, Cond.instanceMethod yX2_lengthOfMoments, Cond.selects RX2 yX2_lengthOfMoments yX2_lengthOfMoments, Cond.initialized RX2, Cond.code yX2_lengthOfMoments cX2_lengthOfMoments 6 (some .long), Cond.fieldLink RX2 35 "Yearwheel" "momentDays" "[J", Cond.constantLong RX2 221 (86400), Cond.fieldLink RX2 38 "Yearwheel" "momentTimes" "[J", Cond.methodLink RX2 41 yX2_checkSlot, Cond.static yX2_checkSlot, Cond.code yX2_checkSlot cX2_checkSlot 2 none, Cond.classLink RX2 289 "java/lang/IndexOutOfBoundsException", Cond.initialized "java/lang/IndexOutOfBoundsException", Cond.methodLink RX2 227 yX2_keepLength, Cond.instanceMethod yX2_keepLength, Cond.selects RX2 yX2_keepLength yX2_keepLength, Cond.code yX2_keepLength cX2_keepLength 10 (some .long), Cond.constantLong RX2 197 (1000000000), Cond.constantLong RX2 223 (-1000000000000), Cond.constantLong RX2 225 (1000000000000), Cond.fieldLink RX2 29 "Yearwheel" "lengthSeconds" "[J", Cond.fieldLink RX2 32 "Yearwheel" "lengthBillionths" "[J", Cond.methodLink RX2 281 yJ9_floorDiv_f86c9]
def wsL_lengthOfMoments_r2 : List Cond := [Cond.static yJ9_floorDiv_f86c9, Cond.initialized RJ9, Cond.code yJ9_floorDiv_f86c9 cJ9_floorDiv_f86c9 6 (some .long), Cond.methodLink RX2 284 yJ9_floorMod_f86c9, Cond.static yJ9_floorMod_f86c9, Cond.code yJ9_floorMod_f86c9 cJ9_floorMod_f86c9 6 (some .long), Cond.methodLink RX2 55 yX2_isIn, Cond.static yX2_isIn, Cond.code yX2_isIn cX2_isIn 6 (some .boolean), Cond.methodLink RX2 164 yX2_checkOutcome, Cond.static yX2_checkOutcome, Cond.code yX2_checkOutcome cX2_checkOutcome 1 none, Cond.classLink RX2 296 "java/lang/UnsupportedOperationException", Cond.initialized "java/lang/UnsupportedOperationException"]
def wsL_lengthOfMoments : List Cond := .codeWith yL_lengthOfMoments cL_lengthOfMoments 6 (some .int) [(0, 11, 14, 13)] :: ((wsL_lengthOfMoments_r1 ++ wsL_lengthOfMoments_r2) ++ wsX20 ++ (vx_atM "java/lang/ArrayIndexOutOfBoundsException" ["java/lang/IndexOutOfBoundsException", "java/lang/RuntimeException", "java/lang/Exception"]).filter goodWord ++ (vx_atS RX2 293 "java/lang/IndexOutOfBoundsException" ["java/lang/RuntimeException", "java/lang/Exception"]).filter goodWord ++ (vx_atS RX2 300 "java/lang/UnsupportedOperationException" ["java/lang/RuntimeException", "java/lang/Exception"]).filter goodWord)
def wsL_whole_r1 : List Cond := [Cond.classLink RL 13 "java/lang/IndexOutOfBoundsException", Cond.classLink RL 15 "java/lang/IllegalArgumentException", Cond.methodLink RL 161 yX2_whole, Cond.instanceMethod yX2_whole, Cond.selects RX2 yX2_whole yX2_whole, Cond.initialized RX2, Cond.code yX2_whole cX2_whole 8 (some .long), Cond.classLink RX2 101 "java/lang/IllegalArgumentException", Cond.initialized "java/lang/IllegalArgumentException", Cond.fieldLink RX2 35 "Yearwheel" "momentDays" "[J", Cond.fieldLink RX2 38 "Yearwheel" "momentTimes" "[J", Cond.constantLong RX2 249 (3600), Cond.constantLong RX2 201 (60), Cond.methodLink RX2 41 yX2_checkSlot, Cond.static yX2_checkSlot, Cond.code yX2_checkSlot cX2_checkSlot 2 none, Cond.classLink RX2 289 "java/lang/IndexOutOfBoundsException", Cond.initialized "java/lang/IndexOutOfBoundsException", Cond.methodLink RX2 243 yX0_cut, Cond.static yX0_cut, Cond.initialized RX0, Cond.code yX0_cut cX0_cut 4 (some .long), Cond.methodLink RX2 246 yX0_wholeSeconds, Cond.static yX0_wholeSeconds]
def wsL_whole_r2 : List Cond := [Cond.code yX0_wholeSeconds cX0_wholeSeconds 4 (some .long), Cond.constantLong RX0 13 (86400), Cond.constantLong RX0 26 (1000000000), Cond.methodLink RX0 28 yX0_cut]
def wsL_whole : List Cond := .codeWith yL_whole cL_whole 6 (some .int) [(0, 11, 14, 13), (0, 11, 18, 15)] :: ((wsL_whole_r1 ++ wsL_whole_r2) ++ wsX20 ++ (vx_atM "java/lang/ArrayIndexOutOfBoundsException" ["java/lang/IndexOutOfBoundsException", "java/lang/RuntimeException", "java/lang/Exception"]).filter goodWord ++ (vx_atS RX2 105 "java/lang/IllegalArgumentException" ["java/lang/RuntimeException", "java/lang/Exception"]).filter goodWord ++ (vx_atS RX2 293 "java/lang/IndexOutOfBoundsException" ["java/lang/RuntimeException", "java/lang/Exception"]).filter goodWord)
def wsL_orderMoments : List Cond := .codeWith yL_orderMoments cL_orderMoments 5 (some .int) [(0, 10, 13, 13)] :: ([.classLink RL 13 "java/lang/IndexOutOfBoundsException", .methodLink RL 164 yX2_orderMoments, .instanceMethod yX2_orderMoments, .selects RX2 yX2_orderMoments yX2_orderMoments, .initialized RX2, .code yX2_orderMoments cX2_orderMoments 4 (some .int), .fieldLink RX2 35 "Yearwheel" "momentDays" "[J", .fieldLink RX2 38 "Yearwheel" "momentTimes" "[J", .methodLink RX2 41 yX2_checkSlot, .static yX2_checkSlot, .code yX2_checkSlot cX2_checkSlot 2 none, .classLink RX2 289 "java/lang/IndexOutOfBoundsException", .initialized "java/lang/IndexOutOfBoundsException", .methodLink RX2 148 yX2_sign, .static yX2_sign, .code yX2_sign cX2_sign 4 (some .int)] ++ wsX20 ++ (vx_atM "java/lang/ArrayIndexOutOfBoundsException" ["java/lang/IndexOutOfBoundsException", "java/lang/RuntimeException", "java/lang/Exception"]).filter goodWord ++ (vx_atS RX2 293 "java/lang/IndexOutOfBoundsException" ["java/lang/RuntimeException", "java/lang/Exception"]).filter goodWord)
def wsL_law0_r1 : List Cond := [Cond.classLink RL 8 RX2, Cond.instantiable RX2 10, Cond.initialized RX2, Cond.classLink RL 168 RX3, Cond.instantiable RX3 14, Cond.initialized RX3, Cond.arrayClass .long, Cond.constantLong RL 181 (4294967295), Cond.methodLink RL 167 yX2_init, Cond.instanceMethod yX2_init, Cond.code yX2_init cX2_init 2 none, Cond.methodLink RX2 1 objectInit, Cond.instanceMethod objectInit, Cond.code objectInit ⟨#[0xb1]⟩ 1 none, Cond.fieldLink RX2 9 "Yearwheel" "dates" "[J", Cond.arrayClass .int, Cond.fieldLink RX2 13 "Yearwheel" "spanYears" "[I", Cond.fieldLink RX2 17 "Yearwheel" "spanMonths" "[I", Cond.fieldLink RX2 20 "Yearwheel" "spanDays" "[I", Cond.fieldLink RX2 23 "Yearwheel" "monthIndices" "[I", Cond.fieldLink RX2 26 "Yearwheel" "times" "[J", Cond.fieldLink RX2 29 "Yearwheel" "lengthSeconds" "[J", Cond.fieldLink RX2 32 "Yearwheel" "lengthBillionths" "[J", Cond.fieldLink RX2 35 "Yearwheel" "momentDays" "[J"]
def wsL_law0_r2 : List Cond := [Cond.fieldLink RX2 38 "Yearwheel" "momentTimes" "[J", Cond.methodLink RL 170 yX3_init, Cond.instanceMethod yX3_init, Cond.code yX3_init cX3_init 2 none, Cond.methodLink RX3 7 objectInit, Cond.fieldLink RX3 13 "YearwheelModel" "dates" "[J", Cond.fieldLink RX3 17 "YearwheelModel" "times" "[J", Cond.fieldLink RX3 20 "YearwheelModel" "seconds" "[J", Cond.fieldLink RX3 23 "YearwheelModel" "fines" "[J", Cond.fieldLink RX3 26 "YearwheelModel" "days" "[J", Cond.fieldLink RX3 29 "YearwheelModel" "clocks" "[J", Cond.fieldLink RX3 32 "YearwheelModel" "spanYears" "[J", Cond.fieldLink RX3 35 "YearwheelModel" "spanMonths" "[J", Cond.fieldLink RX3 38 "YearwheelModel" "spanDays" "[J", Cond.fieldLink RX3 41 "YearwheelModel" "months" "[J", Cond.constantLong RX3 44 (23640), Cond.methodLink RL 171 yL_date, Cond.static yL_date, Cond.initialized RL, Cond.codeWith yL_date cL_date 7 (some .int) [(0, 13, 16, 13), (0, 13, 20, 15)], Cond.classLink RL 13 "java/lang/IndexOutOfBoundsException", Cond.classLink RL 15 "java/lang/IllegalArgumentException", Cond.methodLink RL 7 yX2_date, Cond.instanceMethod yX2_date]
def wsL_law0_r3 : List Cond := [Cond.selects RX2 yX2_date yX2_date, Cond.code yX2_date cX2_date 7 (some .long), Cond.constantLong RX2 53 (12), Cond.methodLink RX2 41 yX2_checkSlot, Cond.static yX2_checkSlot, Cond.code yX2_checkSlot cX2_checkSlot 2 none, Cond.classLink RX2 289 "java/lang/IndexOutOfBoundsException", Cond.initialized "java/lang/IndexOutOfBoundsException", Cond.methodLink RX2 45 yX2_isYear, Cond.static yX2_isYear, Cond.code yX2_isYear cX2_isYear 2 (some .boolean), Cond.constantLong RX2 301 (-9999), Cond.constantLong RX2 303 (9999), Cond.methodLink RX2 55 yX2_isIn, Cond.static yX2_isIn, Cond.code yX2_isIn cX2_isIn 6 (some .boolean), Cond.methodLink RX2 49 yX2_checkArgument, Cond.static yX2_checkArgument, Cond.code yX2_checkArgument cX2_checkArgument 1 none, Cond.classLink RX2 101 "java/lang/IllegalArgumentException", Cond.initialized "java/lang/IllegalArgumentException", Cond.methodLink RX2 59 yX1_monthIndex, Cond.static yX1_monthIndex, Cond.initialized RX1]
def wsL_law0_r4 : List Cond := [Cond.code yX1_monthIndex cX1_monthIndex 4 (some .long), Cond.constantLong RX1 23 (12), Cond.methodLink RX2 65 yX1_lengthOfMonth, Cond.static yX1_lengthOfMonth, Cond.code yX1_lengthOfMonth cX1_lengthOfMonth 2 (some .int), Cond.methodLink RX1 34 yX1_monthInYear, Cond.static yX1_monthInYear, Cond.code yX1_monthInYear cX1_monthInYear 2 (some .int), Cond.methodLink RX1 31 yJ9_floorMod_f86c9, Cond.static yJ9_floorMod_f86c9, Cond.initialized RJ9, Cond.code yJ9_floorMod_f86c9 cJ9_floorMod_f86c9 6 (some .long), Cond.methodLink RX1 38 yX1_yearOfMonth, Cond.static yX1_yearOfMonth, Cond.code yX1_yearOfMonth cX1_yearOfMonth 2 (some .long), Cond.methodLink RX1 25 yJ9_floorDiv_f86c9, Cond.static yJ9_floorDiv_f86c9, Cond.code yJ9_floorDiv_f86c9 cJ9_floorDiv_f86c9 6 (some .long), Cond.methodLink RX1 19 yX1_isLongYear, Cond.static yX1_isLongYear, Cond.code yX1_isLongYear cX1_isLongYear 2 (some .boolean), Cond.constantLong RX1 13 (4), Cond.constantLong RX1 15 (100), Cond.constantLong RX1 17 (400)]
def wsL_law0_r5 : List Cond := [Cond.methodLink RX2 69 yX1_firstOfMonth, Cond.static yX1_firstOfMonth, Cond.code yX1_firstOfMonth cX1_firstOfMonth 7 (some .long), Cond.constantLong RX1 52 (2), Cond.methodLink RX1 54 yX1_firstOfYear, Cond.static yX1_firstOfYear, Cond.code yX1_firstOfYear cX1_firstOfYear 4 (some .long), Cond.constantLong RX1 42 (3), Cond.constantLong RX1 44 (99), Cond.constantLong RX1 46 (399), Cond.constantLong RX1 48 (365), Cond.constantLong RX1 50 (719528), Cond.methodLink RX2 73 yX2_keepDate, Cond.instanceMethod yX2_keepDate, Cond.selects RX2 yX2_keepDate yX2_keepDate, Cond.code yX2_keepDate cX2_keepDate 4 (some .long), Cond.methodLink RX2 272 yX1_isDay, Cond.static yX1_isDay, Cond.code yX1_isDay cX1_isDay 2 (some .boolean), Cond.constantLong RX1 9 (-4371587), Cond.constantLong RX1 11 (2932896), Cond.methodLink RX2 164 yX2_checkOutcome, Cond.static yX2_checkOutcome, Cond.code yX2_checkOutcome cX2_checkOutcome 1 none]
def wsL_law0_r6 : List Cond := [Cond.classLink RX2 296 "java/lang/UnsupportedOperationException", Cond.initialized "java/lang/UnsupportedOperationException", Cond.methodLink RL 176 yX3_date, Cond.instanceMethod yX3_date, Cond.selects RX3 yX3_date yX3_date, Cond.code yX3_date cX3_date 5 (some .long), Cond.constantLong RX3 113 (12), Cond.methodLink RX3 121 yX3_isDate, Cond.static yX3_isDate, Cond.code yX3_isDate cX3_isDate 1 (some .boolean), Cond.constantLong RX3 119 (5), Cond.methodLink RX3 100 yX3_in, Cond.static yX3_in, Cond.code yX3_in cX3_in 6 (some .boolean), Cond.methodLink RX3 108 yX3_isYear, Cond.static yX3_isYear, Cond.code yX3_isYear cX3_isYear 2 (some .boolean), Cond.constantLong RX3 96 (-9999), Cond.constantLong RX3 98 (9999), Cond.methodLink RX3 80 yX3_many, Cond.static yX3_many, Cond.code yX3_many cX3_many 3 (some .int), Cond.methodLink RX3 73 yX3_isLong, Cond.static yX3_isLong]
def wsL_law0_r7 : List Cond := [Cond.code yX3_isLong cX3_isLong 2 (some .boolean), Cond.constantLong RX3 50 (4), Cond.constantLong RX3 55 (100), Cond.constantLong RX3 57 (400), Cond.methodLink RX3 52 yX3_rest, Cond.static yX3_rest, Cond.code yX3_rest cX3_rest 4 (some .long), Cond.methodLink RX3 46 yX3_floor, Cond.static yX3_floor, Cond.code yX3_floor cX3_floor 4 (some .long), Cond.methodLink RX3 125 yX3_fails, Cond.instanceMethod yX3_fails, Cond.selects RX3 yX3_fails yX3_fails, Cond.code yX3_fails cX3_fails 2 (some .boolean), Cond.fieldLink RX3 1 "YearwheelModel" "code" "I", Cond.methodLink RX3 115 yX3_number, Cond.static yX3_number, Cond.code yX3_number cX3_number 7 (some .long), Cond.methodLink RX3 77 yX3_first, Cond.static yX3_first, Cond.code yX3_first cX3_first 2 (some .long), Cond.constantLong RX3 71 (1970), Cond.methodLink RX3 67 yX3_ahead, Cond.static yX3_ahead]
def wsL_law0_r8 : List Cond := [Cond.code yX3_ahead cX3_ahead 2 (some .long), Cond.constantLong RX3 59 (365), Cond.constantLong RX3 61 (3), Cond.constantLong RX3 63 (99), Cond.constantLong RX3 65 (399), Cond.methodLink RL 177 yX3_thrown, Cond.instanceMethod yX3_thrown, Cond.selects RX3 yX3_thrown yX3_thrown, Cond.code yX3_thrown cX3_thrown 1 (some .int), Cond.methodLink RL 183 yL_ofDay, Cond.static yL_ofDay, Cond.codeWith yL_ofDay cL_ofDay 6 (some .int) [(0, 11, 14, 13), (0, 11, 18, 21)], Cond.classLink RL 21 "java/lang/UnsupportedOperationException", Cond.methodLink RL 17 yX2_ofDay, Cond.instanceMethod yX2_ofDay, Cond.selects RX2 yX2_ofDay yX2_ofDay, Cond.code yX2_ofDay cX2_ofDay 4 (some .int), Cond.methodLink RX2 77 yX1_yearOfDay, Cond.static yX1_yearOfDay, Cond.code yX1_yearOfDay cX1_yearOfDay 4 (some .long), Cond.constantLong RX1 57 (146097), Cond.methodLink RL 186 yX3_ofDay, Cond.instanceMethod yX3_ofDay, Cond.selects RX3 yX3_ofDay yX3_ofDay]
def wsL_law0_r9 : List Cond := [Cond.code yX3_ofDay cX3_ofDay 4 (some .int), Cond.constantLong RX3 128 (10000), Cond.fieldLink RX3 86 "YearwheelModel" "year" "J", Cond.methodLink RX3 104 yX3_parts, Cond.instanceMethod yX3_parts, Cond.selects RX3 yX3_parts yX3_parts, Cond.code yX3_parts cX3_parts 5 none, Cond.constantLong RX3 84 (146097), Cond.fieldLink RX3 90 "YearwheelModel" "month" "I", Cond.fieldLink RX3 93 "YearwheelModel" "day" "I", Cond.methodLink RL 187 yL_day, Cond.static yL_day, Cond.codeWith yL_day cL_day 4 (some .int) [(0, 8, 11, 13)], Cond.methodLink RL 23 yX2_day, Cond.instanceMethod yX2_day, Cond.selects RX2 yX2_day yX2_day, Cond.code yX2_day cX2_day 2 (some .long), Cond.methodLink RL 190 yX3_day, Cond.instanceMethod yX3_day, Cond.selects RX3 yX3_day yX3_day, Cond.code yX3_day cX3_day 2 (some .long), Cond.methodLink RL 191 yL_part, Cond.static yL_part, Cond.codeWith yL_part cL_part 5 (some .int) [(0, 10, 13, 13), (0, 10, 17, 15)]]
def wsL_law0_r10 : List Cond := [Cond.methodLink RL 27 yX2_part, Cond.instanceMethod yX2_part, Cond.selects RX2 yX2_part yX2_part, Cond.code yX2_part cX2_part 7 (some .int), Cond.methodLink RX2 80 yX1_monthOfDay, Cond.static yX1_monthOfDay, Cond.code yX1_monthOfDay cX1_monthOfDay 7 (some .long), Cond.constantLong RX1 62 (373), Cond.constantLong RX1 64 (367), Cond.methodLink RX1 59 yX1_yearOfDay, Cond.methodLink RX1 66 yX1_monthIndex, Cond.methodLink RX2 83 yX1_monthInYear, Cond.methodLink RX2 86 yX1_dayInMonth, Cond.static yX1_dayInMonth, Cond.code yX1_dayInMonth cX1_dayInMonth 2 (some .int), Cond.methodLink RX1 69 yX1_monthOfDay, Cond.methodLink RX1 72 yX1_firstOfMonth, Cond.methodLink RX2 89 yX1_firstOfYear, Cond.methodLink RX2 92 yX1_weekdayOf, Cond.static yX1_weekdayOf, Cond.code yX1_weekdayOf cX1_weekdayOf 2 (some .int), Cond.constantLong RX1 75 (7), Cond.methodLink RX2 95 yX1_lengthOfYear, Cond.static yX1_lengthOfYear]
def wsL_law0_r11 : List Cond := [Cond.code yX1_lengthOfYear cX1_lengthOfYear 2 (some .int), Cond.methodLink RX2 98 yX1_isLongYear, Cond.methodLink RL 194 yX3_part, Cond.instanceMethod yX3_part, Cond.selects RX3 yX3_part yX3_part, Cond.code yX3_part cX3_part 3 (some .int), Cond.methodLink RX3 130 yX3_weekdayOf, Cond.static yX3_weekdayOf, Cond.code yX3_weekdayOf cX3_weekdayOf 2 (some .int), Cond.constantLong RX3 111 (7), Cond.methodLink RL 195 yL_move, Cond.static yL_move, Cond.codeWith yL_move cL_move 7 (some .int) [(0, 13, 16, 13), (0, 13, 20, 15), (0, 13, 24, 21)], Cond.methodLink RL 31 yX2_move, Cond.instanceMethod yX2_move, Cond.selects RX2 yX2_move yX2_move, Cond.code yX2_move cX2_move 5 (some .long), Cond.constantLong RX2 112 (-1000000), Cond.constantLong RX2 114 (1000000), Cond.methodLink RX2 108 yX1_isUnit, Cond.static yX1_isUnit, Cond.code yX1_isUnit cX1_isUnit 1 (some .boolean), Cond.methodLink RX2 116 yX1_moved, Cond.static yX1_moved]
def wsL_law0_r12 : List Cond := [Cond.code yX1_moved cX1_moved 5 (some .long), Cond.methodLink RX1 92 yX1_plusMonths, Cond.static yX1_plusMonths, Cond.code yX1_plusMonths cX1_plusMonths 6 (some .long), Cond.methodLink RX1 89 yX1_dayOrLast, Cond.static yX1_dayOrLast, Cond.code yX1_dayOrLast cX1_dayOrLast 4 (some .long), Cond.methodLink RX1 86 Lib.MathLoose.min_long.x, Cond.static Lib.MathLoose.min_long.x, Cond.initialized "java/lang/Math", Cond.code Lib.MathLoose.min_long.x Lib.MathLoose.min_long.code 4 (some .long), Cond.methodLink RX1 83 yX1_lengthOfMonth, Cond.methodLink RL 198 yX3_move, Cond.instanceMethod yX3_move, Cond.selects RX3 yX3_move yX3_move, Cond.code yX3_move cX3_move 5 (some .long), Cond.constantLong RX3 144 (-1000000), Cond.constantLong RX3 146 (1000000), Cond.methodLink RX3 140 yX3_isUnit, Cond.static yX3_isUnit, Cond.code yX3_isUnit cX3_isUnit 1 (some .boolean), Cond.methodLink RX3 148 yX3_moved, Cond.instanceMethod yX3_moved, Cond.selects RX3 yX3_moved yX3_moved]
def wsL_law0_r13 : List Cond := [Cond.code yX3_moved cX3_moved 6 (some .long), Cond.methodLink RX3 137 yX3_byMonths, Cond.instanceMethod yX3_byMonths, Cond.selects RX3 yX3_byMonths yX3_byMonths, Cond.code yX3_byMonths cX3_byMonths 10 (some .long), Cond.methodLink RX3 152 yX3_becomes, Cond.instanceMethod yX3_becomes, Cond.selects RX3 yX3_becomes yX3_becomes, Cond.code yX3_becomes cX3_becomes 5 (some .long), Cond.methodLink RX3 134 yX3_isKept, Cond.instanceMethod yX3_isKept, Cond.selects RX3 yX3_isKept yX3_isKept, Cond.code yX3_isKept cX3_isKept 3 (some .boolean), Cond.methodLink RL 199 yL_with, Cond.static yL_with, Cond.codeWith yL_with cL_with 7 (some .int) [(0, 13, 16, 13), (0, 13, 20, 15)], Cond.methodLink RL 35 yX2_with, Cond.instanceMethod yX2_with, Cond.selects RX2 yX2_with yX2_with, Cond.code yX2_with cX2_with 11 (some .long), Cond.methodLink RX2 120 yX1_yearOfMonth, Cond.methodLink RX2 123 yX1_plusMonths, Cond.methodLink RL 201 yX3_with, Cond.instanceMethod yX3_with]
def wsL_law0_r14 : List Cond := [Cond.selects RX3 yX3_with yX3_with, Cond.code yX3_with cX3_with 8 (some .long), Cond.methodLink RL 202 yL_adjust, Cond.static yL_adjust, Cond.codeWith yL_adjust cL_adjust 6 (some .int) [(0, 11, 14, 13), (0, 11, 18, 15), (0, 11, 22, 21)], Cond.methodLink RL 38 yX2_adjust, Cond.instanceMethod yX2_adjust, Cond.selects RX2 yX2_adjust yX2_adjust, Cond.code yX2_adjust cX2_adjust 8 (some .long), Cond.methodLink RL 205 yX3_adjust, Cond.instanceMethod yX3_adjust, Cond.selects RX3 yX3_adjust yX3_adjust, Cond.code yX3_adjust cX3_adjust 10 (some .long), Cond.methodLink RL 206 yL_weekday, Cond.static yL_weekday, Cond.codeWith yL_weekday cL_weekday 7 (some .int) [(0, 13, 16, 13), (0, 13, 20, 15), (0, 13, 24, 21)], Cond.methodLink RL 42 yX2_weekday, Cond.instanceMethod yX2_weekday, Cond.selects RX2 yX2_weekday yX2_weekday, Cond.code yX2_weekday cX2_weekday 9 (some .long), Cond.constantLong RX2 130 (7), Cond.methodLink RX2 132 yX1_weekdayFrom, Cond.static yX1_weekdayFrom, Cond.code yX1_weekdayFrom cX1_weekdayFrom 3 (some .long)]
def wsL_law0_r15 : List Cond := [Cond.methodLink RX1 77 yX1_weekdayOf, Cond.methodLink RX1 80 yJ9_floorMod_7cf53, Cond.static yJ9_floorMod_7cf53, Cond.code yJ9_floorMod_7cf53 cJ9_floorMod_7cf53 3 (some .int), Cond.methodLink RX2 136 yX1_weekdayUpTo, Cond.static yX1_weekdayUpTo, Cond.code yX1_weekdayUpTo cX1_weekdayUpTo 3 (some .long), Cond.methodLink RL 208 yX3_weekday, Cond.instanceMethod yX3_weekday, Cond.selects RX3 yX3_weekday yX3_weekday, Cond.code yX3_weekday cX3_weekday 13 (some .long), Cond.methodLink RX3 156 yX3_sought, Cond.static yX3_sought, Cond.code yX3_sought cX3_sought 6 (some .long), Cond.methodLink RL 209 yL_inMonth, Cond.static yL_inMonth, Cond.codeWith yL_inMonth cL_inMonth 7 (some .int) [(0, 13, 16, 13), (0, 13, 20, 15), (0, 13, 24, 21)], Cond.methodLink RL 45 yX2_inMonth, Cond.instanceMethod yX2_inMonth, Cond.selects RX2 yX2_inMonth yX2_inMonth, Cond.code yX2_inMonth cX2_inMonth 9 (some .long), Cond.constantLong RX2 141 (-6), Cond.constantLong RX2 143 (6), Cond.methodLink RL 211 yX3_inMonth]
def wsL_law0_r16 : List Cond := [Cond.instanceMethod yX3_inMonth, Cond.selects RX3 yX3_inMonth yX3_inMonth, Cond.code yX3_inMonth cX3_inMonth 11 (some .long), Cond.constantLong RX3 159 (-6), Cond.constantLong RX3 161 (6), Cond.methodLink RL 212 yL_atYear, Cond.static yL_atYear, Cond.codeWith yL_atYear cL_atYear 7 (some .int) [(0, 13, 16, 13), (0, 13, 20, 15)], Cond.methodLink RL 48 yX2_atYear, Cond.instanceMethod yX2_atYear, Cond.selects RX2 yX2_atYear yX2_atYear, Cond.code yX2_atYear cX2_atYear 5 (some .long), Cond.methodLink RX2 145 yX1_dayOrLast, Cond.methodLink RL 214 yX3_atYear, Cond.instanceMethod yX3_atYear, Cond.selects RX3 yX3_atYear yX3_atYear, Cond.code yX3_atYear cX3_atYear 5 (some .long), Cond.methodLink RL 215 yL_order, Cond.static yL_order, Cond.codeWith yL_order cL_order 5 (some .int) [(0, 10, 13, 13)], Cond.methodLink RL 51 yX2_order, Cond.instanceMethod yX2_order, Cond.selects RX2 yX2_order yX2_order, Cond.code yX2_order cX2_order 3 (some .int)]
def wsL_law0_r17 : List Cond := [Cond.methodLink RX2 148 yX2_sign, Cond.static yX2_sign, Cond.code yX2_sign cX2_sign 4 (some .int), Cond.methodLink RL 218 yX3_order, Cond.instanceMethod yX3_order, Cond.selects RX3 yX3_order yX3_order, Cond.code yX3_order cX3_order 3 (some .int), Cond.methodLink RX3 163 yX3_ordered, Cond.static yX3_ordered, Cond.code yX3_ordered cX3_ordered 4 (some .int), Cond.methodLink RL 219 yL_between, Cond.static yL_between, Cond.codeWith yL_between cL_between 6 (some .int) [(0, 11, 14, 13), (0, 11, 18, 15)], Cond.methodLink RL 55 yX2_between, Cond.instanceMethod yX2_between, Cond.selects RX2 yX2_between yX2_between, Cond.code yX2_between cX2_between 8 (some .long), Cond.methodLink RX2 152 yX1_wholeMonths, Cond.static yX1_wholeMonths, Cond.code yX1_wholeMonths cX1_wholeMonths 14 (some .long), Cond.methodLink RX1 95 Lib.MathLoose.max_long.x, Cond.static Lib.MathLoose.max_long.x, Cond.code Lib.MathLoose.max_long.x Lib.MathLoose.max_long.code 4 (some .long), Cond.methodLink RL 222 yX3_between]
def wsL_law0_r18 : List Cond := [Cond.instanceMethod yX3_between, Cond.selects RX3 yX3_between yX3_between, Cond.code yX3_between cX3_between 8 (some .long), Cond.methodLink RX3 167 yX3_monthsFrom, Cond.instanceMethod yX3_monthsFrom, Cond.selects RX3 yX3_monthsFrom yX3_monthsFrom, Cond.code yX3_monthsFrom cX3_monthsFrom 10 (some .long), Cond.methodLink RL 223 yL_span, Cond.static yL_span, Cond.codeWith yL_span cL_span 7 (some .int) [(0, 13, 16, 13), (0, 13, 20, 15)], Cond.methodLink RL 59 yX2_span, Cond.instanceMethod yX2_span, Cond.selects RX2 yX2_span yX2_span, Cond.code yX2_span cX2_span 5 (some .long), Cond.methodLink RX2 157 yX2_isSpan, Cond.static yX2_isSpan, Cond.code yX2_isSpan cX2_isSpan 6 (some .boolean), Cond.methodLink RX2 160 yX2_keepSpan, Cond.instanceMethod yX2_keepSpan, Cond.selects RX2 yX2_keepSpan yX2_keepSpan, Cond.code yX2_keepSpan cX2_keepSpan 8 (some .long), Cond.methodLink RX2 167 yX2_allMonths, Cond.instanceMethod yX2_allMonths, Cond.selects RX2 yX2_allMonths yX2_allMonths]
def wsL_law0_r19 : List Cond := [Cond.code yX2_allMonths cX2_allMonths 2 (some .long), Cond.methodLink RL 225 yX3_span, Cond.instanceMethod yX3_span, Cond.selects RX3 yX3_span yX3_span, Cond.code yX3_span cX3_span 5 (some .long), Cond.methodLink RX3 174 yX3_isSlot, Cond.static yX3_isSlot, Cond.code yX3_isSlot cX3_isSlot 1 (some .boolean), Cond.methodLink RX3 177 yX3_spanned, Cond.instanceMethod yX3_spanned, Cond.selects RX3 yX3_spanned yX3_spanned, Cond.code yX3_spanned cX3_spanned 9 (some .long), Cond.methodLink RX3 170 yX3_totalOf, Cond.instanceMethod yX3_totalOf, Cond.selects RX3 yX3_totalOf yX3_totalOf, Cond.code yX3_totalOf cX3_totalOf 2 (some .long), Cond.methodLink RL 226 yL_until, Cond.static yL_until, Cond.codeWith yL_until cL_until 6 (some .int) [(0, 11, 14, 13), (0, 11, 18, 21)], Cond.methodLink RL 62 yX2_until, Cond.instanceMethod yX2_until, Cond.selects RX2 yX2_until yX2_until, Cond.code yX2_until cX2_until 10 (some .long), Cond.methodLink RL 229 yX3_until]
def wsL_law0_r20 : List Cond := [Cond.instanceMethod yX3_until, Cond.selects RX3 yX3_until yX3_until, Cond.code yX3_until cX3_until 6 (some .long), Cond.methodLink RL 230 yL_go, Cond.static yL_go, Cond.codeWith yL_go cL_go 7 (some .int) [(0, 13, 16, 13), (0, 13, 20, 21)], Cond.methodLink RL 66 yX2_go, Cond.instanceMethod yX2_go, Cond.selects RX2 yX2_go yX2_go, Cond.code yX2_go cX2_go 8 (some .long), Cond.methodLink RL 233 yX3_go, Cond.instanceMethod yX3_go, Cond.selects RX3 yX3_go yX3_go, Cond.code yX3_go cX3_go 7 (some .long), Cond.constantLong RX3 181 (-1), Cond.methodLink RL 234 yL_spanPart, Cond.static yL_spanPart, Cond.codeWith yL_spanPart cL_spanPart 5 (some .int) [(0, 10, 13, 13), (0, 10, 17, 15)], Cond.methodLink RL 70 yX2_spanPart, Cond.instanceMethod yX2_spanPart, Cond.selects RX2 yX2_spanPart yX2_spanPart, Cond.code yX2_spanPart cX2_spanPart 3 (some .int), Cond.methodLink RL 236 yX3_spanPart, Cond.instanceMethod yX3_spanPart]
def wsL_law0_r21 : List Cond := [Cond.selects RX3 yX3_spanPart yX3_spanPart, Cond.code yX3_spanPart cX3_spanPart 3 (some .int), Cond.methodLink RL 237 yL_addSpan, Cond.static yL_addSpan, Cond.codeWith yL_addSpan cL_addSpan 7 (some .int) [(0, 13, 16, 13), (0, 13, 20, 21)], Cond.methodLink RL 73 yX2_addSpan, Cond.instanceMethod yX2_addSpan, Cond.selects RX2 yX2_addSpan yX2_addSpan, Cond.code yX2_addSpan cX2_addSpan 13 (some .long), Cond.constantLong RX2 173 (-1), Cond.methodLink RL 239 yX3_addSpan, Cond.instanceMethod yX3_addSpan, Cond.selects RX3 yX3_addSpan yX3_addSpan, Cond.code yX3_addSpan cX3_addSpan 7 (some .long), Cond.methodLink RL 240 yL_timesSpan, Cond.static yL_timesSpan, Cond.codeWith yL_timesSpan cL_timesSpan 6 (some .int) [(0, 11, 14, 13), (0, 11, 18, 15), (0, 11, 22, 21)], Cond.methodLink RL 76 yX2_timesSpan, Cond.instanceMethod yX2_timesSpan, Cond.selects RX2 yX2_timesSpan yX2_timesSpan, Cond.code yX2_timesSpan cX2_timesSpan 4 (some .long), Cond.constantLong RX2 175 (-100), Cond.constantLong RX2 177 (100), Cond.methodLink RL 242 yX3_timesSpan]
def wsL_law0_r22 : List Cond := [Cond.instanceMethod yX3_timesSpan, Cond.selects RX3 yX3_timesSpan yX3_timesSpan, Cond.code yX3_timesSpan cX3_timesSpan 4 (some .long), Cond.constantLong RX3 183 (-100), Cond.methodLink RL 243 yL_plainSpan, Cond.static yL_plainSpan, Cond.codeWith yL_plainSpan cL_plainSpan 5 (some .int) [(0, 9, 12, 13), (0, 9, 16, 21)], Cond.methodLink RL 79 yX2_plainSpan, Cond.instanceMethod yX2_plainSpan, Cond.selects RX2 yX2_plainSpan yX2_plainSpan, Cond.code yX2_plainSpan cX2_plainSpan 5 (some .long), Cond.methodLink RL 245 yX3_plainSpan, Cond.instanceMethod yX3_plainSpan, Cond.selects RX3 yX3_plainSpan yX3_plainSpan, Cond.code yX3_plainSpan cX3_plainSpan 5 (some .long), Cond.methodLink RL 246 yL_month, Cond.static yL_month, Cond.codeWith yL_month cL_month 6 (some .int) [(0, 12, 15, 13), (0, 12, 19, 15)], Cond.methodLink RL 83 yX2_month, Cond.instanceMethod yX2_month, Cond.selects RX2 yX2_month yX2_month, Cond.code yX2_month cX2_month 4 (some .int), Cond.methodLink RX2 179 yX2_keepMonth, Cond.instanceMethod yX2_keepMonth]
def wsL_law0_r23 : List Cond := [Cond.selects RX2 yX2_keepMonth yX2_keepMonth, Cond.code yX2_keepMonth cX2_keepMonth 4 (some .int), Cond.methodLink RL 248 yX3_month, Cond.instanceMethod yX3_month, Cond.selects RX3 yX3_month yX3_month, Cond.code yX3_month cX3_month 4 (some .int), Cond.methodLink RX3 185 yX3_monthMany, Cond.instanceMethod yX3_monthMany, Cond.selects RX3 yX3_monthMany yX3_monthMany, Cond.code yX3_monthMany cX3_monthMany 2 (some .int), Cond.methodLink RL 249 yL_moveMonth, Cond.static yL_moveMonth, Cond.codeWith yL_moveMonth cL_moveMonth 7 (some .int) [(0, 14, 17, 13), (0, 14, 21, 15), (0, 14, 25, 21)], Cond.methodLink RL 87 yX2_moveMonth, Cond.instanceMethod yX2_moveMonth, Cond.selects RX2 yX2_moveMonth yX2_moveMonth, Cond.code yX2_moveMonth cX2_moveMonth 5 (some .int), Cond.methodLink RL 251 yX3_moveMonth, Cond.instanceMethod yX3_moveMonth, Cond.selects RX3 yX3_moveMonth yX3_moveMonth, Cond.code yX3_moveMonth cX3_moveMonth 7 (some .int), Cond.methodLink RL 252 yL_monthPart, Cond.static yL_monthPart, Cond.codeWith yL_monthPart cL_monthPart 5 (some .int) [(0, 10, 13, 13), (0, 10, 17, 15)]]
def wsL_law0_r24 : List Cond := [Cond.methodLink RL 91 yX2_monthPart, Cond.instanceMethod yX2_monthPart, Cond.selects RX2 yX2_monthPart yX2_monthPart, Cond.code yX2_monthPart cX2_monthPart 5 (some .int), Cond.methodLink RL 254 yX3_monthPart, Cond.instanceMethod yX3_monthPart, Cond.selects RX3 yX3_monthPart yX3_monthPart, Cond.code yX3_monthPart cX3_monthPart 5 (some .int), Cond.methodLink RL 255 yL_atDay, Cond.static yL_atDay, Cond.codeWith yL_atDay cL_atDay 6 (some .int) [(0, 11, 14, 13), (0, 11, 18, 15)], Cond.methodLink RL 94 yX2_atDay, Cond.instanceMethod yX2_atDay, Cond.selects RX2 yX2_atDay yX2_atDay, Cond.code yX2_atDay cX2_atDay 5 (some .long), Cond.methodLink RL 257 yX3_atDay, Cond.instanceMethod yX3_atDay, Cond.selects RX3 yX3_atDay yX3_atDay, Cond.code yX3_atDay cX3_atDay 4 (some .long), Cond.methodLink RL 258 yL_orderMonths, Cond.static yL_orderMonths, Cond.codeWith yL_orderMonths cL_orderMonths 5 (some .int) [(0, 10, 13, 13)], Cond.methodLink RL 97 yX2_orderMonths, Cond.instanceMethod yX2_orderMonths]
def wsL_law0_r25 : List Cond := [Cond.selects RX2 yX2_orderMonths yX2_orderMonths, Cond.code yX2_orderMonths cX2_orderMonths 3 (some .int), Cond.methodLink RL 260 yX3_orderMonths, Cond.instanceMethod yX3_orderMonths, Cond.selects RX3 yX3_orderMonths yX3_orderMonths, Cond.code yX3_orderMonths cX3_orderMonths 3 (some .int), Cond.methodLink RL 261 yL_time, Cond.static yL_time, Cond.codeWith yL_time cL_time 8 (some .int) [(0, 15, 18, 13), (0, 15, 22, 15)], Cond.methodLink RL 100 yX2_time, Cond.instanceMethod yX2_time, Cond.selects RX2 yX2_time yX2_time, Cond.code yX2_time cX2_time 6 (some .long), Cond.constantLong RX2 185 (23), Cond.constantLong RX2 187 (59), Cond.constantLong RX2 191 (999999999), Cond.constantLong RX2 193 (3600000000000), Cond.constantLong RX2 195 (60000000000), Cond.constantLong RX2 197 (1000000000), Cond.methodLink RL 264 yX3_time, Cond.instanceMethod yX3_time, Cond.selects RX3 yX3_time yX3_time, Cond.code yX3_time cX3_time 6 (some .long), Cond.constantLong RX3 189 (23)]
def wsL_law0_r26 : List Cond := [Cond.constantLong RX3 191 (59), Cond.constantLong RX3 193 (999999999), Cond.constantLong RX3 195 (3600), Cond.constantLong RX3 197 (60), Cond.constantLong RX3 199 (1000000000), Cond.methodLink RL 265 yL_ofBillionths, Cond.static yL_ofBillionths, Cond.codeWith yL_ofBillionths cL_ofBillionths 6 (some .int) [(0, 11, 14, 13), (0, 11, 18, 15)], Cond.methodLink RL 104 yX2_ofBillionths, Cond.instanceMethod yX2_ofBillionths, Cond.selects RX2 yX2_ofBillionths yX2_ofBillionths, Cond.code yX2_ofBillionths cX2_ofBillionths 4 (some .int), Cond.constantLong RX2 199 (86399999999999), Cond.methodLink RL 267 yX3_ofBillionths, Cond.instanceMethod yX3_ofBillionths, Cond.selects RX3 yX3_ofBillionths yX3_ofBillionths, Cond.code yX3_ofBillionths cX3_ofBillionths 4 (some .int), Cond.constantLong RX3 201 (86399999999999), Cond.constantLong RX3 203 (3600000000000), Cond.methodLink RL 268 yL_timePart, Cond.static yL_timePart, Cond.codeWith yL_timePart cL_timePart 5 (some .int) [(0, 10, 13, 13), (0, 10, 17, 15)], Cond.methodLink RL 107 yX2_timePart, Cond.instanceMethod yX2_timePart]
def wsL_law0_r27 : List Cond := [Cond.selects RX2 yX2_timePart yX2_timePart, Cond.code yX2_timePart cX2_timePart 5 (some .int), Cond.constantLong RX2 201 (60), Cond.methodLink RL 270 yX3_timePart, Cond.instanceMethod yX3_timePart, Cond.selects RX3 yX3_timePart yX3_timePart, Cond.code yX3_timePart cX3_timePart 5 (some .int), Cond.methodLink RL 271 yL_moveTime, Cond.static yL_moveTime, Cond.codeWith yL_moveTime cL_moveTime 8 (some .int) [(0, 13, 16, 13), (0, 13, 20, 15)], Cond.methodLink RL 110 yX2_moveTime, Cond.instanceMethod yX2_moveTime, Cond.selects RX2 yX2_moveTime yX2_moveTime, Cond.code yX2_moveTime cX2_moveTime 8 (some .long), Cond.constantLong RX2 209 (-1000000000000000), Cond.constantLong RX2 211 (1000000000000000), Cond.methodLink RX2 205 yX0_countInDay, Cond.static yX0_countInDay, Cond.initialized RX0, Cond.code yX0_countInDay cX0_countInDay 1 (some .long), Cond.constantLong RX0 7 (24), Cond.constantLong RX0 9 (1440), Cond.constantLong RX0 13 (86400), Cond.constantLong RX0 15 (86400000000000)]
def wsL_law0_r28 : List Cond := [Cond.methodLink RX2 213 yX0_restOfDay, Cond.static yX0_restOfDay, Cond.code yX0_restOfDay cX0_restOfDay 4 (some .long), Cond.methodLink RX0 17 yJ9_floorMod_f86c9, Cond.methodLink RX2 216 yX0_roundDay, Cond.static yX0_roundDay, Cond.code yX0_roundDay cX0_roundDay 2 (some .long), Cond.methodLink RL 274 yX3_moveTime, Cond.instanceMethod yX3_moveTime, Cond.selects RX3 yX3_moveTime yX3_moveTime, Cond.code yX3_moveTime cX3_moveTime 6 (some .long), Cond.constantLong RX3 207 (-1000000000000000), Cond.constantLong RX3 209 (1000000000000000), Cond.constantLong RX3 211 (60000000000), Cond.constantLong RX3 205 (86400000000000), Cond.methodLink RX3 213 yX3_round, Cond.static yX3_round, Cond.code yX3_round cX3_round 4 (some .long), Cond.methodLink RL 275 yL_cutTime, Cond.static yL_cutTime, Cond.codeWith yL_cutTime cL_cutTime 6 (some .int) [(0, 11, 14, 13), (0, 11, 18, 15)], Cond.methodLink RL 114 yX2_cutTime, Cond.instanceMethod yX2_cutTime, Cond.selects RX2 yX2_cutTime yX2_cutTime]
def wsL_law0_r29 : List Cond := [Cond.code yX2_cutTime cX2_cutTime 6 (some .long), Cond.methodLink RL 277 yX3_cutTime, Cond.instanceMethod yX3_cutTime, Cond.selects RX3 yX3_cutTime yX3_cutTime, Cond.code yX3_cutTime cX3_cutTime 6 (some .long), Cond.methodLink RL 278 yL_goTime, Cond.static yL_goTime, Cond.codeWith yL_goTime cL_goTime 7 (some .int) [(0, 13, 16, 13)], Cond.methodLink RL 117 yX2_goTime, Cond.instanceMethod yX2_goTime, Cond.selects RX2 yX2_goTime yX2_goTime, Cond.code yX2_goTime cX2_goTime 7 (some .long), Cond.constantLong RX2 221 (86400), Cond.methodLink RL 280 yX3_goTime, Cond.instanceMethod yX3_goTime, Cond.selects RX3 yX3_goTime yX3_goTime, Cond.code yX3_goTime cX3_goTime 7 (some .long), Cond.methodLink RL 281 yL_orderTimes, Cond.static yL_orderTimes, Cond.codeWith yL_orderTimes cL_orderTimes 5 (some .int) [(0, 10, 13, 13)], Cond.methodLink RL 120 yX2_orderTimes, Cond.instanceMethod yX2_orderTimes, Cond.selects RX2 yX2_orderTimes yX2_orderTimes, Cond.code yX2_orderTimes cX2_orderTimes 3 (some .int)]
def wsL_law0_r30 : List Cond := [Cond.methodLink RL 283 yX3_orderTimes, Cond.instanceMethod yX3_orderTimes, Cond.selects RX3 yX3_orderTimes yX3_orderTimes, Cond.code yX3_orderTimes cX3_orderTimes 3 (some .int), Cond.methodLink RL 284 yL_length, Cond.static yL_length, Cond.codeWith yL_length cL_length 8 (some .int) [(0, 12, 15, 13), (0, 12, 19, 15), (0, 12, 23, 21)], Cond.methodLink RL 123 yX2_length, Cond.instanceMethod yX2_length, Cond.selects RX2 yX2_length yX2_length, Cond.code yX2_length cX2_length 6 (some .long), Cond.constantLong RX2 223 (-1000000000000), Cond.constantLong RX2 225 (1000000000000), Cond.methodLink RX2 227 yX2_keepLength, Cond.instanceMethod yX2_keepLength, Cond.selects RX2 yX2_keepLength yX2_keepLength, Cond.code yX2_keepLength cX2_keepLength 10 (some .long), Cond.methodLink RX2 281 yJ9_floorDiv_f86c9, Cond.methodLink RX2 284 yJ9_floorMod_f86c9, Cond.methodLink RL 287 yX3_length, Cond.instanceMethod yX3_length, Cond.selects RX3 yX3_length yX3_length, Cond.code yX3_length cX3_length 6 (some .long), Cond.constantLong RX3 216 (-1000000000000)]
def wsL_law0_r31 : List Cond := [Cond.constantLong RX3 218 (1000000000000), Cond.methodLink RX3 220 yX3_lasts, Cond.instanceMethod yX3_lasts, Cond.selects RX3 yX3_lasts yX3_lasts, Cond.code yX3_lasts cX3_lasts 11 (some .long), Cond.methodLink RL 288 yL_lengthPart, Cond.static yL_lengthPart, Cond.codeWith yL_lengthPart cL_lengthPart 5 (some .int) [(0, 9, 12, 13), (0, 9, 16, 15)], Cond.methodLink RL 127 yX2_lengthPart, Cond.instanceMethod yX2_lengthPart, Cond.selects RX2 yX2_lengthPart yX2_lengthPart, Cond.code yX2_lengthPart cX2_lengthPart 3 (some .long), Cond.methodLink RL 290 yX3_lengthPart, Cond.instanceMethod yX3_lengthPart, Cond.selects RX3 yX3_lengthPart yX3_lengthPart, Cond.code yX3_lengthPart cX3_lengthPart 3 (some .long), Cond.methodLink RL 291 yL_addLength, Cond.static yL_addLength, Cond.codeWith yL_addLength cL_addLength 7 (some .int) [(0, 13, 16, 13), (0, 13, 20, 21)], Cond.methodLink RL 131 yX2_addLength, Cond.instanceMethod yX2_addLength, Cond.selects RX2 yX2_addLength yX2_addLength, Cond.code yX2_addLength cX2_addLength 8 (some .long), Cond.methodLink RL 293 yX3_addLength]
def wsL_law0_r32 : List Cond := [Cond.instanceMethod yX3_addLength, Cond.selects RX3 yX3_addLength yX3_addLength, Cond.code yX3_addLength cX3_addLength 7 (some .long), Cond.methodLink RL 294 yL_timesLength, Cond.static yL_timesLength, Cond.codeWith yL_timesLength cL_timesLength 6 (some .int) [(0, 11, 14, 13), (0, 11, 18, 15), (0, 11, 22, 21)], Cond.methodLink RL 134 yX2_timesLength, Cond.instanceMethod yX2_timesLength, Cond.selects RX2 yX2_timesLength yX2_timesLength, Cond.code yX2_timesLength cX2_timesLength 4 (some .long), Cond.constantLong RX2 233 (-1000), Cond.constantLong RX2 235 (1000), Cond.methodLink RL 296 yX3_timesLength, Cond.instanceMethod yX3_timesLength, Cond.selects RX3 yX3_timesLength yX3_timesLength, Cond.code yX3_timesLength cX3_timesLength 4 (some .long), Cond.constantLong RX3 224 (-1000), Cond.constantLong RX3 226 (1000), Cond.methodLink RL 297 yL_lengthOfTimes, Cond.static yL_lengthOfTimes, Cond.codeWith yL_lengthOfTimes cL_lengthOfTimes 6 (some .int) [(0, 11, 14, 13)], Cond.methodLink RL 137 yX2_lengthOfTimes, Cond.instanceMethod yX2_lengthOfTimes, Cond.selects RX2 yX2_lengthOfTimes yX2_lengthOfTimes]
def wsL_law0_r33 : List Cond := [Cond.code yX2_lengthOfTimes cX2_lengthOfTimes 4 (some .long), Cond.methodLink RL 299 yX3_lengthOfTimes, Cond.instanceMethod yX3_lengthOfTimes, Cond.selects RX3 yX3_lengthOfTimes yX3_lengthOfTimes, Cond.code yX3_lengthOfTimes cX3_lengthOfTimes 4 (some .long), Cond.methodLink RL 300 yL_orderLengths, Cond.static yL_orderLengths, Cond.codeWith yL_orderLengths cL_orderLengths 5 (some .int) [(0, 10, 13, 13)], Cond.methodLink RL 140 yX2_orderLengths, Cond.instanceMethod yX2_orderLengths, Cond.selects RX2 yX2_orderLengths yX2_orderLengths, Cond.code yX2_orderLengths cX2_orderLengths 4 (some .int), Cond.methodLink RL 302 yX3_orderLengths, Cond.instanceMethod yX3_orderLengths, Cond.selects RX3 yX3_orderLengths yX3_orderLengths, Cond.code yX3_orderLengths cX3_orderLengths 3 (some .int), Cond.methodLink RL 303 yL_moment, Cond.static yL_moment, Cond.codeWith yL_moment cL_moment 6 (some .int) [(0, 11, 14, 13)], Cond.methodLink RL 143 yX2_moment, Cond.instanceMethod yX2_moment, Cond.selects RX2 yX2_moment yX2_moment, Cond.code yX2_moment cX2_moment 4 (some .long), Cond.methodLink RX2 237 yX2_keepMoment]
def wsL_law0_r34 : List Cond := [Cond.instanceMethod yX2_keepMoment, Cond.selects RX2 yX2_keepMoment yX2_keepMoment, Cond.code yX2_keepMoment cX2_keepMoment 8 (some .long), Cond.constantLong RX2 287 (86400000000000), Cond.methodLink RL 305 yX3_moment, Cond.instanceMethod yX3_moment, Cond.selects RX3 yX3_moment yX3_moment, Cond.code yX3_moment cX3_moment 4 (some .long), Cond.methodLink RL 306 yL_dateOf, Cond.static yL_dateOf, Cond.codeWith yL_dateOf cL_dateOf 5 (some .int) [(0, 9, 12, 13)], Cond.methodLink RL 146 yX2_dateOf, Cond.instanceMethod yX2_dateOf, Cond.selects RX2 yX2_dateOf yX2_dateOf, Cond.code yX2_dateOf cX2_dateOf 3 (some .long), Cond.methodLink RL 308 yX3_dateOf, Cond.instanceMethod yX3_dateOf, Cond.selects RX3 yX3_dateOf yX3_dateOf, Cond.code yX3_dateOf cX3_dateOf 3 (some .long), Cond.methodLink RL 309 yL_timeOf, Cond.static yL_timeOf, Cond.codeWith yL_timeOf cL_timeOf 5 (some .int) [(0, 9, 12, 13)], Cond.methodLink RL 149 yX2_timeOf, Cond.instanceMethod yX2_timeOf]
def wsL_law0_r35 : List Cond := [Cond.selects RX2 yX2_timeOf yX2_timeOf, Cond.code yX2_timeOf cX2_timeOf 3 (some .long), Cond.methodLink RL 311 yX3_timeOf, Cond.instanceMethod yX3_timeOf, Cond.selects RX3 yX3_timeOf yX3_timeOf, Cond.code yX3_timeOf cX3_timeOf 3 (some .long), Cond.methodLink RL 312 yL_moveMoment, Cond.static yL_moveMoment, Cond.codeWith yL_moveMoment cL_moveMoment 8 (some .int) [(0, 13, 16, 13), (0, 13, 20, 15), (0, 13, 24, 21)], Cond.methodLink RL 152 yX2_moveMoment, Cond.instanceMethod yX2_moveMoment, Cond.selects RX2 yX2_moveMoment yX2_moveMoment, Cond.code yX2_moveMoment cX2_moveMoment 10 (some .long), Cond.methodLink RX2 240 yX0_daysOf, Cond.static yX0_daysOf, Cond.code yX0_daysOf cX0_daysOf 4 (some .long), Cond.methodLink RX0 23 yJ9_floorDiv_f86c9, Cond.methodLink RL 314 yX3_moveMoment, Cond.instanceMethod yX3_moveMoment, Cond.selects RX3 yX3_moveMoment yX3_moveMoment, Cond.code yX3_moveMoment cX3_moveMoment 13 (some .long), Cond.methodLink RX3 228 yX3_comes, Cond.instanceMethod yX3_comes, Cond.selects RX3 yX3_comes yX3_comes]
def wsL_law0_r36 : List Cond := [Cond.code yX3_comes cX3_comes 7 (some .long), Cond.methodLink RL 315 yL_goMoment, Cond.static yL_goMoment, Cond.codeWith yL_goMoment cL_goMoment 7 (some .int) [(0, 13, 16, 13), (0, 13, 20, 21)], Cond.methodLink RL 155 yX2_goMoment, Cond.instanceMethod yX2_goMoment, Cond.selects RX2 yX2_goMoment yX2_goMoment, Cond.code yX2_goMoment cX2_goMoment 10 (some .long), Cond.methodLink RL 317 yX3_goMoment, Cond.instanceMethod yX3_goMoment, Cond.selects RX3 yX3_goMoment yX3_goMoment, Cond.code yX3_goMoment cX3_goMoment 9 (some .long), Cond.constantLong RX3 231 (86400), Cond.methodLink RL 318 yL_lengthOfMoments, Cond.static yL_lengthOfMoments, Cond.codeWith yL_lengthOfMoments cL_lengthOfMoments 6 (some .int) [(0, 11, 14, 13)], Cond.methodLink RL 158 yX2_lengthOfMoments, Cond.instanceMethod yX2_lengthOfMoments, Cond.selects RX2 yX2_lengthOfMoments yX2_lengthOfMoments, Cond.code yX2_lengthOfMoments cX2_lengthOfMoments 6 (some .long), Cond.methodLink RL 320 yX3_lengthOfMoments, Cond.instanceMethod yX3_lengthOfMoments, Cond.selects RX3 yX3_lengthOfMoments yX3_lengthOfMoments, Cond.code yX3_lengthOfMoments cX3_lengthOfMoments 4 (some .long)]
def wsL_law0_r37 : List Cond := [Cond.methodLink RL 321 yL_whole, Cond.static yL_whole, Cond.codeWith yL_whole cL_whole 6 (some .int) [(0, 11, 14, 13), (0, 11, 18, 15)], Cond.methodLink RL 161 yX2_whole, Cond.instanceMethod yX2_whole, Cond.selects RX2 yX2_whole yX2_whole, Cond.code yX2_whole cX2_whole 8 (some .long), Cond.constantLong RX2 249 (3600), Cond.methodLink RX2 243 yX0_cut, Cond.static yX0_cut, Cond.code yX0_cut cX0_cut 4 (some .long), Cond.methodLink RX2 246 yX0_wholeSeconds, Cond.static yX0_wholeSeconds, Cond.code yX0_wholeSeconds cX0_wholeSeconds 4 (some .long), Cond.constantLong RX0 26 (1000000000), Cond.methodLink RX0 28 yX0_cut, Cond.methodLink RL 323 yX3_whole, Cond.instanceMethod yX3_whole, Cond.selects RX3 yX3_whole yX3_whole, Cond.code yX3_whole cX3_whole 14 (some .long), Cond.methodLink RX3 233 yX3_isAhead, Cond.instanceMethod yX3_isAhead, Cond.selects RX3 yX3_isAhead yX3_isAhead, Cond.code yX3_isAhead cX3_isAhead 3 (some .boolean)]
def wsL_law0_r38 : List Cond := [Cond.methodLink RL 324 yL_orderMoments, Cond.static yL_orderMoments, Cond.codeWith yL_orderMoments cL_orderMoments 5 (some .int) [(0, 10, 13, 13)], Cond.methodLink RL 164 yX2_orderMoments, Cond.instanceMethod yX2_orderMoments, Cond.selects RX2 yX2_orderMoments yX2_orderMoments, Cond.code yX2_orderMoments cX2_orderMoments 4 (some .int), Cond.methodLink RL 326 yX3_orderMoments, Cond.instanceMethod yX3_orderMoments, Cond.selects RX3 yX3_orderMoments yX3_orderMoments, Cond.code yX3_orderMoments cX3_orderMoments 3 (some .int), Cond.methodLink RL 327 yX2_longShare, Cond.instanceMethod yX2_longShare, Cond.selects RX2 yX2_longShare yX2_longShare, Cond.code yX2_longShare cX2_longShare 3 (some .float), Cond.constantFloat RX2 253 (1086324736), Cond.methodLink RL 331 yX3_longShare, Cond.instanceMethod yX3_longShare, Cond.selects RX3 yX3_longShare yX3_longShare, Cond.code yX3_longShare cX3_longShare 3 (some .float), Cond.constantFloat RX3 237 (1086324736), Cond.methodLink RL 332 yX2_meanDay, Cond.instanceMethod yX2_meanDay, Cond.selects RX2 yX2_meanDay yX2_meanDay]
def wsL_law0_r39 : List Cond := [Cond.code yX2_meanDay cX2_meanDay 4 (some .double), Cond.constantDouble RX2 254 (4618441417868443648), Cond.methodLink RL 336 yX3_meanDay, Cond.instanceMethod yX3_meanDay, Cond.selects RX3 yX3_meanDay yX3_meanDay, Cond.code yX3_meanDay cX3_meanDay 4 (some .double), Cond.constantDouble RX3 238 (4618441417868443648), Cond.methodLink RL 337 yX2_checksum, Cond.instanceMethod yX2_checksum, Cond.selects RX2 yX2_checksum yX2_checksum, Cond.code yX2_checksum cX2_checksum 4 (some .long), Cond.constantLong RX2 256 (31), Cond.methodLink RL 341 yX3_checksum, Cond.instanceMethod yX3_checksum, Cond.selects RX3 yX3_checksum yX3_checksum, Cond.code yX3_checksum cX3_checksum 4 (some .long), Cond.constantLong RX3 240 (31), Cond.methodLink RL 342 yX2_isSound, Cond.instanceMethod yX2_isSound, Cond.selects RX2 yX2_isSound yX2_isSound, Cond.code yX2_isSound cX2_isSound 4 (some .boolean), Cond.methodLink RX2 258 yX2_isSoundDay, Cond.static yX2_isSoundDay, Cond.code yX2_isSoundDay cX2_isSoundDay 12 (some .boolean)]
def wsL_law0_r40 : List Cond := [Cond.methodLink RX2 275 Lib.Math.min.name, Cond.static Lib.Math.min.name, Cond.code Lib.Math.min.name Lib.Math.min.code 2 (some .int), Cond.methodLink RX2 261 yX2_isSoundWay, Cond.static yX2_isSoundWay, Cond.code yX2_isSoundWay cX2_isSoundWay 8 (some .boolean), Cond.methodLink RX2 265 yX2_isSoundTimeWay, Cond.static yX2_isSoundTimeWay, Cond.code yX2_isSoundTimeWay cX2_isSoundTimeWay 8 (some .boolean), Cond.methodLink RX2 268 yX2_isSoundMomentWay, Cond.instanceMethod yX2_isSoundMomentWay, Cond.selects RX2 yX2_isSoundMomentWay yX2_isSoundMomentWay, Cond.code yX2_isSoundMomentWay cX2_isSoundMomentWay 13 (some .boolean), Cond.methodLink RL 346 yX3_isSound, Cond.instanceMethod yX3_isSound, Cond.selects RX3 yX3_isSound yX3_isSound, Cond.code yX3_isSound cX3_isSound 1 (some .boolean)]
def wsL_law0 : List Cond := (wsL_law0_r1 ++ (wsL_law0_r2 ++ (wsL_law0_r3 ++ (wsL_law0_r4 ++ (wsL_law0_r5 ++ (wsL_law0_r6 ++ (wsL_law0_r7 ++ (wsL_law0_r8 ++ (wsL_law0_r9 ++ (wsL_law0_r10 ++ (wsL_law0_r11 ++ (wsL_law0_r12 ++ (wsL_law0_r13 ++ (wsL_law0_r14 ++ (wsL_law0_r15 ++ (wsL_law0_r16 ++ (wsL_law0_r17 ++ (wsL_law0_r18 ++ (wsL_law0_r19 ++ (wsL_law0_r20 ++ (wsL_law0_r21 ++ (wsL_law0_r22 ++ (wsL_law0_r23 ++ (wsL_law0_r24 ++ (wsL_law0_r25 ++ (wsL_law0_r26 ++ (wsL_law0_r27 ++ (wsL_law0_r28 ++ (wsL_law0_r29 ++ (wsL_law0_r30 ++ (wsL_law0_r31 ++ (wsL_law0_r32 ++ (wsL_law0_r33 ++ (wsL_law0_r34 ++ (wsL_law0_r35 ++ (wsL_law0_r36 ++ (wsL_law0_r37 ++ (wsL_law0_r38 ++ (wsL_law0_r39 ++ wsL_law0_r40))))))))))))))))))))))))))))))))))))))) ++ wsX20 ++ wsX30 ++ ([] : List Cond)
def wsL_law : List Cond := wsL_law0 ++ (vx_atM "java/lang/ArrayIndexOutOfBoundsException" ["java/lang/IndexOutOfBoundsException", "java/lang/RuntimeException", "java/lang/Exception"]).filter goodWord ++ (vx_atS RX2 293 "java/lang/IndexOutOfBoundsException" ["java/lang/RuntimeException", "java/lang/Exception"]).filter goodWord ++ (vx_atS RX2 105 "java/lang/IllegalArgumentException" ["java/lang/RuntimeException", "java/lang/Exception"]).filter goodWord ++ (vx_atS RX2 300 "java/lang/UnsupportedOperationException" ["java/lang/RuntimeException", "java/lang/Exception"]).filter goodWord
set_option maxRecDepth 20000 in
theorem wq_1 : ∀ w ∈ wsL_law0_r1, w ∈ lw_tbl := fun w h => (goodIn_r wsL_law0_r1 [35, 36, 22, 769, 770, 23, 74, 1156, 37, 38, 39, 40, 41, 42, 43, 75, 44, 45, 46, 47, 48, 49, 50, 51] (by decide +kernel) (by decide +kernel) w h).1
set_option maxRecDepth 20000 in
theorem wq_2 : ∀ w ∈ wsL_law0_r2, w ∈ lw_tbl := fun w h => (goodIn_r wsL_law0_r2 [52, 771, 772, 773, 774, 777, 778, 779, 780, 781, 782, 783, 784, 785, 786, 775, 214, 215, 21, 216, 217, 294, 295, 296] (by decide +kernel) (by decide +kernel) w h).1
set_option maxRecDepth 20000 in
theorem wq_3 : ∀ w ∈ wsL_law0_r3, w ∈ lw_tbl := fun w h => (goodIn_r wsL_law0_r3 [297, 298, 339, 299, 300, 301, 302, 27, 315, 316, 317, 318, 319, 158, 159, 160, 320, 321, 322, 323, 30, 340, 138, 31] (by decide +kernel) (by decide +kernel) w h).1
set_option maxRecDepth 20000 in
theorem wq_4 : ∀ w ∈ wsL_law0_r4, w ∈ lw_tbl := fun w h => (goodIn_r wsL_law0_r4 [139, 116, 150, 151, 152, 148, 118, 119, 120, 121, 32, 122, 147, 114, 115, 86, 87, 88, 134, 99, 100, 93, 95, 83] (by decide +kernel) (by decide +kernel) w h).1
set_option maxRecDepth 20000 in
theorem wq_5 : ∀ w ∈ wsL_law0_r5, w ∈ lw_tbl := fun w h => (goodIn_r wsL_law0_r5 [161, 145, 146, 149, 89, 90, 91, 92, 94, 96, 97, 84, 341, 343, 2, 344, 153, 154, 155, 156, 157, 345, 346, 347] (by decide +kernel) (by decide +kernel) w h).1
set_option maxRecDepth 20000 in
theorem wq_6 : ∀ w ∈ wsL_law0_r6, w ∈ lw_tbl := fun w h => (goodIn_r wsL_law0_r6 [348, 33, 819, 820, 821, 822, 835, 823, 824, 825, 826, 827, 828, 829, 830, 831, 832, 833, 834, 836, 837, 838, 839, 840] (by decide +kernel) (by decide +kernel) w h).1
set_option maxRecDepth 20000 in
theorem wq_7 : ∀ w ∈ wsL_law0_r7, w ∈ lw_tbl := fun w h => (goodIn_r wsL_law0_r7 [841, 842, 849, 850, 843, 844, 845, 846, 847, 848, 851, 853, 8, 854, 776, 855, 856, 857, 858, 859, 860, 868, 861, 862] (by decide +kernel) (by decide +kernel) w h).1
set_option maxRecDepth 20000 in
theorem wq_8 : ∀ w ∈ wsL_law0_r8, w ∈ lw_tbl := fun w h => (goodIn_r wsL_law0_r8 [863, 864, 865, 866, 867, 765, 766, 767, 768, 364, 365, 366, 367, 368, 369, 370, 371, 80, 81, 82, 85, 869, 870, 871] (by decide +kernel) (by decide +kernel) w h).1
set_option maxRecDepth 20000 in
theorem wq_9 : ∀ w ∈ wsL_law0_r9, w ∈ lw_tbl := fun w h => (goodIn_r wsL_law0_r9 [872, 873, 787, 874, 876, 9, 877, 878, 788, 789, 372, 373, 374, 375, 376, 377, 378, 879, 880, 881, 882, 379, 380, 381] (by decide +kernel) (by decide +kernel) w h).1
set_option maxRecDepth 20000 in
theorem wq_10 : ∀ w ∈ wsL_law0_r10, w ∈ lw_tbl := fun w h => (goodIn_r wsL_law0_r10 [382, 383, 384, 385, 130, 131, 132, 135, 136, 133, 137, 117, 140, 141, 142, 143, 144, 386, 162, 163, 164, 165, 387, 388] (by decide +kernel) (by decide +kernel) w h).1
set_option maxRecDepth 20000 in
theorem wq_11 : ∀ w ∈ wsL_law0_r11, w ∈ lw_tbl := fun w h => (goodIn_r wsL_law0_r11 [389, 98, 883, 884, 885, 886, 887, 888, 889, 890, 391, 392, 393, 394, 395, 396, 397, 401, 402, 398, 399, 400, 403, 404] (by decide +kernel) (by decide +kernel) w h).1
set_option maxRecDepth 20000 in
theorem wq_12 : ∀ w ∈ wsL_law0_r12, w ∈ lw_tbl := fun w h => (goodIn_r wsL_law0_r12 [405, 406, 167, 168, 169, 170, 171, 173, 174, 32, 175, 172, 891, 892, 893, 894, 898, 899, 895, 896, 897, 900, 902, 10] (by decide +kernel) (by decide +kernel) w h).1
set_option maxRecDepth 20000 in
theorem wq_13 : ∀ w ∈ wsL_law0_r13, w ∈ lw_tbl := fun w h => (goodIn_r wsL_law0_r13 [903, 904, 906, 11, 907, 908, 910, 12, 911, 912, 914, 13, 915, 407, 408, 409, 410, 411, 412, 413, 113, 166, 916, 917] (by decide +kernel) (by decide +kernel) w h).1
set_option maxRecDepth 20000 in
theorem wq_14 : ∀ w ∈ wsL_law0_r14, w ∈ lw_tbl := fun w h => (goodIn_r wsL_law0_r14 [918, 919, 415, 416, 417, 418, 419, 420, 421, 920, 921, 922, 923, 423, 424, 425, 426, 427, 428, 429, 111, 430, 431, 432] (by decide +kernel) (by decide +kernel) w h).1
set_option maxRecDepth 20000 in
theorem wq_15 : ∀ w ∈ wsL_law0_r15, w ∈ lw_tbl := fun w h => (goodIn_r wsL_law0_r15 [433, 434, 435, 436, 437, 438, 439, 924, 925, 926, 927, 928, 929, 930, 441, 442, 443, 444, 445, 446, 447, 448, 449, 931] (by decide +kernel) (by decide +kernel) w h).1
set_option maxRecDepth 20000 in
theorem wq_16 : ∀ w ∈ wsL_law0_r16, w ∈ lw_tbl := fun w h => (goodIn_r wsL_law0_r16 [932, 933, 934, 935, 936, 450, 451, 452, 453, 454, 455, 456, 179, 937, 938, 939, 940, 457, 458, 459, 460, 461, 462, 463] (by decide +kernel) (by decide +kernel) w h).1
set_option maxRecDepth 20000 in
theorem wq_17 : ∀ w ∈ wsL_law0_r17, w ∈ lw_tbl := fun w h => (goodIn_r wsL_law0_r17 [464, 465, 466, 941, 942, 943, 944, 945, 946, 947, 467, 468, 469, 470, 471, 472, 473, 184, 185, 186, 187, 188, 189, 948] (by decide +kernel) (by decide +kernel) w h).1
set_option maxRecDepth 20000 in
theorem wq_18 : ∀ w ∈ wsL_law0_r18, w ∈ lw_tbl := fun w h => (goodIn_r wsL_law0_r18 [949, 950, 951, 952, 954, 14, 955, 475, 476, 477, 478, 479, 480, 481, 482, 483, 484, 485, 487, 3, 488, 489, 491, 4] (by decide +kernel) (by decide +kernel) w h).1
set_option maxRecDepth 20000 in
theorem wq_19 : ∀ w ∈ wsL_law0_r19, w ∈ lw_tbl := fun w h => (goodIn_r wsL_law0_r19 [492, 956, 957, 958, 959, 960, 961, 962, 963, 965, 15, 966, 967, 969, 16, 970, 493, 494, 495, 496, 497, 498, 499, 971] (by decide +kernel) (by decide +kernel) w h).1
set_option maxRecDepth 20000 in
theorem wq_20 : ∀ w ∈ wsL_law0_r20, w ∈ lw_tbl := fun w h => (goodIn_r wsL_law0_r20 [972, 973, 974, 500, 501, 502, 503, 504, 505, 506, 975, 976, 977, 978, 979, 507, 508, 509, 510, 511, 512, 513, 980, 981] (by decide +kernel) (by decide +kernel) w h).1
set_option maxRecDepth 20000 in
theorem wq_21 : ∀ w ∈ wsL_law0_r21, w ∈ lw_tbl := fun w h => (goodIn_r wsL_law0_r21 [982, 983, 515, 516, 517, 518, 519, 520, 521, 180, 984, 985, 986, 987, 522, 523, 524, 525, 526, 527, 528, 529, 530, 988] (by decide +kernel) (by decide +kernel) w h).1
set_option maxRecDepth 20000 in
theorem wq_22 : ∀ w ∈ wsL_law0_r22, w ∈ lw_tbl := fun w h => (goodIn_r wsL_law0_r22 [989, 990, 991, 992, 531, 532, 533, 534, 535, 536, 537, 993, 994, 995, 996, 538, 539, 540, 541, 542, 543, 544, 545, 547] (by decide +kernel) (by decide +kernel) w h).1
set_option maxRecDepth 20000 in
theorem wq_23 : ∀ w ∈ wsL_law0_r23, w ∈ lw_tbl := fun w h => (goodIn_r wsL_law0_r23 [5, 548, 997, 998, 999, 1000, 1001, 1003, 17, 1004, 549, 550, 551, 552, 553, 554, 555, 1005, 1006, 1007, 1008, 556, 557, 558] (by decide +kernel) (by decide +kernel) w h).1
set_option maxRecDepth 20000 in
theorem wq_24 : ∀ w ∈ wsL_law0_r24, w ∈ lw_tbl := fun w h => (goodIn_r wsL_law0_r24 [559, 560, 561, 562, 1009, 1010, 1011, 1012, 564, 565, 566, 567, 568, 569, 570, 1013, 1014, 1015, 1016, 571, 572, 573, 574, 575] (by decide +kernel) (by decide +kernel) w h).1
set_option maxRecDepth 20000 in
theorem wq_25 : ∀ w ∈ wsL_law0_r25, w ∈ lw_tbl := fun w h => (goodIn_r wsL_law0_r25 [576, 577, 1017, 1018, 1019, 1020, 578, 579, 580, 581, 582, 583, 584, 585, 586, 587, 588, 589, 193, 1021, 1022, 1023, 1024, 1025] (by decide +kernel) (by decide +kernel) w h).1
set_option maxRecDepth 20000 in
theorem wq_26 : ∀ w ∈ wsL_law0_r26, w ∈ lw_tbl := fun w h => (goodIn_r wsL_law0_r26 [1026, 1027, 1028, 1029, 1030, 590, 591, 592, 593, 594, 595, 596, 597, 1031, 1032, 1033, 1034, 1035, 1036, 598, 599, 600, 601, 602] (by decide +kernel) (by decide +kernel) w h).1
set_option maxRecDepth 20000 in
theorem wq_27 : ∀ w ∈ wsL_law0_r27, w ∈ lw_tbl := fun w h => (goodIn_r wsL_law0_r27 [603, 604, 605, 1037, 1038, 1039, 1040, 607, 608, 609, 610, 611, 612, 613, 620, 621, 614, 615, 34, 616, 617, 618, 619, 201] (by decide +kernel) (by decide +kernel) w h).1
set_option maxRecDepth 20000 in
theorem wq_28 : ∀ w ∈ wsL_law0_r28, w ∈ lw_tbl := fun w h => (goodIn_r wsL_law0_r28 [197, 198, 199, 200, 202, 203, 204, 1041, 1042, 1043, 1044, 1045, 1046, 1047, 1051, 1048, 1049, 1050, 622, 623, 624, 625, 626, 627] (by decide +kernel) (by decide +kernel) w h).1
set_option maxRecDepth 20000 in
theorem wq_29 : ∀ w ∈ wsL_law0_r29, w ∈ lw_tbl := fun w h => (goodIn_r wsL_law0_r29 [628, 1052, 1053, 1054, 1055, 630, 631, 632, 633, 634, 635, 636, 196, 1056, 1057, 1058, 1059, 637, 638, 639, 640, 641, 642, 643] (by decide +kernel) (by decide +kernel) w h).1
set_option maxRecDepth 20000 in
theorem wq_30 : ∀ w ∈ wsL_law0_r30, w ∈ lw_tbl := fun w h => (goodIn_r wsL_law0_r30 [1060, 1061, 1062, 1063, 644, 645, 646, 647, 648, 649, 650, 651, 652, 653, 655, 6, 656, 194, 195, 1064, 1065, 1066, 1067, 1068] (by decide +kernel) (by decide +kernel) w h).1
set_option maxRecDepth 20000 in
theorem wq_31 : ∀ w ∈ wsL_law0_r31, w ∈ lw_tbl := fun w h => (goodIn_r wsL_law0_r31 [1069, 1070, 1072, 18, 1073, 657, 658, 659, 660, 661, 662, 663, 1074, 1075, 1076, 1077, 665, 666, 667, 668, 669, 670, 671, 1078] (by decide +kernel) (by decide +kernel) w h).1
set_option maxRecDepth 20000 in
theorem wq_32 : ∀ w ∈ wsL_law0_r32, w ∈ lw_tbl := fun w h => (goodIn_r wsL_law0_r32 [1079, 1080, 1081, 672, 673, 674, 675, 676, 677, 678, 679, 680, 1082, 1083, 1084, 1085, 1086, 1087, 681, 682, 683, 684, 685, 686] (by decide +kernel) (by decide +kernel) w h).1
set_option maxRecDepth 20000 in
theorem wq_33 : ∀ w ∈ wsL_law0_r33, w ∈ lw_tbl := fun w h => (goodIn_r wsL_law0_r33 [687, 1088, 1089, 1090, 1091, 688, 689, 690, 691, 692, 693, 694, 1092, 1093, 1094, 1095, 695, 696, 697, 698, 699, 700, 701, 702] (by decide +kernel) (by decide +kernel) w h).1
set_option maxRecDepth 20000 in
theorem wq_34 : ∀ w ∈ wsL_law0_r34, w ∈ lw_tbl := fun w h => (goodIn_r wsL_law0_r34 [704, 7, 705, 213, 1096, 1097, 1098, 1099, 706, 707, 708, 709, 710, 711, 712, 1100, 1101, 1102, 1103, 713, 714, 715, 716, 717] (by decide +kernel) (by decide +kernel) w h).1
set_option maxRecDepth 20000 in
theorem wq_35 : ∀ w ∈ wsL_law0_r35, w ∈ lw_tbl := fun w h => (goodIn_r wsL_law0_r35 [718, 719, 1104, 1105, 1106, 1107, 720, 721, 722, 723, 724, 725, 726, 209, 210, 211, 212, 1108, 1109, 1110, 1111, 1112, 1114, 19] (by decide +kernel) (by decide +kernel) w h).1
set_option maxRecDepth 20000 in
theorem wq_36 : ∀ w ∈ wsL_law0_r36, w ∈ lw_tbl := fun w h => (goodIn_r wsL_law0_r36 [1115, 727, 728, 729, 730, 731, 732, 733, 1116, 1117, 1118, 1119, 1120, 734, 735, 736, 737, 738, 739, 740, 1121, 1122, 1123, 1124] (by decide +kernel) (by decide +kernel) w h).1
set_option maxRecDepth 20000 in
theorem wq_37 : ∀ w ∈ wsL_law0_r37, w ∈ lw_tbl := fun w h => (goodIn_r wsL_law0_r37 [741, 742, 743, 744, 745, 746, 747, 756, 748, 749, 750, 751, 752, 753, 754, 755, 1125, 1126, 1127, 1128, 1129, 1131, 20, 1132] (by decide +kernel) (by decide +kernel) w h).1
set_option maxRecDepth 20000 in
theorem wq_38 : ∀ w ∈ wsL_law0_r38, w ∈ lw_tbl := fun w h => (goodIn_r wsL_law0_r38 [758, 759, 760, 761, 762, 763, 764, 1133, 1134, 1135, 1136, 76, 77, 78, 79, 101, 1137, 1138, 1139, 1140, 1141, 102, 103, 104] (by decide +kernel) (by decide +kernel) w h).1
set_option maxRecDepth 20000 in
theorem wq_39 : ∀ w ∈ wsL_law0_r39, w ∈ lw_tbl := fun w h => (goodIn_r wsL_law0_r39 [105, 106, 1142, 1143, 1144, 1145, 1146, 107, 108, 109, 110, 112, 1147, 1148, 1149, 1150, 1151, 123, 124, 125, 126, 127, 128, 129] (by decide +kernel) (by decide +kernel) w h).1
set_option maxRecDepth 20000 in
theorem wq_40 : ∀ w ∈ wsL_law0_r40, w ∈ lw_tbl := fun w h => (goodIn_r wsL_law0_r40 [176, 177, 178, 181, 182, 183, 190, 191, 192, 205, 207, 0, 208, 1152, 1153, 1154, 1155] (by decide +kernel) (by decide +kernel) w h).1
theorem wz_app {a b c : List Cond} (ha : ∀ w ∈ a, w ∈ c) (hb : ∀ w ∈ b, w ∈ c) : ∀ w ∈ a ++ b, w ∈ c := fun w h => (List.mem_append.mp h).elim (ha w) (hb w)
set_option maxRecDepth 20000 in
theorem wsL_law_in0 : ∀ w ∈ wsL_law0, w ∈ lw_tbl := (wz_app wq_1 (wz_app wq_2 (wz_app wq_3 (wz_app wq_4 (wz_app wq_5 (wz_app wq_6 (wz_app wq_7 (wz_app wq_8 (wz_app wq_9 (wz_app wq_10 (wz_app wq_11 (wz_app wq_12 (wz_app wq_13 (wz_app wq_14 (wz_app wq_15 (wz_app wq_16 (wz_app wq_17 (wz_app wq_18 (wz_app wq_19 (wz_app wq_20 (wz_app wq_21 (wz_app wq_22 (wz_app wq_23 (wz_app wq_24 (wz_app wq_25 (wz_app wq_26 (wz_app wq_27 (wz_app wq_28 (wz_app wq_29 (wz_app wq_30 (wz_app wq_31 (wz_app wq_32 (wz_app wq_33 (wz_app wq_34 (wz_app wq_35 (wz_app wq_36 (wz_app wq_37 (wz_app wq_38 (wz_app wq_39 wq_40)))))))))))))))))))))))))))))))))))))))
theorem wsL_law_x0 : ∀ w ∈ (vx_atM "java/lang/ArrayIndexOutOfBoundsException" ["java/lang/IndexOutOfBoundsException", "java/lang/RuntimeException", "java/lang/Exception"]).filter goodWord, w ∈ lw_tbl := by decide +kernel
theorem wsL_law_x1 : ∀ w ∈ (vx_atS RX2 293 "java/lang/IndexOutOfBoundsException" ["java/lang/RuntimeException", "java/lang/Exception"]).filter goodWord, w ∈ lw_tbl := by decide +kernel
theorem wsL_law_x2 : ∀ w ∈ (vx_atS RX2 105 "java/lang/IllegalArgumentException" ["java/lang/RuntimeException", "java/lang/Exception"]).filter goodWord, w ∈ lw_tbl := by decide +kernel
theorem wsL_law_x3 : ∀ w ∈ (vx_atS RX2 300 "java/lang/UnsupportedOperationException" ["java/lang/RuntimeException", "java/lang/Exception"]).filter goodWord, w ∈ lw_tbl := by decide +kernel
theorem wsL_law_in : ∀ w ∈ wsL_law, w ∈ lw_tbl := fun w h => (List.mem_append.mp h).elim (fun h => (List.mem_append.mp h).elim (fun h => (List.mem_append.mp h).elim (fun h => (List.mem_append.mp h).elim (fun h => wsL_law_in0 w h) (fun h => wsL_law_x0 w h)) (fun h => wsL_law_x1 w h)) (fun h => wsL_law_x2 w h)) (fun h => wsL_law_x3 w h)
theorem inX0 : ∀ w ∈ wsX00, w ∈ lw_tbl := by decide +kernel
theorem inX1 : ∀ w ∈ wsX10, w ∈ lw_tbl := by decide +kernel
theorem inlX2 : ∀ w ∈ wsX20, w ∈ wsL_law := fun _ h => List.mem_append_left _ (List.mem_append_left _ (List.mem_append_left _ (List.mem_append_left _ (List.mem_append_left _ (List.mem_append_left _ (List.mem_append_right _ h))))))
theorem inX2 : ∀ w ∈ wsX20, w ∈ lw_tbl := fun w h => wsL_law_in w (inlX2 w h)
theorem inlX3 : ∀ w ∈ wsX30, w ∈ wsL_law := fun _ h => List.mem_append_left _ (List.mem_append_left _ (List.mem_append_left _ (List.mem_append_left _ (List.mem_append_left _ (List.mem_append_right _ h)))))
theorem inX3 : ∀ w ∈ wsX30, w ∈ lw_tbl := fun w h => wsL_law_in w (inlX3 w h)
theorem inJx00060 : ∀ w ∈ wsJx000600, w ∈ lw_tbl := by decide +kernel
theorem inJ9 : ∀ w ∈ wsJ90, w ∈ lw_tbl := by decide +kernel
theorem inJ0 : ∀ w ∈ wsJ00, w ∈ lw_tbl := by decide +kernel
theorem dX0_countInDay_0 : decode cX0_countInDay 0 = .ok (.iload_n 0, 1) := by decide +kernel
theorem dX0_countInDay_1 : decode cX0_countInDay 1 = .ok (.lookupswitch 59 #[(104, 43), (105, 47), (110, 55), (115, 51)], 43) := by decide +kernel
theorem dX0_countInDay_44 : decode cX0_countInDay 44 = .ok (.ldc2_w 7, 3) := by decide +kernel
theorem dX0_countInDay_47 : decode cX0_countInDay 47 = .ok (.lreturn, 1) := by decide +kernel
theorem dX0_countInDay_48 : decode cX0_countInDay 48 = .ok (.ldc2_w 9, 3) := by decide +kernel
theorem dX0_countInDay_51 : decode cX0_countInDay 51 = .ok (.lreturn, 1) := by decide +kernel
theorem dX0_countInDay_52 : decode cX0_countInDay 52 = .ok (.ldc2_w 13, 3) := by decide +kernel
theorem dX0_countInDay_55 : decode cX0_countInDay 55 = .ok (.lreturn, 1) := by decide +kernel
theorem dX0_countInDay_56 : decode cX0_countInDay 56 = .ok (.ldc2_w 15, 3) := by decide +kernel
theorem dX0_countInDay_59 : decode cX0_countInDay 59 = .ok (.lreturn, 1) := by decide +kernel
theorem dX0_countInDay_60 : decode cX0_countInDay 60 = .ok (.lconst 0, 1) := by decide +kernel
theorem dX0_countInDay_61 : decode cX0_countInDay 61 = .ok (.lreturn, 1) := by decide +kernel
set_option maxRecDepth 20000 in
theorem ggX0_roundDay_J9_floorMod_f86c9 : GoodIn wsX0_roundDay wsJ9_floorMod_f86c9 := goodIn_r _ [5] (by decide +kernel) (by decide +kernel)
set_option maxRecDepth 20000 in
theorem gX0_roundDay_J9_floorMod_f86c9 : GoodIn wsX0_roundDay (va_wsS RX0 17 yJ9_floorMod_f86c9 wsJ9_floorMod_f86c9) := goodIn_app (goodIn_of _ (by decide +kernel)) ggX0_roundDay_J9_floorMod_f86c9
theorem dX0_roundDay_0 : decode cX0_roundDay 0 = .ok (.lload_n 0, 1) := by decide +kernel
theorem dX0_roundDay_1 : decode cX0_roundDay 1 = .ok (.ldc2_w 15, 3) := by decide +kernel
theorem dX0_roundDay_4 : decode cX0_roundDay 4 = .ok (.invokestatic 17, 3) := by decide +kernel
theorem dX0_roundDay_7 : decode cX0_roundDay 7 = .ok (.lreturn, 1) := by decide +kernel
set_option maxRecDepth 20000 in
theorem ggX0_daysOf_J9_floorDiv_f86c9 : GoodIn wsX0_daysOf wsJ9_floorDiv_f86c9 := goodIn_r _ [4] (by decide +kernel) (by decide +kernel)
set_option maxRecDepth 20000 in
theorem gX0_daysOf_J9_floorDiv_f86c9 : GoodIn wsX0_daysOf (va_wsS RX0 23 yJ9_floorDiv_f86c9 wsJ9_floorDiv_f86c9) := goodIn_app (goodIn_of _ (by decide +kernel)) ggX0_daysOf_J9_floorDiv_f86c9
theorem dX0_daysOf_0 : decode cX0_daysOf 0 = .ok (.lload_n 2, 1) := by decide +kernel
theorem dX0_daysOf_1 : decode cX0_daysOf 1 = .ok (.lconst 0, 1) := by decide +kernel
theorem dX0_daysOf_2 : decode cX0_daysOf 2 = .ok (.lcmp, 1) := by decide +kernel
theorem dX0_daysOf_3 : decode cX0_daysOf 3 = .ok (.ifCond .le 11, 3) := by decide +kernel
theorem dX0_daysOf_6 : decode cX0_daysOf 6 = .ok (.lload_n 0, 1) := by decide +kernel
theorem dX0_daysOf_7 : decode cX0_daysOf 7 = .ok (.lload_n 2, 1) := by decide +kernel
theorem dX0_daysOf_8 : decode cX0_daysOf 8 = .ok (.invokestatic 23, 3) := by decide +kernel
theorem dX0_daysOf_11 : decode cX0_daysOf 11 = .ok (.goto 4, 3) := by decide +kernel
theorem dX0_daysOf_14 : decode cX0_daysOf 14 = .ok (.lconst 0, 1) := by decide +kernel
theorem dX0_daysOf_15 : decode cX0_daysOf 15 = .ok (.lreturn, 1) := by decide +kernel
set_option maxRecDepth 20000 in
theorem ggX0_restOfDay_J9_floorMod_f86c9 : GoodIn wsX0_restOfDay wsJ9_floorMod_f86c9 := goodIn_r _ [5] (by decide +kernel) (by decide +kernel)
set_option maxRecDepth 20000 in
theorem gX0_restOfDay_J9_floorMod_f86c9 : GoodIn wsX0_restOfDay (va_wsS RX0 17 yJ9_floorMod_f86c9 wsJ9_floorMod_f86c9) := goodIn_app (goodIn_of _ (by decide +kernel)) ggX0_restOfDay_J9_floorMod_f86c9
theorem dX0_restOfDay_0 : decode cX0_restOfDay 0 = .ok (.lload_n 2, 1) := by decide +kernel
theorem dX0_restOfDay_1 : decode cX0_restOfDay 1 = .ok (.lconst 0, 1) := by decide +kernel
theorem dX0_restOfDay_2 : decode cX0_restOfDay 2 = .ok (.lcmp, 1) := by decide +kernel
theorem dX0_restOfDay_3 : decode cX0_restOfDay 3 = .ok (.ifCond .le 17, 3) := by decide +kernel
theorem dX0_restOfDay_6 : decode cX0_restOfDay 6 = .ok (.lload_n 0, 1) := by decide +kernel
theorem dX0_restOfDay_7 : decode cX0_restOfDay 7 = .ok (.lload_n 2, 1) := by decide +kernel
theorem dX0_restOfDay_8 : decode cX0_restOfDay 8 = .ok (.invokestatic 17, 3) := by decide +kernel
theorem dX0_restOfDay_11 : decode cX0_restOfDay 11 = .ok (.ldc2_w 15, 3) := by decide +kernel
theorem dX0_restOfDay_14 : decode cX0_restOfDay 14 = .ok (.lload_n 2, 1) := by decide +kernel
theorem dX0_restOfDay_15 : decode cX0_restOfDay 15 = .ok (.ldiv, 1) := by decide +kernel
theorem dX0_restOfDay_16 : decode cX0_restOfDay 16 = .ok (.lmul, 1) := by decide +kernel
theorem dX0_restOfDay_17 : decode cX0_restOfDay 17 = .ok (.goto 4, 3) := by decide +kernel
theorem dX0_restOfDay_20 : decode cX0_restOfDay 20 = .ok (.lconst 0, 1) := by decide +kernel
theorem dX0_restOfDay_21 : decode cX0_restOfDay 21 = .ok (.lreturn, 1) := by decide +kernel
theorem dX0_cut_0 : decode cX0_cut 0 = .ok (.lload_n 0, 1) := by decide +kernel
theorem dX0_cut_1 : decode cX0_cut 1 = .ok (.lconst 0, 1) := by decide +kernel
theorem dX0_cut_2 : decode cX0_cut 2 = .ok (.lcmp, 1) := by decide +kernel
theorem dX0_cut_3 : decode cX0_cut 3 = .ok (.ifCond .le 13, 3) := by decide +kernel
theorem dX0_cut_6 : decode cX0_cut 6 = .ok (.lload_n 2, 1) := by decide +kernel
theorem dX0_cut_7 : decode cX0_cut 7 = .ok (.lconst 0, 1) := by decide +kernel
theorem dX0_cut_8 : decode cX0_cut 8 = .ok (.lcmp, 1) := by decide +kernel
theorem dX0_cut_9 : decode cX0_cut 9 = .ok (.ifCond .ge 7, 3) := by decide +kernel
theorem dX0_cut_12 : decode cX0_cut 12 = .ok (.lload_n 0, 1) := by decide +kernel
theorem dX0_cut_13 : decode cX0_cut 13 = .ok (.lconst 1, 1) := by decide +kernel
theorem dX0_cut_14 : decode cX0_cut 14 = .ok (.lsub, 1) := by decide +kernel
theorem dX0_cut_15 : decode cX0_cut 15 = .ok (.lreturn, 1) := by decide +kernel
theorem dX0_cut_16 : decode cX0_cut 16 = .ok (.lload_n 0, 1) := by decide +kernel
theorem dX0_cut_17 : decode cX0_cut 17 = .ok (.lconst 0, 1) := by decide +kernel
theorem dX0_cut_18 : decode cX0_cut 18 = .ok (.lcmp, 1) := by decide +kernel
theorem dX0_cut_19 : decode cX0_cut 19 = .ok (.ifCond .ge 15, 3) := by decide +kernel
theorem dX0_cut_22 : decode cX0_cut 22 = .ok (.lload_n 2, 1) := by decide +kernel
theorem dX0_cut_23 : decode cX0_cut 23 = .ok (.lconst 0, 1) := by decide +kernel
theorem dX0_cut_24 : decode cX0_cut 24 = .ok (.lcmp, 1) := by decide +kernel
theorem dX0_cut_25 : decode cX0_cut 25 = .ok (.ifCond .le 9, 3) := by decide +kernel
theorem dX0_cut_28 : decode cX0_cut 28 = .ok (.lload_n 0, 1) := by decide +kernel
theorem dX0_cut_29 : decode cX0_cut 29 = .ok (.lconst 1, 1) := by decide +kernel
theorem dX0_cut_30 : decode cX0_cut 30 = .ok (.ladd, 1) := by decide +kernel
theorem dX0_cut_31 : decode cX0_cut 31 = .ok (.goto 4, 3) := by decide +kernel
theorem dX0_cut_34 : decode cX0_cut 34 = .ok (.lload_n 0, 1) := by decide +kernel
theorem dX0_cut_35 : decode cX0_cut 35 = .ok (.lreturn, 1) := by decide +kernel
set_option maxRecDepth 20000 in
theorem ggX0_wholeSeconds_X0_cut : GoodIn wsX0_wholeSeconds wsX0_cut := goodIn_r _ [6] (by decide +kernel) (by decide +kernel)
set_option maxRecDepth 20000 in
theorem gX0_wholeSeconds_X0_cut : GoodIn wsX0_wholeSeconds (va_wsS RX0 28 yX0_cut wsX0_cut) := goodIn_app (goodIn_of _ (by decide +kernel)) ggX0_wholeSeconds_X0_cut
theorem dX0_wholeSeconds_0 : decode cX0_wholeSeconds 0 = .ok (.lload_n 0, 1) := by decide +kernel
theorem dX0_wholeSeconds_1 : decode cX0_wholeSeconds 1 = .ok (.ldc2_w 13, 3) := by decide +kernel
theorem dX0_wholeSeconds_4 : decode cX0_wholeSeconds 4 = .ok (.lmul, 1) := by decide +kernel
theorem dX0_wholeSeconds_5 : decode cX0_wholeSeconds 5 = .ok (.lload_n 2, 1) := by decide +kernel
theorem dX0_wholeSeconds_6 : decode cX0_wholeSeconds 6 = .ok (.ldc2_w 26, 3) := by decide +kernel
theorem dX0_wholeSeconds_9 : decode cX0_wholeSeconds 9 = .ok (.ldiv, 1) := by decide +kernel
theorem dX0_wholeSeconds_10 : decode cX0_wholeSeconds 10 = .ok (.ladd, 1) := by decide +kernel
theorem dX0_wholeSeconds_11 : decode cX0_wholeSeconds 11 = .ok (.lload_n 2, 1) := by decide +kernel
theorem dX0_wholeSeconds_12 : decode cX0_wholeSeconds 12 = .ok (.ldc2_w 26, 3) := by decide +kernel
theorem dX0_wholeSeconds_15 : decode cX0_wholeSeconds 15 = .ok (.lrem, 1) := by decide +kernel
theorem dX0_wholeSeconds_16 : decode cX0_wholeSeconds 16 = .ok (.invokestatic 28, 3) := by decide +kernel
theorem dX0_wholeSeconds_19 : decode cX0_wholeSeconds 19 = .ok (.lreturn, 1) := by decide +kernel
theorem dX1_isDay_0 : decode cX1_isDay 0 = .ok (.ldc2_w 9, 3) := by decide +kernel
theorem dX1_isDay_3 : decode cX1_isDay 3 = .ok (.lload_n 0, 1) := by decide +kernel
theorem dX1_isDay_4 : decode cX1_isDay 4 = .ok (.lcmp, 1) := by decide +kernel
theorem dX1_isDay_5 : decode cX1_isDay 5 = .ok (.ifCond .gt 15, 3) := by decide +kernel
theorem dX1_isDay_8 : decode cX1_isDay 8 = .ok (.lload_n 0, 1) := by decide +kernel
theorem dX1_isDay_9 : decode cX1_isDay 9 = .ok (.ldc2_w 11, 3) := by decide +kernel
theorem dX1_isDay_12 : decode cX1_isDay 12 = .ok (.lcmp, 1) := by decide +kernel
theorem dX1_isDay_13 : decode cX1_isDay 13 = .ok (.ifCond .gt 7, 3) := by decide +kernel
theorem dX1_isDay_16 : decode cX1_isDay 16 = .ok (.iconst 1, 1) := by decide +kernel
theorem dX1_isDay_17 : decode cX1_isDay 17 = .ok (.goto 4, 3) := by decide +kernel
theorem dX1_isDay_20 : decode cX1_isDay 20 = .ok (.iconst 0, 1) := by decide +kernel
theorem dX1_isDay_21 : decode cX1_isDay 21 = .ok (.ireturn, 1) := by decide +kernel
theorem dX1_isUnit_0 : decode cX1_isUnit 0 = .ok (.iload_n 0, 1) := by decide +kernel
theorem dX1_isUnit_1 : decode cX1_isUnit 1 = .ok (.bipush 100, 2) := by decide +kernel
theorem dX1_isUnit_3 : decode cX1_isUnit 3 = .ok (.if_icmp .eq 21, 3) := by decide +kernel
theorem dX1_isUnit_6 : decode cX1_isUnit 6 = .ok (.iload_n 0, 1) := by decide +kernel
theorem dX1_isUnit_7 : decode cX1_isUnit 7 = .ok (.bipush 119, 2) := by decide +kernel
theorem dX1_isUnit_9 : decode cX1_isUnit 9 = .ok (.if_icmp .eq 15, 3) := by decide +kernel
theorem dX1_isUnit_12 : decode cX1_isUnit 12 = .ok (.iload_n 0, 1) := by decide +kernel
theorem dX1_isUnit_13 : decode cX1_isUnit 13 = .ok (.bipush 109, 2) := by decide +kernel
theorem dX1_isUnit_15 : decode cX1_isUnit 15 = .ok (.if_icmp .eq 9, 3) := by decide +kernel
theorem dX1_isUnit_18 : decode cX1_isUnit 18 = .ok (.iload_n 0, 1) := by decide +kernel
theorem dX1_isUnit_19 : decode cX1_isUnit 19 = .ok (.bipush 121, 2) := by decide +kernel
theorem dX1_isUnit_21 : decode cX1_isUnit 21 = .ok (.if_icmp .ne 7, 3) := by decide +kernel
theorem dX1_isUnit_24 : decode cX1_isUnit 24 = .ok (.iconst 1, 1) := by decide +kernel
theorem dX1_isUnit_25 : decode cX1_isUnit 25 = .ok (.goto 4, 3) := by decide +kernel
theorem dX1_isUnit_28 : decode cX1_isUnit 28 = .ok (.iconst 0, 1) := by decide +kernel
theorem dX1_isUnit_29 : decode cX1_isUnit 29 = .ok (.ireturn, 1) := by decide +kernel
theorem dX1_isLongYear_0 : decode cX1_isLongYear 0 = .ok (.lload_n 0, 1) := by decide +kernel
theorem dX1_isLongYear_1 : decode cX1_isLongYear 1 = .ok (.ldc2_w 13, 3) := by decide +kernel
theorem dX1_isLongYear_4 : decode cX1_isLongYear 4 = .ok (.lrem, 1) := by decide +kernel
theorem dX1_isLongYear_5 : decode cX1_isLongYear 5 = .ok (.lconst 0, 1) := by decide +kernel
theorem dX1_isLongYear_6 : decode cX1_isLongYear 6 = .ok (.lcmp, 1) := by decide +kernel
theorem dX1_isLongYear_7 : decode cX1_isLongYear 7 = .ok (.ifCond .ne 27, 3) := by decide +kernel
theorem dX1_isLongYear_10 : decode cX1_isLongYear 10 = .ok (.lload_n 0, 1) := by decide +kernel
theorem dX1_isLongYear_11 : decode cX1_isLongYear 11 = .ok (.ldc2_w 15, 3) := by decide +kernel
theorem dX1_isLongYear_14 : decode cX1_isLongYear 14 = .ok (.lrem, 1) := by decide +kernel
theorem dX1_isLongYear_15 : decode cX1_isLongYear 15 = .ok (.lconst 0, 1) := by decide +kernel
theorem dX1_isLongYear_16 : decode cX1_isLongYear 16 = .ok (.lcmp, 1) := by decide +kernel
theorem dX1_isLongYear_17 : decode cX1_isLongYear 17 = .ok (.ifCond .ne 13, 3) := by decide +kernel
theorem dX1_isLongYear_20 : decode cX1_isLongYear 20 = .ok (.lload_n 0, 1) := by decide +kernel
theorem dX1_isLongYear_21 : decode cX1_isLongYear 21 = .ok (.ldc2_w 17, 3) := by decide +kernel
theorem dX1_isLongYear_24 : decode cX1_isLongYear 24 = .ok (.lrem, 1) := by decide +kernel
theorem dX1_isLongYear_25 : decode cX1_isLongYear 25 = .ok (.lconst 0, 1) := by decide +kernel
theorem dX1_isLongYear_26 : decode cX1_isLongYear 26 = .ok (.lcmp, 1) := by decide +kernel
theorem dX1_isLongYear_27 : decode cX1_isLongYear 27 = .ok (.ifCond .ne 7, 3) := by decide +kernel
theorem dX1_isLongYear_30 : decode cX1_isLongYear 30 = .ok (.iconst 1, 1) := by decide +kernel
theorem dX1_isLongYear_31 : decode cX1_isLongYear 31 = .ok (.goto 4, 3) := by decide +kernel
theorem dX1_isLongYear_34 : decode cX1_isLongYear 34 = .ok (.iconst 0, 1) := by decide +kernel
theorem dX1_isLongYear_35 : decode cX1_isLongYear 35 = .ok (.ireturn, 1) := by decide +kernel
set_option maxRecDepth 20000 in
theorem ggX1_lengthOfYear_X1_isLongYear : GoodIn wsX1_lengthOfYear wsX1_isLongYear := goodIn_r _ [4, 5, 6, 7] (by decide +kernel) (by decide +kernel)
set_option maxRecDepth 20000 in
theorem gX1_lengthOfYear_X1_isLongYear : GoodIn wsX1_lengthOfYear (va_wsS RX1 19 yX1_isLongYear wsX1_isLongYear) := goodIn_app (goodIn_of _ (by decide +kernel)) ggX1_lengthOfYear_X1_isLongYear
theorem dX1_lengthOfYear_0 : decode cX1_lengthOfYear 0 = .ok (.lload_n 0, 1) := by decide +kernel
theorem dX1_lengthOfYear_1 : decode cX1_lengthOfYear 1 = .ok (.invokestatic 19, 3) := by decide +kernel
theorem dX1_lengthOfYear_4 : decode cX1_lengthOfYear 4 = .ok (.ifCond .eq 9, 3) := by decide +kernel
theorem dX1_lengthOfYear_7 : decode cX1_lengthOfYear 7 = .ok (.sipush 366, 3) := by decide +kernel
theorem dX1_lengthOfYear_10 : decode cX1_lengthOfYear 10 = .ok (.goto 6, 3) := by decide +kernel
theorem dX1_lengthOfYear_13 : decode cX1_lengthOfYear 13 = .ok (.sipush 365, 3) := by decide +kernel
theorem dX1_lengthOfYear_16 : decode cX1_lengthOfYear 16 = .ok (.ireturn, 1) := by decide +kernel
theorem dX1_monthIndex_0 : decode cX1_monthIndex 0 = .ok (.ldc2_w 23, 3) := by decide +kernel
theorem dX1_monthIndex_3 : decode cX1_monthIndex 3 = .ok (.lload_n 0, 1) := by decide +kernel
theorem dX1_monthIndex_4 : decode cX1_monthIndex 4 = .ok (.lmul, 1) := by decide +kernel
theorem dX1_monthIndex_5 : decode cX1_monthIndex 5 = .ok (.lload_n 2, 1) := by decide +kernel
theorem dX1_monthIndex_6 : decode cX1_monthIndex 6 = .ok (.ladd, 1) := by decide +kernel
theorem dX1_monthIndex_7 : decode cX1_monthIndex 7 = .ok (.lconst 1, 1) := by decide +kernel
theorem dX1_monthIndex_8 : decode cX1_monthIndex 8 = .ok (.lsub, 1) := by decide +kernel
theorem dX1_monthIndex_9 : decode cX1_monthIndex 9 = .ok (.lreturn, 1) := by decide +kernel
set_option maxRecDepth 20000 in
theorem ggX1_yearOfMonth_J9_floorDiv_f86c9 : GoodIn wsX1_yearOfMonth wsJ9_floorDiv_f86c9 := goodIn_r _ [5] (by decide +kernel) (by decide +kernel)
set_option maxRecDepth 20000 in
theorem gX1_yearOfMonth_J9_floorDiv_f86c9 : GoodIn wsX1_yearOfMonth (va_wsS RX1 25 yJ9_floorDiv_f86c9 wsJ9_floorDiv_f86c9) := goodIn_app (goodIn_of _ (by decide +kernel)) ggX1_yearOfMonth_J9_floorDiv_f86c9
theorem dX1_yearOfMonth_0 : decode cX1_yearOfMonth 0 = .ok (.lload_n 0, 1) := by decide +kernel
theorem dX1_yearOfMonth_1 : decode cX1_yearOfMonth 1 = .ok (.ldc2_w 23, 3) := by decide +kernel
theorem dX1_yearOfMonth_4 : decode cX1_yearOfMonth 4 = .ok (.invokestatic 25, 3) := by decide +kernel
theorem dX1_yearOfMonth_7 : decode cX1_yearOfMonth 7 = .ok (.lreturn, 1) := by decide +kernel
set_option maxRecDepth 20000 in
theorem ggX1_monthInYear_J9_floorMod_f86c9 : GoodIn wsX1_monthInYear wsJ9_floorMod_f86c9 := goodIn_r _ [5] (by decide +kernel) (by decide +kernel)
set_option maxRecDepth 20000 in
theorem gX1_monthInYear_J9_floorMod_f86c9 : GoodIn wsX1_monthInYear (va_wsS RX1 31 yJ9_floorMod_f86c9 wsJ9_floorMod_f86c9) := goodIn_app (goodIn_of _ (by decide +kernel)) ggX1_monthInYear_J9_floorMod_f86c9
theorem dX1_monthInYear_0 : decode cX1_monthInYear 0 = .ok (.lload_n 0, 1) := by decide +kernel
theorem dX1_monthInYear_1 : decode cX1_monthInYear 1 = .ok (.ldc2_w 23, 3) := by decide +kernel
theorem dX1_monthInYear_4 : decode cX1_monthInYear 4 = .ok (.invokestatic 31, 3) := by decide +kernel
theorem dX1_monthInYear_7 : decode cX1_monthInYear 7 = .ok (.l2i, 1) := by decide +kernel
theorem dX1_monthInYear_8 : decode cX1_monthInYear 8 = .ok (.iconst 1, 1) := by decide +kernel
theorem dX1_monthInYear_9 : decode cX1_monthInYear 9 = .ok (.iadd, 1) := by decide +kernel
theorem dX1_monthInYear_10 : decode cX1_monthInYear 10 = .ok (.ireturn, 1) := by decide +kernel
set_option maxRecDepth 20000 in
theorem ggX1_lengthOfMonth_X1_monthInYear : GoodIn wsX1_lengthOfMonth wsX1_monthInYear := goodIn_r _ [4, 5, 6, 7, 8, 9] (by decide +kernel) (by decide +kernel)
set_option maxRecDepth 20000 in
theorem gX1_lengthOfMonth_X1_monthInYear : GoodIn wsX1_lengthOfMonth (va_wsS RX1 34 yX1_monthInYear wsX1_monthInYear) := goodIn_app (goodIn_of _ (by decide +kernel)) ggX1_lengthOfMonth_X1_monthInYear
set_option maxRecDepth 20000 in
theorem ggX1_lengthOfMonth_X1_yearOfMonth : GoodIn wsX1_lengthOfMonth wsX1_yearOfMonth := goodIn_r _ [12, 5, 13, 14, 8, 15] (by decide +kernel) (by decide +kernel)
set_option maxRecDepth 20000 in
theorem gX1_lengthOfMonth_X1_yearOfMonth : GoodIn wsX1_lengthOfMonth (va_wsS RX1 38 yX1_yearOfMonth wsX1_yearOfMonth) := goodIn_app (goodIn_of _ (by decide +kernel)) ggX1_lengthOfMonth_X1_yearOfMonth
set_option maxRecDepth 20000 in
theorem ggX1_lengthOfMonth_X1_isLongYear : GoodIn wsX1_lengthOfMonth wsX1_isLongYear := goodIn_r _ [18, 19, 20, 21] (by decide +kernel) (by decide +kernel)
set_option maxRecDepth 20000 in
theorem gX1_lengthOfMonth_X1_isLongYear : GoodIn wsX1_lengthOfMonth (va_wsS RX1 19 yX1_isLongYear wsX1_isLongYear) := goodIn_app (goodIn_of _ (by decide +kernel)) ggX1_lengthOfMonth_X1_isLongYear
theorem dX1_lengthOfMonth_0 : decode cX1_lengthOfMonth 0 = .ok (.lload_n 0, 1) := by decide +kernel
theorem dX1_lengthOfMonth_1 : decode cX1_lengthOfMonth 1 = .ok (.invokestatic 34, 3) := by decide +kernel
theorem dX1_lengthOfMonth_4 : decode cX1_lengthOfMonth 4 = .ok (.tableswitch 77 2 11 #[56, 77, 74, 77, 74, 77, 77, 74, 77, 74], 56) := by decide +kernel
theorem dX1_lengthOfMonth_60 : decode cX1_lengthOfMonth 60 = .ok (.lload_n 0, 1) := by decide +kernel
theorem dX1_lengthOfMonth_61 : decode cX1_lengthOfMonth 61 = .ok (.invokestatic 38, 3) := by decide +kernel
theorem dX1_lengthOfMonth_64 : decode cX1_lengthOfMonth 64 = .ok (.invokestatic 19, 3) := by decide +kernel
theorem dX1_lengthOfMonth_67 : decode cX1_lengthOfMonth 67 = .ok (.ifCond .eq 8, 3) := by decide +kernel
theorem dX1_lengthOfMonth_70 : decode cX1_lengthOfMonth 70 = .ok (.bipush 29, 2) := by decide +kernel
theorem dX1_lengthOfMonth_72 : decode cX1_lengthOfMonth 72 = .ok (.goto 5, 3) := by decide +kernel
theorem dX1_lengthOfMonth_75 : decode cX1_lengthOfMonth 75 = .ok (.bipush 28, 2) := by decide +kernel
theorem dX1_lengthOfMonth_77 : decode cX1_lengthOfMonth 77 = .ok (.ireturn, 1) := by decide +kernel
theorem dX1_lengthOfMonth_78 : decode cX1_lengthOfMonth 78 = .ok (.bipush 30, 2) := by decide +kernel
theorem dX1_lengthOfMonth_80 : decode cX1_lengthOfMonth 80 = .ok (.ireturn, 1) := by decide +kernel
theorem dX1_lengthOfMonth_81 : decode cX1_lengthOfMonth 81 = .ok (.bipush 31, 2) := by decide +kernel
theorem dX1_lengthOfMonth_83 : decode cX1_lengthOfMonth 83 = .ok (.ireturn, 1) := by decide +kernel
set_option maxRecDepth 20000 in
theorem ggX1_firstOfYear_J9_floorDiv_f86c9 : GoodIn wsX1_firstOfYear wsJ9_floorDiv_f86c9 := goodIn_r _ [12] (by decide +kernel) (by decide +kernel)
set_option maxRecDepth 20000 in
theorem gX1_firstOfYear_J9_floorDiv_f86c9 : GoodIn wsX1_firstOfYear (va_wsS RX1 25 yJ9_floorDiv_f86c9 wsJ9_floorDiv_f86c9) := goodIn_app (goodIn_of _ (by decide +kernel)) ggX1_firstOfYear_J9_floorDiv_f86c9
theorem dX1_firstOfYear_0 : decode cX1_firstOfYear 0 = .ok (.lload_n 0, 1) := by decide +kernel
theorem dX1_firstOfYear_1 : decode cX1_firstOfYear 1 = .ok (.ldc2_w 42, 3) := by decide +kernel
theorem dX1_firstOfYear_4 : decode cX1_firstOfYear 4 = .ok (.ladd, 1) := by decide +kernel
theorem dX1_firstOfYear_5 : decode cX1_firstOfYear 5 = .ok (.ldc2_w 13, 3) := by decide +kernel
theorem dX1_firstOfYear_8 : decode cX1_firstOfYear 8 = .ok (.invokestatic 25, 3) := by decide +kernel
theorem dX1_firstOfYear_11 : decode cX1_firstOfYear 11 = .ok (.lload_n 0, 1) := by decide +kernel
theorem dX1_firstOfYear_12 : decode cX1_firstOfYear 12 = .ok (.ldc2_w 44, 3) := by decide +kernel
theorem dX1_firstOfYear_15 : decode cX1_firstOfYear 15 = .ok (.ladd, 1) := by decide +kernel
theorem dX1_firstOfYear_16 : decode cX1_firstOfYear 16 = .ok (.ldc2_w 15, 3) := by decide +kernel
theorem dX1_firstOfYear_19 : decode cX1_firstOfYear 19 = .ok (.invokestatic 25, 3) := by decide +kernel
theorem dX1_firstOfYear_22 : decode cX1_firstOfYear 22 = .ok (.lsub, 1) := by decide +kernel
theorem dX1_firstOfYear_23 : decode cX1_firstOfYear 23 = .ok (.lload_n 0, 1) := by decide +kernel
theorem dX1_firstOfYear_24 : decode cX1_firstOfYear 24 = .ok (.ldc2_w 46, 3) := by decide +kernel
theorem dX1_firstOfYear_27 : decode cX1_firstOfYear 27 = .ok (.ladd, 1) := by decide +kernel
theorem dX1_firstOfYear_28 : decode cX1_firstOfYear 28 = .ok (.ldc2_w 17, 3) := by decide +kernel
theorem dX1_firstOfYear_31 : decode cX1_firstOfYear 31 = .ok (.invokestatic 25, 3) := by decide +kernel
theorem dX1_firstOfYear_34 : decode cX1_firstOfYear 34 = .ok (.ladd, 1) := by decide +kernel
theorem dX1_firstOfYear_35 : decode cX1_firstOfYear 35 = .ok (.lstore_n 2, 1) := by decide +kernel
theorem dX1_firstOfYear_36 : decode cX1_firstOfYear 36 = .ok (.ldc2_w 48, 3) := by decide +kernel
theorem dX1_firstOfYear_39 : decode cX1_firstOfYear 39 = .ok (.lload_n 0, 1) := by decide +kernel
theorem dX1_firstOfYear_40 : decode cX1_firstOfYear 40 = .ok (.lmul, 1) := by decide +kernel
theorem dX1_firstOfYear_41 : decode cX1_firstOfYear 41 = .ok (.lload_n 2, 1) := by decide +kernel
theorem dX1_firstOfYear_42 : decode cX1_firstOfYear 42 = .ok (.ladd, 1) := by decide +kernel
theorem dX1_firstOfYear_43 : decode cX1_firstOfYear 43 = .ok (.ldc2_w 50, 3) := by decide +kernel
theorem dX1_firstOfYear_46 : decode cX1_firstOfYear 46 = .ok (.lsub, 1) := by decide +kernel
theorem dX1_firstOfYear_47 : decode cX1_firstOfYear 47 = .ok (.lreturn, 1) := by decide +kernel
set_option maxRecDepth 20000 in
theorem ggX1_firstOfMonth_X1_yearOfMonth : GoodIn wsX1_firstOfMonth wsX1_yearOfMonth := goodIn_r _ [5, 6, 7, 8, 9, 10] (by decide +kernel) (by decide +kernel)
set_option maxRecDepth 20000 in
theorem gX1_firstOfMonth_X1_yearOfMonth : GoodIn wsX1_firstOfMonth (va_wsS RX1 38 yX1_yearOfMonth wsX1_yearOfMonth) := goodIn_app (goodIn_of _ (by decide +kernel)) ggX1_firstOfMonth_X1_yearOfMonth
set_option maxRecDepth 20000 in
theorem ggX1_firstOfMonth_X1_monthInYear : GoodIn wsX1_firstOfMonth wsX1_monthInYear := goodIn_r _ [13, 6, 14, 15, 9, 16] (by decide +kernel) (by decide +kernel)
set_option maxRecDepth 20000 in
theorem gX1_firstOfMonth_X1_monthInYear : GoodIn wsX1_firstOfMonth (va_wsS RX1 34 yX1_monthInYear wsX1_monthInYear) := goodIn_app (goodIn_of _ (by decide +kernel)) ggX1_firstOfMonth_X1_monthInYear
set_option maxRecDepth 20000 in
theorem ggX1_firstOfMonth_X1_isLongYear : GoodIn wsX1_firstOfMonth wsX1_isLongYear := goodIn_r _ [19, 20, 21, 22] (by decide +kernel) (by decide +kernel)
set_option maxRecDepth 20000 in
theorem gX1_firstOfMonth_X1_isLongYear : GoodIn wsX1_firstOfMonth (va_wsS RX1 19 yX1_isLongYear wsX1_isLongYear) := goodIn_app (goodIn_of _ (by decide +kernel)) ggX1_firstOfMonth_X1_isLongYear
set_option maxRecDepth 20000 in
theorem ggX1_firstOfMonth_X1_firstOfYear : GoodIn wsX1_firstOfMonth wsX1_firstOfYear := goodIn_r _ [25, 26, 20, 27, 21, 28, 22, 29, 30, 7, 8, 9, 10] (by decide +kernel) (by decide +kernel)
set_option maxRecDepth 20000 in
theorem gX1_firstOfMonth_X1_firstOfYear : GoodIn wsX1_firstOfMonth (va_wsS RX1 54 yX1_firstOfYear wsX1_firstOfYear) := goodIn_app (goodIn_of _ (by decide +kernel)) ggX1_firstOfMonth_X1_firstOfYear
theorem dX1_firstOfMonth_0 : decode cX1_firstOfMonth 0 = .ok (.lload_n 0, 1) := by decide +kernel
theorem dX1_firstOfMonth_1 : decode cX1_firstOfMonth 1 = .ok (.invokestatic 38, 3) := by decide +kernel
theorem dX1_firstOfMonth_4 : decode cX1_firstOfMonth 4 = .ok (.lstore_n 2, 1) := by decide +kernel
theorem dX1_firstOfMonth_5 : decode cX1_firstOfMonth 5 = .ok (.lload_n 0, 1) := by decide +kernel
theorem dX1_firstOfMonth_6 : decode cX1_firstOfMonth 6 = .ok (.invokestatic 34, 3) := by decide +kernel
theorem dX1_firstOfMonth_9 : decode cX1_firstOfMonth 9 = .ok (.istore 4, 2) := by decide +kernel
theorem dX1_firstOfMonth_11 : decode cX1_firstOfMonth 11 = .ok (.sipush 367, 3) := by decide +kernel
theorem dX1_firstOfMonth_14 : decode cX1_firstOfMonth 14 = .ok (.iload 4, 2) := by decide +kernel
theorem dX1_firstOfMonth_16 : decode cX1_firstOfMonth 16 = .ok (.imul, 1) := by decide +kernel
theorem dX1_firstOfMonth_17 : decode cX1_firstOfMonth 17 = .ok (.sipush 362, 3) := by decide +kernel
theorem dX1_firstOfMonth_20 : decode cX1_firstOfMonth 20 = .ok (.isub, 1) := by decide +kernel
theorem dX1_firstOfMonth_21 : decode cX1_firstOfMonth 21 = .ok (.bipush 12, 2) := by decide +kernel
theorem dX1_firstOfMonth_23 : decode cX1_firstOfMonth 23 = .ok (.idiv, 1) := by decide +kernel
theorem dX1_firstOfMonth_24 : decode cX1_firstOfMonth 24 = .ok (.i2l, 1) := by decide +kernel
theorem dX1_firstOfMonth_25 : decode cX1_firstOfMonth 25 = .ok (.lstore 5, 2) := by decide +kernel
theorem dX1_firstOfMonth_27 : decode cX1_firstOfMonth 27 = .ok (.iload 4, 2) := by decide +kernel
theorem dX1_firstOfMonth_29 : decode cX1_firstOfMonth 29 = .ok (.iconst 2, 1) := by decide +kernel
theorem dX1_firstOfMonth_30 : decode cX1_firstOfMonth 30 = .ok (.if_icmp .le 22, 3) := by decide +kernel
theorem dX1_firstOfMonth_33 : decode cX1_firstOfMonth 33 = .ok (.lload 5, 2) := by decide +kernel
theorem dX1_firstOfMonth_35 : decode cX1_firstOfMonth 35 = .ok (.lload_n 2, 1) := by decide +kernel
theorem dX1_firstOfMonth_36 : decode cX1_firstOfMonth 36 = .ok (.invokestatic 19, 3) := by decide +kernel
theorem dX1_firstOfMonth_39 : decode cX1_firstOfMonth 39 = .ok (.ifCond .eq 7, 3) := by decide +kernel
theorem dX1_firstOfMonth_42 : decode cX1_firstOfMonth 42 = .ok (.lconst 1, 1) := by decide +kernel
theorem dX1_firstOfMonth_43 : decode cX1_firstOfMonth 43 = .ok (.goto 6, 3) := by decide +kernel
theorem dX1_firstOfMonth_46 : decode cX1_firstOfMonth 46 = .ok (.ldc2_w 52, 3) := by decide +kernel
theorem dX1_firstOfMonth_49 : decode cX1_firstOfMonth 49 = .ok (.lsub, 1) := by decide +kernel
theorem dX1_firstOfMonth_50 : decode cX1_firstOfMonth 50 = .ok (.lstore 5, 2) := by decide +kernel
theorem dX1_firstOfMonth_52 : decode cX1_firstOfMonth 52 = .ok (.lload_n 2, 1) := by decide +kernel
theorem dX1_firstOfMonth_53 : decode cX1_firstOfMonth 53 = .ok (.invokestatic 54, 3) := by decide +kernel
theorem dX1_firstOfMonth_56 : decode cX1_firstOfMonth 56 = .ok (.lload 5, 2) := by decide +kernel
theorem dX1_firstOfMonth_58 : decode cX1_firstOfMonth 58 = .ok (.ladd, 1) := by decide +kernel
theorem dX1_firstOfMonth_59 : decode cX1_firstOfMonth 59 = .ok (.lreturn, 1) := by decide +kernel
set_option maxRecDepth 20000 in
theorem ggX1_yearOfDay_J9_floorDiv_f86c9 : GoodIn wsX1_yearOfDay wsJ9_floorDiv_f86c9 := goodIn_r _ [7] (by decide +kernel) (by decide +kernel)
set_option maxRecDepth 20000 in
theorem gX1_yearOfDay_J9_floorDiv_f86c9 : GoodIn wsX1_yearOfDay (va_wsS RX1 25 yJ9_floorDiv_f86c9 wsJ9_floorDiv_f86c9) := goodIn_app (goodIn_of _ (by decide +kernel)) ggX1_yearOfDay_J9_floorDiv_f86c9
set_option maxRecDepth 20000 in
theorem ggX1_yearOfDay_X1_firstOfYear : GoodIn wsX1_yearOfDay wsX1_firstOfYear := goodIn_r _ [11, 12, 13, 14, 15, 16, 1, 17, 2, 4, 5, 6, 7] (by decide +kernel) (by decide +kernel)
set_option maxRecDepth 20000 in
theorem gX1_yearOfDay_X1_firstOfYear : GoodIn wsX1_yearOfDay (va_wsS RX1 54 yX1_firstOfYear wsX1_firstOfYear) := goodIn_app (goodIn_of _ (by decide +kernel)) ggX1_yearOfDay_X1_firstOfYear
theorem dX1_yearOfDay_0 : decode cX1_yearOfDay 0 = .ok (.ldc2_w 17, 3) := by decide +kernel
theorem dX1_yearOfDay_3 : decode cX1_yearOfDay 3 = .ok (.lload_n 0, 1) := by decide +kernel
theorem dX1_yearOfDay_4 : decode cX1_yearOfDay 4 = .ok (.ldc2_w 50, 3) := by decide +kernel
theorem dX1_yearOfDay_7 : decode cX1_yearOfDay 7 = .ok (.ladd, 1) := by decide +kernel
theorem dX1_yearOfDay_8 : decode cX1_yearOfDay 8 = .ok (.lmul, 1) := by decide +kernel
theorem dX1_yearOfDay_9 : decode cX1_yearOfDay 9 = .ok (.ldc2_w 57, 3) := by decide +kernel
theorem dX1_yearOfDay_12 : decode cX1_yearOfDay 12 = .ok (.invokestatic 25, 3) := by decide +kernel
theorem dX1_yearOfDay_15 : decode cX1_yearOfDay 15 = .ok (.lstore_n 2, 1) := by decide +kernel
theorem dX1_yearOfDay_16 : decode cX1_yearOfDay 16 = .ok (.lload_n 2, 1) := by decide +kernel
theorem dX1_yearOfDay_17 : decode cX1_yearOfDay 17 = .ok (.invokestatic 54, 3) := by decide +kernel
theorem dX1_yearOfDay_20 : decode cX1_yearOfDay 20 = .ok (.lload_n 0, 1) := by decide +kernel
theorem dX1_yearOfDay_21 : decode cX1_yearOfDay 21 = .ok (.lcmp, 1) := by decide +kernel
theorem dX1_yearOfDay_22 : decode cX1_yearOfDay 22 = .ok (.ifCond .le 7, 3) := by decide +kernel
theorem dX1_yearOfDay_25 : decode cX1_yearOfDay 25 = .ok (.lload_n 2, 1) := by decide +kernel
theorem dX1_yearOfDay_26 : decode cX1_yearOfDay 26 = .ok (.lconst 1, 1) := by decide +kernel
theorem dX1_yearOfDay_27 : decode cX1_yearOfDay 27 = .ok (.lsub, 1) := by decide +kernel
theorem dX1_yearOfDay_28 : decode cX1_yearOfDay 28 = .ok (.lreturn, 1) := by decide +kernel
theorem dX1_yearOfDay_29 : decode cX1_yearOfDay 29 = .ok (.lload_n 2, 1) := by decide +kernel
theorem dX1_yearOfDay_30 : decode cX1_yearOfDay 30 = .ok (.lconst 1, 1) := by decide +kernel
theorem dX1_yearOfDay_31 : decode cX1_yearOfDay 31 = .ok (.ladd, 1) := by decide +kernel
theorem dX1_yearOfDay_32 : decode cX1_yearOfDay 32 = .ok (.invokestatic 54, 3) := by decide +kernel
theorem dX1_yearOfDay_35 : decode cX1_yearOfDay 35 = .ok (.lload_n 0, 1) := by decide +kernel
theorem dX1_yearOfDay_36 : decode cX1_yearOfDay 36 = .ok (.lcmp, 1) := by decide +kernel
theorem dX1_yearOfDay_37 : decode cX1_yearOfDay 37 = .ok (.ifCond .gt 9, 3) := by decide +kernel
theorem dX1_yearOfDay_40 : decode cX1_yearOfDay 40 = .ok (.lload_n 2, 1) := by decide +kernel
theorem dX1_yearOfDay_41 : decode cX1_yearOfDay 41 = .ok (.lconst 1, 1) := by decide +kernel
theorem dX1_yearOfDay_42 : decode cX1_yearOfDay 42 = .ok (.ladd, 1) := by decide +kernel
theorem dX1_yearOfDay_43 : decode cX1_yearOfDay 43 = .ok (.goto 4, 3) := by decide +kernel
theorem dX1_yearOfDay_46 : decode cX1_yearOfDay 46 = .ok (.lload_n 2, 1) := by decide +kernel
theorem dX1_yearOfDay_47 : decode cX1_yearOfDay 47 = .ok (.lreturn, 1) := by decide +kernel
set_option maxRecDepth 20000 in
theorem ggX1_monthOfDay_X1_yearOfDay : GoodIn wsX1_monthOfDay wsX1_yearOfDay := goodIn_r _ [7, 8, 9, 10, 11, 12, 13, 14, 15, 16, 6, 17, 18, 19, 20, 21, 22, 23] (by decide +kernel) (by decide +kernel)
set_option maxRecDepth 20000 in
theorem gX1_monthOfDay_X1_yearOfDay : GoodIn wsX1_monthOfDay (va_wsS RX1 59 yX1_yearOfDay wsX1_yearOfDay) := goodIn_app (goodIn_of _ (by decide +kernel)) ggX1_monthOfDay_X1_yearOfDay
set_option maxRecDepth 20000 in
theorem ggX1_monthOfDay_X1_firstOfYear : GoodIn wsX1_monthOfDay wsX1_firstOfYear := goodIn_r _ [17, 18, 19, 20, 21, 22, 8, 23, 9, 11, 12, 13, 14] (by decide +kernel) (by decide +kernel)
set_option maxRecDepth 20000 in
theorem gX1_monthOfDay_X1_firstOfYear : GoodIn wsX1_monthOfDay (va_wsS RX1 54 yX1_firstOfYear wsX1_firstOfYear) := goodIn_app (goodIn_of _ (by decide +kernel)) ggX1_monthOfDay_X1_firstOfYear
set_option maxRecDepth 20000 in
theorem ggX1_monthOfDay_X1_isLongYear : GoodIn wsX1_monthOfDay wsX1_isLongYear := goodIn_r _ [26, 19, 21, 8] (by decide +kernel) (by decide +kernel)
set_option maxRecDepth 20000 in
theorem gX1_monthOfDay_X1_isLongYear : GoodIn wsX1_monthOfDay (va_wsS RX1 19 yX1_isLongYear wsX1_isLongYear) := goodIn_app (goodIn_of _ (by decide +kernel)) ggX1_monthOfDay_X1_isLongYear
set_option maxRecDepth 20000 in
theorem ggX1_monthOfDay_X1_monthIndex : GoodIn wsX1_monthOfDay wsX1_monthIndex := goodIn_r _ [29, 1] (by decide +kernel) (by decide +kernel)
set_option maxRecDepth 20000 in
theorem gX1_monthOfDay_X1_monthIndex : GoodIn wsX1_monthOfDay (va_wsS RX1 66 yX1_monthIndex wsX1_monthIndex) := goodIn_app (goodIn_of _ (by decide +kernel)) ggX1_monthOfDay_X1_monthIndex
theorem dX1_monthOfDay_0 : decode cX1_monthOfDay 0 = .ok (.lload_n 0, 1) := by decide +kernel
theorem dX1_monthOfDay_1 : decode cX1_monthOfDay 1 = .ok (.invokestatic 59, 3) := by decide +kernel
theorem dX1_monthOfDay_4 : decode cX1_monthOfDay 4 = .ok (.lstore_n 2, 1) := by decide +kernel
theorem dX1_monthOfDay_5 : decode cX1_monthOfDay 5 = .ok (.lload_n 0, 1) := by decide +kernel
theorem dX1_monthOfDay_6 : decode cX1_monthOfDay 6 = .ok (.lload_n 2, 1) := by decide +kernel
theorem dX1_monthOfDay_7 : decode cX1_monthOfDay 7 = .ok (.invokestatic 54, 3) := by decide +kernel
theorem dX1_monthOfDay_10 : decode cX1_monthOfDay 10 = .ok (.lsub, 1) := by decide +kernel
theorem dX1_monthOfDay_11 : decode cX1_monthOfDay 11 = .ok (.lstore 4, 2) := by decide +kernel
theorem dX1_monthOfDay_13 : decode cX1_monthOfDay 13 = .ok (.lload_n 2, 1) := by decide +kernel
theorem dX1_monthOfDay_14 : decode cX1_monthOfDay 14 = .ok (.invokestatic 19, 3) := by decide +kernel
theorem dX1_monthOfDay_17 : decode cX1_monthOfDay 17 = .ok (.ifCond .eq 7, 3) := by decide +kernel
theorem dX1_monthOfDay_20 : decode cX1_monthOfDay 20 = .ok (.iconst 1, 1) := by decide +kernel
theorem dX1_monthOfDay_21 : decode cX1_monthOfDay 21 = .ok (.goto 4, 3) := by decide +kernel
theorem dX1_monthOfDay_24 : decode cX1_monthOfDay 24 = .ok (.iconst 2, 1) := by decide +kernel
theorem dX1_monthOfDay_25 : decode cX1_monthOfDay 25 = .ok (.istore 6, 2) := by decide +kernel
theorem dX1_monthOfDay_27 : decode cX1_monthOfDay 27 = .ok (.lload 4, 2) := by decide +kernel
theorem dX1_monthOfDay_29 : decode cX1_monthOfDay 29 = .ok (.bipush 61, 2) := by decide +kernel
theorem dX1_monthOfDay_31 : decode cX1_monthOfDay 31 = .ok (.iload 6, 2) := by decide +kernel
theorem dX1_monthOfDay_33 : decode cX1_monthOfDay 33 = .ok (.isub, 1) := by decide +kernel
theorem dX1_monthOfDay_34 : decode cX1_monthOfDay 34 = .ok (.i2l, 1) := by decide +kernel
theorem dX1_monthOfDay_35 : decode cX1_monthOfDay 35 = .ok (.lcmp, 1) := by decide +kernel
theorem dX1_monthOfDay_36 : decode cX1_monthOfDay 36 = .ok (.ifCond .lt 11, 3) := by decide +kernel
theorem dX1_monthOfDay_39 : decode cX1_monthOfDay 39 = .ok (.lload 4, 2) := by decide +kernel
theorem dX1_monthOfDay_41 : decode cX1_monthOfDay 41 = .ok (.iload 6, 2) := by decide +kernel
theorem dX1_monthOfDay_43 : decode cX1_monthOfDay 43 = .ok (.i2l, 1) := by decide +kernel
theorem dX1_monthOfDay_44 : decode cX1_monthOfDay 44 = .ok (.ladd, 1) := by decide +kernel
theorem dX1_monthOfDay_45 : decode cX1_monthOfDay 45 = .ok (.lstore 4, 2) := by decide +kernel
theorem dX1_monthOfDay_47 : decode cX1_monthOfDay 47 = .ok (.lload_n 2, 1) := by decide +kernel
theorem dX1_monthOfDay_48 : decode cX1_monthOfDay 48 = .ok (.ldc2_w 23, 3) := by decide +kernel
theorem dX1_monthOfDay_51 : decode cX1_monthOfDay 51 = .ok (.lload 4, 2) := by decide +kernel
theorem dX1_monthOfDay_53 : decode cX1_monthOfDay 53 = .ok (.lmul, 1) := by decide +kernel
theorem dX1_monthOfDay_54 : decode cX1_monthOfDay 54 = .ok (.ldc2_w 62, 3) := by decide +kernel
theorem dX1_monthOfDay_57 : decode cX1_monthOfDay 57 = .ok (.ladd, 1) := by decide +kernel
theorem dX1_monthOfDay_58 : decode cX1_monthOfDay 58 = .ok (.ldc2_w 64, 3) := by decide +kernel
theorem dX1_monthOfDay_61 : decode cX1_monthOfDay 61 = .ok (.ldiv, 1) := by decide +kernel
theorem dX1_monthOfDay_62 : decode cX1_monthOfDay 62 = .ok (.invokestatic 66, 3) := by decide +kernel
theorem dX1_monthOfDay_65 : decode cX1_monthOfDay 65 = .ok (.lreturn, 1) := by decide +kernel
set_option maxRecDepth 20000 in
theorem ggX1_dayInMonth_X1_monthOfDay : GoodIn wsX1_dayInMonth wsX1_monthOfDay := goodIn_r _ [4, 5, 6, 7, 8, 9, 3, 10, 11, 12, 13, 14, 15, 16, 17, 18, 19, 20, 21, 22, 23, 24, 25, 26, 27, 28, 29, 30, 31, 32] (by decide +kernel) (by decide +kernel)
set_option maxRecDepth 20000 in
theorem gX1_dayInMonth_X1_monthOfDay : GoodIn wsX1_dayInMonth (va_wsS RX1 69 yX1_monthOfDay wsX1_monthOfDay) := goodIn_app (goodIn_of _ (by decide +kernel)) ggX1_dayInMonth_X1_monthOfDay
set_option maxRecDepth 20000 in
theorem ggX1_dayInMonth_X1_firstOfMonth : GoodIn wsX1_dayInMonth wsX1_firstOfMonth := goodIn_r _ [35, 36, 37, 38, 3, 39, 5, 14, 15, 16, 17, 40, 41, 42, 43, 44, 45, 27, 28, 29, 22, 24, 11, 18, 19, 20, 21, 23, 25, 26, 12] (by decide +kernel) (by decide +kernel)
set_option maxRecDepth 20000 in
theorem gX1_dayInMonth_X1_firstOfMonth : GoodIn wsX1_dayInMonth (va_wsS RX1 72 yX1_firstOfMonth wsX1_firstOfMonth) := goodIn_app (goodIn_of _ (by decide +kernel)) ggX1_dayInMonth_X1_firstOfMonth
theorem dX1_dayInMonth_0 : decode cX1_dayInMonth 0 = .ok (.lload_n 0, 1) := by decide +kernel
theorem dX1_dayInMonth_1 : decode cX1_dayInMonth 1 = .ok (.lload_n 0, 1) := by decide +kernel
theorem dX1_dayInMonth_2 : decode cX1_dayInMonth 2 = .ok (.invokestatic 69, 3) := by decide +kernel
theorem dX1_dayInMonth_5 : decode cX1_dayInMonth 5 = .ok (.invokestatic 72, 3) := by decide +kernel
theorem dX1_dayInMonth_8 : decode cX1_dayInMonth 8 = .ok (.lsub, 1) := by decide +kernel
theorem dX1_dayInMonth_9 : decode cX1_dayInMonth 9 = .ok (.l2i, 1) := by decide +kernel
theorem dX1_dayInMonth_10 : decode cX1_dayInMonth 10 = .ok (.iconst 1, 1) := by decide +kernel
theorem dX1_dayInMonth_11 : decode cX1_dayInMonth 11 = .ok (.iadd, 1) := by decide +kernel
theorem dX1_dayInMonth_12 : decode cX1_dayInMonth 12 = .ok (.ireturn, 1) := by decide +kernel
set_option maxRecDepth 20000 in
theorem ggX1_weekdayOf_J9_floorMod_f86c9 : GoodIn wsX1_weekdayOf wsJ9_floorMod_f86c9 := goodIn_r _ [6] (by decide +kernel) (by decide +kernel)
set_option maxRecDepth 20000 in
theorem gX1_weekdayOf_J9_floorMod_f86c9 : GoodIn wsX1_weekdayOf (va_wsS RX1 31 yJ9_floorMod_f86c9 wsJ9_floorMod_f86c9) := goodIn_app (goodIn_of _ (by decide +kernel)) ggX1_weekdayOf_J9_floorMod_f86c9
theorem dX1_weekdayOf_0 : decode cX1_weekdayOf 0 = .ok (.lload_n 0, 1) := by decide +kernel
theorem dX1_weekdayOf_1 : decode cX1_weekdayOf 1 = .ok (.ldc2_w 42, 3) := by decide +kernel
theorem dX1_weekdayOf_4 : decode cX1_weekdayOf 4 = .ok (.ladd, 1) := by decide +kernel
theorem dX1_weekdayOf_5 : decode cX1_weekdayOf 5 = .ok (.ldc2_w 75, 3) := by decide +kernel
theorem dX1_weekdayOf_8 : decode cX1_weekdayOf 8 = .ok (.invokestatic 31, 3) := by decide +kernel
theorem dX1_weekdayOf_11 : decode cX1_weekdayOf 11 = .ok (.l2i, 1) := by decide +kernel
theorem dX1_weekdayOf_12 : decode cX1_weekdayOf 12 = .ok (.iconst 1, 1) := by decide +kernel
theorem dX1_weekdayOf_13 : decode cX1_weekdayOf 13 = .ok (.iadd, 1) := by decide +kernel
theorem dX1_weekdayOf_14 : decode cX1_weekdayOf 14 = .ok (.ireturn, 1) := by decide +kernel
set_option maxRecDepth 20000 in
theorem ggX1_weekdayFrom_X1_weekdayOf : GoodIn wsX1_weekdayFrom wsX1_weekdayOf := goodIn_r _ [4, 5, 6, 7, 8, 9, 10] (by decide +kernel) (by decide +kernel)
set_option maxRecDepth 20000 in
theorem gX1_weekdayFrom_X1_weekdayOf : GoodIn wsX1_weekdayFrom (va_wsS RX1 77 yX1_weekdayOf wsX1_weekdayOf) := goodIn_app (goodIn_of _ (by decide +kernel)) ggX1_weekdayFrom_X1_weekdayOf
set_option maxRecDepth 20000 in
theorem ggX1_weekdayFrom_J9_floorMod_7cf53 : GoodIn wsX1_weekdayFrom wsJ9_floorMod_7cf53 := goodIn_r _ [13] (by decide +kernel) (by decide +kernel)
set_option maxRecDepth 20000 in
theorem gX1_weekdayFrom_J9_floorMod_7cf53 : GoodIn wsX1_weekdayFrom (va_wsS RX1 80 yJ9_floorMod_7cf53 wsJ9_floorMod_7cf53) := goodIn_app (goodIn_of _ (by decide +kernel)) ggX1_weekdayFrom_J9_floorMod_7cf53
theorem dX1_weekdayFrom_0 : decode cX1_weekdayFrom 0 = .ok (.lload_n 0, 1) := by decide +kernel
theorem dX1_weekdayFrom_1 : decode cX1_weekdayFrom 1 = .ok (.iload_n 2, 1) := by decide +kernel
theorem dX1_weekdayFrom_2 : decode cX1_weekdayFrom 2 = .ok (.lload_n 0, 1) := by decide +kernel
theorem dX1_weekdayFrom_3 : decode cX1_weekdayFrom 3 = .ok (.invokestatic 77, 3) := by decide +kernel
theorem dX1_weekdayFrom_6 : decode cX1_weekdayFrom 6 = .ok (.isub, 1) := by decide +kernel
theorem dX1_weekdayFrom_7 : decode cX1_weekdayFrom 7 = .ok (.bipush 7, 2) := by decide +kernel
theorem dX1_weekdayFrom_9 : decode cX1_weekdayFrom 9 = .ok (.invokestatic 80, 3) := by decide +kernel
theorem dX1_weekdayFrom_12 : decode cX1_weekdayFrom 12 = .ok (.i2l, 1) := by decide +kernel
theorem dX1_weekdayFrom_13 : decode cX1_weekdayFrom 13 = .ok (.ladd, 1) := by decide +kernel
theorem dX1_weekdayFrom_14 : decode cX1_weekdayFrom 14 = .ok (.lreturn, 1) := by decide +kernel
set_option maxRecDepth 20000 in
theorem ggX1_weekdayUpTo_X1_weekdayOf : GoodIn wsX1_weekdayUpTo wsX1_weekdayOf := goodIn_r _ [4, 5, 6, 7, 8, 9, 10] (by decide +kernel) (by decide +kernel)
set_option maxRecDepth 20000 in
theorem gX1_weekdayUpTo_X1_weekdayOf : GoodIn wsX1_weekdayUpTo (va_wsS RX1 77 yX1_weekdayOf wsX1_weekdayOf) := goodIn_app (goodIn_of _ (by decide +kernel)) ggX1_weekdayUpTo_X1_weekdayOf
set_option maxRecDepth 20000 in
theorem ggX1_weekdayUpTo_J9_floorMod_7cf53 : GoodIn wsX1_weekdayUpTo wsJ9_floorMod_7cf53 := goodIn_r _ [13] (by decide +kernel) (by decide +kernel)
set_option maxRecDepth 20000 in
theorem gX1_weekdayUpTo_J9_floorMod_7cf53 : GoodIn wsX1_weekdayUpTo (va_wsS RX1 80 yJ9_floorMod_7cf53 wsJ9_floorMod_7cf53) := goodIn_app (goodIn_of _ (by decide +kernel)) ggX1_weekdayUpTo_J9_floorMod_7cf53
theorem dX1_weekdayUpTo_0 : decode cX1_weekdayUpTo 0 = .ok (.lload_n 0, 1) := by decide +kernel
theorem dX1_weekdayUpTo_1 : decode cX1_weekdayUpTo 1 = .ok (.lload_n 0, 1) := by decide +kernel
theorem dX1_weekdayUpTo_2 : decode cX1_weekdayUpTo 2 = .ok (.invokestatic 77, 3) := by decide +kernel
theorem dX1_weekdayUpTo_5 : decode cX1_weekdayUpTo 5 = .ok (.iload_n 2, 1) := by decide +kernel
theorem dX1_weekdayUpTo_6 : decode cX1_weekdayUpTo 6 = .ok (.isub, 1) := by decide +kernel
theorem dX1_weekdayUpTo_7 : decode cX1_weekdayUpTo 7 = .ok (.bipush 7, 2) := by decide +kernel
theorem dX1_weekdayUpTo_9 : decode cX1_weekdayUpTo 9 = .ok (.invokestatic 80, 3) := by decide +kernel
theorem dX1_weekdayUpTo_12 : decode cX1_weekdayUpTo 12 = .ok (.i2l, 1) := by decide +kernel
theorem dX1_weekdayUpTo_13 : decode cX1_weekdayUpTo 13 = .ok (.lsub, 1) := by decide +kernel
theorem dX1_weekdayUpTo_14 : decode cX1_weekdayUpTo 14 = .ok (.lreturn, 1) := by decide +kernel
set_option maxRecDepth 20000 in
theorem ggX1_dayOrLast_X1_firstOfMonth : GoodIn wsX1_dayOrLast wsX1_firstOfMonth := goodIn_r _ [8, 9, 10, 11, 7, 12, 13, 14, 15, 16, 17, 18, 19, 20, 21, 22, 23, 24, 25, 26, 27, 28, 29, 30, 31, 32, 33, 34, 35, 36, 37] (by decide +kernel) (by decide +kernel)
set_option maxRecDepth 20000 in
theorem gX1_dayOrLast_X1_firstOfMonth : GoodIn wsX1_dayOrLast (va_wsS RX1 72 yX1_firstOfMonth wsX1_firstOfMonth) := goodIn_app (goodIn_of _ (by decide +kernel)) ggX1_dayOrLast_X1_firstOfMonth
set_option maxRecDepth 20000 in
theorem ggX1_dayOrLast_X1_lengthOfMonth : GoodIn wsX1_dayOrLast wsX1_lengthOfMonth := goodIn_r _ [40, 18, 19, 7, 20, 13, 21, 22, 16, 23, 10, 11, 12, 14, 15, 17, 24, 25, 26, 27, 28, 29] (by decide +kernel) (by decide +kernel)
set_option maxRecDepth 20000 in
theorem gX1_dayOrLast_X1_lengthOfMonth : GoodIn wsX1_dayOrLast (va_wsS RX1 83 yX1_lengthOfMonth wsX1_lengthOfMonth) := goodIn_app (goodIn_of _ (by decide +kernel)) ggX1_dayOrLast_X1_lengthOfMonth
theorem dX1_dayOrLast_0 : decode cX1_dayOrLast 0 = .ok (.lload_n 0, 1) := by decide +kernel
theorem dX1_dayOrLast_1 : decode cX1_dayOrLast 1 = .ok (.invokestatic 72, 3) := by decide +kernel
theorem dX1_dayOrLast_4 : decode cX1_dayOrLast 4 = .ok (.lload_n 2, 1) := by decide +kernel
theorem dX1_dayOrLast_5 : decode cX1_dayOrLast 5 = .ok (.lload_n 0, 1) := by decide +kernel
theorem dX1_dayOrLast_6 : decode cX1_dayOrLast 6 = .ok (.invokestatic 83, 3) := by decide +kernel
theorem dX1_dayOrLast_9 : decode cX1_dayOrLast 9 = .ok (.i2l, 1) := by decide +kernel
theorem dX1_dayOrLast_10 : decode cX1_dayOrLast 10 = .ok (.invokestatic 86, 3) := by decide +kernel
theorem dX1_dayOrLast_13 : decode cX1_dayOrLast 13 = .ok (.ladd, 1) := by decide +kernel
theorem dX1_dayOrLast_14 : decode cX1_dayOrLast 14 = .ok (.lconst 1, 1) := by decide +kernel
theorem dX1_dayOrLast_15 : decode cX1_dayOrLast 15 = .ok (.lsub, 1) := by decide +kernel
theorem dX1_dayOrLast_16 : decode cX1_dayOrLast 16 = .ok (.lreturn, 1) := by decide +kernel
set_option maxRecDepth 20000 in
theorem ggX1_plusMonths_X1_monthOfDay : GoodIn wsX1_plusMonths wsX1_monthOfDay := goodIn_r _ [4, 5, 6, 7, 8, 9, 3, 10, 11, 12, 13, 14, 15, 16, 17, 18, 19, 20, 21, 22, 23, 24, 25, 26, 27, 28, 29, 30, 31, 32] (by decide +kernel) (by decide +kernel)
set_option maxRecDepth 20000 in
theorem gX1_plusMonths_X1_monthOfDay : GoodIn wsX1_plusMonths (va_wsS RX1 69 yX1_monthOfDay wsX1_monthOfDay) := goodIn_app (goodIn_of _ (by decide +kernel)) ggX1_plusMonths_X1_monthOfDay
set_option maxRecDepth 20000 in
theorem ggX1_plusMonths_X1_firstOfMonth : GoodIn wsX1_plusMonths wsX1_firstOfMonth := goodIn_r _ [35, 36, 37, 38, 3, 39, 5, 14, 15, 16, 17, 40, 41, 42, 43, 44, 45, 27, 28, 29, 22, 24, 11, 18, 19, 20, 21, 23, 25, 26, 12] (by decide +kernel) (by decide +kernel)
set_option maxRecDepth 20000 in
theorem gX1_plusMonths_X1_firstOfMonth : GoodIn wsX1_plusMonths (va_wsS RX1 72 yX1_firstOfMonth wsX1_firstOfMonth) := goodIn_app (goodIn_of _ (by decide +kernel)) ggX1_plusMonths_X1_firstOfMonth
set_option maxRecDepth 20000 in
theorem ggX1_plusMonths_X1_dayOrLast : GoodIn wsX1_plusMonths wsX1_dayOrLast := goodIn_r _ [48, 49, 50, 51, 52, 33, 34, 3, 35, 36, 37, 38, 39, 5, 14, 15, 16, 17, 40, 41, 42, 43, 44, 45, 27, 28, 29, 22, 24, 11, 18, 19, 20, 21, 23, 25, 26, 12, 53, 54, 55] (by decide +kernel) (by decide +kernel)
set_option maxRecDepth 20000 in
theorem gX1_plusMonths_X1_dayOrLast : GoodIn wsX1_plusMonths (va_wsS RX1 89 yX1_dayOrLast wsX1_dayOrLast) := goodIn_app (goodIn_of _ (by decide +kernel)) ggX1_plusMonths_X1_dayOrLast
theorem dX1_plusMonths_0 : decode cX1_plusMonths 0 = .ok (.lload_n 0, 1) := by decide +kernel
theorem dX1_plusMonths_1 : decode cX1_plusMonths 1 = .ok (.invokestatic 69, 3) := by decide +kernel
theorem dX1_plusMonths_4 : decode cX1_plusMonths 4 = .ok (.lstore 4, 2) := by decide +kernel
theorem dX1_plusMonths_6 : decode cX1_plusMonths 6 = .ok (.lload 4, 2) := by decide +kernel
theorem dX1_plusMonths_8 : decode cX1_plusMonths 8 = .ok (.lload_n 2, 1) := by decide +kernel
theorem dX1_plusMonths_9 : decode cX1_plusMonths 9 = .ok (.ladd, 1) := by decide +kernel
theorem dX1_plusMonths_10 : decode cX1_plusMonths 10 = .ok (.lload_n 0, 1) := by decide +kernel
theorem dX1_plusMonths_11 : decode cX1_plusMonths 11 = .ok (.lload 4, 2) := by decide +kernel
theorem dX1_plusMonths_13 : decode cX1_plusMonths 13 = .ok (.invokestatic 72, 3) := by decide +kernel
theorem dX1_plusMonths_16 : decode cX1_plusMonths 16 = .ok (.lsub, 1) := by decide +kernel
theorem dX1_plusMonths_17 : decode cX1_plusMonths 17 = .ok (.lconst 1, 1) := by decide +kernel
theorem dX1_plusMonths_18 : decode cX1_plusMonths 18 = .ok (.ladd, 1) := by decide +kernel
theorem dX1_plusMonths_19 : decode cX1_plusMonths 19 = .ok (.invokestatic 89, 3) := by decide +kernel
theorem dX1_plusMonths_22 : decode cX1_plusMonths 22 = .ok (.lreturn, 1) := by decide +kernel
set_option maxRecDepth 20000 in
theorem ggX1_moved_X1_plusMonths : GoodIn wsX1_moved wsX1_plusMonths := goodIn_r _ [6, 7, 8, 5, 9, 2, 10, 11, 12, 13, 14, 15, 16, 17, 18, 19, 20, 21, 22, 23, 24, 25, 26, 27, 28, 29, 30, 31, 32, 33, 34, 35, 36, 37, 38, 39, 40, 41, 42, 43, 44, 45, 46, 47, 48, 49, 50, 51, 52, 53, 54, 55, 56, 57, 58, 59] (by decide +kernel) (by decide +kernel)
set_option maxRecDepth 20000 in
theorem gX1_moved_X1_plusMonths : GoodIn wsX1_moved (va_wsS RX1 92 yX1_plusMonths wsX1_plusMonths) := goodIn_app (goodIn_of _ (by decide +kernel)) ggX1_moved_X1_plusMonths
theorem dX1_moved_0 : decode cX1_moved 0 = .ok (.iload_n 2, 1) := by decide +kernel
theorem dX1_moved_1 : decode cX1_moved 1 = .ok (.lookupswitch 53 #[(100, 35), (109, 47), (119, 39)], 35) := by decide +kernel
theorem dX1_moved_36 : decode cX1_moved 36 = .ok (.lload_n 0, 1) := by decide +kernel
theorem dX1_moved_37 : decode cX1_moved 37 = .ok (.lload_n 3, 1) := by decide +kernel
theorem dX1_moved_38 : decode cX1_moved 38 = .ok (.ladd, 1) := by decide +kernel
theorem dX1_moved_39 : decode cX1_moved 39 = .ok (.lreturn, 1) := by decide +kernel
theorem dX1_moved_40 : decode cX1_moved 40 = .ok (.lload_n 0, 1) := by decide +kernel
theorem dX1_moved_41 : decode cX1_moved 41 = .ok (.ldc2_w 75, 3) := by decide +kernel
theorem dX1_moved_44 : decode cX1_moved 44 = .ok (.lload_n 3, 1) := by decide +kernel
theorem dX1_moved_45 : decode cX1_moved 45 = .ok (.lmul, 1) := by decide +kernel
theorem dX1_moved_46 : decode cX1_moved 46 = .ok (.ladd, 1) := by decide +kernel
theorem dX1_moved_47 : decode cX1_moved 47 = .ok (.lreturn, 1) := by decide +kernel
theorem dX1_moved_48 : decode cX1_moved 48 = .ok (.lload_n 0, 1) := by decide +kernel
theorem dX1_moved_49 : decode cX1_moved 49 = .ok (.lload_n 3, 1) := by decide +kernel
theorem dX1_moved_50 : decode cX1_moved 50 = .ok (.invokestatic 92, 3) := by decide +kernel
theorem dX1_moved_53 : decode cX1_moved 53 = .ok (.lreturn, 1) := by decide +kernel
theorem dX1_moved_54 : decode cX1_moved 54 = .ok (.lload_n 0, 1) := by decide +kernel
theorem dX1_moved_55 : decode cX1_moved 55 = .ok (.ldc2_w 23, 3) := by decide +kernel
theorem dX1_moved_58 : decode cX1_moved 58 = .ok (.lload_n 3, 1) := by decide +kernel
theorem dX1_moved_59 : decode cX1_moved 59 = .ok (.lmul, 1) := by decide +kernel
theorem dX1_moved_60 : decode cX1_moved 60 = .ok (.invokestatic 92, 3) := by decide +kernel
theorem dX1_moved_63 : decode cX1_moved 63 = .ok (.lreturn, 1) := by decide +kernel
set_option maxRecDepth 20000 in
theorem ggX1_wholeMonths_X1_monthOfDay : GoodIn wsX1_wholeMonths wsX1_monthOfDay := goodIn_r _ [11, 12, 13, 14, 15, 16, 10, 17, 18, 19, 20, 21, 22, 23, 24, 25, 26, 27, 28, 29, 30, 31, 32, 33, 34, 35, 36, 37, 38, 39] (by decide +kernel) (by decide +kernel)
set_option maxRecDepth 20000 in
theorem gX1_wholeMonths_X1_monthOfDay : GoodIn wsX1_wholeMonths (va_wsS RX1 69 yX1_monthOfDay wsX1_monthOfDay) := goodIn_app (goodIn_of _ (by decide +kernel)) ggX1_wholeMonths_X1_monthOfDay
set_option maxRecDepth 20000 in
theorem ggX1_wholeMonths_X1_firstOfMonth : GoodIn wsX1_wholeMonths wsX1_firstOfMonth := goodIn_r _ [42, 43, 44, 45, 10, 46, 12, 21, 22, 23, 24, 47, 48, 49, 50, 51, 52, 34, 35, 36, 29, 31, 18, 25, 26, 27, 28, 30, 32, 33, 19] (by decide +kernel) (by decide +kernel)
set_option maxRecDepth 20000 in
theorem gX1_wholeMonths_X1_firstOfMonth : GoodIn wsX1_wholeMonths (va_wsS RX1 72 yX1_firstOfMonth wsX1_firstOfMonth) := goodIn_app (goodIn_of _ (by decide +kernel)) ggX1_wholeMonths_X1_firstOfMonth
theorem dX1_wholeMonths_0 : decode cX1_wholeMonths 0 = .ok (.lload_n 0, 1) := by decide +kernel
theorem dX1_wholeMonths_1 : decode cX1_wholeMonths 1 = .ok (.lload_n 2, 1) := by decide +kernel
theorem dX1_wholeMonths_2 : decode cX1_wholeMonths 2 = .ok (.invokestatic 86, 3) := by decide +kernel
theorem dX1_wholeMonths_5 : decode cX1_wholeMonths 5 = .ok (.lstore 4, 2) := by decide +kernel
theorem dX1_wholeMonths_7 : decode cX1_wholeMonths 7 = .ok (.lload_n 0, 1) := by decide +kernel
theorem dX1_wholeMonths_8 : decode cX1_wholeMonths 8 = .ok (.lload_n 2, 1) := by decide +kernel
theorem dX1_wholeMonths_9 : decode cX1_wholeMonths 9 = .ok (.invokestatic 95, 3) := by decide +kernel
theorem dX1_wholeMonths_12 : decode cX1_wholeMonths 12 = .ok (.lstore 6, 2) := by decide +kernel
theorem dX1_wholeMonths_14 : decode cX1_wholeMonths 14 = .ok (.lload 4, 2) := by decide +kernel
theorem dX1_wholeMonths_16 : decode cX1_wholeMonths 16 = .ok (.invokestatic 69, 3) := by decide +kernel
theorem dX1_wholeMonths_19 : decode cX1_wholeMonths 19 = .ok (.lstore 8, 2) := by decide +kernel
theorem dX1_wholeMonths_21 : decode cX1_wholeMonths 21 = .ok (.lload 6, 2) := by decide +kernel
theorem dX1_wholeMonths_23 : decode cX1_wholeMonths 23 = .ok (.invokestatic 69, 3) := by decide +kernel
theorem dX1_wholeMonths_26 : decode cX1_wholeMonths 26 = .ok (.lstore 10, 2) := by decide +kernel
theorem dX1_wholeMonths_28 : decode cX1_wholeMonths 28 = .ok (.lload 10, 2) := by decide +kernel
theorem dX1_wholeMonths_30 : decode cX1_wholeMonths 30 = .ok (.lload 8, 2) := by decide +kernel
theorem dX1_wholeMonths_32 : decode cX1_wholeMonths 32 = .ok (.lsub, 1) := by decide +kernel
theorem dX1_wholeMonths_33 : decode cX1_wholeMonths 33 = .ok (.lstore 12, 2) := by decide +kernel
theorem dX1_wholeMonths_35 : decode cX1_wholeMonths 35 = .ok (.lload 6, 2) := by decide +kernel
theorem dX1_wholeMonths_37 : decode cX1_wholeMonths 37 = .ok (.lload 10, 2) := by decide +kernel
theorem dX1_wholeMonths_39 : decode cX1_wholeMonths 39 = .ok (.invokestatic 72, 3) := by decide +kernel
theorem dX1_wholeMonths_42 : decode cX1_wholeMonths 42 = .ok (.lsub, 1) := by decide +kernel
theorem dX1_wholeMonths_43 : decode cX1_wholeMonths 43 = .ok (.lload 4, 2) := by decide +kernel
theorem dX1_wholeMonths_45 : decode cX1_wholeMonths 45 = .ok (.lload 8, 2) := by decide +kernel
theorem dX1_wholeMonths_47 : decode cX1_wholeMonths 47 = .ok (.invokestatic 72, 3) := by decide +kernel
theorem dX1_wholeMonths_50 : decode cX1_wholeMonths 50 = .ok (.lsub, 1) := by decide +kernel
theorem dX1_wholeMonths_51 : decode cX1_wholeMonths 51 = .ok (.lcmp, 1) := by decide +kernel
theorem dX1_wholeMonths_52 : decode cX1_wholeMonths 52 = .ok (.ifCond .ge 9, 3) := by decide +kernel
theorem dX1_wholeMonths_55 : decode cX1_wholeMonths 55 = .ok (.lload 12, 2) := by decide +kernel
theorem dX1_wholeMonths_57 : decode cX1_wholeMonths 57 = .ok (.lconst 1, 1) := by decide +kernel
theorem dX1_wholeMonths_58 : decode cX1_wholeMonths 58 = .ok (.lsub, 1) := by decide +kernel
theorem dX1_wholeMonths_59 : decode cX1_wholeMonths 59 = .ok (.lstore 12, 2) := by decide +kernel
theorem dX1_wholeMonths_61 : decode cX1_wholeMonths 61 = .ok (.lload_n 2, 1) := by decide +kernel
theorem dX1_wholeMonths_62 : decode cX1_wholeMonths 62 = .ok (.lload_n 0, 1) := by decide +kernel
theorem dX1_wholeMonths_63 : decode cX1_wholeMonths 63 = .ok (.lcmp, 1) := by decide +kernel
theorem dX1_wholeMonths_64 : decode cX1_wholeMonths 64 = .ok (.ifCond .ge 9, 3) := by decide +kernel
theorem dX1_wholeMonths_67 : decode cX1_wholeMonths 67 = .ok (.lload 12, 2) := by decide +kernel
theorem dX1_wholeMonths_69 : decode cX1_wholeMonths 69 = .ok (.lneg, 1) := by decide +kernel
theorem dX1_wholeMonths_70 : decode cX1_wholeMonths 70 = .ok (.goto 5, 3) := by decide +kernel
theorem dX1_wholeMonths_73 : decode cX1_wholeMonths 73 = .ok (.lload 12, 2) := by decide +kernel
theorem dX1_wholeMonths_75 : decode cX1_wholeMonths 75 = .ok (.lreturn, 1) := by decide +kernel
theorem dX2_init_0 : decode cX2_init 0 = .ok (.aload_n 0, 1) := by decide +kernel
theorem dX2_init_1 : decode cX2_init 1 = .ok (.invokespecial 1, 3) := by decide +kernel
theorem dX2_init_4 : decode cX2_init 4 = .ok (.aload_n 0, 1) := by decide +kernel
theorem dX2_init_5 : decode cX2_init 5 = .ok (.bipush 6, 2) := by decide +kernel
theorem dX2_init_7 : decode cX2_init 7 = .ok (.newarray .long, 2) := by decide +kernel
theorem dX2_init_9 : decode cX2_init 9 = .ok (.putfield 9, 3) := by decide +kernel
theorem dX2_init_12 : decode cX2_init 12 = .ok (.aload_n 0, 1) := by decide +kernel
theorem dX2_init_13 : decode cX2_init 13 = .ok (.iconst 4, 1) := by decide +kernel
theorem dX2_init_14 : decode cX2_init 14 = .ok (.newarray .int, 2) := by decide +kernel
theorem dX2_init_16 : decode cX2_init 16 = .ok (.putfield 13, 3) := by decide +kernel
theorem dX2_init_19 : decode cX2_init 19 = .ok (.aload_n 0, 1) := by decide +kernel
theorem dX2_init_20 : decode cX2_init 20 = .ok (.iconst 4, 1) := by decide +kernel
theorem dX2_init_21 : decode cX2_init 21 = .ok (.newarray .int, 2) := by decide +kernel
theorem dX2_init_23 : decode cX2_init 23 = .ok (.putfield 17, 3) := by decide +kernel
theorem dX2_init_26 : decode cX2_init 26 = .ok (.aload_n 0, 1) := by decide +kernel
theorem dX2_init_27 : decode cX2_init 27 = .ok (.iconst 4, 1) := by decide +kernel
theorem dX2_init_28 : decode cX2_init 28 = .ok (.newarray .int, 2) := by decide +kernel
theorem dX2_init_30 : decode cX2_init 30 = .ok (.putfield 20, 3) := by decide +kernel
theorem dX2_init_33 : decode cX2_init 33 = .ok (.aload_n 0, 1) := by decide +kernel
theorem dX2_init_34 : decode cX2_init 34 = .ok (.iconst 4, 1) := by decide +kernel
theorem dX2_init_35 : decode cX2_init 35 = .ok (.newarray .int, 2) := by decide +kernel
theorem dX2_init_37 : decode cX2_init 37 = .ok (.putfield 23, 3) := by decide +kernel
theorem dX2_init_40 : decode cX2_init 40 = .ok (.aload_n 0, 1) := by decide +kernel
theorem dX2_init_41 : decode cX2_init 41 = .ok (.iconst 4, 1) := by decide +kernel
theorem dX2_init_42 : decode cX2_init 42 = .ok (.newarray .long, 2) := by decide +kernel
theorem dX2_init_44 : decode cX2_init 44 = .ok (.putfield 26, 3) := by decide +kernel
theorem dX2_init_47 : decode cX2_init 47 = .ok (.aload_n 0, 1) := by decide +kernel
theorem dX2_init_48 : decode cX2_init 48 = .ok (.iconst 4, 1) := by decide +kernel
theorem dX2_init_49 : decode cX2_init 49 = .ok (.newarray .long, 2) := by decide +kernel
theorem dX2_init_51 : decode cX2_init 51 = .ok (.putfield 29, 3) := by decide +kernel
theorem dX2_init_54 : decode cX2_init 54 = .ok (.aload_n 0, 1) := by decide +kernel
theorem dX2_init_55 : decode cX2_init 55 = .ok (.iconst 4, 1) := by decide +kernel
theorem dX2_init_56 : decode cX2_init 56 = .ok (.newarray .long, 2) := by decide +kernel
theorem dX2_init_58 : decode cX2_init 58 = .ok (.putfield 32, 3) := by decide +kernel
theorem dX2_init_61 : decode cX2_init 61 = .ok (.aload_n 0, 1) := by decide +kernel
theorem dX2_init_62 : decode cX2_init 62 = .ok (.iconst 4, 1) := by decide +kernel
theorem dX2_init_63 : decode cX2_init 63 = .ok (.newarray .long, 2) := by decide +kernel
theorem dX2_init_65 : decode cX2_init 65 = .ok (.putfield 35, 3) := by decide +kernel
theorem dX2_init_68 : decode cX2_init 68 = .ok (.aload_n 0, 1) := by decide +kernel
theorem dX2_init_69 : decode cX2_init 69 = .ok (.iconst 4, 1) := by decide +kernel
theorem dX2_init_70 : decode cX2_init 70 = .ok (.newarray .long, 2) := by decide +kernel
theorem dX2_init_72 : decode cX2_init 72 = .ok (.putfield 38, 3) := by decide +kernel
theorem dX2_init_75 : decode cX2_init 75 = .ok (.iconst 0, 1) := by decide +kernel
theorem dX2_init_76 : decode cX2_init 76 = .ok (.istore_n 1, 1) := by decide +kernel
theorem dX2_init_77 : decode cX2_init 77 = .ok (.iload_n 1, 1) := by decide +kernel
theorem dX2_init_78 : decode cX2_init 78 = .ok (.iconst 4, 1) := by decide +kernel
theorem dX2_init_79 : decode cX2_init 79 = .ok (.if_icmp .ge 18, 3) := by decide +kernel
theorem dX2_init_82 : decode cX2_init 82 = .ok (.aload_n 0, 1) := by decide +kernel
theorem dX2_init_83 : decode cX2_init 83 = .ok (.getfield 23, 3) := by decide +kernel
theorem dX2_init_86 : decode cX2_init 86 = .ok (.iload_n 1, 1) := by decide +kernel
theorem dX2_init_87 : decode cX2_init 87 = .ok (.sipush 23640, 3) := by decide +kernel
theorem dX2_init_90 : decode cX2_init 90 = .ok (.iastore, 1) := by decide +kernel
theorem dX2_init_91 : decode cX2_init 91 = .ok (.iinc 1 1, 3) := by decide +kernel
theorem dX2_init_94 : decode cX2_init 94 = .ok (.goto (-17), 3) := by decide +kernel
theorem dX2_init_97 : decode cX2_init 97 = .ok (.return_, 1) := by decide +kernel
set_option maxRecDepth 20000 in
theorem ggX2_date_X2_checkSlot : GoodIn wsX2_date wsX2_checkSlot := goodIn_ca (goodIn_r _ [5, 6, 7] (by decide +kernel) (by decide +kernel)) (goodIn_sub (fun _ h => List.mem_cons_of_mem _ (List.mem_append_left _ (List.mem_append_left _ (List.mem_append_left _ (List.mem_append_right _ h))))) (by decide +kernel))
set_option maxRecDepth 20000 in
theorem gX2_date_X2_checkSlot : GoodIn wsX2_date (va_wsS RX2 41 yX2_checkSlot wsX2_checkSlot) := goodIn_app (goodIn_of _ (by decide +kernel)) ggX2_date_X2_checkSlot
set_option maxRecDepth 20000 in
theorem ggX2_date_X2_isYear : GoodIn wsX2_date wsX2_isYear := goodIn_r _ [10, 11, 12, 13, 14, 4, 15] (by decide +kernel) (by decide +kernel)
set_option maxRecDepth 20000 in
theorem gX2_date_X2_isYear : GoodIn wsX2_date (va_wsS RX2 45 yX2_isYear wsX2_isYear) := goodIn_app (goodIn_of _ (by decide +kernel)) ggX2_date_X2_isYear
set_option maxRecDepth 20000 in
theorem ggX2_date_X2_checkArgument : GoodIn wsX2_date wsX2_checkArgument := goodIn_ca (goodIn_r _ [18, 19, 20] (by decide +kernel) (by decide +kernel)) (goodIn_sub (fun _ h => List.mem_cons_of_mem _ (List.mem_append_left _ (List.mem_append_left _ (List.mem_append_right _ h)))) (by decide +kernel))
set_option maxRecDepth 20000 in
theorem gX2_date_X2_checkArgument : GoodIn wsX2_date (va_wsS RX2 49 yX2_checkArgument wsX2_checkArgument) := goodIn_app (goodIn_of _ (by decide +kernel)) ggX2_date_X2_checkArgument
set_option maxRecDepth 20000 in
theorem ggX2_date_X2_isIn : GoodIn wsX2_date wsX2_isIn := goodIn_r _ [15] (by decide +kernel) (by decide +kernel)
set_option maxRecDepth 20000 in
theorem gX2_date_X2_isIn : GoodIn wsX2_date (va_wsS RX2 55 yX2_isIn wsX2_isIn) := goodIn_app (goodIn_of _ (by decide +kernel)) ggX2_date_X2_isIn
set_option maxRecDepth 20000 in
theorem ggX2_date_X1_monthIndex : GoodIn wsX2_date wsX1_monthIndex := goodIn_r _ [24, 25] (by decide +kernel) (by decide +kernel)
set_option maxRecDepth 20000 in
theorem gX2_date_X1_monthIndex : GoodIn wsX2_date (va_wsS RX2 59 yX1_monthIndex wsX1_monthIndex) := goodIn_app (goodIn_of _ (by decide +kernel)) ggX2_date_X1_monthIndex
set_option maxRecDepth 20000 in
theorem ggX2_date_X1_lengthOfMonth : GoodIn wsX2_date wsX1_lengthOfMonth := goodIn_r _ [28, 29, 30, 23, 31, 25, 32, 33, 34, 35, 36, 37, 38, 39, 40, 41, 42, 43, 44, 45, 46, 47] (by decide +kernel) (by decide +kernel)
set_option maxRecDepth 20000 in
theorem gX2_date_X1_lengthOfMonth : GoodIn wsX2_date (va_wsS RX2 65 yX1_lengthOfMonth wsX1_lengthOfMonth) := goodIn_app (goodIn_of _ (by decide +kernel)) ggX2_date_X1_lengthOfMonth
set_option maxRecDepth 20000 in
theorem ggX2_date_X1_firstOfMonth : GoodIn wsX2_date wsX1_firstOfMonth := goodIn_r _ [50, 51, 36, 37, 23, 38, 25, 39, 40, 34, 41, 29, 30, 31, 32, 33, 35, 42, 43, 44, 45, 46, 47, 52, 53, 54, 55, 56, 57, 58, 59] (by decide +kernel) (by decide +kernel)
set_option maxRecDepth 20000 in
theorem gX2_date_X1_firstOfMonth : GoodIn wsX2_date (va_wsS RX2 69 yX1_firstOfMonth wsX1_firstOfMonth) := goodIn_app (goodIn_of _ (by decide +kernel)) ggX2_date_X1_firstOfMonth
set_option maxRecDepth 20000 in
theorem ggX2_date_X2_keepDate : GoodIn wsX2_date wsX2_keepDate := goodIn_ca (goodIn_ca (goodIn_r _ [63, 64, 65, 66, 23, 67, 68, 69, 70, 71, 4, 72, 73, 74, 75, 76, 77, 78, 79, 80, 81, 82, 83, 84] (by decide +kernel) (by decide +kernel)) (goodIn_sub (fun _ h => List.mem_cons_of_mem _ (List.mem_append_left _ (List.mem_append_right _ h))) (by decide +kernel))) (goodIn_sub (fun _ h => List.mem_cons_of_mem _ (List.mem_append_right _ h)) (by decide +kernel))
set_option maxRecDepth 20000 in
theorem gX2_date_X2_keepDate : GoodIn wsX2_date (wsV RX2 73 RX2 yX2_keepDate wsX2_keepDate) := goodIn_app (goodIn_of _ (by decide +kernel)) ggX2_date_X2_keepDate
theorem dX2_date_0 : decode cX2_date 0 = .ok (.iload_n 1, 1) := by decide +kernel
theorem dX2_date_1 : decode cX2_date 1 = .ok (.bipush 6, 2) := by decide +kernel
theorem dX2_date_3 : decode cX2_date 3 = .ok (.invokestatic 41, 3) := by decide +kernel
theorem dX2_date_6 : decode cX2_date 6 = .ok (.iload_n 2, 1) := by decide +kernel
theorem dX2_date_7 : decode cX2_date 7 = .ok (.i2l, 1) := by decide +kernel
theorem dX2_date_8 : decode cX2_date 8 = .ok (.invokestatic 45, 3) := by decide +kernel
theorem dX2_date_11 : decode cX2_date 11 = .ok (.invokestatic 49, 3) := by decide +kernel
theorem dX2_date_14 : decode cX2_date 14 = .ok (.iload_n 3, 1) := by decide +kernel
theorem dX2_date_15 : decode cX2_date 15 = .ok (.i2l, 1) := by decide +kernel
theorem dX2_date_16 : decode cX2_date 16 = .ok (.lconst 1, 1) := by decide +kernel
theorem dX2_date_17 : decode cX2_date 17 = .ok (.ldc2_w 53, 3) := by decide +kernel
theorem dX2_date_20 : decode cX2_date 20 = .ok (.invokestatic 55, 3) := by decide +kernel
theorem dX2_date_23 : decode cX2_date 23 = .ok (.invokestatic 49, 3) := by decide +kernel
theorem dX2_date_26 : decode cX2_date 26 = .ok (.iload_n 2, 1) := by decide +kernel
theorem dX2_date_27 : decode cX2_date 27 = .ok (.i2l, 1) := by decide +kernel
theorem dX2_date_28 : decode cX2_date 28 = .ok (.iload_n 3, 1) := by decide +kernel
theorem dX2_date_29 : decode cX2_date 29 = .ok (.i2l, 1) := by decide +kernel
theorem dX2_date_30 : decode cX2_date 30 = .ok (.invokestatic 59, 3) := by decide +kernel
theorem dX2_date_33 : decode cX2_date 33 = .ok (.lstore 5, 2) := by decide +kernel
theorem dX2_date_35 : decode cX2_date 35 = .ok (.iload 4, 2) := by decide +kernel
theorem dX2_date_37 : decode cX2_date 37 = .ok (.i2l, 1) := by decide +kernel
theorem dX2_date_38 : decode cX2_date 38 = .ok (.lconst 1, 1) := by decide +kernel
theorem dX2_date_39 : decode cX2_date 39 = .ok (.lload 5, 2) := by decide +kernel
theorem dX2_date_41 : decode cX2_date 41 = .ok (.invokestatic 65, 3) := by decide +kernel
theorem dX2_date_44 : decode cX2_date 44 = .ok (.i2l, 1) := by decide +kernel
theorem dX2_date_45 : decode cX2_date 45 = .ok (.invokestatic 55, 3) := by decide +kernel
theorem dX2_date_48 : decode cX2_date 48 = .ok (.invokestatic 49, 3) := by decide +kernel
theorem dX2_date_51 : decode cX2_date 51 = .ok (.aload_n 0, 1) := by decide +kernel
theorem dX2_date_52 : decode cX2_date 52 = .ok (.iload_n 1, 1) := by decide +kernel
theorem dX2_date_53 : decode cX2_date 53 = .ok (.lload 5, 2) := by decide +kernel
theorem dX2_date_55 : decode cX2_date 55 = .ok (.invokestatic 69, 3) := by decide +kernel
theorem dX2_date_58 : decode cX2_date 58 = .ok (.iload 4, 2) := by decide +kernel
theorem dX2_date_60 : decode cX2_date 60 = .ok (.i2l, 1) := by decide +kernel
theorem dX2_date_61 : decode cX2_date 61 = .ok (.ladd, 1) := by decide +kernel
theorem dX2_date_62 : decode cX2_date 62 = .ok (.lconst 1, 1) := by decide +kernel
theorem dX2_date_63 : decode cX2_date 63 = .ok (.lsub, 1) := by decide +kernel
theorem dX2_date_64 : decode cX2_date 64 = .ok (.invokevirtual 73, 3) := by decide +kernel
theorem dX2_date_67 : decode cX2_date 67 = .ok (.lreturn, 1) := by decide +kernel
set_option maxRecDepth 20000 in
theorem ggX2_ofDay_X2_checkSlot : GoodIn wsX2_ofDay wsX2_checkSlot := goodIn_ca (goodIn_r _ [4, 5, 6] (by decide +kernel) (by decide +kernel)) (goodIn_sub (fun _ h => List.mem_cons_of_mem _ (List.mem_append_left _ (List.mem_append_left _ (List.mem_append_right _ h)))) (by decide +kernel))
set_option maxRecDepth 20000 in
theorem gX2_ofDay_X2_checkSlot : GoodIn wsX2_ofDay (va_wsS RX2 41 yX2_checkSlot wsX2_checkSlot) := goodIn_app (goodIn_of _ (by decide +kernel)) ggX2_ofDay_X2_checkSlot
set_option maxRecDepth 20000 in
theorem ggX2_ofDay_X2_keepDate : GoodIn wsX2_ofDay wsX2_keepDate := goodIn_ca (goodIn_ca (goodIn_r _ [10, 11, 12, 13, 14, 15, 16, 17, 18, 19, 3, 20, 21, 22, 42, 43, 44, 45, 46, 47, 48, 49, 50, 51] (by decide +kernel) (by decide +kernel)) (goodIn_sub (fun _ h => List.mem_cons_of_mem _ (List.mem_append_left _ (List.mem_append_right _ h))) (by decide +kernel))) (goodIn_sub (fun _ h => List.mem_cons_of_mem _ (List.mem_append_right _ h)) (by decide +kernel))
set_option maxRecDepth 20000 in
theorem gX2_ofDay_X2_keepDate : GoodIn wsX2_ofDay (wsV RX2 73 RX2 yX2_keepDate wsX2_keepDate) := goodIn_app (goodIn_of _ (by decide +kernel)) ggX2_ofDay_X2_keepDate
set_option maxRecDepth 20000 in
theorem ggX2_ofDay_X1_yearOfDay : GoodIn wsX2_ofDay wsX1_yearOfDay := goodIn_r _ [25, 26, 27, 28, 29, 30, 31, 32, 33, 34, 14, 35, 36, 37, 38, 39, 40, 41] (by decide +kernel) (by decide +kernel)
set_option maxRecDepth 20000 in
theorem gX2_ofDay_X1_yearOfDay : GoodIn wsX2_ofDay (va_wsS RX2 77 yX1_yearOfDay wsX1_yearOfDay) := goodIn_app (goodIn_of _ (by decide +kernel)) ggX2_ofDay_X1_yearOfDay
theorem dX2_ofDay_0 : decode cX2_ofDay 0 = .ok (.iload_n 1, 1) := by decide +kernel
theorem dX2_ofDay_1 : decode cX2_ofDay 1 = .ok (.bipush 6, 2) := by decide +kernel
theorem dX2_ofDay_3 : decode cX2_ofDay 3 = .ok (.invokestatic 41, 3) := by decide +kernel
theorem dX2_ofDay_6 : decode cX2_ofDay 6 = .ok (.aload_n 0, 1) := by decide +kernel
theorem dX2_ofDay_7 : decode cX2_ofDay 7 = .ok (.iload_n 1, 1) := by decide +kernel
theorem dX2_ofDay_8 : decode cX2_ofDay 8 = .ok (.lload_n 2, 1) := by decide +kernel
theorem dX2_ofDay_9 : decode cX2_ofDay 9 = .ok (.invokevirtual 73, 3) := by decide +kernel
theorem dX2_ofDay_12 : decode cX2_ofDay 12 = .ok (.invokestatic 77, 3) := by decide +kernel
theorem dX2_ofDay_15 : decode cX2_ofDay 15 = .ok (.l2i, 1) := by decide +kernel
theorem dX2_ofDay_16 : decode cX2_ofDay 16 = .ok (.ireturn, 1) := by decide +kernel
set_option maxRecDepth 20000 in
theorem ggX2_day_X2_checkSlot : GoodIn wsX2_day wsX2_checkSlot := goodIn_ca (goodIn_r _ [5, 6, 7] (by decide +kernel) (by decide +kernel)) (goodIn_sub (fun _ h => List.mem_cons_of_mem _ (List.mem_append_right _ h)) (by decide +kernel))
set_option maxRecDepth 20000 in
theorem gX2_day_X2_checkSlot : GoodIn wsX2_day (va_wsS RX2 41 yX2_checkSlot wsX2_checkSlot) := goodIn_app (goodIn_of _ (by decide +kernel)) ggX2_day_X2_checkSlot
theorem dX2_day_0 : decode cX2_day 0 = .ok (.iload_n 1, 1) := by decide +kernel
theorem dX2_day_1 : decode cX2_day 1 = .ok (.bipush 6, 2) := by decide +kernel
theorem dX2_day_3 : decode cX2_day 3 = .ok (.invokestatic 41, 3) := by decide +kernel
theorem dX2_day_6 : decode cX2_day 6 = .ok (.aload_n 0, 1) := by decide +kernel
theorem dX2_day_7 : decode cX2_day 7 = .ok (.getfield 9, 3) := by decide +kernel
theorem dX2_day_10 : decode cX2_day 10 = .ok (.iload_n 1, 1) := by decide +kernel
theorem dX2_day_11 : decode cX2_day 11 = .ok (.laload, 1) := by decide +kernel
theorem dX2_day_12 : decode cX2_day 12 = .ok (.lreturn, 1) := by decide +kernel
set_option maxRecDepth 20000 in
theorem ggX2_part_X2_checkSlot : GoodIn wsX2_part wsX2_checkSlot := goodIn_ca (goodIn_r _ [7, 8, 9] (by decide +kernel) (by decide +kernel)) (goodIn_sub (fun _ h => List.mem_cons_of_mem _ (List.mem_append_right _ h)) (by decide +kernel))
set_option maxRecDepth 20000 in
theorem gX2_part_X2_checkSlot : GoodIn wsX2_part (va_wsS RX2 41 yX2_checkSlot wsX2_checkSlot) := goodIn_app (goodIn_of _ (by decide +kernel)) ggX2_part_X2_checkSlot
set_option maxRecDepth 20000 in
theorem ggX2_part_X1_yearOfDay : GoodIn wsX2_part wsX1_yearOfDay := goodIn_r _ [13, 14, 15, 16, 17, 18, 19, 20, 21, 22, 12, 23, 24, 25, 26, 27, 28, 29] (by decide +kernel) (by decide +kernel)
set_option maxRecDepth 20000 in
theorem gX2_part_X1_yearOfDay : GoodIn wsX2_part (va_wsS RX2 77 yX1_yearOfDay wsX1_yearOfDay) := goodIn_app (goodIn_of _ (by decide +kernel)) ggX2_part_X1_yearOfDay
set_option maxRecDepth 20000 in
theorem ggX2_part_X1_monthOfDay : GoodIn wsX2_part wsX1_monthOfDay := goodIn_r _ [32, 33, 34, 35, 36, 11, 12, 13, 14, 15, 16, 17, 18, 19, 20, 21, 22, 23, 24, 25, 26, 27, 28, 29, 37, 38, 39, 40, 41, 42] (by decide +kernel) (by decide +kernel)
set_option maxRecDepth 20000 in
theorem gX2_part_X1_monthOfDay : GoodIn wsX2_part (va_wsS RX2 80 yX1_monthOfDay wsX1_monthOfDay) := goodIn_app (goodIn_of _ (by decide +kernel)) ggX2_part_X1_monthOfDay
set_option maxRecDepth 20000 in
theorem ggX2_part_X1_monthInYear : GoodIn wsX2_part wsX1_monthInYear := goodIn_r _ [45, 33, 46, 47, 19, 48] (by decide +kernel) (by decide +kernel)
set_option maxRecDepth 20000 in
theorem gX2_part_X1_monthInYear : GoodIn wsX2_part (va_wsS RX2 83 yX1_monthInYear wsX1_monthInYear) := goodIn_app (goodIn_of _ (by decide +kernel)) ggX2_part_X1_monthInYear
set_option maxRecDepth 20000 in
theorem ggX2_part_X1_dayInMonth : GoodIn wsX2_part wsX1_dayInMonth := goodIn_r _ [51, 52, 31, 12, 32, 33, 34, 35, 36, 11, 13, 14, 15, 16, 17, 18, 19, 20, 21, 22, 23, 24, 25, 26, 27, 28, 29, 37, 38, 39, 40, 41, 42, 53, 54, 55, 56, 57, 58, 59, 60, 44, 45, 46, 47, 48] (by decide +kernel) (by decide +kernel)
set_option maxRecDepth 20000 in
theorem gX2_part_X1_dayInMonth : GoodIn wsX2_part (va_wsS RX2 86 yX1_dayInMonth wsX1_dayInMonth) := goodIn_app (goodIn_of _ (by decide +kernel)) ggX2_part_X1_dayInMonth
set_option maxRecDepth 20000 in
theorem ggX2_part_X1_firstOfYear : GoodIn wsX2_part wsX1_firstOfYear := goodIn_r _ [23, 24, 25, 26, 27, 28, 14, 29, 15, 17, 18, 19, 20] (by decide +kernel) (by decide +kernel)
set_option maxRecDepth 20000 in
theorem gX2_part_X1_firstOfYear : GoodIn wsX2_part (va_wsS RX2 89 yX1_firstOfYear wsX1_firstOfYear) := goodIn_app (goodIn_of _ (by decide +kernel)) ggX2_part_X1_firstOfYear
set_option maxRecDepth 20000 in
theorem ggX2_part_X1_weekdayOf : GoodIn wsX2_part wsX1_weekdayOf := goodIn_r _ [64, 24, 65, 46, 47, 19, 48] (by decide +kernel) (by decide +kernel)
set_option maxRecDepth 20000 in
theorem gX2_part_X1_weekdayOf : GoodIn wsX2_part (va_wsS RX2 92 yX1_weekdayOf wsX1_weekdayOf) := goodIn_app (goodIn_of _ (by decide +kernel)) ggX2_part_X1_weekdayOf
set_option maxRecDepth 20000 in
theorem ggX2_part_X1_lengthOfMonth : GoodIn wsX2_part wsX1_lengthOfMonth := goodIn_r _ [68, 60, 44, 12, 45, 33, 46, 47, 19, 48, 57, 58, 59, 17, 18, 20, 37, 38, 39, 25, 27, 14] (by decide +kernel) (by decide +kernel)
set_option maxRecDepth 20000 in
theorem gX2_part_X1_lengthOfMonth : GoodIn wsX2_part (va_wsS RX2 65 yX1_lengthOfMonth wsX1_lengthOfMonth) := goodIn_app (goodIn_of _ (by decide +kernel)) ggX2_part_X1_lengthOfMonth
set_option maxRecDepth 20000 in
theorem ggX2_part_X1_lengthOfYear : GoodIn wsX2_part wsX1_lengthOfYear := goodIn_r _ [71, 37, 38, 12, 39, 25, 27, 14] (by decide +kernel) (by decide +kernel)
set_option maxRecDepth 20000 in
theorem gX2_part_X1_lengthOfYear : GoodIn wsX2_part (va_wsS RX2 95 yX1_lengthOfYear wsX1_lengthOfYear) := goodIn_app (goodIn_of _ (by decide +kernel)) ggX2_part_X1_lengthOfYear
set_option maxRecDepth 20000 in
theorem ggX2_part_X1_isLongYear : GoodIn wsX2_part wsX1_isLongYear := goodIn_r _ [39, 25, 27, 14] (by decide +kernel) (by decide +kernel)
set_option maxRecDepth 20000 in
theorem gX2_part_X1_isLongYear : GoodIn wsX2_part (va_wsS RX2 98 yX1_isLongYear wsX1_isLongYear) := goodIn_app (goodIn_of _ (by decide +kernel)) ggX2_part_X1_isLongYear
theorem dX2_part_0 : decode cX2_part 0 = .ok (.iload_n 1, 1) := by decide +kernel
theorem dX2_part_1 : decode cX2_part 1 = .ok (.bipush 6, 2) := by decide +kernel
theorem dX2_part_3 : decode cX2_part 3 = .ok (.invokestatic 41, 3) := by decide +kernel
theorem dX2_part_6 : decode cX2_part 6 = .ok (.aload_n 0, 1) := by decide +kernel
theorem dX2_part_7 : decode cX2_part 7 = .ok (.getfield 9, 3) := by decide +kernel
theorem dX2_part_10 : decode cX2_part 10 = .ok (.iload_n 1, 1) := by decide +kernel
theorem dX2_part_11 : decode cX2_part 11 = .ok (.laload, 1) := by decide +kernel
theorem dX2_part_12 : decode cX2_part 12 = .ok (.lstore_n 3, 1) := by decide +kernel
theorem dX2_part_13 : decode cX2_part 13 = .ok (.lload_n 3, 1) := by decide +kernel
theorem dX2_part_14 : decode cX2_part 14 = .ok (.invokestatic 77, 3) := by decide +kernel
theorem dX2_part_17 : decode cX2_part 17 = .ok (.lstore 5, 2) := by decide +kernel
theorem dX2_part_19 : decode cX2_part 19 = .ok (.iload_n 2, 1) := by decide +kernel
theorem dX2_part_20 : decode cX2_part 20 = .ok (.lookupswitch 137 #[(76, 117), (98, 123), (100, 88), (108, 109), (109, 80), (110, 93), (119, 104), (121, 76)], 76) := by decide +kernel
theorem dX2_part_96 : decode cX2_part 96 = .ok (.lload 5, 2) := by decide +kernel
theorem dX2_part_98 : decode cX2_part 98 = .ok (.l2i, 1) := by decide +kernel
theorem dX2_part_99 : decode cX2_part 99 = .ok (.ireturn, 1) := by decide +kernel
theorem dX2_part_100 : decode cX2_part 100 = .ok (.lload_n 3, 1) := by decide +kernel
theorem dX2_part_101 : decode cX2_part 101 = .ok (.invokestatic 80, 3) := by decide +kernel
theorem dX2_part_104 : decode cX2_part 104 = .ok (.invokestatic 83, 3) := by decide +kernel
theorem dX2_part_107 : decode cX2_part 107 = .ok (.ireturn, 1) := by decide +kernel
theorem dX2_part_108 : decode cX2_part 108 = .ok (.lload_n 3, 1) := by decide +kernel
theorem dX2_part_109 : decode cX2_part 109 = .ok (.invokestatic 86, 3) := by decide +kernel
theorem dX2_part_112 : decode cX2_part 112 = .ok (.ireturn, 1) := by decide +kernel
theorem dX2_part_113 : decode cX2_part 113 = .ok (.lload_n 3, 1) := by decide +kernel
theorem dX2_part_114 : decode cX2_part 114 = .ok (.lload 5, 2) := by decide +kernel
theorem dX2_part_116 : decode cX2_part 116 = .ok (.invokestatic 89, 3) := by decide +kernel
theorem dX2_part_119 : decode cX2_part 119 = .ok (.lsub, 1) := by decide +kernel
theorem dX2_part_120 : decode cX2_part 120 = .ok (.l2i, 1) := by decide +kernel
theorem dX2_part_121 : decode cX2_part 121 = .ok (.iconst 1, 1) := by decide +kernel
theorem dX2_part_122 : decode cX2_part 122 = .ok (.iadd, 1) := by decide +kernel
theorem dX2_part_123 : decode cX2_part 123 = .ok (.ireturn, 1) := by decide +kernel
theorem dX2_part_124 : decode cX2_part 124 = .ok (.lload_n 3, 1) := by decide +kernel
theorem dX2_part_125 : decode cX2_part 125 = .ok (.invokestatic 92, 3) := by decide +kernel
theorem dX2_part_128 : decode cX2_part 128 = .ok (.ireturn, 1) := by decide +kernel
theorem dX2_part_129 : decode cX2_part 129 = .ok (.lload_n 3, 1) := by decide +kernel
theorem dX2_part_130 : decode cX2_part 130 = .ok (.invokestatic 80, 3) := by decide +kernel
theorem dX2_part_133 : decode cX2_part 133 = .ok (.invokestatic 65, 3) := by decide +kernel
theorem dX2_part_136 : decode cX2_part 136 = .ok (.ireturn, 1) := by decide +kernel
theorem dX2_part_137 : decode cX2_part 137 = .ok (.lload 5, 2) := by decide +kernel
theorem dX2_part_139 : decode cX2_part 139 = .ok (.invokestatic 95, 3) := by decide +kernel
theorem dX2_part_142 : decode cX2_part 142 = .ok (.ireturn, 1) := by decide +kernel
theorem dX2_part_143 : decode cX2_part 143 = .ok (.lload 5, 2) := by decide +kernel
theorem dX2_part_145 : decode cX2_part 145 = .ok (.invokestatic 98, 3) := by decide +kernel
theorem dX2_part_148 : decode cX2_part 148 = .ok (.ifCond .eq 7, 3) := by decide +kernel
theorem dX2_part_151 : decode cX2_part 151 = .ok (.iconst 1, 1) := by decide +kernel
theorem dX2_part_152 : decode cX2_part 152 = .ok (.goto 4, 3) := by decide +kernel
theorem dX2_part_155 : decode cX2_part 155 = .ok (.iconst 0, 1) := by decide +kernel
theorem dX2_part_156 : decode cX2_part 156 = .ok (.ireturn, 1) := by decide +kernel
theorem dX2_part_157 : decode cX2_part 157 = .ok (.new 101, 3) := by decide +kernel
theorem dX2_part_160 : decode cX2_part 160 = .ok (.dup, 1) := by decide +kernel
theorem dX2_part_161 : decode cX2_part 161 = .ok (.ldc 103, 2) := by decide +kernel
theorem dX2_part_163 : decode cX2_part 163 = .ok (.invokespecial 105, 3) := by decide +kernel
theorem dX2_part_166 : decode cX2_part 166 = .ok (.athrow, 1) := by decide +kernel
set_option maxRecDepth 20000 in
theorem ggX2_move_X2_checkSlot : GoodIn wsX2_move wsX2_checkSlot := goodIn_ca (goodIn_r _ [7, 8, 9] (by decide +kernel) (by decide +kernel)) (goodIn_sub (fun _ h => List.mem_cons_of_mem _ (List.mem_append_left _ (List.mem_append_left _ (List.mem_append_right _ h)))) (by decide +kernel))
set_option maxRecDepth 20000 in
theorem gX2_move_X2_checkSlot : GoodIn wsX2_move (va_wsS RX2 41 yX2_checkSlot wsX2_checkSlot) := goodIn_app (goodIn_of _ (by decide +kernel)) ggX2_move_X2_checkSlot
set_option maxRecDepth 20000 in
theorem ggX2_move_X1_isUnit : GoodIn wsX2_move wsX1_isUnit := goodIn_r _ [13] (by decide +kernel) (by decide +kernel)
set_option maxRecDepth 20000 in
theorem gX2_move_X1_isUnit : GoodIn wsX2_move (va_wsS RX2 108 yX1_isUnit wsX1_isUnit) := goodIn_app (goodIn_of _ (by decide +kernel)) ggX2_move_X1_isUnit
set_option maxRecDepth 20000 in
theorem ggX2_move_X2_checkArgument : GoodIn wsX2_move wsX2_checkArgument := goodIn_ca (goodIn_r _ [16, 17, 18] (by decide +kernel) (by decide +kernel)) (goodIn_sub (fun _ h => List.mem_cons_of_mem _ (List.mem_append_left _ (List.mem_append_right _ h))) (by decide +kernel))
set_option maxRecDepth 20000 in
theorem gX2_move_X2_checkArgument : GoodIn wsX2_move (va_wsS RX2 49 yX2_checkArgument wsX2_checkArgument) := goodIn_app (goodIn_of _ (by decide +kernel)) ggX2_move_X2_checkArgument
set_option maxRecDepth 20000 in
theorem ggX2_move_X2_isIn : GoodIn wsX2_move wsX2_isIn := goodIn_r _ [21] (by decide +kernel) (by decide +kernel)
set_option maxRecDepth 20000 in
theorem gX2_move_X2_isIn : GoodIn wsX2_move (va_wsS RX2 55 yX2_isIn wsX2_isIn) := goodIn_app (goodIn_of _ (by decide +kernel)) ggX2_move_X2_isIn
set_option maxRecDepth 20000 in
theorem ggX2_move_X1_moved : GoodIn wsX2_move wsX1_moved := goodIn_r _ [24, 25, 26, 27, 28, 12, 29, 30, 31, 32, 33, 34, 35, 36, 37, 38, 39, 40, 41, 42, 43, 44, 45, 46, 47, 48, 49, 50, 51, 52, 53, 54, 55, 56, 57, 58, 59, 60, 61, 62, 63, 64, 65, 66, 67, 68, 69, 70, 71, 72, 73, 74, 75, 76, 77, 78, 79, 80, 81, 82] (by decide +kernel) (by decide +kernel)
set_option maxRecDepth 20000 in
theorem gX2_move_X1_moved : GoodIn wsX2_move (va_wsS RX2 116 yX1_moved wsX1_moved) := goodIn_app (goodIn_of _ (by decide +kernel)) ggX2_move_X1_moved
set_option maxRecDepth 20000 in
theorem ggX2_move_X2_keepDate : GoodIn wsX2_move wsX2_keepDate := goodIn_ca (goodIn_ca (goodIn_r _ [86, 3, 87, 88, 12, 89, 90, 91, 92, 93, 6, 94, 95, 96, 97, 98, 99, 100, 101, 102, 103, 104, 105, 106] (by decide +kernel) (by decide +kernel)) (goodIn_sub (fun _ h => List.mem_cons_of_mem _ (List.mem_append_left _ (List.mem_append_left _ (List.mem_append_left _ (List.mem_append_right _ h))))) (by decide +kernel))) (goodIn_sub (fun _ h => List.mem_cons_of_mem _ (List.mem_append_right _ h)) (by decide +kernel))
set_option maxRecDepth 20000 in
theorem gX2_move_X2_keepDate : GoodIn wsX2_move (wsV RX2 73 RX2 yX2_keepDate wsX2_keepDate) := goodIn_app (goodIn_of _ (by decide +kernel)) ggX2_move_X2_keepDate
theorem dX2_move_0 : decode cX2_move 0 = .ok (.iload_n 1, 1) := by decide +kernel
theorem dX2_move_1 : decode cX2_move 1 = .ok (.bipush 6, 2) := by decide +kernel
theorem dX2_move_3 : decode cX2_move 3 = .ok (.invokestatic 41, 3) := by decide +kernel
theorem dX2_move_6 : decode cX2_move 6 = .ok (.iload 4, 2) := by decide +kernel
theorem dX2_move_8 : decode cX2_move 8 = .ok (.bipush 6, 2) := by decide +kernel
theorem dX2_move_10 : decode cX2_move 10 = .ok (.invokestatic 41, 3) := by decide +kernel
theorem dX2_move_13 : decode cX2_move 13 = .ok (.iload_n 2, 1) := by decide +kernel
theorem dX2_move_14 : decode cX2_move 14 = .ok (.invokestatic 108, 3) := by decide +kernel
theorem dX2_move_17 : decode cX2_move 17 = .ok (.invokestatic 49, 3) := by decide +kernel
theorem dX2_move_20 : decode cX2_move 20 = .ok (.iload_n 3, 1) := by decide +kernel
theorem dX2_move_21 : decode cX2_move 21 = .ok (.i2l, 1) := by decide +kernel
theorem dX2_move_22 : decode cX2_move 22 = .ok (.ldc2_w 112, 3) := by decide +kernel
theorem dX2_move_25 : decode cX2_move 25 = .ok (.ldc2_w 114, 3) := by decide +kernel
theorem dX2_move_28 : decode cX2_move 28 = .ok (.invokestatic 55, 3) := by decide +kernel
theorem dX2_move_31 : decode cX2_move 31 = .ok (.invokestatic 49, 3) := by decide +kernel
theorem dX2_move_34 : decode cX2_move 34 = .ok (.aload_n 0, 1) := by decide +kernel
theorem dX2_move_35 : decode cX2_move 35 = .ok (.iload 4, 2) := by decide +kernel
theorem dX2_move_37 : decode cX2_move 37 = .ok (.aload_n 0, 1) := by decide +kernel
theorem dX2_move_38 : decode cX2_move 38 = .ok (.getfield 9, 3) := by decide +kernel
theorem dX2_move_41 : decode cX2_move 41 = .ok (.iload_n 1, 1) := by decide +kernel
theorem dX2_move_42 : decode cX2_move 42 = .ok (.laload, 1) := by decide +kernel
theorem dX2_move_43 : decode cX2_move 43 = .ok (.iload_n 2, 1) := by decide +kernel
theorem dX2_move_44 : decode cX2_move 44 = .ok (.iload_n 3, 1) := by decide +kernel
theorem dX2_move_45 : decode cX2_move 45 = .ok (.i2l, 1) := by decide +kernel
theorem dX2_move_46 : decode cX2_move 46 = .ok (.invokestatic 116, 3) := by decide +kernel
theorem dX2_move_49 : decode cX2_move 49 = .ok (.invokevirtual 73, 3) := by decide +kernel
theorem dX2_move_52 : decode cX2_move 52 = .ok (.lreturn, 1) := by decide +kernel
set_option maxRecDepth 20000 in
theorem ggX2_with_X2_checkSlot : GoodIn wsX2_with wsX2_checkSlot := goodIn_ca (goodIn_r _ [8, 9, 10] (by decide +kernel) (by decide +kernel)) (goodIn_sub (fun _ h => List.mem_cons_of_mem _ (List.mem_append_left _ (List.mem_append_right _ h))) (by decide +kernel))
set_option maxRecDepth 20000 in
theorem gX2_with_X2_checkSlot : GoodIn wsX2_with (va_wsS RX2 41 yX2_checkSlot wsX2_checkSlot) := goodIn_app (goodIn_of _ (by decide +kernel)) ggX2_with_X2_checkSlot
set_option maxRecDepth 20000 in
theorem ggX2_with_X1_monthOfDay : GoodIn wsX2_with wsX1_monthOfDay := goodIn_r _ [14, 15, 16, 17, 18, 19, 13, 20, 21, 22, 23, 24, 25, 26, 27, 28, 29, 30, 31, 32, 33, 34, 35, 36, 37, 38, 39, 40, 41, 42] (by decide +kernel) (by decide +kernel)
set_option maxRecDepth 20000 in
theorem gX2_with_X1_monthOfDay : GoodIn wsX2_with (va_wsS RX2 80 yX1_monthOfDay wsX1_monthOfDay) := goodIn_app (goodIn_of _ (by decide +kernel)) ggX2_with_X1_monthOfDay
set_option maxRecDepth 20000 in
theorem ggX2_with_X1_yearOfMonth : GoodIn wsX2_with wsX1_yearOfMonth := goodIn_r _ [45, 15, 24, 25, 26, 27] (by decide +kernel) (by decide +kernel)
set_option maxRecDepth 20000 in
theorem gX2_with_X1_yearOfMonth : GoodIn wsX2_with (va_wsS RX2 120 yX1_yearOfMonth wsX1_yearOfMonth) := goodIn_app (goodIn_of _ (by decide +kernel)) ggX2_with_X1_yearOfMonth
set_option maxRecDepth 20000 in
theorem ggX2_with_X1_lengthOfMonth : GoodIn wsX2_with wsX1_lengthOfMonth := goodIn_r _ [48, 49, 50, 13, 51, 15, 52, 53, 26, 54, 55, 44, 45, 24, 25, 27, 37, 38, 39, 32, 34, 21] (by decide +kernel) (by decide +kernel)
set_option maxRecDepth 20000 in
theorem gX2_with_X1_lengthOfMonth : GoodIn wsX2_with (va_wsS RX2 65 yX1_lengthOfMonth wsX1_lengthOfMonth) := goodIn_app (goodIn_of _ (by decide +kernel)) ggX2_with_X1_lengthOfMonth
set_option maxRecDepth 20000 in
theorem ggX2_with_X2_isIn : GoodIn wsX2_with wsX2_isIn := goodIn_r _ [58] (by decide +kernel) (by decide +kernel)
set_option maxRecDepth 20000 in
theorem gX2_with_X2_isIn : GoodIn wsX2_with (va_wsS RX2 55 yX2_isIn wsX2_isIn) := goodIn_app (goodIn_of _ (by decide +kernel)) ggX2_with_X2_isIn
set_option maxRecDepth 20000 in
theorem ggX2_with_X2_checkArgument : GoodIn wsX2_with wsX2_checkArgument := goodIn_ca (goodIn_r _ [61, 1, 2] (by decide +kernel) (by decide +kernel)) (goodIn_sub (fun _ h => List.mem_cons_of_mem _ (List.mem_append_left _ (List.mem_append_left _ (List.mem_append_right _ h)))) (by decide +kernel))
set_option maxRecDepth 20000 in
theorem gX2_with_X2_checkArgument : GoodIn wsX2_with (va_wsS RX2 49 yX2_checkArgument wsX2_checkArgument) := goodIn_app (goodIn_of _ (by decide +kernel)) ggX2_with_X2_checkArgument
set_option maxRecDepth 20000 in
theorem ggX2_with_X1_firstOfMonth : GoodIn wsX2_with wsX1_firstOfMonth := goodIn_r _ [64, 65, 55, 44, 13, 45, 15, 24, 25, 26, 27, 49, 50, 51, 52, 53, 54, 37, 38, 39, 32, 34, 21, 28, 29, 30, 31, 33, 35, 36, 22] (by decide +kernel) (by decide +kernel)
set_option maxRecDepth 20000 in
theorem gX2_with_X1_firstOfMonth : GoodIn wsX2_with (va_wsS RX2 69 yX1_firstOfMonth wsX1_firstOfMonth) := goodIn_app (goodIn_of _ (by decide +kernel)) ggX2_with_X1_firstOfMonth
set_option maxRecDepth 20000 in
theorem ggX2_with_X2_keepDate : GoodIn wsX2_with wsX2_keepDate := goodIn_ca (goodIn_ca (goodIn_r _ [69, 3, 70, 71, 13, 72, 73, 74, 75, 76, 7, 77, 78, 79, 103, 104, 105, 106, 107, 108, 109, 110, 111, 112] (by decide +kernel) (by decide +kernel)) (goodIn_sub (fun _ h => List.mem_cons_of_mem _ (List.mem_append_left _ (List.mem_append_left _ (List.mem_append_left _ (List.mem_append_right _ h))))) (by decide +kernel))) (goodIn_sub (fun _ h => List.mem_cons_of_mem _ (List.mem_append_right _ h)) (by decide +kernel))
set_option maxRecDepth 20000 in
theorem gX2_with_X2_keepDate : GoodIn wsX2_with (wsV RX2 73 RX2 yX2_keepDate wsX2_keepDate) := goodIn_app (goodIn_of _ (by decide +kernel)) ggX2_with_X2_keepDate
set_option maxRecDepth 20000 in
theorem ggX2_with_X1_lengthOfYear : GoodIn wsX2_with wsX1_lengthOfYear := goodIn_r _ [82, 37, 38, 13, 39, 32, 34, 21] (by decide +kernel) (by decide +kernel)
set_option maxRecDepth 20000 in
theorem gX2_with_X1_lengthOfYear : GoodIn wsX2_with (va_wsS RX2 95 yX1_lengthOfYear wsX1_lengthOfYear) := goodIn_app (goodIn_of _ (by decide +kernel)) ggX2_with_X1_lengthOfYear
set_option maxRecDepth 20000 in
theorem ggX2_with_X1_firstOfYear : GoodIn wsX2_with wsX1_firstOfYear := goodIn_r _ [30, 31, 32, 33, 34, 35, 21, 36, 22, 24, 25, 26, 27] (by decide +kernel) (by decide +kernel)
set_option maxRecDepth 20000 in
theorem gX2_with_X1_firstOfYear : GoodIn wsX2_with (va_wsS RX2 89 yX1_firstOfYear wsX1_firstOfYear) := goodIn_app (goodIn_of _ (by decide +kernel)) ggX2_with_X1_firstOfYear
set_option maxRecDepth 20000 in
theorem ggX2_with_X1_monthInYear : GoodIn wsX2_with wsX1_monthInYear := goodIn_r _ [51, 15, 52, 53, 26, 54] (by decide +kernel) (by decide +kernel)
set_option maxRecDepth 20000 in
theorem gX2_with_X1_monthInYear : GoodIn wsX2_with (va_wsS RX2 83 yX1_monthInYear wsX1_monthInYear) := goodIn_app (goodIn_of _ (by decide +kernel)) ggX2_with_X1_monthInYear
set_option maxRecDepth 20000 in
theorem ggX2_with_X1_plusMonths : GoodIn wsX2_with wsX1_plusMonths := goodIn_r _ [87, 88, 12, 13, 14, 15, 16, 17, 18, 19, 20, 21, 22, 23, 24, 25, 26, 27, 28, 29, 30, 31, 32, 33, 34, 35, 36, 37, 38, 39, 40, 41, 42, 89, 63, 64, 65, 55, 44, 45, 49, 50, 51, 52, 53, 54, 90, 91, 92, 93, 94, 95, 96, 97, 47, 48] (by decide +kernel) (by decide +kernel)
set_option maxRecDepth 20000 in
theorem gX2_with_X1_plusMonths : GoodIn wsX2_with (va_wsS RX2 123 yX1_plusMonths wsX1_plusMonths) := goodIn_app (goodIn_of _ (by decide +kernel)) ggX2_with_X1_plusMonths
set_option maxRecDepth 20000 in
theorem ggX2_with_X2_isYear : GoodIn wsX2_with wsX2_isYear := goodIn_r _ [100, 101, 102, 56, 57, 7, 58] (by decide +kernel) (by decide +kernel)
set_option maxRecDepth 20000 in
theorem gX2_with_X2_isYear : GoodIn wsX2_with (va_wsS RX2 45 yX2_isYear wsX2_isYear) := goodIn_app (goodIn_of _ (by decide +kernel)) ggX2_with_X2_isYear
theorem dX2_with_0 : decode cX2_with 0 = .ok (.iload_n 1, 1) := by decide +kernel
theorem dX2_with_1 : decode cX2_with 1 = .ok (.bipush 6, 2) := by decide +kernel
theorem dX2_with_3 : decode cX2_with 3 = .ok (.invokestatic 41, 3) := by decide +kernel
theorem dX2_with_6 : decode cX2_with 6 = .ok (.iload 4, 2) := by decide +kernel
theorem dX2_with_8 : decode cX2_with 8 = .ok (.bipush 6, 2) := by decide +kernel
theorem dX2_with_10 : decode cX2_with 10 = .ok (.invokestatic 41, 3) := by decide +kernel
theorem dX2_with_13 : decode cX2_with 13 = .ok (.aload_n 0, 1) := by decide +kernel
theorem dX2_with_14 : decode cX2_with 14 = .ok (.getfield 9, 3) := by decide +kernel
theorem dX2_with_17 : decode cX2_with 17 = .ok (.iload_n 1, 1) := by decide +kernel
theorem dX2_with_18 : decode cX2_with 18 = .ok (.laload, 1) := by decide +kernel
theorem dX2_with_19 : decode cX2_with 19 = .ok (.lstore 5, 2) := by decide +kernel
theorem dX2_with_21 : decode cX2_with 21 = .ok (.lload 5, 2) := by decide +kernel
theorem dX2_with_23 : decode cX2_with 23 = .ok (.invokestatic 80, 3) := by decide +kernel
theorem dX2_with_26 : decode cX2_with 26 = .ok (.lstore 7, 2) := by decide +kernel
theorem dX2_with_28 : decode cX2_with 28 = .ok (.lload 7, 2) := by decide +kernel
theorem dX2_with_30 : decode cX2_with 30 = .ok (.invokestatic 120, 3) := by decide +kernel
theorem dX2_with_33 : decode cX2_with 33 = .ok (.lstore 9, 2) := by decide +kernel
theorem dX2_with_35 : decode cX2_with 35 = .ok (.iload_n 2, 1) := by decide +kernel
theorem dX2_with_36 : decode cX2_with 36 = .ok (.lookupswitch 169 #[(100, 44), (109, 108), (110, 76), (121, 140)], 44) := by decide +kernel
theorem dX2_with_80 : decode cX2_with 80 = .ok (.iload_n 3, 1) := by decide +kernel
theorem dX2_with_81 : decode cX2_with 81 = .ok (.i2l, 1) := by decide +kernel
theorem dX2_with_82 : decode cX2_with 82 = .ok (.lconst 1, 1) := by decide +kernel
theorem dX2_with_83 : decode cX2_with 83 = .ok (.lload 7, 2) := by decide +kernel
theorem dX2_with_85 : decode cX2_with 85 = .ok (.invokestatic 65, 3) := by decide +kernel
theorem dX2_with_88 : decode cX2_with 88 = .ok (.i2l, 1) := by decide +kernel
theorem dX2_with_89 : decode cX2_with 89 = .ok (.invokestatic 55, 3) := by decide +kernel
theorem dX2_with_92 : decode cX2_with 92 = .ok (.invokestatic 49, 3) := by decide +kernel
theorem dX2_with_95 : decode cX2_with 95 = .ok (.aload_n 0, 1) := by decide +kernel
theorem dX2_with_96 : decode cX2_with 96 = .ok (.iload 4, 2) := by decide +kernel
theorem dX2_with_98 : decode cX2_with 98 = .ok (.lload 7, 2) := by decide +kernel
theorem dX2_with_100 : decode cX2_with 100 = .ok (.invokestatic 69, 3) := by decide +kernel
theorem dX2_with_103 : decode cX2_with 103 = .ok (.iload_n 3, 1) := by decide +kernel
theorem dX2_with_104 : decode cX2_with 104 = .ok (.i2l, 1) := by decide +kernel
theorem dX2_with_105 : decode cX2_with 105 = .ok (.ladd, 1) := by decide +kernel
theorem dX2_with_106 : decode cX2_with 106 = .ok (.lconst 1, 1) := by decide +kernel
theorem dX2_with_107 : decode cX2_with 107 = .ok (.lsub, 1) := by decide +kernel
theorem dX2_with_108 : decode cX2_with 108 = .ok (.invokevirtual 73, 3) := by decide +kernel
theorem dX2_with_111 : decode cX2_with 111 = .ok (.lreturn, 1) := by decide +kernel
theorem dX2_with_112 : decode cX2_with 112 = .ok (.iload_n 3, 1) := by decide +kernel
theorem dX2_with_113 : decode cX2_with 113 = .ok (.i2l, 1) := by decide +kernel
theorem dX2_with_114 : decode cX2_with 114 = .ok (.lconst 1, 1) := by decide +kernel
theorem dX2_with_115 : decode cX2_with 115 = .ok (.lload 9, 2) := by decide +kernel
theorem dX2_with_117 : decode cX2_with 117 = .ok (.invokestatic 95, 3) := by decide +kernel
theorem dX2_with_120 : decode cX2_with 120 = .ok (.i2l, 1) := by decide +kernel
theorem dX2_with_121 : decode cX2_with 121 = .ok (.invokestatic 55, 3) := by decide +kernel
theorem dX2_with_124 : decode cX2_with 124 = .ok (.invokestatic 49, 3) := by decide +kernel
theorem dX2_with_127 : decode cX2_with 127 = .ok (.aload_n 0, 1) := by decide +kernel
theorem dX2_with_128 : decode cX2_with 128 = .ok (.iload 4, 2) := by decide +kernel
theorem dX2_with_130 : decode cX2_with 130 = .ok (.lload 9, 2) := by decide +kernel
theorem dX2_with_132 : decode cX2_with 132 = .ok (.invokestatic 89, 3) := by decide +kernel
theorem dX2_with_135 : decode cX2_with 135 = .ok (.iload_n 3, 1) := by decide +kernel
theorem dX2_with_136 : decode cX2_with 136 = .ok (.i2l, 1) := by decide +kernel
theorem dX2_with_137 : decode cX2_with 137 = .ok (.ladd, 1) := by decide +kernel
theorem dX2_with_138 : decode cX2_with 138 = .ok (.lconst 1, 1) := by decide +kernel
theorem dX2_with_139 : decode cX2_with 139 = .ok (.lsub, 1) := by decide +kernel
theorem dX2_with_140 : decode cX2_with 140 = .ok (.invokevirtual 73, 3) := by decide +kernel
theorem dX2_with_143 : decode cX2_with 143 = .ok (.lreturn, 1) := by decide +kernel
theorem dX2_with_144 : decode cX2_with 144 = .ok (.iload_n 3, 1) := by decide +kernel
theorem dX2_with_145 : decode cX2_with 145 = .ok (.i2l, 1) := by decide +kernel
theorem dX2_with_146 : decode cX2_with 146 = .ok (.lconst 1, 1) := by decide +kernel
theorem dX2_with_147 : decode cX2_with 147 = .ok (.ldc2_w 53, 3) := by decide +kernel
theorem dX2_with_150 : decode cX2_with 150 = .ok (.invokestatic 55, 3) := by decide +kernel
theorem dX2_with_153 : decode cX2_with 153 = .ok (.invokestatic 49, 3) := by decide +kernel
theorem dX2_with_156 : decode cX2_with 156 = .ok (.aload_n 0, 1) := by decide +kernel
theorem dX2_with_157 : decode cX2_with 157 = .ok (.iload 4, 2) := by decide +kernel
theorem dX2_with_159 : decode cX2_with 159 = .ok (.lload 5, 2) := by decide +kernel
theorem dX2_with_161 : decode cX2_with 161 = .ok (.iload_n 3, 1) := by decide +kernel
theorem dX2_with_162 : decode cX2_with 162 = .ok (.lload 7, 2) := by decide +kernel
theorem dX2_with_164 : decode cX2_with 164 = .ok (.invokestatic 83, 3) := by decide +kernel
theorem dX2_with_167 : decode cX2_with 167 = .ok (.isub, 1) := by decide +kernel
theorem dX2_with_168 : decode cX2_with 168 = .ok (.i2l, 1) := by decide +kernel
theorem dX2_with_169 : decode cX2_with 169 = .ok (.invokestatic 123, 3) := by decide +kernel
theorem dX2_with_172 : decode cX2_with 172 = .ok (.invokevirtual 73, 3) := by decide +kernel
theorem dX2_with_175 : decode cX2_with 175 = .ok (.lreturn, 1) := by decide +kernel
theorem dX2_with_176 : decode cX2_with 176 = .ok (.iload_n 3, 1) := by decide +kernel
theorem dX2_with_177 : decode cX2_with 177 = .ok (.i2l, 1) := by decide +kernel
theorem dX2_with_178 : decode cX2_with 178 = .ok (.invokestatic 45, 3) := by decide +kernel
theorem dX2_with_181 : decode cX2_with 181 = .ok (.invokestatic 49, 3) := by decide +kernel
theorem dX2_with_184 : decode cX2_with 184 = .ok (.aload_n 0, 1) := by decide +kernel
theorem dX2_with_185 : decode cX2_with 185 = .ok (.iload 4, 2) := by decide +kernel
theorem dX2_with_187 : decode cX2_with 187 = .ok (.lload 5, 2) := by decide +kernel
theorem dX2_with_189 : decode cX2_with 189 = .ok (.ldc2_w 53, 3) := by decide +kernel
theorem dX2_with_192 : decode cX2_with 192 = .ok (.iload_n 3, 1) := by decide +kernel
theorem dX2_with_193 : decode cX2_with 193 = .ok (.i2l, 1) := by decide +kernel
theorem dX2_with_194 : decode cX2_with 194 = .ok (.lload 9, 2) := by decide +kernel
theorem dX2_with_196 : decode cX2_with 196 = .ok (.lsub, 1) := by decide +kernel
theorem dX2_with_197 : decode cX2_with 197 = .ok (.lmul, 1) := by decide +kernel
theorem dX2_with_198 : decode cX2_with 198 = .ok (.invokestatic 123, 3) := by decide +kernel
theorem dX2_with_201 : decode cX2_with 201 = .ok (.invokevirtual 73, 3) := by decide +kernel
theorem dX2_with_204 : decode cX2_with 204 = .ok (.lreturn, 1) := by decide +kernel
theorem dX2_with_205 : decode cX2_with 205 = .ok (.new 101, 3) := by decide +kernel
theorem dX2_with_208 : decode cX2_with 208 = .ok (.dup, 1) := by decide +kernel
theorem dX2_with_209 : decode cX2_with 209 = .ok (.ldc 126, 2) := by decide +kernel
theorem dX2_with_211 : decode cX2_with 211 = .ok (.invokespecial 105, 3) := by decide +kernel
theorem dX2_with_214 : decode cX2_with 214 = .ok (.athrow, 1) := by decide +kernel
set_option maxRecDepth 20000 in
theorem ggX2_adjust_X2_checkSlot : GoodIn wsX2_adjust wsX2_checkSlot := goodIn_ca (goodIn_r _ [7, 8, 9] (by decide +kernel) (by decide +kernel)) (goodIn_sub (fun _ h => List.mem_cons_of_mem _ (List.mem_append_left _ (List.mem_append_right _ h))) (by decide +kernel))
set_option maxRecDepth 20000 in
theorem gX2_adjust_X2_checkSlot : GoodIn wsX2_adjust (va_wsS RX2 41 yX2_checkSlot wsX2_checkSlot) := goodIn_app (goodIn_of _ (by decide +kernel)) ggX2_adjust_X2_checkSlot
set_option maxRecDepth 20000 in
theorem ggX2_adjust_X1_monthOfDay : GoodIn wsX2_adjust wsX1_monthOfDay := goodIn_r _ [13, 14, 15, 16, 17, 18, 12, 19, 20, 21, 22, 23, 24, 25, 26, 27, 28, 29, 30, 31, 32, 33, 34, 35, 36, 37, 38, 39, 40, 41] (by decide +kernel) (by decide +kernel)
set_option maxRecDepth 20000 in
theorem gX2_adjust_X1_monthOfDay : GoodIn wsX2_adjust (va_wsS RX2 80 yX1_monthOfDay wsX1_monthOfDay) := goodIn_app (goodIn_of _ (by decide +kernel)) ggX2_adjust_X1_monthOfDay
set_option maxRecDepth 20000 in
theorem ggX2_adjust_X1_yearOfMonth : GoodIn wsX2_adjust wsX1_yearOfMonth := goodIn_r _ [44, 14, 23, 24, 25, 26] (by decide +kernel) (by decide +kernel)
set_option maxRecDepth 20000 in
theorem gX2_adjust_X1_yearOfMonth : GoodIn wsX2_adjust (va_wsS RX2 120 yX1_yearOfMonth wsX1_yearOfMonth) := goodIn_app (goodIn_of _ (by decide +kernel)) ggX2_adjust_X1_yearOfMonth
set_option maxRecDepth 20000 in
theorem ggX2_adjust_X1_firstOfMonth : GoodIn wsX2_adjust wsX1_firstOfMonth := goodIn_r _ [47, 48, 49, 43, 12, 44, 14, 23, 24, 25, 26, 50, 51, 52, 53, 54, 55, 36, 37, 38, 31, 33, 20, 27, 28, 29, 30, 32, 34, 35, 21] (by decide +kernel) (by decide +kernel)
set_option maxRecDepth 20000 in
theorem gX2_adjust_X1_firstOfMonth : GoodIn wsX2_adjust (va_wsS RX2 69 yX1_firstOfMonth wsX1_firstOfMonth) := goodIn_app (goodIn_of _ (by decide +kernel)) ggX2_adjust_X1_firstOfMonth
set_option maxRecDepth 20000 in
theorem ggX2_adjust_X2_keepDate : GoodIn wsX2_adjust wsX2_keepDate := goodIn_ca (goodIn_ca (goodIn_r _ [59, 3, 60, 61, 12, 62, 63, 64, 65, 66, 6, 67, 68, 69, 71, 72, 73, 74, 75, 76, 77, 78, 79, 80] (by decide +kernel) (by decide +kernel)) (goodIn_sub (fun _ h => List.mem_cons_of_mem _ (List.mem_append_left _ (List.mem_append_left _ (List.mem_append_left _ (List.mem_append_right _ h))))) (by decide +kernel))) (goodIn_sub (fun _ h => List.mem_cons_of_mem _ (List.mem_append_right _ h)) (by decide +kernel))
set_option maxRecDepth 20000 in
theorem gX2_adjust_X2_keepDate : GoodIn wsX2_adjust (wsV RX2 73 RX2 yX2_keepDate wsX2_keepDate) := goodIn_app (goodIn_of _ (by decide +kernel)) ggX2_adjust_X2_keepDate
set_option maxRecDepth 20000 in
theorem ggX2_adjust_X1_firstOfYear : GoodIn wsX2_adjust wsX1_firstOfYear := goodIn_r _ [29, 30, 31, 32, 33, 34, 20, 35, 21, 23, 24, 25, 26] (by decide +kernel) (by decide +kernel)
set_option maxRecDepth 20000 in
theorem gX2_adjust_X1_firstOfYear : GoodIn wsX2_adjust (va_wsS RX2 89 yX1_firstOfYear wsX1_firstOfYear) := goodIn_app (goodIn_of _ (by decide +kernel)) ggX2_adjust_X1_firstOfYear
theorem dX2_adjust_0 : decode cX2_adjust 0 = .ok (.iload_n 1, 1) := by decide +kernel
theorem dX2_adjust_1 : decode cX2_adjust 1 = .ok (.bipush 6, 2) := by decide +kernel
theorem dX2_adjust_3 : decode cX2_adjust 3 = .ok (.invokestatic 41, 3) := by decide +kernel
theorem dX2_adjust_6 : decode cX2_adjust 6 = .ok (.iload_n 3, 1) := by decide +kernel
theorem dX2_adjust_7 : decode cX2_adjust 7 = .ok (.bipush 6, 2) := by decide +kernel
theorem dX2_adjust_9 : decode cX2_adjust 9 = .ok (.invokestatic 41, 3) := by decide +kernel
theorem dX2_adjust_12 : decode cX2_adjust 12 = .ok (.aload_n 0, 1) := by decide +kernel
theorem dX2_adjust_13 : decode cX2_adjust 13 = .ok (.getfield 9, 3) := by decide +kernel
theorem dX2_adjust_16 : decode cX2_adjust 16 = .ok (.iload_n 1, 1) := by decide +kernel
theorem dX2_adjust_17 : decode cX2_adjust 17 = .ok (.laload, 1) := by decide +kernel
theorem dX2_adjust_18 : decode cX2_adjust 18 = .ok (.invokestatic 80, 3) := by decide +kernel
theorem dX2_adjust_21 : decode cX2_adjust 21 = .ok (.lstore 4, 2) := by decide +kernel
theorem dX2_adjust_23 : decode cX2_adjust 23 = .ok (.lload 4, 2) := by decide +kernel
theorem dX2_adjust_25 : decode cX2_adjust 25 = .ok (.invokestatic 120, 3) := by decide +kernel
theorem dX2_adjust_28 : decode cX2_adjust 28 = .ok (.lstore 6, 2) := by decide +kernel
theorem dX2_adjust_30 : decode cX2_adjust 30 = .ok (.iload_n 2, 1) := by decide +kernel
theorem dX2_adjust_31 : decode cX2_adjust 31 = .ok (.lookupswitch 135 #[(70, 96), (76, 107), (78, 122), (102, 57), (108, 68), (110, 83)], 57) := by decide +kernel
theorem dX2_adjust_88 : decode cX2_adjust 88 = .ok (.aload_n 0, 1) := by decide +kernel
theorem dX2_adjust_89 : decode cX2_adjust 89 = .ok (.iload_n 3, 1) := by decide +kernel
theorem dX2_adjust_90 : decode cX2_adjust 90 = .ok (.lload 4, 2) := by decide +kernel
theorem dX2_adjust_92 : decode cX2_adjust 92 = .ok (.invokestatic 69, 3) := by decide +kernel
theorem dX2_adjust_95 : decode cX2_adjust 95 = .ok (.invokevirtual 73, 3) := by decide +kernel
theorem dX2_adjust_98 : decode cX2_adjust 98 = .ok (.lreturn, 1) := by decide +kernel
theorem dX2_adjust_99 : decode cX2_adjust 99 = .ok (.aload_n 0, 1) := by decide +kernel
theorem dX2_adjust_100 : decode cX2_adjust 100 = .ok (.iload_n 3, 1) := by decide +kernel
theorem dX2_adjust_101 : decode cX2_adjust 101 = .ok (.lload 4, 2) := by decide +kernel
theorem dX2_adjust_103 : decode cX2_adjust 103 = .ok (.lconst 1, 1) := by decide +kernel
theorem dX2_adjust_104 : decode cX2_adjust 104 = .ok (.ladd, 1) := by decide +kernel
theorem dX2_adjust_105 : decode cX2_adjust 105 = .ok (.invokestatic 69, 3) := by decide +kernel
theorem dX2_adjust_108 : decode cX2_adjust 108 = .ok (.lconst 1, 1) := by decide +kernel
theorem dX2_adjust_109 : decode cX2_adjust 109 = .ok (.lsub, 1) := by decide +kernel
theorem dX2_adjust_110 : decode cX2_adjust 110 = .ok (.invokevirtual 73, 3) := by decide +kernel
theorem dX2_adjust_113 : decode cX2_adjust 113 = .ok (.lreturn, 1) := by decide +kernel
theorem dX2_adjust_114 : decode cX2_adjust 114 = .ok (.aload_n 0, 1) := by decide +kernel
theorem dX2_adjust_115 : decode cX2_adjust 115 = .ok (.iload_n 3, 1) := by decide +kernel
theorem dX2_adjust_116 : decode cX2_adjust 116 = .ok (.lload 4, 2) := by decide +kernel
theorem dX2_adjust_118 : decode cX2_adjust 118 = .ok (.lconst 1, 1) := by decide +kernel
theorem dX2_adjust_119 : decode cX2_adjust 119 = .ok (.ladd, 1) := by decide +kernel
theorem dX2_adjust_120 : decode cX2_adjust 120 = .ok (.invokestatic 69, 3) := by decide +kernel
theorem dX2_adjust_123 : decode cX2_adjust 123 = .ok (.invokevirtual 73, 3) := by decide +kernel
theorem dX2_adjust_126 : decode cX2_adjust 126 = .ok (.lreturn, 1) := by decide +kernel
theorem dX2_adjust_127 : decode cX2_adjust 127 = .ok (.aload_n 0, 1) := by decide +kernel
theorem dX2_adjust_128 : decode cX2_adjust 128 = .ok (.iload_n 3, 1) := by decide +kernel
theorem dX2_adjust_129 : decode cX2_adjust 129 = .ok (.lload 6, 2) := by decide +kernel
theorem dX2_adjust_131 : decode cX2_adjust 131 = .ok (.invokestatic 89, 3) := by decide +kernel
theorem dX2_adjust_134 : decode cX2_adjust 134 = .ok (.invokevirtual 73, 3) := by decide +kernel
theorem dX2_adjust_137 : decode cX2_adjust 137 = .ok (.lreturn, 1) := by decide +kernel
theorem dX2_adjust_138 : decode cX2_adjust 138 = .ok (.aload_n 0, 1) := by decide +kernel
theorem dX2_adjust_139 : decode cX2_adjust 139 = .ok (.iload_n 3, 1) := by decide +kernel
theorem dX2_adjust_140 : decode cX2_adjust 140 = .ok (.lload 6, 2) := by decide +kernel
theorem dX2_adjust_142 : decode cX2_adjust 142 = .ok (.lconst 1, 1) := by decide +kernel
theorem dX2_adjust_143 : decode cX2_adjust 143 = .ok (.ladd, 1) := by decide +kernel
theorem dX2_adjust_144 : decode cX2_adjust 144 = .ok (.invokestatic 89, 3) := by decide +kernel
theorem dX2_adjust_147 : decode cX2_adjust 147 = .ok (.lconst 1, 1) := by decide +kernel
theorem dX2_adjust_148 : decode cX2_adjust 148 = .ok (.lsub, 1) := by decide +kernel
theorem dX2_adjust_149 : decode cX2_adjust 149 = .ok (.invokevirtual 73, 3) := by decide +kernel
theorem dX2_adjust_152 : decode cX2_adjust 152 = .ok (.lreturn, 1) := by decide +kernel
theorem dX2_adjust_153 : decode cX2_adjust 153 = .ok (.aload_n 0, 1) := by decide +kernel
theorem dX2_adjust_154 : decode cX2_adjust 154 = .ok (.iload_n 3, 1) := by decide +kernel
theorem dX2_adjust_155 : decode cX2_adjust 155 = .ok (.lload 6, 2) := by decide +kernel
theorem dX2_adjust_157 : decode cX2_adjust 157 = .ok (.lconst 1, 1) := by decide +kernel
theorem dX2_adjust_158 : decode cX2_adjust 158 = .ok (.ladd, 1) := by decide +kernel
theorem dX2_adjust_159 : decode cX2_adjust 159 = .ok (.invokestatic 89, 3) := by decide +kernel
theorem dX2_adjust_162 : decode cX2_adjust 162 = .ok (.invokevirtual 73, 3) := by decide +kernel
theorem dX2_adjust_165 : decode cX2_adjust 165 = .ok (.lreturn, 1) := by decide +kernel
theorem dX2_adjust_166 : decode cX2_adjust 166 = .ok (.new 101, 3) := by decide +kernel
theorem dX2_adjust_169 : decode cX2_adjust 169 = .ok (.dup, 1) := by decide +kernel
theorem dX2_adjust_170 : decode cX2_adjust 170 = .ok (.ldc 128, 2) := by decide +kernel
theorem dX2_adjust_172 : decode cX2_adjust 172 = .ok (.invokespecial 105, 3) := by decide +kernel
theorem dX2_adjust_175 : decode cX2_adjust 175 = .ok (.athrow, 1) := by decide +kernel
set_option maxRecDepth 20000 in
theorem ggX2_weekday_X2_checkSlot : GoodIn wsX2_weekday wsX2_checkSlot := goodIn_ca (goodIn_r _ [8, 9, 10] (by decide +kernel) (by decide +kernel)) (goodIn_sub (fun _ h => List.mem_cons_of_mem _ (List.mem_append_left _ (List.mem_append_right _ h))) (by decide +kernel))
set_option maxRecDepth 20000 in
theorem gX2_weekday_X2_checkSlot : GoodIn wsX2_weekday (va_wsS RX2 41 yX2_checkSlot wsX2_checkSlot) := goodIn_app (goodIn_of _ (by decide +kernel)) ggX2_weekday_X2_checkSlot
set_option maxRecDepth 20000 in
theorem ggX2_weekday_X2_isIn : GoodIn wsX2_weekday wsX2_isIn := goodIn_r _ [13] (by decide +kernel) (by decide +kernel)
set_option maxRecDepth 20000 in
theorem gX2_weekday_X2_isIn : GoodIn wsX2_weekday (va_wsS RX2 55 yX2_isIn wsX2_isIn) := goodIn_app (goodIn_of _ (by decide +kernel)) ggX2_weekday_X2_isIn
set_option maxRecDepth 20000 in
theorem ggX2_weekday_X2_checkArgument : GoodIn wsX2_weekday wsX2_checkArgument := goodIn_ca (goodIn_r _ [16, 1, 2] (by decide +kernel) (by decide +kernel)) (goodIn_sub (fun _ h => List.mem_cons_of_mem _ (List.mem_append_left _ (List.mem_append_left _ (List.mem_append_right _ h)))) (by decide +kernel))
set_option maxRecDepth 20000 in
theorem gX2_weekday_X2_checkArgument : GoodIn wsX2_weekday (va_wsS RX2 49 yX2_checkArgument wsX2_checkArgument) := goodIn_app (goodIn_of _ (by decide +kernel)) ggX2_weekday_X2_checkArgument
set_option maxRecDepth 20000 in
theorem ggX2_weekday_X1_monthOfDay : GoodIn wsX2_weekday wsX1_monthOfDay := goodIn_r _ [20, 21, 22, 23, 24, 25, 19, 26, 27, 28, 29, 30, 31, 32, 33, 34, 35, 36, 37, 38, 39, 40, 41, 42, 43, 44, 45, 46, 47, 48] (by decide +kernel) (by decide +kernel)
set_option maxRecDepth 20000 in
theorem gX2_weekday_X1_monthOfDay : GoodIn wsX2_weekday (va_wsS RX2 80 yX1_monthOfDay wsX1_monthOfDay) := goodIn_app (goodIn_of _ (by decide +kernel)) ggX2_weekday_X1_monthOfDay
set_option maxRecDepth 20000 in
theorem ggX2_weekday_X1_weekdayFrom : GoodIn wsX2_weekday wsX1_weekdayFrom := goodIn_r _ [51, 52, 53, 19, 54, 37, 55, 56, 57, 32, 58, 59, 60, 61] (by decide +kernel) (by decide +kernel)
set_option maxRecDepth 20000 in
theorem gX2_weekday_X1_weekdayFrom : GoodIn wsX2_weekday (va_wsS RX2 132 yX1_weekdayFrom wsX1_weekdayFrom) := goodIn_app (goodIn_of _ (by decide +kernel)) ggX2_weekday_X1_weekdayFrom
set_option maxRecDepth 20000 in
theorem ggX2_weekday_X2_keepDate : GoodIn wsX2_weekday wsX2_keepDate := goodIn_ca (goodIn_ca (goodIn_r _ [65, 4, 66, 67, 19, 68, 69, 70, 71, 72, 7, 73, 74, 75, 89, 90, 91, 92, 93, 94, 95, 96, 97, 98] (by decide +kernel) (by decide +kernel)) (goodIn_sub (fun _ h => List.mem_cons_of_mem _ (List.mem_append_left _ (List.mem_append_left _ (List.mem_append_left _ (List.mem_append_right _ h))))) (by decide +kernel))) (goodIn_sub (fun _ h => List.mem_cons_of_mem _ (List.mem_append_right _ h)) (by decide +kernel))
set_option maxRecDepth 20000 in
theorem gX2_weekday_X2_keepDate : GoodIn wsX2_weekday (wsV RX2 73 RX2 yX2_keepDate wsX2_keepDate) := goodIn_app (goodIn_of _ (by decide +kernel)) ggX2_weekday_X2_keepDate
set_option maxRecDepth 20000 in
theorem ggX2_weekday_X1_weekdayUpTo : GoodIn wsX2_weekday wsX1_weekdayUpTo := goodIn_r _ [78, 52, 53, 19, 54, 37, 55, 56, 57, 32, 58, 59, 60, 61] (by decide +kernel) (by decide +kernel)
set_option maxRecDepth 20000 in
theorem gX2_weekday_X1_weekdayUpTo : GoodIn wsX2_weekday (va_wsS RX2 136 yX1_weekdayUpTo wsX1_weekdayUpTo) := goodIn_app (goodIn_of _ (by decide +kernel)) ggX2_weekday_X1_weekdayUpTo
set_option maxRecDepth 20000 in
theorem ggX2_weekday_X1_firstOfMonth : GoodIn wsX2_weekday wsX1_firstOfMonth := goodIn_r _ [81, 82, 83, 84, 19, 85, 21, 30, 31, 32, 33, 86, 87, 88, 56, 57, 58, 43, 44, 45, 38, 40, 27, 34, 35, 36, 37, 39, 41, 42, 28] (by decide +kernel) (by decide +kernel)
set_option maxRecDepth 20000 in
theorem gX2_weekday_X1_firstOfMonth : GoodIn wsX2_weekday (va_wsS RX2 69 yX1_firstOfMonth wsX1_firstOfMonth) := goodIn_app (goodIn_of _ (by decide +kernel)) ggX2_weekday_X1_firstOfMonth
theorem dX2_weekday_0 : decode cX2_weekday 0 = .ok (.iload_n 1, 1) := by decide +kernel
theorem dX2_weekday_1 : decode cX2_weekday 1 = .ok (.bipush 6, 2) := by decide +kernel
theorem dX2_weekday_3 : decode cX2_weekday 3 = .ok (.invokestatic 41, 3) := by decide +kernel
theorem dX2_weekday_6 : decode cX2_weekday 6 = .ok (.iload 4, 2) := by decide +kernel
theorem dX2_weekday_8 : decode cX2_weekday 8 = .ok (.bipush 6, 2) := by decide +kernel
theorem dX2_weekday_10 : decode cX2_weekday 10 = .ok (.invokestatic 41, 3) := by decide +kernel
theorem dX2_weekday_13 : decode cX2_weekday 13 = .ok (.iload_n 3, 1) := by decide +kernel
theorem dX2_weekday_14 : decode cX2_weekday 14 = .ok (.i2l, 1) := by decide +kernel
theorem dX2_weekday_15 : decode cX2_weekday 15 = .ok (.lconst 1, 1) := by decide +kernel
theorem dX2_weekday_16 : decode cX2_weekday 16 = .ok (.ldc2_w 130, 3) := by decide +kernel
theorem dX2_weekday_19 : decode cX2_weekday 19 = .ok (.invokestatic 55, 3) := by decide +kernel
theorem dX2_weekday_22 : decode cX2_weekday 22 = .ok (.invokestatic 49, 3) := by decide +kernel
theorem dX2_weekday_25 : decode cX2_weekday 25 = .ok (.aload_n 0, 1) := by decide +kernel
theorem dX2_weekday_26 : decode cX2_weekday 26 = .ok (.getfield 9, 3) := by decide +kernel
theorem dX2_weekday_29 : decode cX2_weekday 29 = .ok (.iload_n 1, 1) := by decide +kernel
theorem dX2_weekday_30 : decode cX2_weekday 30 = .ok (.laload, 1) := by decide +kernel
theorem dX2_weekday_31 : decode cX2_weekday 31 = .ok (.lstore 5, 2) := by decide +kernel
theorem dX2_weekday_33 : decode cX2_weekday 33 = .ok (.lload 5, 2) := by decide +kernel
theorem dX2_weekday_35 : decode cX2_weekday 35 = .ok (.invokestatic 80, 3) := by decide +kernel
theorem dX2_weekday_38 : decode cX2_weekday 38 = .ok (.lstore 7, 2) := by decide +kernel
theorem dX2_weekday_40 : decode cX2_weekday 40 = .ok (.iload_n 2, 1) := by decide +kernel
theorem dX2_weekday_41 : decode cX2_weekday 41 = .ok (.lookupswitch 151 #[(78, 89), (80, 102), (102, 115), (108, 131), (110, 59), (112, 74)], 59) := by decide +kernel
theorem dX2_weekday_100 : decode cX2_weekday 100 = .ok (.aload_n 0, 1) := by decide +kernel
theorem dX2_weekday_101 : decode cX2_weekday 101 = .ok (.iload 4, 2) := by decide +kernel
theorem dX2_weekday_103 : decode cX2_weekday 103 = .ok (.lload 5, 2) := by decide +kernel
theorem dX2_weekday_105 : decode cX2_weekday 105 = .ok (.lconst 1, 1) := by decide +kernel
theorem dX2_weekday_106 : decode cX2_weekday 106 = .ok (.ladd, 1) := by decide +kernel
theorem dX2_weekday_107 : decode cX2_weekday 107 = .ok (.iload_n 3, 1) := by decide +kernel
theorem dX2_weekday_108 : decode cX2_weekday 108 = .ok (.invokestatic 132, 3) := by decide +kernel
theorem dX2_weekday_111 : decode cX2_weekday 111 = .ok (.invokevirtual 73, 3) := by decide +kernel
theorem dX2_weekday_114 : decode cX2_weekday 114 = .ok (.lreturn, 1) := by decide +kernel
theorem dX2_weekday_115 : decode cX2_weekday 115 = .ok (.aload_n 0, 1) := by decide +kernel
theorem dX2_weekday_116 : decode cX2_weekday 116 = .ok (.iload 4, 2) := by decide +kernel
theorem dX2_weekday_118 : decode cX2_weekday 118 = .ok (.lload 5, 2) := by decide +kernel
theorem dX2_weekday_120 : decode cX2_weekday 120 = .ok (.lconst 1, 1) := by decide +kernel
theorem dX2_weekday_121 : decode cX2_weekday 121 = .ok (.lsub, 1) := by decide +kernel
theorem dX2_weekday_122 : decode cX2_weekday 122 = .ok (.iload_n 3, 1) := by decide +kernel
theorem dX2_weekday_123 : decode cX2_weekday 123 = .ok (.invokestatic 136, 3) := by decide +kernel
theorem dX2_weekday_126 : decode cX2_weekday 126 = .ok (.invokevirtual 73, 3) := by decide +kernel
theorem dX2_weekday_129 : decode cX2_weekday 129 = .ok (.lreturn, 1) := by decide +kernel
theorem dX2_weekday_130 : decode cX2_weekday 130 = .ok (.aload_n 0, 1) := by decide +kernel
theorem dX2_weekday_131 : decode cX2_weekday 131 = .ok (.iload 4, 2) := by decide +kernel
theorem dX2_weekday_133 : decode cX2_weekday 133 = .ok (.lload 5, 2) := by decide +kernel
theorem dX2_weekday_135 : decode cX2_weekday 135 = .ok (.iload_n 3, 1) := by decide +kernel
theorem dX2_weekday_136 : decode cX2_weekday 136 = .ok (.invokestatic 132, 3) := by decide +kernel
theorem dX2_weekday_139 : decode cX2_weekday 139 = .ok (.invokevirtual 73, 3) := by decide +kernel
theorem dX2_weekday_142 : decode cX2_weekday 142 = .ok (.lreturn, 1) := by decide +kernel
theorem dX2_weekday_143 : decode cX2_weekday 143 = .ok (.aload_n 0, 1) := by decide +kernel
theorem dX2_weekday_144 : decode cX2_weekday 144 = .ok (.iload 4, 2) := by decide +kernel
theorem dX2_weekday_146 : decode cX2_weekday 146 = .ok (.lload 5, 2) := by decide +kernel
theorem dX2_weekday_148 : decode cX2_weekday 148 = .ok (.iload_n 3, 1) := by decide +kernel
theorem dX2_weekday_149 : decode cX2_weekday 149 = .ok (.invokestatic 136, 3) := by decide +kernel
theorem dX2_weekday_152 : decode cX2_weekday 152 = .ok (.invokevirtual 73, 3) := by decide +kernel
theorem dX2_weekday_155 : decode cX2_weekday 155 = .ok (.lreturn, 1) := by decide +kernel
theorem dX2_weekday_156 : decode cX2_weekday 156 = .ok (.aload_n 0, 1) := by decide +kernel
theorem dX2_weekday_157 : decode cX2_weekday 157 = .ok (.iload 4, 2) := by decide +kernel
theorem dX2_weekday_159 : decode cX2_weekday 159 = .ok (.lload 7, 2) := by decide +kernel
theorem dX2_weekday_161 : decode cX2_weekday 161 = .ok (.invokestatic 69, 3) := by decide +kernel
theorem dX2_weekday_164 : decode cX2_weekday 164 = .ok (.iload_n 3, 1) := by decide +kernel
theorem dX2_weekday_165 : decode cX2_weekday 165 = .ok (.invokestatic 132, 3) := by decide +kernel
theorem dX2_weekday_168 : decode cX2_weekday 168 = .ok (.invokevirtual 73, 3) := by decide +kernel
theorem dX2_weekday_171 : decode cX2_weekday 171 = .ok (.lreturn, 1) := by decide +kernel
theorem dX2_weekday_172 : decode cX2_weekday 172 = .ok (.aload_n 0, 1) := by decide +kernel
theorem dX2_weekday_173 : decode cX2_weekday 173 = .ok (.iload 4, 2) := by decide +kernel
theorem dX2_weekday_175 : decode cX2_weekday 175 = .ok (.lload 7, 2) := by decide +kernel
theorem dX2_weekday_177 : decode cX2_weekday 177 = .ok (.lconst 1, 1) := by decide +kernel
theorem dX2_weekday_178 : decode cX2_weekday 178 = .ok (.ladd, 1) := by decide +kernel
theorem dX2_weekday_179 : decode cX2_weekday 179 = .ok (.invokestatic 69, 3) := by decide +kernel
theorem dX2_weekday_182 : decode cX2_weekday 182 = .ok (.lconst 1, 1) := by decide +kernel
theorem dX2_weekday_183 : decode cX2_weekday 183 = .ok (.lsub, 1) := by decide +kernel
theorem dX2_weekday_184 : decode cX2_weekday 184 = .ok (.iload_n 3, 1) := by decide +kernel
theorem dX2_weekday_185 : decode cX2_weekday 185 = .ok (.invokestatic 136, 3) := by decide +kernel
theorem dX2_weekday_188 : decode cX2_weekday 188 = .ok (.invokevirtual 73, 3) := by decide +kernel
theorem dX2_weekday_191 : decode cX2_weekday 191 = .ok (.lreturn, 1) := by decide +kernel
theorem dX2_weekday_192 : decode cX2_weekday 192 = .ok (.new 101, 3) := by decide +kernel
theorem dX2_weekday_195 : decode cX2_weekday 195 = .ok (.dup, 1) := by decide +kernel
theorem dX2_weekday_196 : decode cX2_weekday 196 = .ok (.ldc 139, 2) := by decide +kernel
theorem dX2_weekday_198 : decode cX2_weekday 198 = .ok (.invokespecial 105, 3) := by decide +kernel
theorem dX2_weekday_201 : decode cX2_weekday 201 = .ok (.athrow, 1) := by decide +kernel
set_option maxRecDepth 20000 in
theorem ggX2_inMonth_X2_checkSlot : GoodIn wsX2_inMonth wsX2_checkSlot := goodIn_ca (goodIn_r _ [8, 9, 10] (by decide +kernel) (by decide +kernel)) (goodIn_sub (fun _ h => List.mem_cons_of_mem _ (List.mem_append_left _ (List.mem_append_left _ (List.mem_append_right _ h)))) (by decide +kernel))
set_option maxRecDepth 20000 in
theorem gX2_inMonth_X2_checkSlot : GoodIn wsX2_inMonth (va_wsS RX2 41 yX2_checkSlot wsX2_checkSlot) := goodIn_app (goodIn_of _ (by decide +kernel)) ggX2_inMonth_X2_checkSlot
set_option maxRecDepth 20000 in
theorem ggX2_inMonth_X2_isIn : GoodIn wsX2_inMonth wsX2_isIn := goodIn_r _ [13] (by decide +kernel) (by decide +kernel)
set_option maxRecDepth 20000 in
theorem gX2_inMonth_X2_isIn : GoodIn wsX2_inMonth (va_wsS RX2 55 yX2_isIn wsX2_isIn) := goodIn_app (goodIn_of _ (by decide +kernel)) ggX2_inMonth_X2_isIn
set_option maxRecDepth 20000 in
theorem ggX2_inMonth_X2_checkArgument : GoodIn wsX2_inMonth wsX2_checkArgument := goodIn_ca (goodIn_r _ [16, 17, 18] (by decide +kernel) (by decide +kernel)) (goodIn_sub (fun _ h => List.mem_cons_of_mem _ (List.mem_append_left _ (List.mem_append_right _ h))) (by decide +kernel))
set_option maxRecDepth 20000 in
theorem gX2_inMonth_X2_checkArgument : GoodIn wsX2_inMonth (va_wsS RX2 49 yX2_checkArgument wsX2_checkArgument) := goodIn_app (goodIn_of _ (by decide +kernel)) ggX2_inMonth_X2_checkArgument
set_option maxRecDepth 20000 in
theorem ggX2_inMonth_X1_monthOfDay : GoodIn wsX2_inMonth wsX1_monthOfDay := goodIn_r _ [22, 23, 24, 25, 26, 27, 21, 28, 29, 30, 31, 32, 33, 34, 35, 36, 37, 38, 39, 40, 41, 42, 43, 44, 45, 46, 47, 48, 49, 50] (by decide +kernel) (by decide +kernel)
set_option maxRecDepth 20000 in
theorem gX2_inMonth_X1_monthOfDay : GoodIn wsX2_inMonth (va_wsS RX2 80 yX1_monthOfDay wsX1_monthOfDay) := goodIn_app (goodIn_of _ (by decide +kernel)) ggX2_inMonth_X1_monthOfDay
set_option maxRecDepth 20000 in
theorem ggX2_inMonth_X1_firstOfMonth : GoodIn wsX2_inMonth wsX1_firstOfMonth := goodIn_r _ [53, 54, 55, 56, 21, 57, 23, 32, 33, 34, 35, 58, 59, 60, 61, 62, 63, 45, 46, 47, 40, 42, 29, 36, 37, 38, 39, 41, 43, 44, 30] (by decide +kernel) (by decide +kernel)
set_option maxRecDepth 20000 in
theorem gX2_inMonth_X1_firstOfMonth : GoodIn wsX2_inMonth (va_wsS RX2 69 yX1_firstOfMonth wsX1_firstOfMonth) := goodIn_app (goodIn_of _ (by decide +kernel)) ggX2_inMonth_X1_firstOfMonth
set_option maxRecDepth 20000 in
theorem ggX2_inMonth_X1_weekdayUpTo : GoodIn wsX2_inMonth wsX1_weekdayUpTo := goodIn_r _ [66, 67, 68, 21, 69, 39, 70, 61, 62, 34, 63, 71, 72, 73] (by decide +kernel) (by decide +kernel)
set_option maxRecDepth 20000 in
theorem gX2_inMonth_X1_weekdayUpTo : GoodIn wsX2_inMonth (va_wsS RX2 136 yX1_weekdayUpTo wsX1_weekdayUpTo) := goodIn_app (goodIn_of _ (by decide +kernel)) ggX2_inMonth_X1_weekdayUpTo
set_option maxRecDepth 20000 in
theorem ggX2_inMonth_X2_keepDate : GoodIn wsX2_inMonth wsX2_keepDate := goodIn_ca (goodIn_ca (goodIn_r _ [77, 4, 78, 79, 21, 80, 81, 82, 83, 84, 7, 85, 86, 87, 91, 92, 93, 94, 95, 96, 97, 98, 99, 100] (by decide +kernel) (by decide +kernel)) (goodIn_sub (fun _ h => List.mem_cons_of_mem _ (List.mem_append_left _ (List.mem_append_left _ (List.mem_append_left _ (List.mem_append_right _ h))))) (by decide +kernel))) (goodIn_sub (fun _ h => List.mem_cons_of_mem _ (List.mem_append_right _ h)) (by decide +kernel))
set_option maxRecDepth 20000 in
theorem gX2_inMonth_X2_keepDate : GoodIn wsX2_inMonth (wsV RX2 73 RX2 yX2_keepDate wsX2_keepDate) := goodIn_app (goodIn_of _ (by decide +kernel)) ggX2_inMonth_X2_keepDate
set_option maxRecDepth 20000 in
theorem ggX2_inMonth_X1_weekdayFrom : GoodIn wsX2_inMonth wsX1_weekdayFrom := goodIn_r _ [90, 67, 68, 21, 69, 39, 70, 61, 62, 34, 63, 71, 72, 73] (by decide +kernel) (by decide +kernel)
set_option maxRecDepth 20000 in
theorem gX2_inMonth_X1_weekdayFrom : GoodIn wsX2_inMonth (va_wsS RX2 132 yX1_weekdayFrom wsX1_weekdayFrom) := goodIn_app (goodIn_of _ (by decide +kernel)) ggX2_inMonth_X1_weekdayFrom
theorem dX2_inMonth_0 : decode cX2_inMonth 0 = .ok (.iload_n 1, 1) := by decide +kernel
theorem dX2_inMonth_1 : decode cX2_inMonth 1 = .ok (.bipush 6, 2) := by decide +kernel
theorem dX2_inMonth_3 : decode cX2_inMonth 3 = .ok (.invokestatic 41, 3) := by decide +kernel
theorem dX2_inMonth_6 : decode cX2_inMonth 6 = .ok (.iload 4, 2) := by decide +kernel
theorem dX2_inMonth_8 : decode cX2_inMonth 8 = .ok (.bipush 6, 2) := by decide +kernel
theorem dX2_inMonth_10 : decode cX2_inMonth 10 = .ok (.invokestatic 41, 3) := by decide +kernel
theorem dX2_inMonth_13 : decode cX2_inMonth 13 = .ok (.iload_n 2, 1) := by decide +kernel
theorem dX2_inMonth_14 : decode cX2_inMonth 14 = .ok (.i2l, 1) := by decide +kernel
theorem dX2_inMonth_15 : decode cX2_inMonth 15 = .ok (.ldc2_w 141, 3) := by decide +kernel
theorem dX2_inMonth_18 : decode cX2_inMonth 18 = .ok (.ldc2_w 143, 3) := by decide +kernel
theorem dX2_inMonth_21 : decode cX2_inMonth 21 = .ok (.invokestatic 55, 3) := by decide +kernel
theorem dX2_inMonth_24 : decode cX2_inMonth 24 = .ok (.invokestatic 49, 3) := by decide +kernel
theorem dX2_inMonth_27 : decode cX2_inMonth 27 = .ok (.iload_n 3, 1) := by decide +kernel
theorem dX2_inMonth_28 : decode cX2_inMonth 28 = .ok (.i2l, 1) := by decide +kernel
theorem dX2_inMonth_29 : decode cX2_inMonth 29 = .ok (.lconst 1, 1) := by decide +kernel
theorem dX2_inMonth_30 : decode cX2_inMonth 30 = .ok (.ldc2_w 130, 3) := by decide +kernel
theorem dX2_inMonth_33 : decode cX2_inMonth 33 = .ok (.invokestatic 55, 3) := by decide +kernel
theorem dX2_inMonth_36 : decode cX2_inMonth 36 = .ok (.invokestatic 49, 3) := by decide +kernel
theorem dX2_inMonth_39 : decode cX2_inMonth 39 = .ok (.aload_n 0, 1) := by decide +kernel
theorem dX2_inMonth_40 : decode cX2_inMonth 40 = .ok (.getfield 9, 3) := by decide +kernel
theorem dX2_inMonth_43 : decode cX2_inMonth 43 = .ok (.iload_n 1, 1) := by decide +kernel
theorem dX2_inMonth_44 : decode cX2_inMonth 44 = .ok (.laload, 1) := by decide +kernel
theorem dX2_inMonth_45 : decode cX2_inMonth 45 = .ok (.invokestatic 80, 3) := by decide +kernel
theorem dX2_inMonth_48 : decode cX2_inMonth 48 = .ok (.lstore 5, 2) := by decide +kernel
theorem dX2_inMonth_50 : decode cX2_inMonth 50 = .ok (.iload_n 2, 1) := by decide +kernel
theorem dX2_inMonth_51 : decode cX2_inMonth 51 = .ok (.ifCond .ge 35, 3) := by decide +kernel
theorem dX2_inMonth_54 : decode cX2_inMonth 54 = .ok (.lload 5, 2) := by decide +kernel
theorem dX2_inMonth_56 : decode cX2_inMonth 56 = .ok (.lconst 1, 1) := by decide +kernel
theorem dX2_inMonth_57 : decode cX2_inMonth 57 = .ok (.ladd, 1) := by decide +kernel
theorem dX2_inMonth_58 : decode cX2_inMonth 58 = .ok (.invokestatic 69, 3) := by decide +kernel
theorem dX2_inMonth_61 : decode cX2_inMonth 61 = .ok (.lconst 1, 1) := by decide +kernel
theorem dX2_inMonth_62 : decode cX2_inMonth 62 = .ok (.lsub, 1) := by decide +kernel
theorem dX2_inMonth_63 : decode cX2_inMonth 63 = .ok (.iload_n 3, 1) := by decide +kernel
theorem dX2_inMonth_64 : decode cX2_inMonth 64 = .ok (.invokestatic 136, 3) := by decide +kernel
theorem dX2_inMonth_67 : decode cX2_inMonth 67 = .ok (.lstore 7, 2) := by decide +kernel
theorem dX2_inMonth_69 : decode cX2_inMonth 69 = .ok (.aload_n 0, 1) := by decide +kernel
theorem dX2_inMonth_70 : decode cX2_inMonth 70 = .ok (.iload 4, 2) := by decide +kernel
theorem dX2_inMonth_72 : decode cX2_inMonth 72 = .ok (.lload 7, 2) := by decide +kernel
theorem dX2_inMonth_74 : decode cX2_inMonth 74 = .ok (.bipush 7, 2) := by decide +kernel
theorem dX2_inMonth_76 : decode cX2_inMonth 76 = .ok (.iload_n 2, 1) := by decide +kernel
theorem dX2_inMonth_77 : decode cX2_inMonth 77 = .ok (.iconst 1, 1) := by decide +kernel
theorem dX2_inMonth_78 : decode cX2_inMonth 78 = .ok (.iadd, 1) := by decide +kernel
theorem dX2_inMonth_79 : decode cX2_inMonth 79 = .ok (.imul, 1) := by decide +kernel
theorem dX2_inMonth_80 : decode cX2_inMonth 80 = .ok (.i2l, 1) := by decide +kernel
theorem dX2_inMonth_81 : decode cX2_inMonth 81 = .ok (.ladd, 1) := by decide +kernel
theorem dX2_inMonth_82 : decode cX2_inMonth 82 = .ok (.invokevirtual 73, 3) := by decide +kernel
theorem dX2_inMonth_85 : decode cX2_inMonth 85 = .ok (.lreturn, 1) := by decide +kernel
theorem dX2_inMonth_86 : decode cX2_inMonth 86 = .ok (.aload_n 0, 1) := by decide +kernel
theorem dX2_inMonth_87 : decode cX2_inMonth 87 = .ok (.iload 4, 2) := by decide +kernel
theorem dX2_inMonth_89 : decode cX2_inMonth 89 = .ok (.lload 5, 2) := by decide +kernel
theorem dX2_inMonth_91 : decode cX2_inMonth 91 = .ok (.invokestatic 69, 3) := by decide +kernel
theorem dX2_inMonth_94 : decode cX2_inMonth 94 = .ok (.iload_n 3, 1) := by decide +kernel
theorem dX2_inMonth_95 : decode cX2_inMonth 95 = .ok (.invokestatic 132, 3) := by decide +kernel
theorem dX2_inMonth_98 : decode cX2_inMonth 98 = .ok (.bipush 7, 2) := by decide +kernel
theorem dX2_inMonth_100 : decode cX2_inMonth 100 = .ok (.iload_n 2, 1) := by decide +kernel
theorem dX2_inMonth_101 : decode cX2_inMonth 101 = .ok (.iconst 1, 1) := by decide +kernel
theorem dX2_inMonth_102 : decode cX2_inMonth 102 = .ok (.isub, 1) := by decide +kernel
theorem dX2_inMonth_103 : decode cX2_inMonth 103 = .ok (.imul, 1) := by decide +kernel
theorem dX2_inMonth_104 : decode cX2_inMonth 104 = .ok (.i2l, 1) := by decide +kernel
theorem dX2_inMonth_105 : decode cX2_inMonth 105 = .ok (.ladd, 1) := by decide +kernel
theorem dX2_inMonth_106 : decode cX2_inMonth 106 = .ok (.invokevirtual 73, 3) := by decide +kernel
theorem dX2_inMonth_109 : decode cX2_inMonth 109 = .ok (.lreturn, 1) := by decide +kernel
set_option maxRecDepth 20000 in
theorem ggX2_atYear_X2_checkSlot : GoodIn wsX2_atYear wsX2_checkSlot := goodIn_ca (goodIn_r _ [5, 6, 7] (by decide +kernel) (by decide +kernel)) (goodIn_sub (fun _ h => List.mem_cons_of_mem _ (List.mem_append_left _ (List.mem_append_left _ (List.mem_append_left _ (List.mem_append_right _ h))))) (by decide +kernel))
set_option maxRecDepth 20000 in
theorem gX2_atYear_X2_checkSlot : GoodIn wsX2_atYear (va_wsS RX2 41 yX2_checkSlot wsX2_checkSlot) := goodIn_app (goodIn_of _ (by decide +kernel)) ggX2_atYear_X2_checkSlot
set_option maxRecDepth 20000 in
theorem ggX2_atYear_X2_isIn : GoodIn wsX2_atYear wsX2_isIn := goodIn_r _ [10] (by decide +kernel) (by decide +kernel)
set_option maxRecDepth 20000 in
theorem gX2_atYear_X2_isIn : GoodIn wsX2_atYear (va_wsS RX2 55 yX2_isIn wsX2_isIn) := goodIn_app (goodIn_of _ (by decide +kernel)) ggX2_atYear_X2_isIn
set_option maxRecDepth 20000 in
theorem ggX2_atYear_X2_checkArgument : GoodIn wsX2_atYear wsX2_checkArgument := goodIn_ca (goodIn_r _ [13, 14, 15] (by decide +kernel) (by decide +kernel)) (goodIn_sub (fun _ h => List.mem_cons_of_mem _ (List.mem_append_left _ (List.mem_append_left _ (List.mem_append_right _ h)))) (by decide +kernel))
set_option maxRecDepth 20000 in
theorem gX2_atYear_X2_checkArgument : GoodIn wsX2_atYear (va_wsS RX2 49 yX2_checkArgument wsX2_checkArgument) := goodIn_app (goodIn_of _ (by decide +kernel)) ggX2_atYear_X2_checkArgument
set_option maxRecDepth 20000 in
theorem ggX2_atYear_X1_monthIndex : GoodIn wsX2_atYear wsX1_monthIndex := goodIn_r _ [19, 20] (by decide +kernel) (by decide +kernel)
set_option maxRecDepth 20000 in
theorem gX2_atYear_X1_monthIndex : GoodIn wsX2_atYear (va_wsS RX2 59 yX1_monthIndex wsX1_monthIndex) := goodIn_app (goodIn_of _ (by decide +kernel)) ggX2_atYear_X1_monthIndex
set_option maxRecDepth 20000 in
theorem ggX2_atYear_X1_lengthOfMonth : GoodIn wsX2_atYear wsX1_lengthOfMonth := goodIn_r _ [23, 24, 25, 18, 26, 20, 27, 28, 29, 30, 31, 32, 33, 34, 35, 36, 37, 38, 39, 40, 41, 42] (by decide +kernel) (by decide +kernel)
set_option maxRecDepth 20000 in
theorem gX2_atYear_X1_lengthOfMonth : GoodIn wsX2_atYear (va_wsS RX2 65 yX1_lengthOfMonth wsX1_lengthOfMonth) := goodIn_app (goodIn_of _ (by decide +kernel)) ggX2_atYear_X1_lengthOfMonth
set_option maxRecDepth 20000 in
theorem ggX2_atYear_X2_isYear : GoodIn wsX2_atYear wsX2_isYear := goodIn_r _ [45, 46, 47, 8, 9, 4, 10] (by decide +kernel) (by decide +kernel)
set_option maxRecDepth 20000 in
theorem gX2_atYear_X2_isYear : GoodIn wsX2_atYear (va_wsS RX2 45 yX2_isYear wsX2_isYear) := goodIn_app (goodIn_of _ (by decide +kernel)) ggX2_atYear_X2_isYear
set_option maxRecDepth 20000 in
theorem ggX2_atYear_X1_dayOrLast : GoodIn wsX2_atYear wsX1_dayOrLast := goodIn_r _ [50, 51, 52, 53, 54, 55, 56, 18, 57, 58, 31, 32, 33, 20, 34, 35, 29, 36, 24, 25, 26, 27, 28, 30, 37, 38, 39, 40, 41, 42, 59, 60, 61, 62, 63, 64, 65, 66, 67, 22, 23] (by decide +kernel) (by decide +kernel)
set_option maxRecDepth 20000 in
theorem gX2_atYear_X1_dayOrLast : GoodIn wsX2_atYear (va_wsS RX2 145 yX1_dayOrLast wsX1_dayOrLast) := goodIn_app (goodIn_of _ (by decide +kernel)) ggX2_atYear_X1_dayOrLast
set_option maxRecDepth 20000 in
theorem ggX2_atYear_X2_keepDate : GoodIn wsX2_atYear wsX2_keepDate := goodIn_ca (goodIn_ca (goodIn_r _ [71, 72, 73, 74, 18, 75, 76, 77, 78, 79, 4, 80, 81, 82, 83, 84, 85, 86, 87, 88, 89, 90, 91, 92] (by decide +kernel) (by decide +kernel)) (goodIn_sub (fun _ h => List.mem_cons_of_mem _ (List.mem_append_left _ (List.mem_append_right _ h))) (by decide +kernel))) (goodIn_sub (fun _ h => List.mem_cons_of_mem _ (List.mem_append_right _ h)) (by decide +kernel))
set_option maxRecDepth 20000 in
theorem gX2_atYear_X2_keepDate : GoodIn wsX2_atYear (wsV RX2 73 RX2 yX2_keepDate wsX2_keepDate) := goodIn_app (goodIn_of _ (by decide +kernel)) ggX2_atYear_X2_keepDate
theorem dX2_atYear_0 : decode cX2_atYear 0 = .ok (.iload 4, 2) := by decide +kernel
theorem dX2_atYear_2 : decode cX2_atYear 2 = .ok (.bipush 6, 2) := by decide +kernel
theorem dX2_atYear_4 : decode cX2_atYear 4 = .ok (.invokestatic 41, 3) := by decide +kernel
theorem dX2_atYear_7 : decode cX2_atYear 7 = .ok (.iload_n 1, 1) := by decide +kernel
theorem dX2_atYear_8 : decode cX2_atYear 8 = .ok (.i2l, 1) := by decide +kernel
theorem dX2_atYear_9 : decode cX2_atYear 9 = .ok (.lconst 1, 1) := by decide +kernel
theorem dX2_atYear_10 : decode cX2_atYear 10 = .ok (.ldc2_w 53, 3) := by decide +kernel
theorem dX2_atYear_13 : decode cX2_atYear 13 = .ok (.invokestatic 55, 3) := by decide +kernel
theorem dX2_atYear_16 : decode cX2_atYear 16 = .ok (.invokestatic 49, 3) := by decide +kernel
theorem dX2_atYear_19 : decode cX2_atYear 19 = .ok (.iload_n 2, 1) := by decide +kernel
theorem dX2_atYear_20 : decode cX2_atYear 20 = .ok (.i2l, 1) := by decide +kernel
theorem dX2_atYear_21 : decode cX2_atYear 21 = .ok (.lconst 1, 1) := by decide +kernel
theorem dX2_atYear_22 : decode cX2_atYear 22 = .ok (.lconst 0, 1) := by decide +kernel
theorem dX2_atYear_23 : decode cX2_atYear 23 = .ok (.iload_n 1, 1) := by decide +kernel
theorem dX2_atYear_24 : decode cX2_atYear 24 = .ok (.i2l, 1) := by decide +kernel
theorem dX2_atYear_25 : decode cX2_atYear 25 = .ok (.invokestatic 59, 3) := by decide +kernel
theorem dX2_atYear_28 : decode cX2_atYear 28 = .ok (.invokestatic 65, 3) := by decide +kernel
theorem dX2_atYear_31 : decode cX2_atYear 31 = .ok (.i2l, 1) := by decide +kernel
theorem dX2_atYear_32 : decode cX2_atYear 32 = .ok (.invokestatic 55, 3) := by decide +kernel
theorem dX2_atYear_35 : decode cX2_atYear 35 = .ok (.invokestatic 49, 3) := by decide +kernel
theorem dX2_atYear_38 : decode cX2_atYear 38 = .ok (.iload_n 3, 1) := by decide +kernel
theorem dX2_atYear_39 : decode cX2_atYear 39 = .ok (.i2l, 1) := by decide +kernel
theorem dX2_atYear_40 : decode cX2_atYear 40 = .ok (.invokestatic 45, 3) := by decide +kernel
theorem dX2_atYear_43 : decode cX2_atYear 43 = .ok (.invokestatic 49, 3) := by decide +kernel
theorem dX2_atYear_46 : decode cX2_atYear 46 = .ok (.aload_n 0, 1) := by decide +kernel
theorem dX2_atYear_47 : decode cX2_atYear 47 = .ok (.iload 4, 2) := by decide +kernel
theorem dX2_atYear_49 : decode cX2_atYear 49 = .ok (.iload_n 3, 1) := by decide +kernel
theorem dX2_atYear_50 : decode cX2_atYear 50 = .ok (.i2l, 1) := by decide +kernel
theorem dX2_atYear_51 : decode cX2_atYear 51 = .ok (.iload_n 1, 1) := by decide +kernel
theorem dX2_atYear_52 : decode cX2_atYear 52 = .ok (.i2l, 1) := by decide +kernel
theorem dX2_atYear_53 : decode cX2_atYear 53 = .ok (.invokestatic 59, 3) := by decide +kernel
theorem dX2_atYear_56 : decode cX2_atYear 56 = .ok (.iload_n 2, 1) := by decide +kernel
theorem dX2_atYear_57 : decode cX2_atYear 57 = .ok (.i2l, 1) := by decide +kernel
theorem dX2_atYear_58 : decode cX2_atYear 58 = .ok (.invokestatic 145, 3) := by decide +kernel
theorem dX2_atYear_61 : decode cX2_atYear 61 = .ok (.invokevirtual 73, 3) := by decide +kernel
theorem dX2_atYear_64 : decode cX2_atYear 64 = .ok (.lreturn, 1) := by decide +kernel
set_option maxRecDepth 20000 in
theorem ggX2_order_X2_checkSlot : GoodIn wsX2_order wsX2_checkSlot := goodIn_ca (goodIn_r _ [5, 6, 7] (by decide +kernel) (by decide +kernel)) (goodIn_sub (fun _ h => List.mem_cons_of_mem _ (List.mem_append_right _ h)) (by decide +kernel))
set_option maxRecDepth 20000 in
theorem gX2_order_X2_checkSlot : GoodIn wsX2_order (va_wsS RX2 41 yX2_checkSlot wsX2_checkSlot) := goodIn_app (goodIn_of _ (by decide +kernel)) ggX2_order_X2_checkSlot
set_option maxRecDepth 20000 in
theorem ggX2_order_X2_sign : GoodIn wsX2_order wsX2_sign := goodIn_r _ [10] (by decide +kernel) (by decide +kernel)
set_option maxRecDepth 20000 in
theorem gX2_order_X2_sign : GoodIn wsX2_order (va_wsS RX2 148 yX2_sign wsX2_sign) := goodIn_app (goodIn_of _ (by decide +kernel)) ggX2_order_X2_sign
theorem dX2_order_0 : decode cX2_order 0 = .ok (.iload_n 1, 1) := by decide +kernel
theorem dX2_order_1 : decode cX2_order 1 = .ok (.bipush 6, 2) := by decide +kernel
theorem dX2_order_3 : decode cX2_order 3 = .ok (.invokestatic 41, 3) := by decide +kernel
theorem dX2_order_6 : decode cX2_order 6 = .ok (.iload_n 2, 1) := by decide +kernel
theorem dX2_order_7 : decode cX2_order 7 = .ok (.bipush 6, 2) := by decide +kernel
theorem dX2_order_9 : decode cX2_order 9 = .ok (.invokestatic 41, 3) := by decide +kernel
theorem dX2_order_12 : decode cX2_order 12 = .ok (.aload_n 0, 1) := by decide +kernel
theorem dX2_order_13 : decode cX2_order 13 = .ok (.getfield 9, 3) := by decide +kernel
theorem dX2_order_16 : decode cX2_order 16 = .ok (.iload_n 1, 1) := by decide +kernel
theorem dX2_order_17 : decode cX2_order 17 = .ok (.laload, 1) := by decide +kernel
theorem dX2_order_18 : decode cX2_order 18 = .ok (.aload_n 0, 1) := by decide +kernel
theorem dX2_order_19 : decode cX2_order 19 = .ok (.getfield 9, 3) := by decide +kernel
theorem dX2_order_22 : decode cX2_order 22 = .ok (.iload_n 2, 1) := by decide +kernel
theorem dX2_order_23 : decode cX2_order 23 = .ok (.laload, 1) := by decide +kernel
theorem dX2_order_24 : decode cX2_order 24 = .ok (.invokestatic 148, 3) := by decide +kernel
theorem dX2_order_27 : decode cX2_order 27 = .ok (.ireturn, 1) := by decide +kernel
set_option maxRecDepth 20000 in
theorem ggX2_between_X2_checkSlot : GoodIn wsX2_between wsX2_checkSlot := goodIn_ca (goodIn_r _ [9, 10, 11] (by decide +kernel) (by decide +kernel)) (goodIn_sub (fun _ h => List.mem_cons_of_mem _ (List.mem_append_right _ h)) (by decide +kernel))
set_option maxRecDepth 20000 in
theorem gX2_between_X2_checkSlot : GoodIn wsX2_between (va_wsS RX2 41 yX2_checkSlot wsX2_checkSlot) := goodIn_app (goodIn_of _ (by decide +kernel)) ggX2_between_X2_checkSlot
set_option maxRecDepth 20000 in
theorem ggX2_between_X1_wholeMonths : GoodIn wsX2_between wsX1_wholeMonths := goodIn_r _ [15, 16, 17, 18, 19, 20, 21, 22, 23, 24, 14, 25, 26, 27, 28, 29, 30, 31, 32, 33, 34, 35, 36, 37, 38, 39, 40, 41, 42, 43, 44, 45, 46, 47, 48, 49, 50, 51, 52, 53, 54, 55, 56, 57, 58, 59, 60, 61, 62, 63, 64, 65, 66] (by decide +kernel) (by decide +kernel)
set_option maxRecDepth 20000 in
theorem gX2_between_X1_wholeMonths : GoodIn wsX2_between (va_wsS RX2 152 yX1_wholeMonths wsX1_wholeMonths) := goodIn_app (goodIn_of _ (by decide +kernel)) ggX2_between_X1_wholeMonths
theorem dX2_between_0 : decode cX2_between 0 = .ok (.iload_n 1, 1) := by decide +kernel
theorem dX2_between_1 : decode cX2_between 1 = .ok (.bipush 6, 2) := by decide +kernel
theorem dX2_between_3 : decode cX2_between 3 = .ok (.invokestatic 41, 3) := by decide +kernel
theorem dX2_between_6 : decode cX2_between 6 = .ok (.iload_n 2, 1) := by decide +kernel
theorem dX2_between_7 : decode cX2_between 7 = .ok (.bipush 6, 2) := by decide +kernel
theorem dX2_between_9 : decode cX2_between 9 = .ok (.invokestatic 41, 3) := by decide +kernel
theorem dX2_between_12 : decode cX2_between 12 = .ok (.aload_n 0, 1) := by decide +kernel
theorem dX2_between_13 : decode cX2_between 13 = .ok (.getfield 9, 3) := by decide +kernel
theorem dX2_between_16 : decode cX2_between 16 = .ok (.iload_n 1, 1) := by decide +kernel
theorem dX2_between_17 : decode cX2_between 17 = .ok (.laload, 1) := by decide +kernel
theorem dX2_between_18 : decode cX2_between 18 = .ok (.lstore 4, 2) := by decide +kernel
theorem dX2_between_20 : decode cX2_between 20 = .ok (.aload_n 0, 1) := by decide +kernel
theorem dX2_between_21 : decode cX2_between 21 = .ok (.getfield 9, 3) := by decide +kernel
theorem dX2_between_24 : decode cX2_between 24 = .ok (.iload_n 2, 1) := by decide +kernel
theorem dX2_between_25 : decode cX2_between 25 = .ok (.laload, 1) := by decide +kernel
theorem dX2_between_26 : decode cX2_between 26 = .ok (.lstore 6, 2) := by decide +kernel
theorem dX2_between_28 : decode cX2_between 28 = .ok (.iload_n 3, 1) := by decide +kernel
theorem dX2_between_29 : decode cX2_between 29 = .ok (.lookupswitch 79 #[(100, 43), (109, 59), (119, 49), (121, 67)], 43) := by decide +kernel
theorem dX2_between_72 : decode cX2_between 72 = .ok (.lload 6, 2) := by decide +kernel
theorem dX2_between_74 : decode cX2_between 74 = .ok (.lload 4, 2) := by decide +kernel
theorem dX2_between_76 : decode cX2_between 76 = .ok (.lsub, 1) := by decide +kernel
theorem dX2_between_77 : decode cX2_between 77 = .ok (.lreturn, 1) := by decide +kernel
theorem dX2_between_78 : decode cX2_between 78 = .ok (.lload 6, 2) := by decide +kernel
theorem dX2_between_80 : decode cX2_between 80 = .ok (.lload 4, 2) := by decide +kernel
theorem dX2_between_82 : decode cX2_between 82 = .ok (.lsub, 1) := by decide +kernel
theorem dX2_between_83 : decode cX2_between 83 = .ok (.ldc2_w 130, 3) := by decide +kernel
theorem dX2_between_86 : decode cX2_between 86 = .ok (.ldiv, 1) := by decide +kernel
theorem dX2_between_87 : decode cX2_between 87 = .ok (.lreturn, 1) := by decide +kernel
theorem dX2_between_88 : decode cX2_between 88 = .ok (.lload 4, 2) := by decide +kernel
theorem dX2_between_90 : decode cX2_between 90 = .ok (.lload 6, 2) := by decide +kernel
theorem dX2_between_92 : decode cX2_between 92 = .ok (.invokestatic 152, 3) := by decide +kernel
theorem dX2_between_95 : decode cX2_between 95 = .ok (.lreturn, 1) := by decide +kernel
theorem dX2_between_96 : decode cX2_between 96 = .ok (.lload 4, 2) := by decide +kernel
theorem dX2_between_98 : decode cX2_between 98 = .ok (.lload 6, 2) := by decide +kernel
theorem dX2_between_100 : decode cX2_between 100 = .ok (.invokestatic 152, 3) := by decide +kernel
theorem dX2_between_103 : decode cX2_between 103 = .ok (.ldc2_w 53, 3) := by decide +kernel
theorem dX2_between_106 : decode cX2_between 106 = .ok (.ldiv, 1) := by decide +kernel
theorem dX2_between_107 : decode cX2_between 107 = .ok (.lreturn, 1) := by decide +kernel
theorem dX2_between_108 : decode cX2_between 108 = .ok (.new 101, 3) := by decide +kernel
theorem dX2_between_111 : decode cX2_between 111 = .ok (.dup, 1) := by decide +kernel
theorem dX2_between_112 : decode cX2_between 112 = .ok (.ldc 155, 2) := by decide +kernel
theorem dX2_between_114 : decode cX2_between 114 = .ok (.invokespecial 105, 3) := by decide +kernel
theorem dX2_between_117 : decode cX2_between 117 = .ok (.athrow, 1) := by decide +kernel
set_option maxRecDepth 20000 in
theorem ggX2_span_X2_checkSlot : GoodIn wsX2_span wsX2_checkSlot := goodIn_ca (goodIn_r _ [4, 5, 6] (by decide +kernel) (by decide +kernel)) (goodIn_sub (fun _ h => List.mem_cons_of_mem _ (List.mem_append_left _ (List.mem_append_left _ (List.mem_append_left _ (List.mem_append_right _ h))))) (by decide +kernel))
set_option maxRecDepth 20000 in
theorem gX2_span_X2_checkSlot : GoodIn wsX2_span (va_wsS RX2 41 yX2_checkSlot wsX2_checkSlot) := goodIn_app (goodIn_of _ (by decide +kernel)) ggX2_span_X2_checkSlot
set_option maxRecDepth 20000 in
theorem ggX2_span_X2_isSpan : GoodIn wsX2_span wsX2_isSpan := goodIn_r _ [9, 10, 11, 12, 13, 3, 14] (by decide +kernel) (by decide +kernel)
set_option maxRecDepth 20000 in
theorem gX2_span_X2_isSpan : GoodIn wsX2_span (va_wsS RX2 157 yX2_isSpan wsX2_isSpan) := goodIn_app (goodIn_of _ (by decide +kernel)) ggX2_span_X2_isSpan
set_option maxRecDepth 20000 in
theorem ggX2_span_X2_checkArgument : GoodIn wsX2_span wsX2_checkArgument := goodIn_ca (goodIn_r _ [17, 18, 19] (by decide +kernel) (by decide +kernel)) (goodIn_sub (fun _ h => List.mem_cons_of_mem _ (List.mem_append_left _ (List.mem_append_left _ (List.mem_append_right _ h)))) (by decide +kernel))
set_option maxRecDepth 20000 in
theorem gX2_span_X2_checkArgument : GoodIn wsX2_span (va_wsS RX2 49 yX2_checkArgument wsX2_checkArgument) := goodIn_app (goodIn_of _ (by decide +kernel)) ggX2_span_X2_checkArgument
set_option maxRecDepth 20000 in
theorem ggX2_span_X2_keepSpan : GoodIn wsX2_span wsX2_keepSpan := goodIn_ca (goodIn_ca (goodIn_r _ [23, 24, 25, 26, 7, 8, 3, 9, 10, 11, 12, 13, 14, 27, 28, 29, 30, 31, 32, 33, 34, 35, 36, 37, 38, 39, 40, 41, 42, 43, 44, 45, 46] (by decide +kernel) (by decide +kernel)) (goodIn_sub (fun _ h => List.mem_cons_of_mem _ (List.mem_append_left _ (List.mem_append_right _ h))) (by decide +kernel))) (goodIn_sub (fun _ h => List.mem_cons_of_mem _ (List.mem_append_right _ h)) (by decide +kernel))
set_option maxRecDepth 20000 in
theorem gX2_span_X2_keepSpan : GoodIn wsX2_span (wsV RX2 160 RX2 yX2_keepSpan wsX2_keepSpan) := goodIn_app (goodIn_of _ (by decide +kernel)) ggX2_span_X2_keepSpan
theorem dX2_span_0 : decode cX2_span 0 = .ok (.iload_n 1, 1) := by decide +kernel
theorem dX2_span_1 : decode cX2_span 1 = .ok (.iconst 4, 1) := by decide +kernel
theorem dX2_span_2 : decode cX2_span 2 = .ok (.invokestatic 41, 3) := by decide +kernel
theorem dX2_span_5 : decode cX2_span 5 = .ok (.iload_n 2, 1) := by decide +kernel
theorem dX2_span_6 : decode cX2_span 6 = .ok (.i2l, 1) := by decide +kernel
theorem dX2_span_7 : decode cX2_span 7 = .ok (.iload_n 3, 1) := by decide +kernel
theorem dX2_span_8 : decode cX2_span 8 = .ok (.i2l, 1) := by decide +kernel
theorem dX2_span_9 : decode cX2_span 9 = .ok (.iload 4, 2) := by decide +kernel
theorem dX2_span_11 : decode cX2_span 11 = .ok (.i2l, 1) := by decide +kernel
theorem dX2_span_12 : decode cX2_span 12 = .ok (.invokestatic 157, 3) := by decide +kernel
theorem dX2_span_15 : decode cX2_span 15 = .ok (.invokestatic 49, 3) := by decide +kernel
theorem dX2_span_18 : decode cX2_span 18 = .ok (.aload_n 0, 1) := by decide +kernel
theorem dX2_span_19 : decode cX2_span 19 = .ok (.iload_n 1, 1) := by decide +kernel
theorem dX2_span_20 : decode cX2_span 20 = .ok (.iload_n 2, 1) := by decide +kernel
theorem dX2_span_21 : decode cX2_span 21 = .ok (.i2l, 1) := by decide +kernel
theorem dX2_span_22 : decode cX2_span 22 = .ok (.iload_n 3, 1) := by decide +kernel
theorem dX2_span_23 : decode cX2_span 23 = .ok (.i2l, 1) := by decide +kernel
theorem dX2_span_24 : decode cX2_span 24 = .ok (.iload 4, 2) := by decide +kernel
theorem dX2_span_26 : decode cX2_span 26 = .ok (.i2l, 1) := by decide +kernel
theorem dX2_span_27 : decode cX2_span 27 = .ok (.invokevirtual 160, 3) := by decide +kernel
theorem dX2_span_30 : decode cX2_span 30 = .ok (.lreturn, 1) := by decide +kernel
set_option maxRecDepth 20000 in
theorem ggX2_until_X2_checkSlot : GoodIn wsX2_until wsX2_checkSlot := goodIn_ca (goodIn_r _ [6, 7, 8] (by decide +kernel) (by decide +kernel)) (goodIn_sub (fun _ h => List.mem_cons_of_mem _ (List.mem_append_left _ (List.mem_append_right _ h))) (by decide +kernel))
set_option maxRecDepth 20000 in
theorem gX2_until_X2_checkSlot : GoodIn wsX2_until (va_wsS RX2 41 yX2_checkSlot wsX2_checkSlot) := goodIn_app (goodIn_of _ (by decide +kernel)) ggX2_until_X2_checkSlot
set_option maxRecDepth 20000 in
theorem ggX2_until_X2_checkOutcome : GoodIn wsX2_until wsX2_checkOutcome := goodIn_ca (goodIn_r _ [11, 12, 13] (by decide +kernel) (by decide +kernel)) (goodIn_sub (fun _ h => List.mem_cons_of_mem _ (List.mem_append_right _ h)) (by decide +kernel))
set_option maxRecDepth 20000 in
theorem gX2_until_X2_checkOutcome : GoodIn wsX2_until (va_wsS RX2 164 yX2_checkOutcome wsX2_checkOutcome) := goodIn_app (goodIn_of _ (by decide +kernel)) ggX2_until_X2_checkOutcome
set_option maxRecDepth 20000 in
theorem ggX2_until_X1_wholeMonths : GoodIn wsX2_until wsX1_wholeMonths := goodIn_r _ [17, 18, 19, 20, 21, 22, 23, 24, 25, 26, 16, 27, 28, 29, 30, 31, 32, 33, 34, 35, 36, 37, 38, 39, 40, 41, 42, 43, 44, 45, 46, 47, 48, 49, 50, 51, 52, 53, 54, 55, 56, 57, 58, 59, 60, 61, 62, 63, 64, 65, 66, 67, 68] (by decide +kernel) (by decide +kernel)
set_option maxRecDepth 20000 in
theorem gX2_until_X1_wholeMonths : GoodIn wsX2_until (va_wsS RX2 152 yX1_wholeMonths wsX1_wholeMonths) := goodIn_app (goodIn_of _ (by decide +kernel)) ggX2_until_X1_wholeMonths
set_option maxRecDepth 20000 in
theorem ggX2_until_X1_plusMonths : GoodIn wsX2_until wsX1_plusMonths := goodIn_r _ [71, 25, 26, 16, 27, 28, 29, 30, 31, 32, 33, 34, 35, 36, 37, 38, 39, 40, 41, 42, 43, 44, 45, 46, 47, 48, 49, 50, 51, 52, 53, 54, 55, 56, 57, 58, 59, 60, 61, 62, 63, 64, 65, 66, 67, 68, 72, 73, 74, 18, 19, 20, 21, 75, 76, 77] (by decide +kernel) (by decide +kernel)
set_option maxRecDepth 20000 in
theorem gX2_until_X1_plusMonths : GoodIn wsX2_until (va_wsS RX2 123 yX1_plusMonths wsX1_plusMonths) := goodIn_app (goodIn_of _ (by decide +kernel)) ggX2_until_X1_plusMonths
set_option maxRecDepth 20000 in
theorem ggX2_until_X2_keepSpan : GoodIn wsX2_until wsX2_keepSpan := goodIn_ca (goodIn_ca (goodIn_r _ [81, 82, 83, 84, 85, 86, 5, 87, 88, 89, 90, 91, 92, 9, 10, 11, 12, 13, 93, 94, 95, 96, 2, 97, 98, 99, 100, 101, 102, 103, 104, 105, 106] (by decide +kernel) (by decide +kernel)) (goodIn_sub (fun _ h => List.mem_cons_of_mem _ (List.mem_append_left _ (List.mem_append_left _ (List.mem_append_right _ h)))) (by decide +kernel))) (goodIn_sub (fun _ h => List.mem_cons_of_mem _ (List.mem_append_right _ h)) (by decide +kernel))
set_option maxRecDepth 20000 in
theorem gX2_until_X2_keepSpan : GoodIn wsX2_until (wsV RX2 160 RX2 yX2_keepSpan wsX2_keepSpan) := goodIn_app (goodIn_of _ (by decide +kernel)) ggX2_until_X2_keepSpan
theorem dX2_until_0 : decode cX2_until 0 = .ok (.iload_n 1, 1) := by decide +kernel
theorem dX2_until_1 : decode cX2_until 1 = .ok (.bipush 6, 2) := by decide +kernel
theorem dX2_until_3 : decode cX2_until 3 = .ok (.invokestatic 41, 3) := by decide +kernel
theorem dX2_until_6 : decode cX2_until 6 = .ok (.iload_n 2, 1) := by decide +kernel
theorem dX2_until_7 : decode cX2_until 7 = .ok (.bipush 6, 2) := by decide +kernel
theorem dX2_until_9 : decode cX2_until 9 = .ok (.invokestatic 41, 3) := by decide +kernel
theorem dX2_until_12 : decode cX2_until 12 = .ok (.iload_n 3, 1) := by decide +kernel
theorem dX2_until_13 : decode cX2_until 13 = .ok (.iconst 4, 1) := by decide +kernel
theorem dX2_until_14 : decode cX2_until 14 = .ok (.invokestatic 41, 3) := by decide +kernel
theorem dX2_until_17 : decode cX2_until 17 = .ok (.aload_n 0, 1) := by decide +kernel
theorem dX2_until_18 : decode cX2_until 18 = .ok (.getfield 9, 3) := by decide +kernel
theorem dX2_until_21 : decode cX2_until 21 = .ok (.iload_n 1, 1) := by decide +kernel
theorem dX2_until_22 : decode cX2_until 22 = .ok (.laload, 1) := by decide +kernel
theorem dX2_until_23 : decode cX2_until 23 = .ok (.lstore 4, 2) := by decide +kernel
theorem dX2_until_25 : decode cX2_until 25 = .ok (.aload_n 0, 1) := by decide +kernel
theorem dX2_until_26 : decode cX2_until 26 = .ok (.getfield 9, 3) := by decide +kernel
theorem dX2_until_29 : decode cX2_until 29 = .ok (.iload_n 2, 1) := by decide +kernel
theorem dX2_until_30 : decode cX2_until 30 = .ok (.laload, 1) := by decide +kernel
theorem dX2_until_31 : decode cX2_until 31 = .ok (.lstore 6, 2) := by decide +kernel
theorem dX2_until_33 : decode cX2_until 33 = .ok (.lload 4, 2) := by decide +kernel
theorem dX2_until_35 : decode cX2_until 35 = .ok (.lload 6, 2) := by decide +kernel
theorem dX2_until_37 : decode cX2_until 37 = .ok (.lcmp, 1) := by decide +kernel
theorem dX2_until_38 : decode cX2_until 38 = .ok (.ifCond .gt 7, 3) := by decide +kernel
theorem dX2_until_41 : decode cX2_until 41 = .ok (.iconst 1, 1) := by decide +kernel
theorem dX2_until_42 : decode cX2_until 42 = .ok (.goto 4, 3) := by decide +kernel
theorem dX2_until_45 : decode cX2_until 45 = .ok (.iconst 0, 1) := by decide +kernel
theorem dX2_until_46 : decode cX2_until 46 = .ok (.invokestatic 164, 3) := by decide +kernel
theorem dX2_until_49 : decode cX2_until 49 = .ok (.lload 4, 2) := by decide +kernel
theorem dX2_until_51 : decode cX2_until 51 = .ok (.lload 6, 2) := by decide +kernel
theorem dX2_until_53 : decode cX2_until 53 = .ok (.invokestatic 152, 3) := by decide +kernel
theorem dX2_until_56 : decode cX2_until 56 = .ok (.lstore 8, 2) := by decide +kernel
theorem dX2_until_58 : decode cX2_until 58 = .ok (.aload_n 0, 1) := by decide +kernel
theorem dX2_until_59 : decode cX2_until 59 = .ok (.iload_n 3, 1) := by decide +kernel
theorem dX2_until_60 : decode cX2_until 60 = .ok (.lload 8, 2) := by decide +kernel
theorem dX2_until_62 : decode cX2_until 62 = .ok (.ldc2_w 53, 3) := by decide +kernel
theorem dX2_until_65 : decode cX2_until 65 = .ok (.ldiv, 1) := by decide +kernel
theorem dX2_until_66 : decode cX2_until 66 = .ok (.lload 8, 2) := by decide +kernel
theorem dX2_until_68 : decode cX2_until 68 = .ok (.ldc2_w 53, 3) := by decide +kernel
theorem dX2_until_71 : decode cX2_until 71 = .ok (.lrem, 1) := by decide +kernel
theorem dX2_until_72 : decode cX2_until 72 = .ok (.lload 6, 2) := by decide +kernel
theorem dX2_until_74 : decode cX2_until 74 = .ok (.lload 4, 2) := by decide +kernel
theorem dX2_until_76 : decode cX2_until 76 = .ok (.lload 8, 2) := by decide +kernel
theorem dX2_until_78 : decode cX2_until 78 = .ok (.invokestatic 123, 3) := by decide +kernel
theorem dX2_until_81 : decode cX2_until 81 = .ok (.lsub, 1) := by decide +kernel
theorem dX2_until_82 : decode cX2_until 82 = .ok (.invokevirtual 160, 3) := by decide +kernel
theorem dX2_until_85 : decode cX2_until 85 = .ok (.lreturn, 1) := by decide +kernel
set_option maxRecDepth 20000 in
theorem ggX2_go_X2_checkSlot : GoodIn wsX2_go wsX2_checkSlot := goodIn_ca (goodIn_r _ [6, 7, 8] (by decide +kernel) (by decide +kernel)) (goodIn_sub (fun _ h => List.mem_cons_of_mem _ (List.mem_append_left _ (List.mem_append_right _ h))) (by decide +kernel))
set_option maxRecDepth 20000 in
theorem gX2_go_X2_checkSlot : GoodIn wsX2_go (va_wsS RX2 41 yX2_checkSlot wsX2_checkSlot) := goodIn_app (goodIn_of _ (by decide +kernel)) ggX2_go_X2_checkSlot
set_option maxRecDepth 20000 in
theorem ggX2_go_X2_allMonths : GoodIn wsX2_go wsX2_allMonths := goodIn_ca (goodIn_r _ [12, 13, 14, 15, 88, 89, 90, 91, 92, 93, 94, 95, 96, 97] (by decide +kernel) (by decide +kernel)) (goodIn_sub (fun _ h => List.mem_cons_of_mem _ (List.mem_append_left _ (List.mem_append_left _ (List.mem_append_right _ h)))) (by decide +kernel))
set_option maxRecDepth 20000 in
theorem gX2_go_X2_allMonths : GoodIn wsX2_go (wsV RX2 167 RX2 yX2_allMonths wsX2_allMonths) := goodIn_app (goodIn_of _ (by decide +kernel)) ggX2_go_X2_allMonths
set_option maxRecDepth 20000 in
theorem ggX2_go_X1_plusMonths : GoodIn wsX2_go wsX1_plusMonths := goodIn_r _ [19, 20, 21, 18, 22, 23, 24, 25, 26, 27, 28, 29, 30, 31, 32, 33, 34, 35, 36, 37, 38, 39, 40, 41, 42, 43, 44, 45, 46, 47, 48, 49, 50, 51, 52, 53, 54, 55, 56, 57, 58, 59, 60, 61, 62, 63, 64, 65, 66, 67, 68, 69, 70, 71, 72, 73] (by decide +kernel) (by decide +kernel)
set_option maxRecDepth 20000 in
theorem gX2_go_X1_plusMonths : GoodIn wsX2_go (va_wsS RX2 123 yX1_plusMonths wsX1_plusMonths) := goodIn_app (goodIn_of _ (by decide +kernel)) ggX2_go_X1_plusMonths
set_option maxRecDepth 20000 in
theorem ggX2_go_X2_keepDate : GoodIn wsX2_go wsX2_keepDate := goodIn_ca (goodIn_ca (goodIn_r _ [77, 1, 78, 79, 18, 80, 81, 82, 83, 84, 5, 85, 86, 87, 88, 89, 90, 91, 92, 93, 94, 95, 96, 97] (by decide +kernel) (by decide +kernel)) (goodIn_sub (fun _ h => List.mem_cons_of_mem _ (List.mem_append_left _ (List.mem_append_left _ (List.mem_append_right _ h)))) (by decide +kernel))) (goodIn_sub (fun _ h => List.mem_cons_of_mem _ (List.mem_append_right _ h)) (by decide +kernel))
set_option maxRecDepth 20000 in
theorem gX2_go_X2_keepDate : GoodIn wsX2_go (wsV RX2 73 RX2 yX2_keepDate wsX2_keepDate) := goodIn_app (goodIn_of _ (by decide +kernel)) ggX2_go_X2_keepDate
theorem dX2_go_0 : decode cX2_go 0 = .ok (.iload_n 1, 1) := by decide +kernel
theorem dX2_go_1 : decode cX2_go 1 = .ok (.bipush 6, 2) := by decide +kernel
theorem dX2_go_3 : decode cX2_go 3 = .ok (.invokestatic 41, 3) := by decide +kernel
theorem dX2_go_6 : decode cX2_go 6 = .ok (.iload_n 2, 1) := by decide +kernel
theorem dX2_go_7 : decode cX2_go 7 = .ok (.iconst 4, 1) := by decide +kernel
theorem dX2_go_8 : decode cX2_go 8 = .ok (.invokestatic 41, 3) := by decide +kernel
theorem dX2_go_11 : decode cX2_go 11 = .ok (.iload 4, 2) := by decide +kernel
theorem dX2_go_13 : decode cX2_go 13 = .ok (.bipush 6, 2) := by decide +kernel
theorem dX2_go_15 : decode cX2_go 15 = .ok (.invokestatic 41, 3) := by decide +kernel
theorem dX2_go_18 : decode cX2_go 18 = .ok (.iload_n 3, 1) := by decide +kernel
theorem dX2_go_19 : decode cX2_go 19 = .ok (.ifCond .eq 7, 3) := by decide +kernel
theorem dX2_go_22 : decode cX2_go 22 = .ok (.iconst (-1), 1) := by decide +kernel
theorem dX2_go_23 : decode cX2_go 23 = .ok (.goto 4, 3) := by decide +kernel
theorem dX2_go_26 : decode cX2_go 26 = .ok (.iconst 1, 1) := by decide +kernel
theorem dX2_go_27 : decode cX2_go 27 = .ok (.istore 5, 2) := by decide +kernel
theorem dX2_go_29 : decode cX2_go 29 = .ok (.aload_n 0, 1) := by decide +kernel
theorem dX2_go_30 : decode cX2_go 30 = .ok (.getfield 9, 3) := by decide +kernel
theorem dX2_go_33 : decode cX2_go 33 = .ok (.iload_n 1, 1) := by decide +kernel
theorem dX2_go_34 : decode cX2_go 34 = .ok (.laload, 1) := by decide +kernel
theorem dX2_go_35 : decode cX2_go 35 = .ok (.iload 5, 2) := by decide +kernel
theorem dX2_go_37 : decode cX2_go 37 = .ok (.i2l, 1) := by decide +kernel
theorem dX2_go_38 : decode cX2_go 38 = .ok (.aload_n 0, 1) := by decide +kernel
theorem dX2_go_39 : decode cX2_go 39 = .ok (.iload_n 2, 1) := by decide +kernel
theorem dX2_go_40 : decode cX2_go 40 = .ok (.invokevirtual 167, 3) := by decide +kernel
theorem dX2_go_43 : decode cX2_go 43 = .ok (.lmul, 1) := by decide +kernel
theorem dX2_go_44 : decode cX2_go 44 = .ok (.invokestatic 123, 3) := by decide +kernel
theorem dX2_go_47 : decode cX2_go 47 = .ok (.lstore 6, 2) := by decide +kernel
theorem dX2_go_49 : decode cX2_go 49 = .ok (.aload_n 0, 1) := by decide +kernel
theorem dX2_go_50 : decode cX2_go 50 = .ok (.iload 4, 2) := by decide +kernel
theorem dX2_go_52 : decode cX2_go 52 = .ok (.lload 6, 2) := by decide +kernel
theorem dX2_go_54 : decode cX2_go 54 = .ok (.iload 5, 2) := by decide +kernel
theorem dX2_go_56 : decode cX2_go 56 = .ok (.aload_n 0, 1) := by decide +kernel
theorem dX2_go_57 : decode cX2_go 57 = .ok (.getfield 20, 3) := by decide +kernel
theorem dX2_go_60 : decode cX2_go 60 = .ok (.iload_n 2, 1) := by decide +kernel
theorem dX2_go_61 : decode cX2_go 61 = .ok (.iaload, 1) := by decide +kernel
theorem dX2_go_62 : decode cX2_go 62 = .ok (.imul, 1) := by decide +kernel
theorem dX2_go_63 : decode cX2_go 63 = .ok (.i2l, 1) := by decide +kernel
theorem dX2_go_64 : decode cX2_go 64 = .ok (.ladd, 1) := by decide +kernel
theorem dX2_go_65 : decode cX2_go 65 = .ok (.invokevirtual 73, 3) := by decide +kernel
theorem dX2_go_68 : decode cX2_go 68 = .ok (.lreturn, 1) := by decide +kernel
set_option maxRecDepth 20000 in
theorem ggX2_spanPart_X2_checkSlot : GoodIn wsX2_spanPart wsX2_checkSlot := goodIn_ca (goodIn_r _ [9, 10, 11] (by decide +kernel) (by decide +kernel)) (goodIn_sub (fun _ h => List.mem_cons_of_mem _ (List.mem_append_right _ h)) (by decide +kernel))
set_option maxRecDepth 20000 in
theorem gX2_spanPart_X2_checkSlot : GoodIn wsX2_spanPart (va_wsS RX2 41 yX2_checkSlot wsX2_checkSlot) := goodIn_app (goodIn_of _ (by decide +kernel)) ggX2_spanPart_X2_checkSlot
theorem dX2_spanPart_0 : decode cX2_spanPart 0 = .ok (.iload_n 1, 1) := by decide +kernel
theorem dX2_spanPart_1 : decode cX2_spanPart 1 = .ok (.iconst 4, 1) := by decide +kernel
theorem dX2_spanPart_2 : decode cX2_spanPart 2 = .ok (.invokestatic 41, 3) := by decide +kernel
theorem dX2_spanPart_5 : decode cX2_spanPart 5 = .ok (.iload_n 2, 1) := by decide +kernel
theorem dX2_spanPart_6 : decode cX2_spanPart 6 = .ok (.lookupswitch 55 #[(100, 48), (109, 41), (121, 34)], 34) := by decide +kernel
theorem dX2_spanPart_40 : decode cX2_spanPart 40 = .ok (.aload_n 0, 1) := by decide +kernel
theorem dX2_spanPart_41 : decode cX2_spanPart 41 = .ok (.getfield 13, 3) := by decide +kernel
theorem dX2_spanPart_44 : decode cX2_spanPart 44 = .ok (.iload_n 1, 1) := by decide +kernel
theorem dX2_spanPart_45 : decode cX2_spanPart 45 = .ok (.iaload, 1) := by decide +kernel
theorem dX2_spanPart_46 : decode cX2_spanPart 46 = .ok (.ireturn, 1) := by decide +kernel
theorem dX2_spanPart_47 : decode cX2_spanPart 47 = .ok (.aload_n 0, 1) := by decide +kernel
theorem dX2_spanPart_48 : decode cX2_spanPart 48 = .ok (.getfield 17, 3) := by decide +kernel
theorem dX2_spanPart_51 : decode cX2_spanPart 51 = .ok (.iload_n 1, 1) := by decide +kernel
theorem dX2_spanPart_52 : decode cX2_spanPart 52 = .ok (.iaload, 1) := by decide +kernel
theorem dX2_spanPart_53 : decode cX2_spanPart 53 = .ok (.ireturn, 1) := by decide +kernel
theorem dX2_spanPart_54 : decode cX2_spanPart 54 = .ok (.aload_n 0, 1) := by decide +kernel
theorem dX2_spanPart_55 : decode cX2_spanPart 55 = .ok (.getfield 20, 3) := by decide +kernel
theorem dX2_spanPart_58 : decode cX2_spanPart 58 = .ok (.iload_n 1, 1) := by decide +kernel
theorem dX2_spanPart_59 : decode cX2_spanPart 59 = .ok (.iaload, 1) := by decide +kernel
theorem dX2_spanPart_60 : decode cX2_spanPart 60 = .ok (.ireturn, 1) := by decide +kernel
theorem dX2_spanPart_61 : decode cX2_spanPart 61 = .ok (.new 101, 3) := by decide +kernel
theorem dX2_spanPart_64 : decode cX2_spanPart 64 = .ok (.dup, 1) := by decide +kernel
theorem dX2_spanPart_65 : decode cX2_spanPart 65 = .ok (.ldc 171, 2) := by decide +kernel
theorem dX2_spanPart_67 : decode cX2_spanPart 67 = .ok (.invokespecial 105, 3) := by decide +kernel
theorem dX2_spanPart_70 : decode cX2_spanPart 70 = .ok (.athrow, 1) := by decide +kernel
set_option maxRecDepth 20000 in
theorem ggX2_addSpan_X2_checkSlot : GoodIn wsX2_addSpan wsX2_checkSlot := goodIn_ca (goodIn_r _ [8, 9, 10] (by decide +kernel) (by decide +kernel)) (goodIn_sub (fun _ h => List.mem_cons_of_mem _ (List.mem_append_left _ (List.mem_append_right _ h))) (by decide +kernel))
set_option maxRecDepth 20000 in
theorem gX2_addSpan_X2_checkSlot : GoodIn wsX2_addSpan (va_wsS RX2 41 yX2_checkSlot wsX2_checkSlot) := goodIn_app (goodIn_of _ (by decide +kernel)) ggX2_addSpan_X2_checkSlot
set_option maxRecDepth 20000 in
theorem ggX2_addSpan_X2_keepSpan : GoodIn wsX2_addSpan wsX2_keepSpan := goodIn_ca (goodIn_ca (goodIn_r _ [14, 2, 3, 4, 15, 16, 7, 17, 18, 19, 20, 21, 22, 23, 24, 25, 26, 27, 28, 29, 30, 31, 32, 33, 34, 35, 36, 37, 38, 39, 40, 41, 42] (by decide +kernel) (by decide +kernel)) (goodIn_sub (fun _ h => List.mem_cons_of_mem _ (List.mem_append_left _ (List.mem_append_left _ (List.mem_append_right _ h)))) (by decide +kernel))) (goodIn_sub (fun _ h => List.mem_cons_of_mem _ (List.mem_append_right _ h)) (by decide +kernel))
set_option maxRecDepth 20000 in
theorem gX2_addSpan_X2_keepSpan : GoodIn wsX2_addSpan (wsV RX2 160 RX2 yX2_keepSpan wsX2_keepSpan) := goodIn_app (goodIn_of _ (by decide +kernel)) ggX2_addSpan_X2_keepSpan
theorem dX2_addSpan_0 : decode cX2_addSpan 0 = .ok (.iload_n 1, 1) := by decide +kernel
theorem dX2_addSpan_1 : decode cX2_addSpan 1 = .ok (.iconst 4, 1) := by decide +kernel
theorem dX2_addSpan_2 : decode cX2_addSpan 2 = .ok (.invokestatic 41, 3) := by decide +kernel
theorem dX2_addSpan_5 : decode cX2_addSpan 5 = .ok (.iload_n 2, 1) := by decide +kernel
theorem dX2_addSpan_6 : decode cX2_addSpan 6 = .ok (.iconst 4, 1) := by decide +kernel
theorem dX2_addSpan_7 : decode cX2_addSpan 7 = .ok (.invokestatic 41, 3) := by decide +kernel
theorem dX2_addSpan_10 : decode cX2_addSpan 10 = .ok (.iload 4, 2) := by decide +kernel
theorem dX2_addSpan_12 : decode cX2_addSpan 12 = .ok (.iconst 4, 1) := by decide +kernel
theorem dX2_addSpan_13 : decode cX2_addSpan 13 = .ok (.invokestatic 41, 3) := by decide +kernel
theorem dX2_addSpan_16 : decode cX2_addSpan 16 = .ok (.iload_n 3, 1) := by decide +kernel
theorem dX2_addSpan_17 : decode cX2_addSpan 17 = .ok (.ifCond .eq 9, 3) := by decide +kernel
theorem dX2_addSpan_20 : decode cX2_addSpan 20 = .ok (.ldc2_w 173, 3) := by decide +kernel
theorem dX2_addSpan_23 : decode cX2_addSpan 23 = .ok (.goto 4, 3) := by decide +kernel
theorem dX2_addSpan_26 : decode cX2_addSpan 26 = .ok (.lconst 1, 1) := by decide +kernel
theorem dX2_addSpan_27 : decode cX2_addSpan 27 = .ok (.lstore 5, 2) := by decide +kernel
theorem dX2_addSpan_29 : decode cX2_addSpan 29 = .ok (.aload_n 0, 1) := by decide +kernel
theorem dX2_addSpan_30 : decode cX2_addSpan 30 = .ok (.getfield 13, 3) := by decide +kernel
theorem dX2_addSpan_33 : decode cX2_addSpan 33 = .ok (.iload_n 1, 1) := by decide +kernel
theorem dX2_addSpan_34 : decode cX2_addSpan 34 = .ok (.iaload, 1) := by decide +kernel
theorem dX2_addSpan_35 : decode cX2_addSpan 35 = .ok (.i2l, 1) := by decide +kernel
theorem dX2_addSpan_36 : decode cX2_addSpan 36 = .ok (.lload 5, 2) := by decide +kernel
theorem dX2_addSpan_38 : decode cX2_addSpan 38 = .ok (.aload_n 0, 1) := by decide +kernel
theorem dX2_addSpan_39 : decode cX2_addSpan 39 = .ok (.getfield 13, 3) := by decide +kernel
theorem dX2_addSpan_42 : decode cX2_addSpan 42 = .ok (.iload_n 2, 1) := by decide +kernel
theorem dX2_addSpan_43 : decode cX2_addSpan 43 = .ok (.iaload, 1) := by decide +kernel
theorem dX2_addSpan_44 : decode cX2_addSpan 44 = .ok (.i2l, 1) := by decide +kernel
theorem dX2_addSpan_45 : decode cX2_addSpan 45 = .ok (.lmul, 1) := by decide +kernel
theorem dX2_addSpan_46 : decode cX2_addSpan 46 = .ok (.ladd, 1) := by decide +kernel
theorem dX2_addSpan_47 : decode cX2_addSpan 47 = .ok (.lstore 7, 2) := by decide +kernel
theorem dX2_addSpan_49 : decode cX2_addSpan 49 = .ok (.aload_n 0, 1) := by decide +kernel
theorem dX2_addSpan_50 : decode cX2_addSpan 50 = .ok (.getfield 17, 3) := by decide +kernel
theorem dX2_addSpan_53 : decode cX2_addSpan 53 = .ok (.iload_n 1, 1) := by decide +kernel
theorem dX2_addSpan_54 : decode cX2_addSpan 54 = .ok (.iaload, 1) := by decide +kernel
theorem dX2_addSpan_55 : decode cX2_addSpan 55 = .ok (.i2l, 1) := by decide +kernel
theorem dX2_addSpan_56 : decode cX2_addSpan 56 = .ok (.lload 5, 2) := by decide +kernel
theorem dX2_addSpan_58 : decode cX2_addSpan 58 = .ok (.aload_n 0, 1) := by decide +kernel
theorem dX2_addSpan_59 : decode cX2_addSpan 59 = .ok (.getfield 17, 3) := by decide +kernel
theorem dX2_addSpan_62 : decode cX2_addSpan 62 = .ok (.iload_n 2, 1) := by decide +kernel
theorem dX2_addSpan_63 : decode cX2_addSpan 63 = .ok (.iaload, 1) := by decide +kernel
theorem dX2_addSpan_64 : decode cX2_addSpan 64 = .ok (.i2l, 1) := by decide +kernel
theorem dX2_addSpan_65 : decode cX2_addSpan 65 = .ok (.lmul, 1) := by decide +kernel
theorem dX2_addSpan_66 : decode cX2_addSpan 66 = .ok (.ladd, 1) := by decide +kernel
theorem dX2_addSpan_67 : decode cX2_addSpan 67 = .ok (.lstore 9, 2) := by decide +kernel
theorem dX2_addSpan_69 : decode cX2_addSpan 69 = .ok (.aload_n 0, 1) := by decide +kernel
theorem dX2_addSpan_70 : decode cX2_addSpan 70 = .ok (.getfield 20, 3) := by decide +kernel
theorem dX2_addSpan_73 : decode cX2_addSpan 73 = .ok (.iload_n 1, 1) := by decide +kernel
theorem dX2_addSpan_74 : decode cX2_addSpan 74 = .ok (.iaload, 1) := by decide +kernel
theorem dX2_addSpan_75 : decode cX2_addSpan 75 = .ok (.i2l, 1) := by decide +kernel
theorem dX2_addSpan_76 : decode cX2_addSpan 76 = .ok (.lload 5, 2) := by decide +kernel
theorem dX2_addSpan_78 : decode cX2_addSpan 78 = .ok (.aload_n 0, 1) := by decide +kernel
theorem dX2_addSpan_79 : decode cX2_addSpan 79 = .ok (.getfield 20, 3) := by decide +kernel
theorem dX2_addSpan_82 : decode cX2_addSpan 82 = .ok (.iload_n 2, 1) := by decide +kernel
theorem dX2_addSpan_83 : decode cX2_addSpan 83 = .ok (.iaload, 1) := by decide +kernel
theorem dX2_addSpan_84 : decode cX2_addSpan 84 = .ok (.i2l, 1) := by decide +kernel
theorem dX2_addSpan_85 : decode cX2_addSpan 85 = .ok (.lmul, 1) := by decide +kernel
theorem dX2_addSpan_86 : decode cX2_addSpan 86 = .ok (.ladd, 1) := by decide +kernel
theorem dX2_addSpan_87 : decode cX2_addSpan 87 = .ok (.lstore 11, 2) := by decide +kernel
theorem dX2_addSpan_89 : decode cX2_addSpan 89 = .ok (.aload_n 0, 1) := by decide +kernel
theorem dX2_addSpan_90 : decode cX2_addSpan 90 = .ok (.iload 4, 2) := by decide +kernel
theorem dX2_addSpan_92 : decode cX2_addSpan 92 = .ok (.lload 7, 2) := by decide +kernel
theorem dX2_addSpan_94 : decode cX2_addSpan 94 = .ok (.lload 9, 2) := by decide +kernel
theorem dX2_addSpan_96 : decode cX2_addSpan 96 = .ok (.lload 11, 2) := by decide +kernel
theorem dX2_addSpan_98 : decode cX2_addSpan 98 = .ok (.invokevirtual 160, 3) := by decide +kernel
theorem dX2_addSpan_101 : decode cX2_addSpan 101 = .ok (.lreturn, 1) := by decide +kernel
set_option maxRecDepth 20000 in
theorem ggX2_timesSpan_X2_checkSlot : GoodIn wsX2_timesSpan wsX2_checkSlot := goodIn_ca (goodIn_r _ [9, 10, 11] (by decide +kernel) (by decide +kernel)) (goodIn_sub (fun _ h => List.mem_cons_of_mem _ (List.mem_append_left _ (List.mem_append_left _ (List.mem_append_right _ h)))) (by decide +kernel))
set_option maxRecDepth 20000 in
theorem gX2_timesSpan_X2_checkSlot : GoodIn wsX2_timesSpan (va_wsS RX2 41 yX2_checkSlot wsX2_checkSlot) := goodIn_app (goodIn_of _ (by decide +kernel)) ggX2_timesSpan_X2_checkSlot
set_option maxRecDepth 20000 in
theorem ggX2_timesSpan_X2_isIn : GoodIn wsX2_timesSpan wsX2_isIn := goodIn_r _ [14] (by decide +kernel) (by decide +kernel)
set_option maxRecDepth 20000 in
theorem gX2_timesSpan_X2_isIn : GoodIn wsX2_timesSpan (va_wsS RX2 55 yX2_isIn wsX2_isIn) := goodIn_app (goodIn_of _ (by decide +kernel)) ggX2_timesSpan_X2_isIn
set_option maxRecDepth 20000 in
theorem ggX2_timesSpan_X2_checkArgument : GoodIn wsX2_timesSpan wsX2_checkArgument := goodIn_ca (goodIn_r _ [17, 18, 19] (by decide +kernel) (by decide +kernel)) (goodIn_sub (fun _ h => List.mem_cons_of_mem _ (List.mem_append_left _ (List.mem_append_right _ h))) (by decide +kernel))
set_option maxRecDepth 20000 in
theorem gX2_timesSpan_X2_checkArgument : GoodIn wsX2_timesSpan (va_wsS RX2 49 yX2_checkArgument wsX2_checkArgument) := goodIn_app (goodIn_of _ (by decide +kernel)) ggX2_timesSpan_X2_checkArgument
set_option maxRecDepth 20000 in
theorem ggX2_timesSpan_X2_keepSpan : GoodIn wsX2_timesSpan wsX2_keepSpan := goodIn_ca (goodIn_ca (goodIn_r _ [23, 3, 4, 5, 24, 25, 8, 26, 27, 28, 12, 13, 14, 29, 30, 31, 32, 33, 34, 35, 36, 37, 38, 39, 40, 41, 42, 43, 44, 45, 46, 47, 48] (by decide +kernel) (by decide +kernel)) (goodIn_sub (fun _ h => List.mem_cons_of_mem _ (List.mem_append_left _ (List.mem_append_left _ (List.mem_append_left _ (List.mem_append_right _ h))))) (by decide +kernel))) (goodIn_sub (fun _ h => List.mem_cons_of_mem _ (List.mem_append_right _ h)) (by decide +kernel))
set_option maxRecDepth 20000 in
theorem gX2_timesSpan_X2_keepSpan : GoodIn wsX2_timesSpan (wsV RX2 160 RX2 yX2_keepSpan wsX2_keepSpan) := goodIn_app (goodIn_of _ (by decide +kernel)) ggX2_timesSpan_X2_keepSpan
theorem dX2_timesSpan_0 : decode cX2_timesSpan 0 = .ok (.iload_n 1, 1) := by decide +kernel
theorem dX2_timesSpan_1 : decode cX2_timesSpan 1 = .ok (.iconst 4, 1) := by decide +kernel
theorem dX2_timesSpan_2 : decode cX2_timesSpan 2 = .ok (.invokestatic 41, 3) := by decide +kernel
theorem dX2_timesSpan_5 : decode cX2_timesSpan 5 = .ok (.iload_n 3, 1) := by decide +kernel
theorem dX2_timesSpan_6 : decode cX2_timesSpan 6 = .ok (.iconst 4, 1) := by decide +kernel
theorem dX2_timesSpan_7 : decode cX2_timesSpan 7 = .ok (.invokestatic 41, 3) := by decide +kernel
theorem dX2_timesSpan_10 : decode cX2_timesSpan 10 = .ok (.iload_n 2, 1) := by decide +kernel
theorem dX2_timesSpan_11 : decode cX2_timesSpan 11 = .ok (.i2l, 1) := by decide +kernel
theorem dX2_timesSpan_12 : decode cX2_timesSpan 12 = .ok (.ldc2_w 175, 3) := by decide +kernel
theorem dX2_timesSpan_15 : decode cX2_timesSpan 15 = .ok (.ldc2_w 177, 3) := by decide +kernel
theorem dX2_timesSpan_18 : decode cX2_timesSpan 18 = .ok (.invokestatic 55, 3) := by decide +kernel
theorem dX2_timesSpan_21 : decode cX2_timesSpan 21 = .ok (.invokestatic 49, 3) := by decide +kernel
theorem dX2_timesSpan_24 : decode cX2_timesSpan 24 = .ok (.aload_n 0, 1) := by decide +kernel
theorem dX2_timesSpan_25 : decode cX2_timesSpan 25 = .ok (.iload_n 3, 1) := by decide +kernel
theorem dX2_timesSpan_26 : decode cX2_timesSpan 26 = .ok (.iload_n 2, 1) := by decide +kernel
theorem dX2_timesSpan_27 : decode cX2_timesSpan 27 = .ok (.aload_n 0, 1) := by decide +kernel
theorem dX2_timesSpan_28 : decode cX2_timesSpan 28 = .ok (.getfield 13, 3) := by decide +kernel
theorem dX2_timesSpan_31 : decode cX2_timesSpan 31 = .ok (.iload_n 1, 1) := by decide +kernel
theorem dX2_timesSpan_32 : decode cX2_timesSpan 32 = .ok (.iaload, 1) := by decide +kernel
theorem dX2_timesSpan_33 : decode cX2_timesSpan 33 = .ok (.imul, 1) := by decide +kernel
theorem dX2_timesSpan_34 : decode cX2_timesSpan 34 = .ok (.i2l, 1) := by decide +kernel
theorem dX2_timesSpan_35 : decode cX2_timesSpan 35 = .ok (.iload_n 2, 1) := by decide +kernel
theorem dX2_timesSpan_36 : decode cX2_timesSpan 36 = .ok (.aload_n 0, 1) := by decide +kernel
theorem dX2_timesSpan_37 : decode cX2_timesSpan 37 = .ok (.getfield 17, 3) := by decide +kernel
theorem dX2_timesSpan_40 : decode cX2_timesSpan 40 = .ok (.iload_n 1, 1) := by decide +kernel
theorem dX2_timesSpan_41 : decode cX2_timesSpan 41 = .ok (.iaload, 1) := by decide +kernel
theorem dX2_timesSpan_42 : decode cX2_timesSpan 42 = .ok (.imul, 1) := by decide +kernel
theorem dX2_timesSpan_43 : decode cX2_timesSpan 43 = .ok (.i2l, 1) := by decide +kernel
theorem dX2_timesSpan_44 : decode cX2_timesSpan 44 = .ok (.iload_n 2, 1) := by decide +kernel
theorem dX2_timesSpan_45 : decode cX2_timesSpan 45 = .ok (.aload_n 0, 1) := by decide +kernel
theorem dX2_timesSpan_46 : decode cX2_timesSpan 46 = .ok (.getfield 20, 3) := by decide +kernel
theorem dX2_timesSpan_49 : decode cX2_timesSpan 49 = .ok (.iload_n 1, 1) := by decide +kernel
theorem dX2_timesSpan_50 : decode cX2_timesSpan 50 = .ok (.iaload, 1) := by decide +kernel
theorem dX2_timesSpan_51 : decode cX2_timesSpan 51 = .ok (.imul, 1) := by decide +kernel
theorem dX2_timesSpan_52 : decode cX2_timesSpan 52 = .ok (.i2l, 1) := by decide +kernel
theorem dX2_timesSpan_53 : decode cX2_timesSpan 53 = .ok (.invokevirtual 160, 3) := by decide +kernel
theorem dX2_timesSpan_56 : decode cX2_timesSpan 56 = .ok (.lreturn, 1) := by decide +kernel
set_option maxRecDepth 20000 in
theorem ggX2_plainSpan_X2_checkSlot : GoodIn wsX2_plainSpan wsX2_checkSlot := goodIn_ca (goodIn_r _ [6, 7, 8] (by decide +kernel) (by decide +kernel)) (goodIn_sub (fun _ h => List.mem_cons_of_mem _ (List.mem_append_left _ (List.mem_append_right _ h))) (by decide +kernel))
set_option maxRecDepth 20000 in
theorem gX2_plainSpan_X2_checkSlot : GoodIn wsX2_plainSpan (va_wsS RX2 41 yX2_checkSlot wsX2_checkSlot) := goodIn_app (goodIn_of _ (by decide +kernel)) ggX2_plainSpan_X2_checkSlot
set_option maxRecDepth 20000 in
theorem ggX2_plainSpan_X2_allMonths : GoodIn wsX2_plainSpan wsX2_allMonths := goodIn_ca (goodIn_r _ [12, 1, 13, 14, 32, 33, 34, 35, 36, 37, 38, 39, 40, 41] (by decide +kernel) (by decide +kernel)) (goodIn_sub (fun _ h => List.mem_cons_of_mem _ (List.mem_append_left _ (List.mem_append_left _ (List.mem_append_right _ h)))) (by decide +kernel))
set_option maxRecDepth 20000 in
theorem gX2_plainSpan_X2_allMonths : GoodIn wsX2_plainSpan (wsV RX2 167 RX2 yX2_allMonths wsX2_allMonths) := goodIn_app (goodIn_of _ (by decide +kernel)) ggX2_plainSpan_X2_allMonths
set_option maxRecDepth 20000 in
theorem ggX2_plainSpan_X2_keepSpan : GoodIn wsX2_plainSpan wsX2_keepSpan := goodIn_ca (goodIn_ca (goodIn_r _ [18, 13, 14, 2, 19, 20, 5, 21, 22, 23, 24, 25, 26, 27, 28, 29, 30, 31, 9, 10, 11, 12, 1, 32, 33, 34, 35, 36, 37, 38, 39, 40, 41] (by decide +kernel) (by decide +kernel)) (goodIn_sub (fun _ h => List.mem_cons_of_mem _ (List.mem_append_left _ (List.mem_append_left _ (List.mem_append_right _ h)))) (by decide +kernel))) (goodIn_sub (fun _ h => List.mem_cons_of_mem _ (List.mem_append_right _ h)) (by decide +kernel))
set_option maxRecDepth 20000 in
theorem gX2_plainSpan_X2_keepSpan : GoodIn wsX2_plainSpan (wsV RX2 160 RX2 yX2_keepSpan wsX2_keepSpan) := goodIn_app (goodIn_of _ (by decide +kernel)) ggX2_plainSpan_X2_keepSpan
theorem dX2_plainSpan_0 : decode cX2_plainSpan 0 = .ok (.iload_n 1, 1) := by decide +kernel
theorem dX2_plainSpan_1 : decode cX2_plainSpan 1 = .ok (.iconst 4, 1) := by decide +kernel
theorem dX2_plainSpan_2 : decode cX2_plainSpan 2 = .ok (.invokestatic 41, 3) := by decide +kernel
theorem dX2_plainSpan_5 : decode cX2_plainSpan 5 = .ok (.iload_n 2, 1) := by decide +kernel
theorem dX2_plainSpan_6 : decode cX2_plainSpan 6 = .ok (.iconst 4, 1) := by decide +kernel
theorem dX2_plainSpan_7 : decode cX2_plainSpan 7 = .ok (.invokestatic 41, 3) := by decide +kernel
theorem dX2_plainSpan_10 : decode cX2_plainSpan 10 = .ok (.aload_n 0, 1) := by decide +kernel
theorem dX2_plainSpan_11 : decode cX2_plainSpan 11 = .ok (.iload_n 1, 1) := by decide +kernel
theorem dX2_plainSpan_12 : decode cX2_plainSpan 12 = .ok (.invokevirtual 167, 3) := by decide +kernel
theorem dX2_plainSpan_15 : decode cX2_plainSpan 15 = .ok (.lstore_n 3, 1) := by decide +kernel
theorem dX2_plainSpan_16 : decode cX2_plainSpan 16 = .ok (.aload_n 0, 1) := by decide +kernel
theorem dX2_plainSpan_17 : decode cX2_plainSpan 17 = .ok (.iload_n 2, 1) := by decide +kernel
theorem dX2_plainSpan_18 : decode cX2_plainSpan 18 = .ok (.lload_n 3, 1) := by decide +kernel
theorem dX2_plainSpan_19 : decode cX2_plainSpan 19 = .ok (.ldc2_w 53, 3) := by decide +kernel
theorem dX2_plainSpan_22 : decode cX2_plainSpan 22 = .ok (.ldiv, 1) := by decide +kernel
theorem dX2_plainSpan_23 : decode cX2_plainSpan 23 = .ok (.lload_n 3, 1) := by decide +kernel
theorem dX2_plainSpan_24 : decode cX2_plainSpan 24 = .ok (.ldc2_w 53, 3) := by decide +kernel
theorem dX2_plainSpan_27 : decode cX2_plainSpan 27 = .ok (.lrem, 1) := by decide +kernel
theorem dX2_plainSpan_28 : decode cX2_plainSpan 28 = .ok (.aload_n 0, 1) := by decide +kernel
theorem dX2_plainSpan_29 : decode cX2_plainSpan 29 = .ok (.getfield 20, 3) := by decide +kernel
theorem dX2_plainSpan_32 : decode cX2_plainSpan 32 = .ok (.iload_n 1, 1) := by decide +kernel
theorem dX2_plainSpan_33 : decode cX2_plainSpan 33 = .ok (.iaload, 1) := by decide +kernel
theorem dX2_plainSpan_34 : decode cX2_plainSpan 34 = .ok (.i2l, 1) := by decide +kernel
theorem dX2_plainSpan_35 : decode cX2_plainSpan 35 = .ok (.invokevirtual 160, 3) := by decide +kernel
theorem dX2_plainSpan_38 : decode cX2_plainSpan 38 = .ok (.lreturn, 1) := by decide +kernel
set_option maxRecDepth 20000 in
theorem ggX2_month_X2_checkSlot : GoodIn wsX2_month wsX2_checkSlot := goodIn_ca (goodIn_r _ [5, 6, 7] (by decide +kernel) (by decide +kernel)) (goodIn_sub (fun _ h => List.mem_cons_of_mem _ (List.mem_append_left _ (List.mem_append_left _ (List.mem_append_left _ (List.mem_append_right _ h))))) (by decide +kernel))
set_option maxRecDepth 20000 in
theorem gX2_month_X2_checkSlot : GoodIn wsX2_month (va_wsS RX2 41 yX2_checkSlot wsX2_checkSlot) := goodIn_app (goodIn_of _ (by decide +kernel)) ggX2_month_X2_checkSlot
set_option maxRecDepth 20000 in
theorem ggX2_month_X2_isIn : GoodIn wsX2_month wsX2_isIn := goodIn_r _ [10] (by decide +kernel) (by decide +kernel)
set_option maxRecDepth 20000 in
theorem gX2_month_X2_isIn : GoodIn wsX2_month (va_wsS RX2 55 yX2_isIn wsX2_isIn) := goodIn_app (goodIn_of _ (by decide +kernel)) ggX2_month_X2_isIn
set_option maxRecDepth 20000 in
theorem ggX2_month_X2_checkArgument : GoodIn wsX2_month wsX2_checkArgument := goodIn_ca (goodIn_r _ [13, 14, 15] (by decide +kernel) (by decide +kernel)) (goodIn_sub (fun _ h => List.mem_cons_of_mem _ (List.mem_append_left _ (List.mem_append_left _ (List.mem_append_right _ h)))) (by decide +kernel))
set_option maxRecDepth 20000 in
theorem gX2_month_X2_checkArgument : GoodIn wsX2_month (va_wsS RX2 49 yX2_checkArgument wsX2_checkArgument) := goodIn_app (goodIn_of _ (by decide +kernel)) ggX2_month_X2_checkArgument
set_option maxRecDepth 20000 in
theorem ggX2_month_X2_isYear : GoodIn wsX2_month wsX2_isYear := goodIn_r _ [18, 19, 20, 8, 9, 4, 10] (by decide +kernel) (by decide +kernel)
set_option maxRecDepth 20000 in
theorem gX2_month_X2_isYear : GoodIn wsX2_month (va_wsS RX2 45 yX2_isYear wsX2_isYear) := goodIn_app (goodIn_of _ (by decide +kernel)) ggX2_month_X2_isYear
set_option maxRecDepth 20000 in
theorem ggX2_month_X1_monthIndex : GoodIn wsX2_month wsX1_monthIndex := goodIn_r _ [24, 25] (by decide +kernel) (by decide +kernel)
set_option maxRecDepth 20000 in
theorem gX2_month_X1_monthIndex : GoodIn wsX2_month (va_wsS RX2 59 yX1_monthIndex wsX1_monthIndex) := goodIn_app (goodIn_of _ (by decide +kernel)) ggX2_month_X1_monthIndex
set_option maxRecDepth 20000 in
theorem ggX2_month_X2_keepMonth : GoodIn wsX2_month wsX2_keepMonth := goodIn_ca (goodIn_ca (goodIn_r _ [29, 30, 31, 32, 23, 33, 25, 34, 35, 36, 37, 16, 17, 4, 18, 19, 20, 8, 9, 10, 38, 39, 40, 41, 42, 43, 44, 45, 46, 47, 48, 49, 50, 51, 52, 53, 54, 55, 56, 57, 58, 59, 60, 61, 62, 63, 64, 65, 66, 67, 68] (by decide +kernel) (by decide +kernel)) (goodIn_sub (fun _ h => List.mem_cons_of_mem _ (List.mem_append_left _ (List.mem_append_right _ h))) (by decide +kernel))) (goodIn_sub (fun _ h => List.mem_cons_of_mem _ (List.mem_append_right _ h)) (by decide +kernel))
set_option maxRecDepth 20000 in
theorem gX2_month_X2_keepMonth : GoodIn wsX2_month (wsV RX2 179 RX2 yX2_keepMonth wsX2_keepMonth) := goodIn_app (goodIn_of _ (by decide +kernel)) ggX2_month_X2_keepMonth
theorem dX2_month_0 : decode cX2_month 0 = .ok (.iload_n 1, 1) := by decide +kernel
theorem dX2_month_1 : decode cX2_month 1 = .ok (.iconst 4, 1) := by decide +kernel
theorem dX2_month_2 : decode cX2_month 2 = .ok (.invokestatic 41, 3) := by decide +kernel
theorem dX2_month_5 : decode cX2_month 5 = .ok (.iload_n 3, 1) := by decide +kernel
theorem dX2_month_6 : decode cX2_month 6 = .ok (.i2l, 1) := by decide +kernel
theorem dX2_month_7 : decode cX2_month 7 = .ok (.lconst 1, 1) := by decide +kernel
theorem dX2_month_8 : decode cX2_month 8 = .ok (.ldc2_w 53, 3) := by decide +kernel
theorem dX2_month_11 : decode cX2_month 11 = .ok (.invokestatic 55, 3) := by decide +kernel
theorem dX2_month_14 : decode cX2_month 14 = .ok (.invokestatic 49, 3) := by decide +kernel
theorem dX2_month_17 : decode cX2_month 17 = .ok (.iload_n 2, 1) := by decide +kernel
theorem dX2_month_18 : decode cX2_month 18 = .ok (.i2l, 1) := by decide +kernel
theorem dX2_month_19 : decode cX2_month 19 = .ok (.invokestatic 45, 3) := by decide +kernel
theorem dX2_month_22 : decode cX2_month 22 = .ok (.invokestatic 49, 3) := by decide +kernel
theorem dX2_month_25 : decode cX2_month 25 = .ok (.aload_n 0, 1) := by decide +kernel
theorem dX2_month_26 : decode cX2_month 26 = .ok (.iload_n 1, 1) := by decide +kernel
theorem dX2_month_27 : decode cX2_month 27 = .ok (.iload_n 2, 1) := by decide +kernel
theorem dX2_month_28 : decode cX2_month 28 = .ok (.i2l, 1) := by decide +kernel
theorem dX2_month_29 : decode cX2_month 29 = .ok (.iload_n 3, 1) := by decide +kernel
theorem dX2_month_30 : decode cX2_month 30 = .ok (.i2l, 1) := by decide +kernel
theorem dX2_month_31 : decode cX2_month 31 = .ok (.invokestatic 59, 3) := by decide +kernel
theorem dX2_month_34 : decode cX2_month 34 = .ok (.invokevirtual 179, 3) := by decide +kernel
theorem dX2_month_37 : decode cX2_month 37 = .ok (.ireturn, 1) := by decide +kernel
set_option maxRecDepth 20000 in
theorem ggX2_moveMonth_X2_checkSlot : GoodIn wsX2_moveMonth wsX2_checkSlot := goodIn_ca (goodIn_r _ [8, 9, 10] (by decide +kernel) (by decide +kernel)) (goodIn_sub (fun _ h => List.mem_cons_of_mem _ (List.mem_append_left _ (List.mem_append_left _ (List.mem_append_right _ h)))) (by decide +kernel))
set_option maxRecDepth 20000 in
theorem gX2_moveMonth_X2_checkSlot : GoodIn wsX2_moveMonth (va_wsS RX2 41 yX2_checkSlot wsX2_checkSlot) := goodIn_app (goodIn_of _ (by decide +kernel)) ggX2_moveMonth_X2_checkSlot
set_option maxRecDepth 20000 in
theorem ggX2_moveMonth_X2_checkArgument : GoodIn wsX2_moveMonth wsX2_checkArgument := goodIn_ca (goodIn_r _ [13, 14, 15] (by decide +kernel) (by decide +kernel)) (goodIn_sub (fun _ h => List.mem_cons_of_mem _ (List.mem_append_left _ (List.mem_append_right _ h))) (by decide +kernel))
set_option maxRecDepth 20000 in
theorem gX2_moveMonth_X2_checkArgument : GoodIn wsX2_moveMonth (va_wsS RX2 49 yX2_checkArgument wsX2_checkArgument) := goodIn_app (goodIn_of _ (by decide +kernel)) ggX2_moveMonth_X2_checkArgument
set_option maxRecDepth 20000 in
theorem ggX2_moveMonth_X2_isIn : GoodIn wsX2_moveMonth wsX2_isIn := goodIn_r _ [18] (by decide +kernel) (by decide +kernel)
set_option maxRecDepth 20000 in
theorem gX2_moveMonth_X2_isIn : GoodIn wsX2_moveMonth (va_wsS RX2 55 yX2_isIn wsX2_isIn) := goodIn_app (goodIn_of _ (by decide +kernel)) ggX2_moveMonth_X2_isIn
set_option maxRecDepth 20000 in
theorem ggX2_moveMonth_X2_keepMonth : GoodIn wsX2_moveMonth wsX2_keepMonth := goodIn_ca (goodIn_ca (goodIn_r _ [22, 3, 23, 24, 25, 26, 27, 28, 29, 30, 31, 32, 33, 7, 34, 35, 36, 16, 17, 18, 37, 38, 39, 40, 41, 42, 43, 44, 45, 46, 47, 48, 49, 50, 51, 52, 53, 54, 55, 56, 57, 58, 59, 60, 61, 62, 63, 64, 65, 66, 67] (by decide +kernel) (by decide +kernel)) (goodIn_sub (fun _ h => List.mem_cons_of_mem _ (List.mem_append_left _ (List.mem_append_left _ (List.mem_append_left _ (List.mem_append_right _ h))))) (by decide +kernel))) (goodIn_sub (fun _ h => List.mem_cons_of_mem _ (List.mem_append_right _ h)) (by decide +kernel))
set_option maxRecDepth 20000 in
theorem gX2_moveMonth_X2_keepMonth : GoodIn wsX2_moveMonth (wsV RX2 179 RX2 yX2_keepMonth wsX2_keepMonth) := goodIn_app (goodIn_of _ (by decide +kernel)) ggX2_moveMonth_X2_keepMonth
theorem dX2_moveMonth_0 : decode cX2_moveMonth 0 = .ok (.iload_n 1, 1) := by decide +kernel
theorem dX2_moveMonth_1 : decode cX2_moveMonth 1 = .ok (.iconst 4, 1) := by decide +kernel
theorem dX2_moveMonth_2 : decode cX2_moveMonth 2 = .ok (.invokestatic 41, 3) := by decide +kernel
theorem dX2_moveMonth_5 : decode cX2_moveMonth 5 = .ok (.iload 4, 2) := by decide +kernel
theorem dX2_moveMonth_7 : decode cX2_moveMonth 7 = .ok (.iconst 4, 1) := by decide +kernel
theorem dX2_moveMonth_8 : decode cX2_moveMonth 8 = .ok (.invokestatic 41, 3) := by decide +kernel
theorem dX2_moveMonth_11 : decode cX2_moveMonth 11 = .ok (.iload_n 2, 1) := by decide +kernel
theorem dX2_moveMonth_12 : decode cX2_moveMonth 12 = .ok (.bipush 109, 2) := by decide +kernel
theorem dX2_moveMonth_14 : decode cX2_moveMonth 14 = .ok (.if_icmp .eq 9, 3) := by decide +kernel
theorem dX2_moveMonth_17 : decode cX2_moveMonth 17 = .ok (.iload_n 2, 1) := by decide +kernel
theorem dX2_moveMonth_18 : decode cX2_moveMonth 18 = .ok (.bipush 121, 2) := by decide +kernel
theorem dX2_moveMonth_20 : decode cX2_moveMonth 20 = .ok (.if_icmp .ne 7, 3) := by decide +kernel
theorem dX2_moveMonth_23 : decode cX2_moveMonth 23 = .ok (.iconst 1, 1) := by decide +kernel
theorem dX2_moveMonth_24 : decode cX2_moveMonth 24 = .ok (.goto 4, 3) := by decide +kernel
theorem dX2_moveMonth_27 : decode cX2_moveMonth 27 = .ok (.iconst 0, 1) := by decide +kernel
theorem dX2_moveMonth_28 : decode cX2_moveMonth 28 = .ok (.invokestatic 49, 3) := by decide +kernel
theorem dX2_moveMonth_31 : decode cX2_moveMonth 31 = .ok (.iload_n 3, 1) := by decide +kernel
theorem dX2_moveMonth_32 : decode cX2_moveMonth 32 = .ok (.i2l, 1) := by decide +kernel
theorem dX2_moveMonth_33 : decode cX2_moveMonth 33 = .ok (.ldc2_w 112, 3) := by decide +kernel
theorem dX2_moveMonth_36 : decode cX2_moveMonth 36 = .ok (.ldc2_w 114, 3) := by decide +kernel
theorem dX2_moveMonth_39 : decode cX2_moveMonth 39 = .ok (.invokestatic 55, 3) := by decide +kernel
theorem dX2_moveMonth_42 : decode cX2_moveMonth 42 = .ok (.invokestatic 49, 3) := by decide +kernel
theorem dX2_moveMonth_45 : decode cX2_moveMonth 45 = .ok (.aload_n 0, 1) := by decide +kernel
theorem dX2_moveMonth_46 : decode cX2_moveMonth 46 = .ok (.iload 4, 2) := by decide +kernel
theorem dX2_moveMonth_48 : decode cX2_moveMonth 48 = .ok (.aload_n 0, 1) := by decide +kernel
theorem dX2_moveMonth_49 : decode cX2_moveMonth 49 = .ok (.getfield 23, 3) := by decide +kernel
theorem dX2_moveMonth_52 : decode cX2_moveMonth 52 = .ok (.iload_n 1, 1) := by decide +kernel
theorem dX2_moveMonth_53 : decode cX2_moveMonth 53 = .ok (.iaload, 1) := by decide +kernel
theorem dX2_moveMonth_54 : decode cX2_moveMonth 54 = .ok (.i2l, 1) := by decide +kernel
theorem dX2_moveMonth_55 : decode cX2_moveMonth 55 = .ok (.iload_n 2, 1) := by decide +kernel
theorem dX2_moveMonth_56 : decode cX2_moveMonth 56 = .ok (.bipush 121, 2) := by decide +kernel
theorem dX2_moveMonth_58 : decode cX2_moveMonth 58 = .ok (.if_icmp .ne 12, 3) := by decide +kernel
theorem dX2_moveMonth_61 : decode cX2_moveMonth 61 = .ok (.ldc2_w 53, 3) := by decide +kernel
theorem dX2_moveMonth_64 : decode cX2_moveMonth 64 = .ok (.iload_n 3, 1) := by decide +kernel
theorem dX2_moveMonth_65 : decode cX2_moveMonth 65 = .ok (.i2l, 1) := by decide +kernel
theorem dX2_moveMonth_66 : decode cX2_moveMonth 66 = .ok (.lmul, 1) := by decide +kernel
theorem dX2_moveMonth_67 : decode cX2_moveMonth 67 = .ok (.goto 5, 3) := by decide +kernel
theorem dX2_moveMonth_70 : decode cX2_moveMonth 70 = .ok (.iload_n 3, 1) := by decide +kernel
theorem dX2_moveMonth_71 : decode cX2_moveMonth 71 = .ok (.i2l, 1) := by decide +kernel
theorem dX2_moveMonth_72 : decode cX2_moveMonth 72 = .ok (.ladd, 1) := by decide +kernel
theorem dX2_moveMonth_73 : decode cX2_moveMonth 73 = .ok (.invokevirtual 179, 3) := by decide +kernel
theorem dX2_moveMonth_76 : decode cX2_moveMonth 76 = .ok (.ireturn, 1) := by decide +kernel
set_option maxRecDepth 20000 in
theorem ggX2_monthPart_X2_checkSlot : GoodIn wsX2_monthPart wsX2_checkSlot := goodIn_ca (goodIn_r _ [7, 8, 9] (by decide +kernel) (by decide +kernel)) (goodIn_sub (fun _ h => List.mem_cons_of_mem _ (List.mem_append_right _ h)) (by decide +kernel))
set_option maxRecDepth 20000 in
theorem gX2_monthPart_X2_checkSlot : GoodIn wsX2_monthPart (va_wsS RX2 41 yX2_checkSlot wsX2_checkSlot) := goodIn_app (goodIn_of _ (by decide +kernel)) ggX2_monthPart_X2_checkSlot
set_option maxRecDepth 20000 in
theorem ggX2_monthPart_X1_yearOfMonth : GoodIn wsX2_monthPart wsX1_yearOfMonth := goodIn_r _ [13, 14, 15, 16, 17, 18] (by decide +kernel) (by decide +kernel)
set_option maxRecDepth 20000 in
theorem gX2_monthPart_X1_yearOfMonth : GoodIn wsX2_monthPart (va_wsS RX2 120 yX1_yearOfMonth wsX1_yearOfMonth) := goodIn_app (goodIn_of _ (by decide +kernel)) ggX2_monthPart_X1_yearOfMonth
set_option maxRecDepth 20000 in
theorem ggX2_monthPart_X1_monthInYear : GoodIn wsX2_monthPart wsX1_monthInYear := goodIn_r _ [21, 14, 22, 23, 17, 24] (by decide +kernel) (by decide +kernel)
set_option maxRecDepth 20000 in
theorem gX2_monthPart_X1_monthInYear : GoodIn wsX2_monthPart (va_wsS RX2 83 yX1_monthInYear wsX1_monthInYear) := goodIn_app (goodIn_of _ (by decide +kernel)) ggX2_monthPart_X1_monthInYear
set_option maxRecDepth 20000 in
theorem ggX2_monthPart_X1_lengthOfMonth : GoodIn wsX2_monthPart wsX1_lengthOfMonth := goodIn_r _ [27, 28, 20, 12, 21, 14, 22, 23, 17, 24, 29, 11, 13, 15, 16, 18, 30, 31, 32, 33, 34, 35] (by decide +kernel) (by decide +kernel)
set_option maxRecDepth 20000 in
theorem gX2_monthPart_X1_lengthOfMonth : GoodIn wsX2_monthPart (va_wsS RX2 65 yX1_lengthOfMonth wsX1_lengthOfMonth) := goodIn_app (goodIn_of _ (by decide +kernel)) ggX2_monthPart_X1_lengthOfMonth
set_option maxRecDepth 20000 in
theorem ggX2_monthPart_X1_lengthOfYear : GoodIn wsX2_monthPart wsX1_lengthOfYear := goodIn_r _ [38, 30, 31, 12, 32, 33, 34, 35] (by decide +kernel) (by decide +kernel)
set_option maxRecDepth 20000 in
theorem gX2_monthPart_X1_lengthOfYear : GoodIn wsX2_monthPart (va_wsS RX2 95 yX1_lengthOfYear wsX1_lengthOfYear) := goodIn_app (goodIn_of _ (by decide +kernel)) ggX2_monthPart_X1_lengthOfYear
theorem dX2_monthPart_0 : decode cX2_monthPart 0 = .ok (.iload_n 1, 1) := by decide +kernel
theorem dX2_monthPart_1 : decode cX2_monthPart 1 = .ok (.iconst 4, 1) := by decide +kernel
theorem dX2_monthPart_2 : decode cX2_monthPart 2 = .ok (.invokestatic 41, 3) := by decide +kernel
theorem dX2_monthPart_5 : decode cX2_monthPart 5 = .ok (.aload_n 0, 1) := by decide +kernel
theorem dX2_monthPart_6 : decode cX2_monthPart 6 = .ok (.getfield 23, 3) := by decide +kernel
theorem dX2_monthPart_9 : decode cX2_monthPart 9 = .ok (.iload_n 1, 1) := by decide +kernel
theorem dX2_monthPart_10 : decode cX2_monthPart 10 = .ok (.iaload, 1) := by decide +kernel
theorem dX2_monthPart_11 : decode cX2_monthPart 11 = .ok (.i2l, 1) := by decide +kernel
theorem dX2_monthPart_12 : decode cX2_monthPart 12 = .ok (.lstore_n 3, 1) := by decide +kernel
theorem dX2_monthPart_13 : decode cX2_monthPart 13 = .ok (.iload_n 2, 1) := by decide +kernel
theorem dX2_monthPart_14 : decode cX2_monthPart 14 = .ok (.lookupswitch 66 #[(76, 58), (108, 53), (109, 48), (121, 42)], 42) := by decide +kernel
theorem dX2_monthPart_56 : decode cX2_monthPart 56 = .ok (.lload_n 3, 1) := by decide +kernel
theorem dX2_monthPart_57 : decode cX2_monthPart 57 = .ok (.invokestatic 120, 3) := by decide +kernel
theorem dX2_monthPart_60 : decode cX2_monthPart 60 = .ok (.l2i, 1) := by decide +kernel
theorem dX2_monthPart_61 : decode cX2_monthPart 61 = .ok (.ireturn, 1) := by decide +kernel
theorem dX2_monthPart_62 : decode cX2_monthPart 62 = .ok (.lload_n 3, 1) := by decide +kernel
theorem dX2_monthPart_63 : decode cX2_monthPart 63 = .ok (.invokestatic 83, 3) := by decide +kernel
theorem dX2_monthPart_66 : decode cX2_monthPart 66 = .ok (.ireturn, 1) := by decide +kernel
theorem dX2_monthPart_67 : decode cX2_monthPart 67 = .ok (.lload_n 3, 1) := by decide +kernel
theorem dX2_monthPart_68 : decode cX2_monthPart 68 = .ok (.invokestatic 65, 3) := by decide +kernel
theorem dX2_monthPart_71 : decode cX2_monthPart 71 = .ok (.ireturn, 1) := by decide +kernel
theorem dX2_monthPart_72 : decode cX2_monthPart 72 = .ok (.lload_n 3, 1) := by decide +kernel
theorem dX2_monthPart_73 : decode cX2_monthPart 73 = .ok (.invokestatic 120, 3) := by decide +kernel
theorem dX2_monthPart_76 : decode cX2_monthPart 76 = .ok (.invokestatic 95, 3) := by decide +kernel
theorem dX2_monthPart_79 : decode cX2_monthPart 79 = .ok (.ireturn, 1) := by decide +kernel
theorem dX2_monthPart_80 : decode cX2_monthPart 80 = .ok (.new 101, 3) := by decide +kernel
theorem dX2_monthPart_83 : decode cX2_monthPart 83 = .ok (.dup, 1) := by decide +kernel
theorem dX2_monthPart_84 : decode cX2_monthPart 84 = .ok (.ldc 183, 2) := by decide +kernel
theorem dX2_monthPart_86 : decode cX2_monthPart 86 = .ok (.invokespecial 105, 3) := by decide +kernel
theorem dX2_monthPart_89 : decode cX2_monthPart 89 = .ok (.athrow, 1) := by decide +kernel
set_option maxRecDepth 20000 in
theorem ggX2_atDay_X2_checkSlot : GoodIn wsX2_atDay wsX2_checkSlot := goodIn_ca (goodIn_r _ [5, 6, 7] (by decide +kernel) (by decide +kernel)) (goodIn_sub (fun _ h => List.mem_cons_of_mem _ (List.mem_append_left _ (List.mem_append_left _ (List.mem_append_right _ h)))) (by decide +kernel))
set_option maxRecDepth 20000 in
theorem gX2_atDay_X2_checkSlot : GoodIn wsX2_atDay (va_wsS RX2 41 yX2_checkSlot wsX2_checkSlot) := goodIn_app (goodIn_of _ (by decide +kernel)) ggX2_atDay_X2_checkSlot
set_option maxRecDepth 20000 in
theorem ggX2_atDay_X1_lengthOfMonth : GoodIn wsX2_atDay wsX1_lengthOfMonth := goodIn_r _ [11, 12, 13, 10, 14, 15, 16, 17, 18, 19, 20, 21, 22, 23, 24, 25, 26, 27, 28, 29, 30, 31] (by decide +kernel) (by decide +kernel)
set_option maxRecDepth 20000 in
theorem gX2_atDay_X1_lengthOfMonth : GoodIn wsX2_atDay (va_wsS RX2 65 yX1_lengthOfMonth wsX1_lengthOfMonth) := goodIn_app (goodIn_of _ (by decide +kernel)) ggX2_atDay_X1_lengthOfMonth
set_option maxRecDepth 20000 in
theorem ggX2_atDay_X2_isIn : GoodIn wsX2_atDay wsX2_isIn := goodIn_r _ [34] (by decide +kernel) (by decide +kernel)
set_option maxRecDepth 20000 in
theorem gX2_atDay_X2_isIn : GoodIn wsX2_atDay (va_wsS RX2 55 yX2_isIn wsX2_isIn) := goodIn_app (goodIn_of _ (by decide +kernel)) ggX2_atDay_X2_isIn
set_option maxRecDepth 20000 in
theorem ggX2_atDay_X2_checkArgument : GoodIn wsX2_atDay wsX2_checkArgument := goodIn_ca (goodIn_r _ [37, 38, 39] (by decide +kernel) (by decide +kernel)) (goodIn_sub (fun _ h => List.mem_cons_of_mem _ (List.mem_append_left _ (List.mem_append_right _ h))) (by decide +kernel))
set_option maxRecDepth 20000 in
theorem gX2_atDay_X2_checkArgument : GoodIn wsX2_atDay (va_wsS RX2 49 yX2_checkArgument wsX2_checkArgument) := goodIn_app (goodIn_of _ (by decide +kernel)) ggX2_atDay_X2_checkArgument
set_option maxRecDepth 20000 in
theorem ggX2_atDay_X1_firstOfMonth : GoodIn wsX2_atDay wsX1_firstOfMonth := goodIn_r _ [42, 43, 20, 21, 10, 22, 15, 23, 24, 18, 25, 12, 13, 14, 16, 17, 19, 26, 27, 28, 29, 30, 31, 44, 45, 46, 47, 48, 49, 50, 51] (by decide +kernel) (by decide +kernel)
set_option maxRecDepth 20000 in
theorem gX2_atDay_X1_firstOfMonth : GoodIn wsX2_atDay (va_wsS RX2 69 yX1_firstOfMonth wsX1_firstOfMonth) := goodIn_app (goodIn_of _ (by decide +kernel)) ggX2_atDay_X1_firstOfMonth
set_option maxRecDepth 20000 in
theorem ggX2_atDay_X2_keepDate : GoodIn wsX2_atDay wsX2_keepDate := goodIn_ca (goodIn_ca (goodIn_r _ [55, 56, 57, 58, 10, 59, 60, 61, 62, 63, 4, 64, 65, 66, 67, 68, 69, 70, 71, 72, 73, 74, 75, 76] (by decide +kernel) (by decide +kernel)) (goodIn_sub (fun _ h => List.mem_cons_of_mem _ (List.mem_append_left _ (List.mem_append_left _ (List.mem_append_left _ (List.mem_append_right _ h))))) (by decide +kernel))) (goodIn_sub (fun _ h => List.mem_cons_of_mem _ (List.mem_append_right _ h)) (by decide +kernel))
set_option maxRecDepth 20000 in
theorem gX2_atDay_X2_keepDate : GoodIn wsX2_atDay (wsV RX2 73 RX2 yX2_keepDate wsX2_keepDate) := goodIn_app (goodIn_of _ (by decide +kernel)) ggX2_atDay_X2_keepDate
theorem dX2_atDay_0 : decode cX2_atDay 0 = .ok (.iload_n 1, 1) := by decide +kernel
theorem dX2_atDay_1 : decode cX2_atDay 1 = .ok (.iconst 4, 1) := by decide +kernel
theorem dX2_atDay_2 : decode cX2_atDay 2 = .ok (.invokestatic 41, 3) := by decide +kernel
theorem dX2_atDay_5 : decode cX2_atDay 5 = .ok (.iload_n 3, 1) := by decide +kernel
theorem dX2_atDay_6 : decode cX2_atDay 6 = .ok (.bipush 6, 2) := by decide +kernel
theorem dX2_atDay_8 : decode cX2_atDay 8 = .ok (.invokestatic 41, 3) := by decide +kernel
theorem dX2_atDay_11 : decode cX2_atDay 11 = .ok (.aload_n 0, 1) := by decide +kernel
theorem dX2_atDay_12 : decode cX2_atDay 12 = .ok (.getfield 23, 3) := by decide +kernel
theorem dX2_atDay_15 : decode cX2_atDay 15 = .ok (.iload_n 1, 1) := by decide +kernel
theorem dX2_atDay_16 : decode cX2_atDay 16 = .ok (.iaload, 1) := by decide +kernel
theorem dX2_atDay_17 : decode cX2_atDay 17 = .ok (.i2l, 1) := by decide +kernel
theorem dX2_atDay_18 : decode cX2_atDay 18 = .ok (.invokestatic 65, 3) := by decide +kernel
theorem dX2_atDay_21 : decode cX2_atDay 21 = .ok (.istore 4, 2) := by decide +kernel
theorem dX2_atDay_23 : decode cX2_atDay 23 = .ok (.iload_n 2, 1) := by decide +kernel
theorem dX2_atDay_24 : decode cX2_atDay 24 = .ok (.i2l, 1) := by decide +kernel
theorem dX2_atDay_25 : decode cX2_atDay 25 = .ok (.lconst 0, 1) := by decide +kernel
theorem dX2_atDay_26 : decode cX2_atDay 26 = .ok (.iload 4, 2) := by decide +kernel
theorem dX2_atDay_28 : decode cX2_atDay 28 = .ok (.i2l, 1) := by decide +kernel
theorem dX2_atDay_29 : decode cX2_atDay 29 = .ok (.invokestatic 55, 3) := by decide +kernel
theorem dX2_atDay_32 : decode cX2_atDay 32 = .ok (.invokestatic 49, 3) := by decide +kernel
theorem dX2_atDay_35 : decode cX2_atDay 35 = .ok (.aload_n 0, 1) := by decide +kernel
theorem dX2_atDay_36 : decode cX2_atDay 36 = .ok (.iload_n 3, 1) := by decide +kernel
theorem dX2_atDay_37 : decode cX2_atDay 37 = .ok (.aload_n 0, 1) := by decide +kernel
theorem dX2_atDay_38 : decode cX2_atDay 38 = .ok (.getfield 23, 3) := by decide +kernel
theorem dX2_atDay_41 : decode cX2_atDay 41 = .ok (.iload_n 1, 1) := by decide +kernel
theorem dX2_atDay_42 : decode cX2_atDay 42 = .ok (.iaload, 1) := by decide +kernel
theorem dX2_atDay_43 : decode cX2_atDay 43 = .ok (.i2l, 1) := by decide +kernel
theorem dX2_atDay_44 : decode cX2_atDay 44 = .ok (.invokestatic 69, 3) := by decide +kernel
theorem dX2_atDay_47 : decode cX2_atDay 47 = .ok (.iload_n 2, 1) := by decide +kernel
theorem dX2_atDay_48 : decode cX2_atDay 48 = .ok (.ifCond .ne 8, 3) := by decide +kernel
theorem dX2_atDay_51 : decode cX2_atDay 51 = .ok (.iload 4, 2) := by decide +kernel
theorem dX2_atDay_53 : decode cX2_atDay 53 = .ok (.goto 4, 3) := by decide +kernel
theorem dX2_atDay_56 : decode cX2_atDay 56 = .ok (.iload_n 2, 1) := by decide +kernel
theorem dX2_atDay_57 : decode cX2_atDay 57 = .ok (.i2l, 1) := by decide +kernel
theorem dX2_atDay_58 : decode cX2_atDay 58 = .ok (.ladd, 1) := by decide +kernel
theorem dX2_atDay_59 : decode cX2_atDay 59 = .ok (.lconst 1, 1) := by decide +kernel
theorem dX2_atDay_60 : decode cX2_atDay 60 = .ok (.lsub, 1) := by decide +kernel
theorem dX2_atDay_61 : decode cX2_atDay 61 = .ok (.invokevirtual 73, 3) := by decide +kernel
theorem dX2_atDay_64 : decode cX2_atDay 64 = .ok (.lreturn, 1) := by decide +kernel
set_option maxRecDepth 20000 in
theorem ggX2_orderMonths_X2_checkSlot : GoodIn wsX2_orderMonths wsX2_checkSlot := goodIn_ca (goodIn_r _ [5, 6, 7] (by decide +kernel) (by decide +kernel)) (goodIn_sub (fun _ h => List.mem_cons_of_mem _ (List.mem_append_right _ h)) (by decide +kernel))
set_option maxRecDepth 20000 in
theorem gX2_orderMonths_X2_checkSlot : GoodIn wsX2_orderMonths (va_wsS RX2 41 yX2_checkSlot wsX2_checkSlot) := goodIn_app (goodIn_of _ (by decide +kernel)) ggX2_orderMonths_X2_checkSlot
set_option maxRecDepth 20000 in
theorem ggX2_orderMonths_X2_sign : GoodIn wsX2_orderMonths wsX2_sign := goodIn_r _ [10] (by decide +kernel) (by decide +kernel)
set_option maxRecDepth 20000 in
theorem gX2_orderMonths_X2_sign : GoodIn wsX2_orderMonths (va_wsS RX2 148 yX2_sign wsX2_sign) := goodIn_app (goodIn_of _ (by decide +kernel)) ggX2_orderMonths_X2_sign
theorem dX2_orderMonths_0 : decode cX2_orderMonths 0 = .ok (.iload_n 1, 1) := by decide +kernel
theorem dX2_orderMonths_1 : decode cX2_orderMonths 1 = .ok (.iconst 4, 1) := by decide +kernel
theorem dX2_orderMonths_2 : decode cX2_orderMonths 2 = .ok (.invokestatic 41, 3) := by decide +kernel
theorem dX2_orderMonths_5 : decode cX2_orderMonths 5 = .ok (.iload_n 2, 1) := by decide +kernel
theorem dX2_orderMonths_6 : decode cX2_orderMonths 6 = .ok (.iconst 4, 1) := by decide +kernel
theorem dX2_orderMonths_7 : decode cX2_orderMonths 7 = .ok (.invokestatic 41, 3) := by decide +kernel
theorem dX2_orderMonths_10 : decode cX2_orderMonths 10 = .ok (.aload_n 0, 1) := by decide +kernel
theorem dX2_orderMonths_11 : decode cX2_orderMonths 11 = .ok (.getfield 23, 3) := by decide +kernel
theorem dX2_orderMonths_14 : decode cX2_orderMonths 14 = .ok (.iload_n 1, 1) := by decide +kernel
theorem dX2_orderMonths_15 : decode cX2_orderMonths 15 = .ok (.iaload, 1) := by decide +kernel
theorem dX2_orderMonths_16 : decode cX2_orderMonths 16 = .ok (.i2l, 1) := by decide +kernel
theorem dX2_orderMonths_17 : decode cX2_orderMonths 17 = .ok (.aload_n 0, 1) := by decide +kernel
theorem dX2_orderMonths_18 : decode cX2_orderMonths 18 = .ok (.getfield 23, 3) := by decide +kernel
theorem dX2_orderMonths_21 : decode cX2_orderMonths 21 = .ok (.iload_n 2, 1) := by decide +kernel
theorem dX2_orderMonths_22 : decode cX2_orderMonths 22 = .ok (.iaload, 1) := by decide +kernel
theorem dX2_orderMonths_23 : decode cX2_orderMonths 23 = .ok (.i2l, 1) := by decide +kernel
theorem dX2_orderMonths_24 : decode cX2_orderMonths 24 = .ok (.invokestatic 148, 3) := by decide +kernel
theorem dX2_orderMonths_27 : decode cX2_orderMonths 27 = .ok (.ireturn, 1) := by decide +kernel
set_option maxRecDepth 20000 in
theorem ggX2_time_X2_checkSlot : GoodIn wsX2_time wsX2_checkSlot := goodIn_ca (goodIn_r _ [11, 12, 13] (by decide +kernel) (by decide +kernel)) (goodIn_sub (fun _ h => List.mem_cons_of_mem _ (List.mem_append_left _ (List.mem_append_right _ h))) (by decide +kernel))
set_option maxRecDepth 20000 in
theorem gX2_time_X2_checkSlot : GoodIn wsX2_time (va_wsS RX2 41 yX2_checkSlot wsX2_checkSlot) := goodIn_app (goodIn_of _ (by decide +kernel)) ggX2_time_X2_checkSlot
set_option maxRecDepth 20000 in
theorem ggX2_time_X2_isIn : GoodIn wsX2_time wsX2_isIn := goodIn_r _ [16] (by decide +kernel) (by decide +kernel)
set_option maxRecDepth 20000 in
theorem gX2_time_X2_isIn : GoodIn wsX2_time (va_wsS RX2 55 yX2_isIn wsX2_isIn) := goodIn_app (goodIn_of _ (by decide +kernel)) ggX2_time_X2_isIn
set_option maxRecDepth 20000 in
theorem ggX2_time_X2_checkArgument : GoodIn wsX2_time wsX2_checkArgument := goodIn_ca (goodIn_r _ [19, 20, 21] (by decide +kernel) (by decide +kernel)) (goodIn_sub (fun _ h => List.mem_cons_of_mem _ (List.mem_append_right _ h)) (by decide +kernel))
set_option maxRecDepth 20000 in
theorem gX2_time_X2_checkArgument : GoodIn wsX2_time (va_wsS RX2 49 yX2_checkArgument wsX2_checkArgument) := goodIn_app (goodIn_of _ (by decide +kernel)) ggX2_time_X2_checkArgument
theorem dX2_time_0 : decode cX2_time 0 = .ok (.iload_n 1, 1) := by decide +kernel
theorem dX2_time_1 : decode cX2_time 1 = .ok (.iconst 4, 1) := by decide +kernel
theorem dX2_time_2 : decode cX2_time 2 = .ok (.invokestatic 41, 3) := by decide +kernel
theorem dX2_time_5 : decode cX2_time 5 = .ok (.iload_n 2, 1) := by decide +kernel
theorem dX2_time_6 : decode cX2_time 6 = .ok (.i2l, 1) := by decide +kernel
theorem dX2_time_7 : decode cX2_time 7 = .ok (.lconst 0, 1) := by decide +kernel
theorem dX2_time_8 : decode cX2_time 8 = .ok (.ldc2_w 185, 3) := by decide +kernel
theorem dX2_time_11 : decode cX2_time 11 = .ok (.invokestatic 55, 3) := by decide +kernel
theorem dX2_time_14 : decode cX2_time 14 = .ok (.invokestatic 49, 3) := by decide +kernel
theorem dX2_time_17 : decode cX2_time 17 = .ok (.iload_n 3, 1) := by decide +kernel
theorem dX2_time_18 : decode cX2_time 18 = .ok (.i2l, 1) := by decide +kernel
theorem dX2_time_19 : decode cX2_time 19 = .ok (.lconst 0, 1) := by decide +kernel
theorem dX2_time_20 : decode cX2_time 20 = .ok (.ldc2_w 187, 3) := by decide +kernel
theorem dX2_time_23 : decode cX2_time 23 = .ok (.invokestatic 55, 3) := by decide +kernel
theorem dX2_time_26 : decode cX2_time 26 = .ok (.invokestatic 49, 3) := by decide +kernel
theorem dX2_time_29 : decode cX2_time 29 = .ok (.iload 4, 2) := by decide +kernel
theorem dX2_time_31 : decode cX2_time 31 = .ok (.i2l, 1) := by decide +kernel
theorem dX2_time_32 : decode cX2_time 32 = .ok (.lconst 0, 1) := by decide +kernel
theorem dX2_time_33 : decode cX2_time 33 = .ok (.ldc2_w 187, 3) := by decide +kernel
theorem dX2_time_36 : decode cX2_time 36 = .ok (.invokestatic 55, 3) := by decide +kernel
theorem dX2_time_39 : decode cX2_time 39 = .ok (.invokestatic 49, 3) := by decide +kernel
theorem dX2_time_42 : decode cX2_time 42 = .ok (.iload 5, 2) := by decide +kernel
theorem dX2_time_44 : decode cX2_time 44 = .ok (.i2l, 1) := by decide +kernel
theorem dX2_time_45 : decode cX2_time 45 = .ok (.lconst 0, 1) := by decide +kernel
theorem dX2_time_46 : decode cX2_time 46 = .ok (.ldc2_w 191, 3) := by decide +kernel
theorem dX2_time_49 : decode cX2_time 49 = .ok (.invokestatic 55, 3) := by decide +kernel
theorem dX2_time_52 : decode cX2_time 52 = .ok (.invokestatic 49, 3) := by decide +kernel
theorem dX2_time_55 : decode cX2_time 55 = .ok (.aload_n 0, 1) := by decide +kernel
theorem dX2_time_56 : decode cX2_time 56 = .ok (.getfield 26, 3) := by decide +kernel
theorem dX2_time_59 : decode cX2_time 59 = .ok (.iload_n 1, 1) := by decide +kernel
theorem dX2_time_60 : decode cX2_time 60 = .ok (.iload_n 2, 1) := by decide +kernel
theorem dX2_time_61 : decode cX2_time 61 = .ok (.i2l, 1) := by decide +kernel
theorem dX2_time_62 : decode cX2_time 62 = .ok (.ldc2_w 193, 3) := by decide +kernel
theorem dX2_time_65 : decode cX2_time 65 = .ok (.lmul, 1) := by decide +kernel
theorem dX2_time_66 : decode cX2_time 66 = .ok (.iload_n 3, 1) := by decide +kernel
theorem dX2_time_67 : decode cX2_time 67 = .ok (.i2l, 1) := by decide +kernel
theorem dX2_time_68 : decode cX2_time 68 = .ok (.ldc2_w 195, 3) := by decide +kernel
theorem dX2_time_71 : decode cX2_time 71 = .ok (.lmul, 1) := by decide +kernel
theorem dX2_time_72 : decode cX2_time 72 = .ok (.ladd, 1) := by decide +kernel
theorem dX2_time_73 : decode cX2_time 73 = .ok (.iload 4, 2) := by decide +kernel
theorem dX2_time_75 : decode cX2_time 75 = .ok (.i2l, 1) := by decide +kernel
theorem dX2_time_76 : decode cX2_time 76 = .ok (.ldc2_w 197, 3) := by decide +kernel
theorem dX2_time_79 : decode cX2_time 79 = .ok (.lmul, 1) := by decide +kernel
theorem dX2_time_80 : decode cX2_time 80 = .ok (.ladd, 1) := by decide +kernel
theorem dX2_time_81 : decode cX2_time 81 = .ok (.iload 5, 2) := by decide +kernel
theorem dX2_time_83 : decode cX2_time 83 = .ok (.i2l, 1) := by decide +kernel
theorem dX2_time_84 : decode cX2_time 84 = .ok (.ladd, 1) := by decide +kernel
theorem dX2_time_85 : decode cX2_time 85 = .ok (.lastore, 1) := by decide +kernel
theorem dX2_time_86 : decode cX2_time 86 = .ok (.aload_n 0, 1) := by decide +kernel
theorem dX2_time_87 : decode cX2_time 87 = .ok (.getfield 26, 3) := by decide +kernel
theorem dX2_time_90 : decode cX2_time 90 = .ok (.iload_n 1, 1) := by decide +kernel
theorem dX2_time_91 : decode cX2_time 91 = .ok (.laload, 1) := by decide +kernel
theorem dX2_time_92 : decode cX2_time 92 = .ok (.lreturn, 1) := by decide +kernel
set_option maxRecDepth 20000 in
theorem ggX2_ofBillionths_X2_checkSlot : GoodIn wsX2_ofBillionths wsX2_checkSlot := goodIn_ca (goodIn_r _ [7, 8, 9] (by decide +kernel) (by decide +kernel)) (goodIn_sub (fun _ h => List.mem_cons_of_mem _ (List.mem_append_left _ (List.mem_append_right _ h))) (by decide +kernel))
set_option maxRecDepth 20000 in
theorem gX2_ofBillionths_X2_checkSlot : GoodIn wsX2_ofBillionths (va_wsS RX2 41 yX2_checkSlot wsX2_checkSlot) := goodIn_app (goodIn_of _ (by decide +kernel)) ggX2_ofBillionths_X2_checkSlot
set_option maxRecDepth 20000 in
theorem ggX2_ofBillionths_X2_isIn : GoodIn wsX2_ofBillionths wsX2_isIn := goodIn_r _ [12] (by decide +kernel) (by decide +kernel)
set_option maxRecDepth 20000 in
theorem gX2_ofBillionths_X2_isIn : GoodIn wsX2_ofBillionths (va_wsS RX2 55 yX2_isIn wsX2_isIn) := goodIn_app (goodIn_of _ (by decide +kernel)) ggX2_ofBillionths_X2_isIn
set_option maxRecDepth 20000 in
theorem ggX2_ofBillionths_X2_checkArgument : GoodIn wsX2_ofBillionths wsX2_checkArgument := goodIn_ca (goodIn_r _ [15, 16, 17] (by decide +kernel) (by decide +kernel)) (goodIn_sub (fun _ h => List.mem_cons_of_mem _ (List.mem_append_right _ h)) (by decide +kernel))
set_option maxRecDepth 20000 in
theorem gX2_ofBillionths_X2_checkArgument : GoodIn wsX2_ofBillionths (va_wsS RX2 49 yX2_checkArgument wsX2_checkArgument) := goodIn_app (goodIn_of _ (by decide +kernel)) ggX2_ofBillionths_X2_checkArgument
theorem dX2_ofBillionths_0 : decode cX2_ofBillionths 0 = .ok (.iload_n 1, 1) := by decide +kernel
theorem dX2_ofBillionths_1 : decode cX2_ofBillionths 1 = .ok (.iconst 4, 1) := by decide +kernel
theorem dX2_ofBillionths_2 : decode cX2_ofBillionths 2 = .ok (.invokestatic 41, 3) := by decide +kernel
theorem dX2_ofBillionths_5 : decode cX2_ofBillionths 5 = .ok (.lload_n 2, 1) := by decide +kernel
theorem dX2_ofBillionths_6 : decode cX2_ofBillionths 6 = .ok (.lconst 0, 1) := by decide +kernel
theorem dX2_ofBillionths_7 : decode cX2_ofBillionths 7 = .ok (.ldc2_w 199, 3) := by decide +kernel
theorem dX2_ofBillionths_10 : decode cX2_ofBillionths 10 = .ok (.invokestatic 55, 3) := by decide +kernel
theorem dX2_ofBillionths_13 : decode cX2_ofBillionths 13 = .ok (.invokestatic 49, 3) := by decide +kernel
theorem dX2_ofBillionths_16 : decode cX2_ofBillionths 16 = .ok (.aload_n 0, 1) := by decide +kernel
theorem dX2_ofBillionths_17 : decode cX2_ofBillionths 17 = .ok (.getfield 26, 3) := by decide +kernel
theorem dX2_ofBillionths_20 : decode cX2_ofBillionths 20 = .ok (.iload_n 1, 1) := by decide +kernel
theorem dX2_ofBillionths_21 : decode cX2_ofBillionths 21 = .ok (.lload_n 2, 1) := by decide +kernel
theorem dX2_ofBillionths_22 : decode cX2_ofBillionths 22 = .ok (.lastore, 1) := by decide +kernel
theorem dX2_ofBillionths_23 : decode cX2_ofBillionths 23 = .ok (.lload_n 2, 1) := by decide +kernel
theorem dX2_ofBillionths_24 : decode cX2_ofBillionths 24 = .ok (.ldc2_w 193, 3) := by decide +kernel
theorem dX2_ofBillionths_27 : decode cX2_ofBillionths 27 = .ok (.ldiv, 1) := by decide +kernel
theorem dX2_ofBillionths_28 : decode cX2_ofBillionths 28 = .ok (.l2i, 1) := by decide +kernel
theorem dX2_ofBillionths_29 : decode cX2_ofBillionths 29 = .ok (.ireturn, 1) := by decide +kernel
set_option maxRecDepth 20000 in
theorem ggX2_timePart_X2_checkSlot : GoodIn wsX2_timePart wsX2_checkSlot := goodIn_ca (goodIn_r _ [11, 12, 13] (by decide +kernel) (by decide +kernel)) (goodIn_sub (fun _ h => List.mem_cons_of_mem _ (List.mem_append_right _ h)) (by decide +kernel))
set_option maxRecDepth 20000 in
theorem gX2_timePart_X2_checkSlot : GoodIn wsX2_timePart (va_wsS RX2 41 yX2_checkSlot wsX2_checkSlot) := goodIn_app (goodIn_of _ (by decide +kernel)) ggX2_timePart_X2_checkSlot
theorem dX2_timePart_0 : decode cX2_timePart 0 = .ok (.iload_n 1, 1) := by decide +kernel
theorem dX2_timePart_1 : decode cX2_timePart 1 = .ok (.iconst 4, 1) := by decide +kernel
theorem dX2_timePart_2 : decode cX2_timePart 2 = .ok (.invokestatic 41, 3) := by decide +kernel
theorem dX2_timePart_5 : decode cX2_timePart 5 = .ok (.aload_n 0, 1) := by decide +kernel
theorem dX2_timePart_6 : decode cX2_timePart 6 = .ok (.getfield 26, 3) := by decide +kernel
theorem dX2_timePart_9 : decode cX2_timePart 9 = .ok (.iload_n 1, 1) := by decide +kernel
theorem dX2_timePart_10 : decode cX2_timePart 10 = .ok (.laload, 1) := by decide +kernel
theorem dX2_timePart_11 : decode cX2_timePart 11 = .ok (.lstore_n 3, 1) := by decide +kernel
theorem dX2_timePart_12 : decode cX2_timePart 12 = .ok (.iload_n 2, 1) := by decide +kernel
theorem dX2_timePart_13 : decode cX2_timePart 13 = .ok (.lookupswitch 79 #[(104, 43), (109, 50), (110, 72), (115, 61)], 43) := by decide +kernel
theorem dX2_timePart_56 : decode cX2_timePart 56 = .ok (.lload_n 3, 1) := by decide +kernel
theorem dX2_timePart_57 : decode cX2_timePart 57 = .ok (.ldc2_w 193, 3) := by decide +kernel
theorem dX2_timePart_60 : decode cX2_timePart 60 = .ok (.ldiv, 1) := by decide +kernel
theorem dX2_timePart_61 : decode cX2_timePart 61 = .ok (.l2i, 1) := by decide +kernel
theorem dX2_timePart_62 : decode cX2_timePart 62 = .ok (.ireturn, 1) := by decide +kernel
theorem dX2_timePart_63 : decode cX2_timePart 63 = .ok (.lload_n 3, 1) := by decide +kernel
theorem dX2_timePart_64 : decode cX2_timePart 64 = .ok (.ldc2_w 195, 3) := by decide +kernel
theorem dX2_timePart_67 : decode cX2_timePart 67 = .ok (.ldiv, 1) := by decide +kernel
theorem dX2_timePart_68 : decode cX2_timePart 68 = .ok (.ldc2_w 201, 3) := by decide +kernel
theorem dX2_timePart_71 : decode cX2_timePart 71 = .ok (.lrem, 1) := by decide +kernel
theorem dX2_timePart_72 : decode cX2_timePart 72 = .ok (.l2i, 1) := by decide +kernel
theorem dX2_timePart_73 : decode cX2_timePart 73 = .ok (.ireturn, 1) := by decide +kernel
theorem dX2_timePart_74 : decode cX2_timePart 74 = .ok (.lload_n 3, 1) := by decide +kernel
theorem dX2_timePart_75 : decode cX2_timePart 75 = .ok (.ldc2_w 197, 3) := by decide +kernel
theorem dX2_timePart_78 : decode cX2_timePart 78 = .ok (.ldiv, 1) := by decide +kernel
theorem dX2_timePart_79 : decode cX2_timePart 79 = .ok (.ldc2_w 201, 3) := by decide +kernel
theorem dX2_timePart_82 : decode cX2_timePart 82 = .ok (.lrem, 1) := by decide +kernel
theorem dX2_timePart_83 : decode cX2_timePart 83 = .ok (.l2i, 1) := by decide +kernel
theorem dX2_timePart_84 : decode cX2_timePart 84 = .ok (.ireturn, 1) := by decide +kernel
theorem dX2_timePart_85 : decode cX2_timePart 85 = .ok (.lload_n 3, 1) := by decide +kernel
theorem dX2_timePart_86 : decode cX2_timePart 86 = .ok (.ldc2_w 197, 3) := by decide +kernel
theorem dX2_timePart_89 : decode cX2_timePart 89 = .ok (.lrem, 1) := by decide +kernel
theorem dX2_timePart_90 : decode cX2_timePart 90 = .ok (.l2i, 1) := by decide +kernel
theorem dX2_timePart_91 : decode cX2_timePart 91 = .ok (.ireturn, 1) := by decide +kernel
theorem dX2_timePart_92 : decode cX2_timePart 92 = .ok (.new 101, 3) := by decide +kernel
theorem dX2_timePart_95 : decode cX2_timePart 95 = .ok (.dup, 1) := by decide +kernel
theorem dX2_timePart_96 : decode cX2_timePart 96 = .ok (.ldc 203, 2) := by decide +kernel
theorem dX2_timePart_98 : decode cX2_timePart 98 = .ok (.invokespecial 105, 3) := by decide +kernel
theorem dX2_timePart_101 : decode cX2_timePart 101 = .ok (.athrow, 1) := by decide +kernel
set_option maxRecDepth 20000 in
theorem ggX2_moveTime_X2_checkSlot : GoodIn wsX2_moveTime wsX2_checkSlot := goodIn_ca (goodIn_r _ [7, 8, 9] (by decide +kernel) (by decide +kernel)) (goodIn_sub (fun _ h => List.mem_cons_of_mem _ (List.mem_append_left _ (List.mem_append_right _ h))) (by decide +kernel))
set_option maxRecDepth 20000 in
theorem gX2_moveTime_X2_checkSlot : GoodIn wsX2_moveTime (va_wsS RX2 41 yX2_checkSlot wsX2_checkSlot) := goodIn_app (goodIn_of _ (by decide +kernel)) ggX2_moveTime_X2_checkSlot
set_option maxRecDepth 20000 in
theorem ggX2_moveTime_X2_checkArgument : GoodIn wsX2_moveTime wsX2_checkArgument := goodIn_ca (goodIn_r _ [12, 13, 14] (by decide +kernel) (by decide +kernel)) (goodIn_sub (fun _ h => List.mem_cons_of_mem _ (List.mem_append_right _ h)) (by decide +kernel))
set_option maxRecDepth 20000 in
theorem gX2_moveTime_X2_checkArgument : GoodIn wsX2_moveTime (va_wsS RX2 49 yX2_checkArgument wsX2_checkArgument) := goodIn_app (goodIn_of _ (by decide +kernel)) ggX2_moveTime_X2_checkArgument
set_option maxRecDepth 20000 in
theorem ggX2_moveTime_X0_countInDay : GoodIn wsX2_moveTime wsX0_countInDay := goodIn_r _ [18, 19, 20, 21, 22] (by decide +kernel) (by decide +kernel)
set_option maxRecDepth 20000 in
theorem gX2_moveTime_X0_countInDay : GoodIn wsX2_moveTime (va_wsS RX2 205 yX0_countInDay wsX0_countInDay) := goodIn_app (goodIn_of _ (by decide +kernel)) ggX2_moveTime_X0_countInDay
set_option maxRecDepth 20000 in
theorem ggX2_moveTime_X2_isIn : GoodIn wsX2_moveTime wsX2_isIn := goodIn_r _ [25] (by decide +kernel) (by decide +kernel)
set_option maxRecDepth 20000 in
theorem gX2_moveTime_X2_isIn : GoodIn wsX2_moveTime (va_wsS RX2 55 yX2_isIn wsX2_isIn) := goodIn_app (goodIn_of _ (by decide +kernel)) ggX2_moveTime_X2_isIn
set_option maxRecDepth 20000 in
theorem ggX2_moveTime_X0_restOfDay : GoodIn wsX2_moveTime wsX0_restOfDay := goodIn_r _ [28, 22, 29, 30, 31, 32] (by decide +kernel) (by decide +kernel)
set_option maxRecDepth 20000 in
theorem gX2_moveTime_X0_restOfDay : GoodIn wsX2_moveTime (va_wsS RX2 213 yX0_restOfDay wsX0_restOfDay) := goodIn_app (goodIn_of _ (by decide +kernel)) ggX2_moveTime_X0_restOfDay
set_option maxRecDepth 20000 in
theorem ggX2_moveTime_X0_roundDay : GoodIn wsX2_moveTime wsX0_roundDay := goodIn_r _ [35, 22, 29, 30, 31, 32] (by decide +kernel) (by decide +kernel)
set_option maxRecDepth 20000 in
theorem gX2_moveTime_X0_roundDay : GoodIn wsX2_moveTime (va_wsS RX2 216 yX0_roundDay wsX0_roundDay) := goodIn_app (goodIn_of _ (by decide +kernel)) ggX2_moveTime_X0_roundDay
theorem dX2_moveTime_0 : decode cX2_moveTime 0 = .ok (.iload_n 1, 1) := by decide +kernel
theorem dX2_moveTime_1 : decode cX2_moveTime 1 = .ok (.iconst 4, 1) := by decide +kernel
theorem dX2_moveTime_2 : decode cX2_moveTime 2 = .ok (.invokestatic 41, 3) := by decide +kernel
theorem dX2_moveTime_5 : decode cX2_moveTime 5 = .ok (.iload 5, 2) := by decide +kernel
theorem dX2_moveTime_7 : decode cX2_moveTime 7 = .ok (.iconst 4, 1) := by decide +kernel
theorem dX2_moveTime_8 : decode cX2_moveTime 8 = .ok (.invokestatic 41, 3) := by decide +kernel
theorem dX2_moveTime_11 : decode cX2_moveTime 11 = .ok (.iload_n 2, 1) := by decide +kernel
theorem dX2_moveTime_12 : decode cX2_moveTime 12 = .ok (.bipush 105, 2) := by decide +kernel
theorem dX2_moveTime_14 : decode cX2_moveTime 14 = .ok (.if_icmp .eq 7, 3) := by decide +kernel
theorem dX2_moveTime_17 : decode cX2_moveTime 17 = .ok (.iconst 1, 1) := by decide +kernel
theorem dX2_moveTime_18 : decode cX2_moveTime 18 = .ok (.goto 4, 3) := by decide +kernel
theorem dX2_moveTime_21 : decode cX2_moveTime 21 = .ok (.iconst 0, 1) := by decide +kernel
theorem dX2_moveTime_22 : decode cX2_moveTime 22 = .ok (.invokestatic 49, 3) := by decide +kernel
theorem dX2_moveTime_25 : decode cX2_moveTime 25 = .ok (.iload_n 2, 1) := by decide +kernel
theorem dX2_moveTime_26 : decode cX2_moveTime 26 = .ok (.bipush 109, 2) := by decide +kernel
theorem dX2_moveTime_28 : decode cX2_moveTime 28 = .ok (.if_icmp .ne 8, 3) := by decide +kernel
theorem dX2_moveTime_31 : decode cX2_moveTime 31 = .ok (.bipush 105, 2) := by decide +kernel
theorem dX2_moveTime_33 : decode cX2_moveTime 33 = .ok (.goto 4, 3) := by decide +kernel
theorem dX2_moveTime_36 : decode cX2_moveTime 36 = .ok (.iload_n 2, 1) := by decide +kernel
theorem dX2_moveTime_37 : decode cX2_moveTime 37 = .ok (.invokestatic 205, 3) := by decide +kernel
theorem dX2_moveTime_40 : decode cX2_moveTime 40 = .ok (.lstore 6, 2) := by decide +kernel
theorem dX2_moveTime_42 : decode cX2_moveTime 42 = .ok (.lload 6, 2) := by decide +kernel
theorem dX2_moveTime_44 : decode cX2_moveTime 44 = .ok (.lconst 0, 1) := by decide +kernel
theorem dX2_moveTime_45 : decode cX2_moveTime 45 = .ok (.lcmp, 1) := by decide +kernel
theorem dX2_moveTime_46 : decode cX2_moveTime 46 = .ok (.ifCond .le 7, 3) := by decide +kernel
theorem dX2_moveTime_49 : decode cX2_moveTime 49 = .ok (.iconst 1, 1) := by decide +kernel
theorem dX2_moveTime_50 : decode cX2_moveTime 50 = .ok (.goto 4, 3) := by decide +kernel
theorem dX2_moveTime_53 : decode cX2_moveTime 53 = .ok (.iconst 0, 1) := by decide +kernel
theorem dX2_moveTime_54 : decode cX2_moveTime 54 = .ok (.invokestatic 49, 3) := by decide +kernel
theorem dX2_moveTime_57 : decode cX2_moveTime 57 = .ok (.lload_n 3, 1) := by decide +kernel
theorem dX2_moveTime_58 : decode cX2_moveTime 58 = .ok (.ldc2_w 209, 3) := by decide +kernel
theorem dX2_moveTime_61 : decode cX2_moveTime 61 = .ok (.ldc2_w 211, 3) := by decide +kernel
theorem dX2_moveTime_64 : decode cX2_moveTime 64 = .ok (.invokestatic 55, 3) := by decide +kernel
theorem dX2_moveTime_67 : decode cX2_moveTime 67 = .ok (.invokestatic 49, 3) := by decide +kernel
theorem dX2_moveTime_70 : decode cX2_moveTime 70 = .ok (.aload_n 0, 1) := by decide +kernel
theorem dX2_moveTime_71 : decode cX2_moveTime 71 = .ok (.getfield 26, 3) := by decide +kernel
theorem dX2_moveTime_74 : decode cX2_moveTime 74 = .ok (.iload 5, 2) := by decide +kernel
theorem dX2_moveTime_76 : decode cX2_moveTime 76 = .ok (.aload_n 0, 1) := by decide +kernel
theorem dX2_moveTime_77 : decode cX2_moveTime 77 = .ok (.getfield 26, 3) := by decide +kernel
theorem dX2_moveTime_80 : decode cX2_moveTime 80 = .ok (.iload_n 1, 1) := by decide +kernel
theorem dX2_moveTime_81 : decode cX2_moveTime 81 = .ok (.laload, 1) := by decide +kernel
theorem dX2_moveTime_82 : decode cX2_moveTime 82 = .ok (.lload_n 3, 1) := by decide +kernel
theorem dX2_moveTime_83 : decode cX2_moveTime 83 = .ok (.lload 6, 2) := by decide +kernel
theorem dX2_moveTime_85 : decode cX2_moveTime 85 = .ok (.invokestatic 213, 3) := by decide +kernel
theorem dX2_moveTime_88 : decode cX2_moveTime 88 = .ok (.ladd, 1) := by decide +kernel
theorem dX2_moveTime_89 : decode cX2_moveTime 89 = .ok (.invokestatic 216, 3) := by decide +kernel
theorem dX2_moveTime_92 : decode cX2_moveTime 92 = .ok (.lastore, 1) := by decide +kernel
theorem dX2_moveTime_93 : decode cX2_moveTime 93 = .ok (.aload_n 0, 1) := by decide +kernel
theorem dX2_moveTime_94 : decode cX2_moveTime 94 = .ok (.getfield 26, 3) := by decide +kernel
theorem dX2_moveTime_97 : decode cX2_moveTime 97 = .ok (.iload 5, 2) := by decide +kernel
theorem dX2_moveTime_99 : decode cX2_moveTime 99 = .ok (.laload, 1) := by decide +kernel
theorem dX2_moveTime_100 : decode cX2_moveTime 100 = .ok (.lreturn, 1) := by decide +kernel
set_option maxRecDepth 20000 in
theorem ggX2_cutTime_X2_checkSlot : GoodIn wsX2_cutTime wsX2_checkSlot := goodIn_ca (goodIn_r _ [10, 11, 12] (by decide +kernel) (by decide +kernel)) (goodIn_sub (fun _ h => List.mem_cons_of_mem _ (List.mem_append_right _ h)) (by decide +kernel))
set_option maxRecDepth 20000 in
theorem gX2_cutTime_X2_checkSlot : GoodIn wsX2_cutTime (va_wsS RX2 41 yX2_checkSlot wsX2_checkSlot) := goodIn_app (goodIn_of _ (by decide +kernel)) ggX2_cutTime_X2_checkSlot
theorem dX2_cutTime_0 : decode cX2_cutTime 0 = .ok (.iload_n 1, 1) := by decide +kernel
theorem dX2_cutTime_1 : decode cX2_cutTime 1 = .ok (.iconst 4, 1) := by decide +kernel
theorem dX2_cutTime_2 : decode cX2_cutTime 2 = .ok (.invokestatic 41, 3) := by decide +kernel
theorem dX2_cutTime_5 : decode cX2_cutTime 5 = .ok (.iload_n 3, 1) := by decide +kernel
theorem dX2_cutTime_6 : decode cX2_cutTime 6 = .ok (.iconst 4, 1) := by decide +kernel
theorem dX2_cutTime_7 : decode cX2_cutTime 7 = .ok (.invokestatic 41, 3) := by decide +kernel
theorem dX2_cutTime_10 : decode cX2_cutTime 10 = .ok (.aload_n 0, 1) := by decide +kernel
theorem dX2_cutTime_11 : decode cX2_cutTime 11 = .ok (.getfield 26, 3) := by decide +kernel
theorem dX2_cutTime_14 : decode cX2_cutTime 14 = .ok (.iload_n 1, 1) := by decide +kernel
theorem dX2_cutTime_15 : decode cX2_cutTime 15 = .ok (.laload, 1) := by decide +kernel
theorem dX2_cutTime_16 : decode cX2_cutTime 16 = .ok (.lstore 4, 2) := by decide +kernel
theorem dX2_cutTime_18 : decode cX2_cutTime 18 = .ok (.iload_n 2, 1) := by decide +kernel
theorem dX2_cutTime_19 : decode cX2_cutTime 19 = .ok (.lookupswitch 105 #[(100, 95), (104, 41), (109, 59), (115, 77)], 41) := by decide +kernel
theorem dX2_cutTime_60 : decode cX2_cutTime 60 = .ok (.aload_n 0, 1) := by decide +kernel
theorem dX2_cutTime_61 : decode cX2_cutTime 61 = .ok (.getfield 26, 3) := by decide +kernel
theorem dX2_cutTime_64 : decode cX2_cutTime 64 = .ok (.iload_n 3, 1) := by decide +kernel
theorem dX2_cutTime_65 : decode cX2_cutTime 65 = .ok (.lload 4, 2) := by decide +kernel
theorem dX2_cutTime_67 : decode cX2_cutTime 67 = .ok (.lload 4, 2) := by decide +kernel
theorem dX2_cutTime_69 : decode cX2_cutTime 69 = .ok (.ldc2_w 193, 3) := by decide +kernel
theorem dX2_cutTime_72 : decode cX2_cutTime 72 = .ok (.lrem, 1) := by decide +kernel
theorem dX2_cutTime_73 : decode cX2_cutTime 73 = .ok (.lsub, 1) := by decide +kernel
theorem dX2_cutTime_74 : decode cX2_cutTime 74 = .ok (.lastore, 1) := by decide +kernel
theorem dX2_cutTime_75 : decode cX2_cutTime 75 = .ok (.goto 59, 3) := by decide +kernel
theorem dX2_cutTime_78 : decode cX2_cutTime 78 = .ok (.aload_n 0, 1) := by decide +kernel
theorem dX2_cutTime_79 : decode cX2_cutTime 79 = .ok (.getfield 26, 3) := by decide +kernel
theorem dX2_cutTime_82 : decode cX2_cutTime 82 = .ok (.iload_n 3, 1) := by decide +kernel
theorem dX2_cutTime_83 : decode cX2_cutTime 83 = .ok (.lload 4, 2) := by decide +kernel
theorem dX2_cutTime_85 : decode cX2_cutTime 85 = .ok (.lload 4, 2) := by decide +kernel
theorem dX2_cutTime_87 : decode cX2_cutTime 87 = .ok (.ldc2_w 195, 3) := by decide +kernel
theorem dX2_cutTime_90 : decode cX2_cutTime 90 = .ok (.lrem, 1) := by decide +kernel
theorem dX2_cutTime_91 : decode cX2_cutTime 91 = .ok (.lsub, 1) := by decide +kernel
theorem dX2_cutTime_92 : decode cX2_cutTime 92 = .ok (.lastore, 1) := by decide +kernel
theorem dX2_cutTime_93 : decode cX2_cutTime 93 = .ok (.goto 41, 3) := by decide +kernel
theorem dX2_cutTime_96 : decode cX2_cutTime 96 = .ok (.aload_n 0, 1) := by decide +kernel
theorem dX2_cutTime_97 : decode cX2_cutTime 97 = .ok (.getfield 26, 3) := by decide +kernel
theorem dX2_cutTime_100 : decode cX2_cutTime 100 = .ok (.iload_n 3, 1) := by decide +kernel
theorem dX2_cutTime_101 : decode cX2_cutTime 101 = .ok (.lload 4, 2) := by decide +kernel
theorem dX2_cutTime_103 : decode cX2_cutTime 103 = .ok (.lload 4, 2) := by decide +kernel
theorem dX2_cutTime_105 : decode cX2_cutTime 105 = .ok (.ldc2_w 197, 3) := by decide +kernel
theorem dX2_cutTime_108 : decode cX2_cutTime 108 = .ok (.lrem, 1) := by decide +kernel
theorem dX2_cutTime_109 : decode cX2_cutTime 109 = .ok (.lsub, 1) := by decide +kernel
theorem dX2_cutTime_110 : decode cX2_cutTime 110 = .ok (.lastore, 1) := by decide +kernel
theorem dX2_cutTime_111 : decode cX2_cutTime 111 = .ok (.goto 23, 3) := by decide +kernel
theorem dX2_cutTime_114 : decode cX2_cutTime 114 = .ok (.aload_n 0, 1) := by decide +kernel
theorem dX2_cutTime_115 : decode cX2_cutTime 115 = .ok (.getfield 26, 3) := by decide +kernel
theorem dX2_cutTime_118 : decode cX2_cutTime 118 = .ok (.iload_n 3, 1) := by decide +kernel
theorem dX2_cutTime_119 : decode cX2_cutTime 119 = .ok (.lconst 0, 1) := by decide +kernel
theorem dX2_cutTime_120 : decode cX2_cutTime 120 = .ok (.lastore, 1) := by decide +kernel
theorem dX2_cutTime_121 : decode cX2_cutTime 121 = .ok (.goto 13, 3) := by decide +kernel
theorem dX2_cutTime_124 : decode cX2_cutTime 124 = .ok (.new 101, 3) := by decide +kernel
theorem dX2_cutTime_127 : decode cX2_cutTime 127 = .ok (.dup, 1) := by decide +kernel
theorem dX2_cutTime_128 : decode cX2_cutTime 128 = .ok (.ldc 219, 2) := by decide +kernel
theorem dX2_cutTime_130 : decode cX2_cutTime 130 = .ok (.invokespecial 105, 3) := by decide +kernel
theorem dX2_cutTime_133 : decode cX2_cutTime 133 = .ok (.athrow, 1) := by decide +kernel
theorem dX2_cutTime_134 : decode cX2_cutTime 134 = .ok (.aload_n 0, 1) := by decide +kernel
theorem dX2_cutTime_135 : decode cX2_cutTime 135 = .ok (.getfield 26, 3) := by decide +kernel
theorem dX2_cutTime_138 : decode cX2_cutTime 138 = .ok (.iload_n 3, 1) := by decide +kernel
theorem dX2_cutTime_139 : decode cX2_cutTime 139 = .ok (.laload, 1) := by decide +kernel
theorem dX2_cutTime_140 : decode cX2_cutTime 140 = .ok (.lreturn, 1) := by decide +kernel
set_option maxRecDepth 20000 in
theorem ggX2_goTime_X2_checkSlot : GoodIn wsX2_goTime wsX2_checkSlot := goodIn_ca (goodIn_r _ [8, 9, 10] (by decide +kernel) (by decide +kernel)) (goodIn_sub (fun _ h => List.mem_cons_of_mem _ (List.mem_append_right _ h)) (by decide +kernel))
set_option maxRecDepth 20000 in
theorem gX2_goTime_X2_checkSlot : GoodIn wsX2_goTime (va_wsS RX2 41 yX2_checkSlot wsX2_checkSlot) := goodIn_app (goodIn_of _ (by decide +kernel)) ggX2_goTime_X2_checkSlot
set_option maxRecDepth 20000 in
theorem ggX2_goTime_X0_restOfDay : GoodIn wsX2_goTime wsX0_restOfDay := goodIn_r _ [14, 15, 16, 17, 18, 19] (by decide +kernel) (by decide +kernel)
set_option maxRecDepth 20000 in
theorem gX2_goTime_X0_restOfDay : GoodIn wsX2_goTime (va_wsS RX2 213 yX0_restOfDay wsX0_restOfDay) := goodIn_app (goodIn_of _ (by decide +kernel)) ggX2_goTime_X0_restOfDay
set_option maxRecDepth 20000 in
theorem ggX2_goTime_X0_roundDay : GoodIn wsX2_goTime wsX0_roundDay := goodIn_r _ [22, 15, 16, 17, 18, 19] (by decide +kernel) (by decide +kernel)
set_option maxRecDepth 20000 in
theorem gX2_goTime_X0_roundDay : GoodIn wsX2_goTime (va_wsS RX2 216 yX0_roundDay wsX0_roundDay) := goodIn_app (goodIn_of _ (by decide +kernel)) ggX2_goTime_X0_roundDay
theorem dX2_goTime_0 : decode cX2_goTime 0 = .ok (.iload_n 1, 1) := by decide +kernel
theorem dX2_goTime_1 : decode cX2_goTime 1 = .ok (.iconst 4, 1) := by decide +kernel
theorem dX2_goTime_2 : decode cX2_goTime 2 = .ok (.invokestatic 41, 3) := by decide +kernel
theorem dX2_goTime_5 : decode cX2_goTime 5 = .ok (.iload_n 2, 1) := by decide +kernel
theorem dX2_goTime_6 : decode cX2_goTime 6 = .ok (.iconst 4, 1) := by decide +kernel
theorem dX2_goTime_7 : decode cX2_goTime 7 = .ok (.invokestatic 41, 3) := by decide +kernel
theorem dX2_goTime_10 : decode cX2_goTime 10 = .ok (.iload 4, 2) := by decide +kernel
theorem dX2_goTime_12 : decode cX2_goTime 12 = .ok (.iconst 4, 1) := by decide +kernel
theorem dX2_goTime_13 : decode cX2_goTime 13 = .ok (.invokestatic 41, 3) := by decide +kernel
theorem dX2_goTime_16 : decode cX2_goTime 16 = .ok (.aload_n 0, 1) := by decide +kernel
theorem dX2_goTime_17 : decode cX2_goTime 17 = .ok (.getfield 29, 3) := by decide +kernel
theorem dX2_goTime_20 : decode cX2_goTime 20 = .ok (.iload_n 2, 1) := by decide +kernel
theorem dX2_goTime_21 : decode cX2_goTime 21 = .ok (.laload, 1) := by decide +kernel
theorem dX2_goTime_22 : decode cX2_goTime 22 = .ok (.ldc2_w 221, 3) := by decide +kernel
theorem dX2_goTime_25 : decode cX2_goTime 25 = .ok (.invokestatic 213, 3) := by decide +kernel
theorem dX2_goTime_28 : decode cX2_goTime 28 = .ok (.aload_n 0, 1) := by decide +kernel
theorem dX2_goTime_29 : decode cX2_goTime 29 = .ok (.getfield 32, 3) := by decide +kernel
theorem dX2_goTime_32 : decode cX2_goTime 32 = .ok (.iload_n 2, 1) := by decide +kernel
theorem dX2_goTime_33 : decode cX2_goTime 33 = .ok (.laload, 1) := by decide +kernel
theorem dX2_goTime_34 : decode cX2_goTime 34 = .ok (.ladd, 1) := by decide +kernel
theorem dX2_goTime_35 : decode cX2_goTime 35 = .ok (.lstore 5, 2) := by decide +kernel
theorem dX2_goTime_37 : decode cX2_goTime 37 = .ok (.aload_n 0, 1) := by decide +kernel
theorem dX2_goTime_38 : decode cX2_goTime 38 = .ok (.getfield 26, 3) := by decide +kernel
theorem dX2_goTime_41 : decode cX2_goTime 41 = .ok (.iload 4, 2) := by decide +kernel
theorem dX2_goTime_43 : decode cX2_goTime 43 = .ok (.aload_n 0, 1) := by decide +kernel
theorem dX2_goTime_44 : decode cX2_goTime 44 = .ok (.getfield 26, 3) := by decide +kernel
theorem dX2_goTime_47 : decode cX2_goTime 47 = .ok (.iload_n 1, 1) := by decide +kernel
theorem dX2_goTime_48 : decode cX2_goTime 48 = .ok (.laload, 1) := by decide +kernel
theorem dX2_goTime_49 : decode cX2_goTime 49 = .ok (.iload_n 3, 1) := by decide +kernel
theorem dX2_goTime_50 : decode cX2_goTime 50 = .ok (.ifCond .eq 9, 3) := by decide +kernel
theorem dX2_goTime_53 : decode cX2_goTime 53 = .ok (.lload 5, 2) := by decide +kernel
theorem dX2_goTime_55 : decode cX2_goTime 55 = .ok (.lneg, 1) := by decide +kernel
theorem dX2_goTime_56 : decode cX2_goTime 56 = .ok (.goto 5, 3) := by decide +kernel
theorem dX2_goTime_59 : decode cX2_goTime 59 = .ok (.lload 5, 2) := by decide +kernel
theorem dX2_goTime_61 : decode cX2_goTime 61 = .ok (.ladd, 1) := by decide +kernel
theorem dX2_goTime_62 : decode cX2_goTime 62 = .ok (.invokestatic 216, 3) := by decide +kernel
theorem dX2_goTime_65 : decode cX2_goTime 65 = .ok (.lastore, 1) := by decide +kernel
theorem dX2_goTime_66 : decode cX2_goTime 66 = .ok (.aload_n 0, 1) := by decide +kernel
theorem dX2_goTime_67 : decode cX2_goTime 67 = .ok (.getfield 26, 3) := by decide +kernel
theorem dX2_goTime_70 : decode cX2_goTime 70 = .ok (.iload 4, 2) := by decide +kernel
theorem dX2_goTime_72 : decode cX2_goTime 72 = .ok (.laload, 1) := by decide +kernel
theorem dX2_goTime_73 : decode cX2_goTime 73 = .ok (.lreturn, 1) := by decide +kernel
set_option maxRecDepth 20000 in
theorem ggX2_orderTimes_X2_checkSlot : GoodIn wsX2_orderTimes wsX2_checkSlot := goodIn_ca (goodIn_r _ [5, 6, 7] (by decide +kernel) (by decide +kernel)) (goodIn_sub (fun _ h => List.mem_cons_of_mem _ (List.mem_append_right _ h)) (by decide +kernel))
set_option maxRecDepth 20000 in
theorem gX2_orderTimes_X2_checkSlot : GoodIn wsX2_orderTimes (va_wsS RX2 41 yX2_checkSlot wsX2_checkSlot) := goodIn_app (goodIn_of _ (by decide +kernel)) ggX2_orderTimes_X2_checkSlot
set_option maxRecDepth 20000 in
theorem ggX2_orderTimes_X2_sign : GoodIn wsX2_orderTimes wsX2_sign := goodIn_r _ [10] (by decide +kernel) (by decide +kernel)
set_option maxRecDepth 20000 in
theorem gX2_orderTimes_X2_sign : GoodIn wsX2_orderTimes (va_wsS RX2 148 yX2_sign wsX2_sign) := goodIn_app (goodIn_of _ (by decide +kernel)) ggX2_orderTimes_X2_sign
theorem dX2_orderTimes_0 : decode cX2_orderTimes 0 = .ok (.iload_n 1, 1) := by decide +kernel
theorem dX2_orderTimes_1 : decode cX2_orderTimes 1 = .ok (.iconst 4, 1) := by decide +kernel
theorem dX2_orderTimes_2 : decode cX2_orderTimes 2 = .ok (.invokestatic 41, 3) := by decide +kernel
theorem dX2_orderTimes_5 : decode cX2_orderTimes 5 = .ok (.iload_n 2, 1) := by decide +kernel
theorem dX2_orderTimes_6 : decode cX2_orderTimes 6 = .ok (.iconst 4, 1) := by decide +kernel
theorem dX2_orderTimes_7 : decode cX2_orderTimes 7 = .ok (.invokestatic 41, 3) := by decide +kernel
theorem dX2_orderTimes_10 : decode cX2_orderTimes 10 = .ok (.aload_n 0, 1) := by decide +kernel
theorem dX2_orderTimes_11 : decode cX2_orderTimes 11 = .ok (.getfield 26, 3) := by decide +kernel
theorem dX2_orderTimes_14 : decode cX2_orderTimes 14 = .ok (.iload_n 1, 1) := by decide +kernel
theorem dX2_orderTimes_15 : decode cX2_orderTimes 15 = .ok (.laload, 1) := by decide +kernel
theorem dX2_orderTimes_16 : decode cX2_orderTimes 16 = .ok (.aload_n 0, 1) := by decide +kernel
theorem dX2_orderTimes_17 : decode cX2_orderTimes 17 = .ok (.getfield 26, 3) := by decide +kernel
theorem dX2_orderTimes_20 : decode cX2_orderTimes 20 = .ok (.iload_n 2, 1) := by decide +kernel
theorem dX2_orderTimes_21 : decode cX2_orderTimes 21 = .ok (.laload, 1) := by decide +kernel
theorem dX2_orderTimes_22 : decode cX2_orderTimes 22 = .ok (.invokestatic 148, 3) := by decide +kernel
theorem dX2_orderTimes_25 : decode cX2_orderTimes 25 = .ok (.ireturn, 1) := by decide +kernel
set_option maxRecDepth 20000 in
theorem ggX2_length_X2_checkSlot : GoodIn wsX2_length wsX2_checkSlot := goodIn_ca (goodIn_r _ [8, 9, 10] (by decide +kernel) (by decide +kernel)) (goodIn_sub (fun _ h => List.mem_cons_of_mem _ (List.mem_append_left _ (List.mem_append_left _ (List.mem_append_left _ (List.mem_append_right _ h))))) (by decide +kernel))
set_option maxRecDepth 20000 in
theorem gX2_length_X2_checkSlot : GoodIn wsX2_length (va_wsS RX2 41 yX2_checkSlot wsX2_checkSlot) := goodIn_app (goodIn_of _ (by decide +kernel)) ggX2_length_X2_checkSlot
set_option maxRecDepth 20000 in
theorem ggX2_length_X2_isIn : GoodIn wsX2_length wsX2_isIn := goodIn_r _ [13] (by decide +kernel) (by decide +kernel)
set_option maxRecDepth 20000 in
theorem gX2_length_X2_isIn : GoodIn wsX2_length (va_wsS RX2 55 yX2_isIn wsX2_isIn) := goodIn_app (goodIn_of _ (by decide +kernel)) ggX2_length_X2_isIn
set_option maxRecDepth 20000 in
theorem ggX2_length_X2_checkArgument : GoodIn wsX2_length wsX2_checkArgument := goodIn_ca (goodIn_r _ [16, 17, 18] (by decide +kernel) (by decide +kernel)) (goodIn_sub (fun _ h => List.mem_cons_of_mem _ (List.mem_append_left _ (List.mem_append_left _ (List.mem_append_right _ h)))) (by decide +kernel))
set_option maxRecDepth 20000 in
theorem gX2_length_X2_checkArgument : GoodIn wsX2_length (va_wsS RX2 49 yX2_checkArgument wsX2_checkArgument) := goodIn_app (goodIn_of _ (by decide +kernel)) ggX2_length_X2_checkArgument
set_option maxRecDepth 20000 in
theorem ggX2_length_X2_keepLength : GoodIn wsX2_length wsX2_keepLength := goodIn_ca (goodIn_ca (goodIn_r _ [22, 23, 1, 2, 24, 25, 26, 27, 28, 29, 30, 31, 32, 11, 12, 7, 13, 33, 34, 35, 36, 37, 38, 39, 40, 41, 42, 43, 44, 45, 46, 47] (by decide +kernel) (by decide +kernel)) (goodIn_sub (fun _ h => List.mem_cons_of_mem _ (List.mem_append_left _ (List.mem_append_right _ h))) (by decide +kernel))) (goodIn_sub (fun _ h => List.mem_cons_of_mem _ (List.mem_append_right _ h)) (by decide +kernel))
set_option maxRecDepth 20000 in
theorem gX2_length_X2_keepLength : GoodIn wsX2_length (wsV RX2 227 RX2 yX2_keepLength wsX2_keepLength) := goodIn_app (goodIn_of _ (by decide +kernel)) ggX2_length_X2_keepLength
theorem dX2_length_0 : decode cX2_length 0 = .ok (.iload_n 1, 1) := by decide +kernel
theorem dX2_length_1 : decode cX2_length 1 = .ok (.iconst 4, 1) := by decide +kernel
theorem dX2_length_2 : decode cX2_length 2 = .ok (.invokestatic 41, 3) := by decide +kernel
theorem dX2_length_5 : decode cX2_length 5 = .ok (.lload_n 2, 1) := by decide +kernel
theorem dX2_length_6 : decode cX2_length 6 = .ok (.ldc2_w 223, 3) := by decide +kernel
theorem dX2_length_9 : decode cX2_length 9 = .ok (.ldc2_w 225, 3) := by decide +kernel
theorem dX2_length_12 : decode cX2_length 12 = .ok (.invokestatic 55, 3) := by decide +kernel
theorem dX2_length_15 : decode cX2_length 15 = .ok (.invokestatic 49, 3) := by decide +kernel
theorem dX2_length_18 : decode cX2_length 18 = .ok (.lload 4, 2) := by decide +kernel
theorem dX2_length_20 : decode cX2_length 20 = .ok (.ldc2_w 209, 3) := by decide +kernel
theorem dX2_length_23 : decode cX2_length 23 = .ok (.ldc2_w 211, 3) := by decide +kernel
theorem dX2_length_26 : decode cX2_length 26 = .ok (.invokestatic 55, 3) := by decide +kernel
theorem dX2_length_29 : decode cX2_length 29 = .ok (.invokestatic 49, 3) := by decide +kernel
theorem dX2_length_32 : decode cX2_length 32 = .ok (.aload_n 0, 1) := by decide +kernel
theorem dX2_length_33 : decode cX2_length 33 = .ok (.iload_n 1, 1) := by decide +kernel
theorem dX2_length_34 : decode cX2_length 34 = .ok (.lload_n 2, 1) := by decide +kernel
theorem dX2_length_35 : decode cX2_length 35 = .ok (.lload 4, 2) := by decide +kernel
theorem dX2_length_37 : decode cX2_length 37 = .ok (.invokevirtual 227, 3) := by decide +kernel
theorem dX2_length_40 : decode cX2_length 40 = .ok (.lreturn, 1) := by decide +kernel
set_option maxRecDepth 20000 in
theorem ggX2_lengthPart_X2_checkSlot : GoodIn wsX2_lengthPart wsX2_checkSlot := goodIn_ca (goodIn_r _ [8, 9, 10] (by decide +kernel) (by decide +kernel)) (goodIn_sub (fun _ h => List.mem_cons_of_mem _ (List.mem_append_right _ h)) (by decide +kernel))
set_option maxRecDepth 20000 in
theorem gX2_lengthPart_X2_checkSlot : GoodIn wsX2_lengthPart (va_wsS RX2 41 yX2_checkSlot wsX2_checkSlot) := goodIn_app (goodIn_of _ (by decide +kernel)) ggX2_lengthPart_X2_checkSlot
theorem dX2_lengthPart_0 : decode cX2_lengthPart 0 = .ok (.iload_n 1, 1) := by decide +kernel
theorem dX2_lengthPart_1 : decode cX2_lengthPart 1 = .ok (.iconst 4, 1) := by decide +kernel
theorem dX2_lengthPart_2 : decode cX2_lengthPart 2 = .ok (.invokestatic 41, 3) := by decide +kernel
theorem dX2_lengthPart_5 : decode cX2_lengthPart 5 = .ok (.iload_n 2, 1) := by decide +kernel
theorem dX2_lengthPart_6 : decode cX2_lengthPart 6 = .ok (.lookupswitch 40 #[(110, 33), (115, 26)], 26) := by decide +kernel
theorem dX2_lengthPart_32 : decode cX2_lengthPart 32 = .ok (.aload_n 0, 1) := by decide +kernel
theorem dX2_lengthPart_33 : decode cX2_lengthPart 33 = .ok (.getfield 29, 3) := by decide +kernel
theorem dX2_lengthPart_36 : decode cX2_lengthPart 36 = .ok (.iload_n 1, 1) := by decide +kernel
theorem dX2_lengthPart_37 : decode cX2_lengthPart 37 = .ok (.laload, 1) := by decide +kernel
theorem dX2_lengthPart_38 : decode cX2_lengthPart 38 = .ok (.lreturn, 1) := by decide +kernel
theorem dX2_lengthPart_39 : decode cX2_lengthPart 39 = .ok (.aload_n 0, 1) := by decide +kernel
theorem dX2_lengthPart_40 : decode cX2_lengthPart 40 = .ok (.getfield 32, 3) := by decide +kernel
theorem dX2_lengthPart_43 : decode cX2_lengthPart 43 = .ok (.iload_n 1, 1) := by decide +kernel
theorem dX2_lengthPart_44 : decode cX2_lengthPart 44 = .ok (.laload, 1) := by decide +kernel
theorem dX2_lengthPart_45 : decode cX2_lengthPart 45 = .ok (.lreturn, 1) := by decide +kernel
theorem dX2_lengthPart_46 : decode cX2_lengthPart 46 = .ok (.new 101, 3) := by decide +kernel
theorem dX2_lengthPart_49 : decode cX2_lengthPart 49 = .ok (.dup, 1) := by decide +kernel
theorem dX2_lengthPart_50 : decode cX2_lengthPart 50 = .ok (.ldc 231, 2) := by decide +kernel
theorem dX2_lengthPart_52 : decode cX2_lengthPart 52 = .ok (.invokespecial 105, 3) := by decide +kernel
theorem dX2_lengthPart_55 : decode cX2_lengthPart 55 = .ok (.athrow, 1) := by decide +kernel
set_option maxRecDepth 20000 in
theorem ggX2_addLength_X2_checkSlot : GoodIn wsX2_addLength wsX2_checkSlot := goodIn_ca (goodIn_r _ [6, 7, 8] (by decide +kernel) (by decide +kernel)) (goodIn_sub (fun _ h => List.mem_cons_of_mem _ (List.mem_append_left _ (List.mem_append_right _ h))) (by decide +kernel))
set_option maxRecDepth 20000 in
theorem gX2_addLength_X2_checkSlot : GoodIn wsX2_addLength (va_wsS RX2 41 yX2_checkSlot wsX2_checkSlot) := goodIn_app (goodIn_of _ (by decide +kernel)) ggX2_addLength_X2_checkSlot
set_option maxRecDepth 20000 in
theorem ggX2_addLength_X2_keepLength : GoodIn wsX2_addLength wsX2_keepLength := goodIn_ca (goodIn_ca (goodIn_r _ [12, 13, 14, 15, 1, 2, 16, 17, 18, 19, 20, 21, 22, 23, 24, 5, 25, 26, 27, 28, 29, 30, 31, 32, 33, 34, 35, 36, 37, 38, 39, 40] (by decide +kernel) (by decide +kernel)) (goodIn_sub (fun _ h => List.mem_cons_of_mem _ (List.mem_append_left _ (List.mem_append_left _ (List.mem_append_right _ h)))) (by decide +kernel))) (goodIn_sub (fun _ h => List.mem_cons_of_mem _ (List.mem_append_right _ h)) (by decide +kernel))
set_option maxRecDepth 20000 in
theorem gX2_addLength_X2_keepLength : GoodIn wsX2_addLength (wsV RX2 227 RX2 yX2_keepLength wsX2_keepLength) := goodIn_app (goodIn_of _ (by decide +kernel)) ggX2_addLength_X2_keepLength
theorem dX2_addLength_0 : decode cX2_addLength 0 = .ok (.iload_n 1, 1) := by decide +kernel
theorem dX2_addLength_1 : decode cX2_addLength 1 = .ok (.iconst 4, 1) := by decide +kernel
theorem dX2_addLength_2 : decode cX2_addLength 2 = .ok (.invokestatic 41, 3) := by decide +kernel
theorem dX2_addLength_5 : decode cX2_addLength 5 = .ok (.iload_n 2, 1) := by decide +kernel
theorem dX2_addLength_6 : decode cX2_addLength 6 = .ok (.iconst 4, 1) := by decide +kernel
theorem dX2_addLength_7 : decode cX2_addLength 7 = .ok (.invokestatic 41, 3) := by decide +kernel
theorem dX2_addLength_10 : decode cX2_addLength 10 = .ok (.iload 4, 2) := by decide +kernel
theorem dX2_addLength_12 : decode cX2_addLength 12 = .ok (.iconst 4, 1) := by decide +kernel
theorem dX2_addLength_13 : decode cX2_addLength 13 = .ok (.invokestatic 41, 3) := by decide +kernel
theorem dX2_addLength_16 : decode cX2_addLength 16 = .ok (.iload_n 3, 1) := by decide +kernel
theorem dX2_addLength_17 : decode cX2_addLength 17 = .ok (.ifCond .eq 7, 3) := by decide +kernel
theorem dX2_addLength_20 : decode cX2_addLength 20 = .ok (.iconst (-1), 1) := by decide +kernel
theorem dX2_addLength_21 : decode cX2_addLength 21 = .ok (.goto 4, 3) := by decide +kernel
theorem dX2_addLength_24 : decode cX2_addLength 24 = .ok (.iconst 1, 1) := by decide +kernel
theorem dX2_addLength_25 : decode cX2_addLength 25 = .ok (.istore 5, 2) := by decide +kernel
theorem dX2_addLength_27 : decode cX2_addLength 27 = .ok (.aload_n 0, 1) := by decide +kernel
theorem dX2_addLength_28 : decode cX2_addLength 28 = .ok (.getfield 29, 3) := by decide +kernel
theorem dX2_addLength_31 : decode cX2_addLength 31 = .ok (.iload_n 1, 1) := by decide +kernel
theorem dX2_addLength_32 : decode cX2_addLength 32 = .ok (.laload, 1) := by decide +kernel
theorem dX2_addLength_33 : decode cX2_addLength 33 = .ok (.iload 5, 2) := by decide +kernel
theorem dX2_addLength_35 : decode cX2_addLength 35 = .ok (.i2l, 1) := by decide +kernel
theorem dX2_addLength_36 : decode cX2_addLength 36 = .ok (.aload_n 0, 1) := by decide +kernel
theorem dX2_addLength_37 : decode cX2_addLength 37 = .ok (.getfield 29, 3) := by decide +kernel
theorem dX2_addLength_40 : decode cX2_addLength 40 = .ok (.iload_n 2, 1) := by decide +kernel
theorem dX2_addLength_41 : decode cX2_addLength 41 = .ok (.laload, 1) := by decide +kernel
theorem dX2_addLength_42 : decode cX2_addLength 42 = .ok (.lmul, 1) := by decide +kernel
theorem dX2_addLength_43 : decode cX2_addLength 43 = .ok (.ladd, 1) := by decide +kernel
theorem dX2_addLength_44 : decode cX2_addLength 44 = .ok (.lstore 6, 2) := by decide +kernel
theorem dX2_addLength_46 : decode cX2_addLength 46 = .ok (.aload_n 0, 1) := by decide +kernel
theorem dX2_addLength_47 : decode cX2_addLength 47 = .ok (.iload 4, 2) := by decide +kernel
theorem dX2_addLength_49 : decode cX2_addLength 49 = .ok (.lload 6, 2) := by decide +kernel
theorem dX2_addLength_51 : decode cX2_addLength 51 = .ok (.aload_n 0, 1) := by decide +kernel
theorem dX2_addLength_52 : decode cX2_addLength 52 = .ok (.getfield 32, 3) := by decide +kernel
theorem dX2_addLength_55 : decode cX2_addLength 55 = .ok (.iload_n 1, 1) := by decide +kernel
theorem dX2_addLength_56 : decode cX2_addLength 56 = .ok (.laload, 1) := by decide +kernel
theorem dX2_addLength_57 : decode cX2_addLength 57 = .ok (.iload 5, 2) := by decide +kernel
theorem dX2_addLength_59 : decode cX2_addLength 59 = .ok (.i2l, 1) := by decide +kernel
theorem dX2_addLength_60 : decode cX2_addLength 60 = .ok (.aload_n 0, 1) := by decide +kernel
theorem dX2_addLength_61 : decode cX2_addLength 61 = .ok (.getfield 32, 3) := by decide +kernel
theorem dX2_addLength_64 : decode cX2_addLength 64 = .ok (.iload_n 2, 1) := by decide +kernel
theorem dX2_addLength_65 : decode cX2_addLength 65 = .ok (.laload, 1) := by decide +kernel
theorem dX2_addLength_66 : decode cX2_addLength 66 = .ok (.lmul, 1) := by decide +kernel
theorem dX2_addLength_67 : decode cX2_addLength 67 = .ok (.ladd, 1) := by decide +kernel
theorem dX2_addLength_68 : decode cX2_addLength 68 = .ok (.invokevirtual 227, 3) := by decide +kernel
theorem dX2_addLength_71 : decode cX2_addLength 71 = .ok (.lreturn, 1) := by decide +kernel
set_option maxRecDepth 20000 in
theorem ggX2_timesLength_X2_checkSlot : GoodIn wsX2_timesLength wsX2_checkSlot := goodIn_ca (goodIn_r _ [8, 9, 10] (by decide +kernel) (by decide +kernel)) (goodIn_sub (fun _ h => List.mem_cons_of_mem _ (List.mem_append_left _ (List.mem_append_left _ (List.mem_append_right _ h)))) (by decide +kernel))
set_option maxRecDepth 20000 in
theorem gX2_timesLength_X2_checkSlot : GoodIn wsX2_timesLength (va_wsS RX2 41 yX2_checkSlot wsX2_checkSlot) := goodIn_app (goodIn_of _ (by decide +kernel)) ggX2_timesLength_X2_checkSlot
set_option maxRecDepth 20000 in
theorem ggX2_timesLength_X2_isIn : GoodIn wsX2_timesLength wsX2_isIn := goodIn_r _ [13] (by decide +kernel) (by decide +kernel)
set_option maxRecDepth 20000 in
theorem gX2_timesLength_X2_isIn : GoodIn wsX2_timesLength (va_wsS RX2 55 yX2_isIn wsX2_isIn) := goodIn_app (goodIn_of _ (by decide +kernel)) ggX2_timesLength_X2_isIn
set_option maxRecDepth 20000 in
theorem ggX2_timesLength_X2_checkArgument : GoodIn wsX2_timesLength wsX2_checkArgument := goodIn_ca (goodIn_r _ [16, 17, 18] (by decide +kernel) (by decide +kernel)) (goodIn_sub (fun _ h => List.mem_cons_of_mem _ (List.mem_append_left _ (List.mem_append_right _ h))) (by decide +kernel))
