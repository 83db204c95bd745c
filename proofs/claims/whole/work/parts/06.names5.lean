set_option maxRecDepth 20000 in
theorem gL_law_L_move : GoodIn wsL_law (va_wsS RL 195 yL_move wsL_move) := goodIn_app (goodIn_of _ (by decide +kernel)) ggL_law_L_move
set_option maxRecDepth 20000 in
theorem ggL_law_X3_move : GoodIn wsL_law wsX3_move := goodIn_ca (goodIn_r _ [279, 280, 281, 29, 127, 128, 5, 129, 130, 131, 132, 133, 282, 283, 284, 154, 155, 156, 157, 158, 285, 286, 287, 288, 249, 126, 289, 290, 291, 292, 194, 200, 201, 195, 196, 197, 198, 165, 147, 199, 151, 152, 153, 162, 163, 164, 166, 167, 168, 169, 170, 145, 171, 146, 172, 139, 140, 141, 142, 143, 144, 148, 149, 150, 159, 160, 161, 293, 294, 295, 296, 297, 298, 299, 300, 134, 135, 136, 137, 138, 963, 964, 965, 966, 967, 968, 969, 970, 971, 972, 973, 974, 975, 976] (by decide +kernel) (by decide +kernel)) (goodIn_sub (fun _ h => List.mem_append_left _ (List.mem_append_left _ (List.mem_append_left _ (List.mem_append_right _ h)))) (by decide +kernel))
set_option maxRecDepth 20000 in
theorem gL_law_X3_move : GoodIn wsL_law (wsV RL 198 RX3 yX3_move wsX3_move) := goodIn_app (goodIn_of _ (by decide +kernel)) ggL_law_X3_move
set_option maxRecDepth 20000 in
theorem ggL_law_L_with : GoodIn wsL_law wsL_with := goodIn_ca (goodIn_ca (goodIn_ca (goodIn_ca (goodIn_r _ [303, 44, 45, 304, 305, 306, 2, 307, 67, 68, 14, 50, 51, 52, 53, 54, 55, 220, 221, 71, 222, 73, 223, 224, 225, 186, 187, 95, 107, 188, 87, 88, 82, 89, 100, 101, 102, 103, 93, 104, 94, 105, 106, 90, 91, 92, 226, 70, 72, 308, 85, 86, 74, 75, 76, 77, 78, 79, 80, 81, 83, 84, 61, 62, 63, 64, 65, 66, 96, 97, 98, 99, 108, 109, 110, 111, 112, 113, 114, 115, 116, 117, 118, 119, 120, 121, 238, 239, 240, 233, 227, 309, 266, 267, 231, 232, 268, 269, 270, 271, 272, 273, 274, 275, 56, 57, 58, 59, 60, 953, 954, 955, 956, 957, 958, 959, 960, 961, 962] (by decide +kernel) (by decide +kernel)) (goodIn_sub (fun _ h => List.mem_append_left _ (List.mem_append_left _ (List.mem_append_left _ (List.mem_append_right _ h)))) (by decide +kernel))) (goodIn_sub (fun _ h => List.mem_append_left _ (List.mem_append_right _ h)) (by decide +kernel))) (goodIn_sub (fun _ h => List.mem_append_left _ (List.mem_append_left _ (List.mem_append_right _ h))) (by decide +kernel))) (goodIn_sub (fun _ h => List.mem_append_right _ h) (by decide +kernel))
set_option maxRecDepth 20000 in
theorem gL_law_L_with : GoodIn wsL_law (va_wsS RL 199 yL_with wsL_with) := goodIn_app (goodIn_of _ (by decide +kernel)) ggL_law_L_with
set_option maxRecDepth 20000 in
theorem ggL_law_X3_with : GoodIn wsL_law wsX3_with := goodIn_ca (goodIn_r _ [313, 29, 194, 200, 126, 201, 127, 128, 5, 129, 130, 131, 132, 133, 154, 155, 156, 157, 158, 195, 196, 197, 198, 165, 147, 199, 151, 152, 153, 162, 163, 164, 166, 167, 168, 169, 170, 145, 171, 146, 172, 139, 140, 141, 142, 143, 144, 148, 149, 150, 134, 135, 136, 137, 138, 159, 160, 161, 293, 294, 295, 296, 297, 298, 299, 300, 963, 964, 965, 966, 967, 968, 969, 970, 971, 972, 973, 974, 975, 976] (by decide +kernel) (by decide +kernel)) (goodIn_sub (fun _ h => List.mem_append_left _ (List.mem_append_left _ (List.mem_append_left _ (List.mem_append_right _ h)))) (by decide +kernel))
set_option maxRecDepth 20000 in
theorem gL_law_X3_with : GoodIn wsL_law (wsV RL 201 RX3 yX3_with wsX3_with) := goodIn_app (goodIn_of _ (by decide +kernel)) ggL_law_X3_with
set_option maxRecDepth 20000 in
theorem ggL_law_L_adjust : GoodIn wsL_law wsL_adjust := goodIn_ca (goodIn_ca (goodIn_ca (goodIn_ca (goodIn_r _ [316, 44, 45, 180, 317, 318, 319, 2, 320, 67, 68, 14, 51, 52, 53, 54, 55, 220, 221, 71, 222, 73, 223, 224, 225, 186, 187, 95, 107, 188, 87, 88, 82, 89, 100, 101, 102, 103, 93, 104, 94, 105, 106, 90, 91, 92, 226, 70, 72, 308, 85, 86, 96, 97, 98, 99, 84, 77, 78, 79, 80, 81, 83, 108, 109, 110, 111, 112, 113, 114, 115, 116, 117, 118, 119, 120, 121, 233, 953, 954, 955, 956, 957, 958, 959, 960, 961, 962] (by decide +kernel) (by decide +kernel)) (goodIn_sub (fun _ h => List.mem_append_left _ (List.mem_append_left _ (List.mem_append_left _ (List.mem_append_right _ h)))) (by decide +kernel))) (goodIn_sub (fun _ h => List.mem_append_left _ (List.mem_append_right _ h)) (by decide +kernel))) (goodIn_sub (fun _ h => List.mem_append_left _ (List.mem_append_left _ (List.mem_append_right _ h))) (by decide +kernel))) (goodIn_sub (fun _ h => List.mem_append_right _ h) (by decide +kernel))
set_option maxRecDepth 20000 in
theorem gL_law_L_adjust : GoodIn wsL_law (va_wsS RL 202 yL_adjust wsL_adjust) := goodIn_app (goodIn_of _ (by decide +kernel)) ggL_law_L_adjust
set_option maxRecDepth 20000 in
theorem ggL_law_X3_adjust : GoodIn wsL_law wsX3_adjust := goodIn_ca (goodIn_r _ [324, 29, 194, 200, 127, 128, 5, 129, 130, 131, 132, 133, 154, 155, 156, 157, 158, 195, 196, 197, 198, 165, 147, 199, 201, 151, 152, 153, 162, 163, 164, 166, 167, 168, 169, 170, 145, 171, 146, 172, 139, 140, 141, 142, 143, 144, 148, 149, 150, 159, 160, 161, 293, 294, 295, 296, 297, 298, 299, 300, 134, 135, 136, 137, 138, 963, 964, 965, 966, 967, 968, 969, 970, 971, 972, 973, 974, 975, 976] (by decide +kernel) (by decide +kernel)) (goodIn_sub (fun _ h => List.mem_append_left _ (List.mem_append_left _ (List.mem_append_left _ (List.mem_append_right _ h)))) (by decide +kernel))
set_option maxRecDepth 20000 in
theorem gL_law_X3_adjust : GoodIn wsL_law (wsV RL 205 RX3 yX3_adjust wsX3_adjust) := goodIn_app (goodIn_of _ (by decide +kernel)) ggL_law_X3_adjust
set_option maxRecDepth 20000 in
theorem ggL_law_L_weekday : GoodIn wsL_law wsL_weekday := goodIn_ca (goodIn_ca (goodIn_ca (goodIn_ca (goodIn_r _ [327, 44, 45, 180, 328, 329, 330, 2, 331, 67, 68, 332, 14, 51, 52, 53, 54, 55, 61, 62, 63, 64, 65, 66, 220, 221, 71, 222, 73, 223, 224, 225, 186, 187, 95, 107, 188, 87, 88, 82, 89, 100, 101, 102, 103, 93, 104, 94, 105, 106, 90, 91, 92, 226, 70, 72, 333, 334, 335, 336, 235, 236, 237, 80, 81, 83, 337, 338, 339, 108, 109, 110, 111, 112, 113, 114, 115, 116, 117, 118, 119, 120, 121, 340, 341, 342, 96, 97, 98, 99, 84, 85, 86, 77, 78, 79, 953, 954, 955, 956, 957, 958, 959, 960, 961, 962] (by decide +kernel) (by decide +kernel)) (goodIn_sub (fun _ h => List.mem_append_left _ (List.mem_append_left _ (List.mem_append_left _ (List.mem_append_right _ h)))) (by decide +kernel))) (goodIn_sub (fun _ h => List.mem_append_left _ (List.mem_append_right _ h)) (by decide +kernel))) (goodIn_sub (fun _ h => List.mem_append_left _ (List.mem_append_left _ (List.mem_append_right _ h))) (by decide +kernel))) (goodIn_sub (fun _ h => List.mem_append_right _ h) (by decide +kernel))
set_option maxRecDepth 20000 in
theorem gL_law_L_weekday : GoodIn wsL_law (va_wsS RL 206 yL_weekday wsL_weekday) := goodIn_app (goodIn_of _ (by decide +kernel)) ggL_law_L_weekday
set_option maxRecDepth 20000 in
theorem ggL_law_X3_weekday : GoodIn wsL_law wsX3_weekday := goodIn_ca (goodIn_r _ [346, 249, 29, 194, 200, 127, 128, 5, 129, 130, 131, 132, 133, 154, 155, 156, 157, 158, 195, 196, 197, 198, 165, 147, 199, 201, 151, 152, 153, 162, 163, 164, 166, 167, 168, 169, 170, 145, 171, 146, 172, 139, 140, 141, 142, 143, 144, 148, 149, 150, 159, 160, 161, 347, 348, 349, 246, 247, 248, 293, 294, 295, 296, 297, 298, 299, 300, 134, 135, 136, 137, 138, 963, 964, 965, 966, 967, 968, 969, 970, 971, 972, 973, 974, 975, 976] (by decide +kernel) (by decide +kernel)) (goodIn_sub (fun _ h => List.mem_append_left _ (List.mem_append_left _ (List.mem_append_left _ (List.mem_append_right _ h)))) (by decide +kernel))
set_option maxRecDepth 20000 in
theorem gL_law_X3_weekday : GoodIn wsL_law (wsV RL 208 RX3 yX3_weekday wsX3_weekday) := goodIn_app (goodIn_of _ (by decide +kernel)) ggL_law_X3_weekday
set_option maxRecDepth 20000 in
theorem ggL_law_L_inMonth : GoodIn wsL_law wsL_inMonth := goodIn_ca (goodIn_ca (goodIn_ca (goodIn_ca (goodIn_r _ [352, 44, 45, 180, 353, 354, 355, 2, 356, 357, 358, 332, 14, 51, 52, 53, 54, 55, 61, 62, 63, 64, 65, 66, 67, 68, 220, 221, 71, 222, 73, 223, 224, 225, 186, 187, 95, 107, 188, 87, 88, 82, 89, 100, 101, 102, 103, 93, 104, 94, 105, 106, 90, 91, 92, 226, 70, 72, 96, 97, 98, 99, 84, 85, 86, 77, 78, 79, 80, 81, 83, 340, 341, 342, 336, 235, 236, 237, 337, 338, 339, 108, 109, 110, 111, 112, 113, 114, 115, 116, 117, 118, 119, 120, 121, 333, 334, 335, 953, 954, 955, 956, 957, 958, 959, 960, 961, 962] (by decide +kernel) (by decide +kernel)) (goodIn_sub (fun _ h => List.mem_append_left _ (List.mem_append_left _ (List.mem_append_left _ (List.mem_append_right _ h)))) (by decide +kernel))) (goodIn_sub (fun _ h => List.mem_append_left _ (List.mem_append_left _ (List.mem_append_right _ h))) (by decide +kernel))) (goodIn_sub (fun _ h => List.mem_append_left _ (List.mem_append_right _ h)) (by decide +kernel))) (goodIn_sub (fun _ h => List.mem_append_right _ h) (by decide +kernel))
set_option maxRecDepth 20000 in
theorem gL_law_L_inMonth : GoodIn wsL_law (va_wsS RL 209 yL_inMonth wsL_inMonth) := goodIn_app (goodIn_of _ (by decide +kernel)) ggL_law_L_inMonth
set_option maxRecDepth 20000 in
theorem ggL_law_X3_inMonth : GoodIn wsL_law wsX3_inMonth := goodIn_ca (goodIn_r _ [362, 363, 364, 249, 29, 194, 200, 127, 128, 5, 129, 130, 131, 132, 133, 154, 155, 156, 157, 158, 195, 196, 197, 198, 165, 147, 199, 201, 151, 152, 153, 162, 163, 164, 166, 167, 168, 169, 170, 145, 171, 146, 172, 139, 140, 141, 142, 143, 144, 148, 149, 150, 159, 160, 161, 347, 348, 349, 246, 247, 248, 293, 294, 295, 296, 297, 298, 299, 300, 134, 135, 136, 137, 138, 963, 964, 965, 966, 967, 968, 969, 970, 971, 972, 973, 974, 975, 976] (by decide +kernel) (by decide +kernel)) (goodIn_sub (fun _ h => List.mem_append_left _ (List.mem_append_left _ (List.mem_append_left _ (List.mem_append_right _ h)))) (by decide +kernel))
set_option maxRecDepth 20000 in
theorem gL_law_X3_inMonth : GoodIn wsL_law (wsV RL 211 RX3 yX3_inMonth wsX3_inMonth) := goodIn_app (goodIn_of _ (by decide +kernel)) ggL_law_X3_inMonth
set_option maxRecDepth 20000 in
theorem ggL_law_L_atYear : GoodIn wsL_law wsL_atYear := goodIn_ca (goodIn_ca (goodIn_ca (goodIn_ca (goodIn_r _ [367, 44, 45, 368, 369, 370, 2, 371, 50, 51, 52, 53, 54, 55, 61, 62, 63, 64, 65, 66, 67, 68, 69, 70, 71, 72, 73, 74, 75, 76, 77, 78, 79, 80, 81, 82, 83, 84, 85, 86, 87, 88, 89, 90, 91, 92, 93, 94, 95, 56, 57, 58, 59, 60, 372, 269, 270, 271, 272, 273, 274, 232, 97, 98, 99, 100, 101, 102, 103, 104, 105, 106, 107, 275, 108, 109, 110, 111, 14, 112, 113, 114, 115, 116, 117, 118, 119, 120, 121, 953, 954, 955, 956, 957, 958, 959, 960, 961, 962] (by decide +kernel) (by decide +kernel)) (goodIn_sub (fun _ h => List.mem_append_left _ (List.mem_append_left _ (List.mem_append_left _ (List.mem_append_right _ h)))) (by decide +kernel))) (goodIn_sub (fun _ h => List.mem_append_left _ (List.mem_append_left _ (List.mem_append_right _ h))) (by decide +kernel))) (goodIn_sub (fun _ h => List.mem_append_left _ (List.mem_append_right _ h)) (by decide +kernel))) (goodIn_sub (fun _ h => List.mem_append_right _ h) (by decide +kernel))
set_option maxRecDepth 20000 in
theorem gL_law_L_atYear : GoodIn wsL_law (va_wsS RL 212 yL_atYear wsL_atYear) := goodIn_app (goodIn_of _ (by decide +kernel)) ggL_law_L_atYear
set_option maxRecDepth 20000 in
theorem ggL_law_X3_atYear : GoodIn wsL_law wsX3_atYear := goodIn_ca (goodIn_r _ [376, 126, 127, 128, 5, 129, 130, 131, 132, 133, 139, 140, 141, 142, 143, 144, 145, 146, 147, 148, 149, 150, 151, 152, 153, 134, 135, 136, 137, 138, 154, 155, 156, 157, 158, 159, 160, 161, 162, 163, 164, 165, 166, 167, 168, 169, 170, 171, 172, 293, 294, 295, 296, 29, 297, 298, 299, 300, 194, 195, 196, 197, 198, 199, 200, 201, 963, 964, 965, 966, 967, 968, 969, 970, 971, 972, 973, 974, 975, 976] (by decide +kernel) (by decide +kernel)) (goodIn_sub (fun _ h => List.mem_append_left _ (List.mem_append_left _ (List.mem_append_left _ (List.mem_append_right _ h)))) (by decide +kernel))
set_option maxRecDepth 20000 in
theorem gL_law_X3_atYear : GoodIn wsL_law (wsV RL 214 RX3 yX3_atYear wsX3_atYear) := goodIn_app (goodIn_of _ (by decide +kernel)) ggL_law_X3_atYear
set_option maxRecDepth 20000 in
theorem ggL_law_L_order : GoodIn wsL_law wsL_order := goodIn_ca (goodIn_ca (goodIn_r _ [379, 44, 380, 381, 382, 2, 383, 14, 51, 52, 53, 54, 55, 384, 385, 386, 953, 954, 955, 956, 957, 958, 959, 960, 961, 962] (by decide +kernel) (by decide +kernel)) (goodIn_sub (fun _ h => List.mem_append_left _ (List.mem_append_left _ (List.mem_append_left _ (List.mem_append_right _ h)))) (by decide +kernel))) (goodIn_sub (fun _ h => List.mem_append_left _ (List.mem_append_left _ (List.mem_append_right _ h))) (by decide +kernel))
set_option maxRecDepth 20000 in
theorem gL_law_L_order : GoodIn wsL_law (va_wsS RL 215 yL_order wsL_order) := goodIn_app (goodIn_of _ (by decide +kernel)) ggL_law_L_order
set_option maxRecDepth 20000 in
theorem ggL_law_X3_order : GoodIn wsL_law wsX3_order := goodIn_ca (goodIn_r _ [390, 29, 127, 128, 5, 129, 130, 131, 132, 133, 154, 155, 156, 157, 158, 391, 392, 393, 963, 964, 965, 966, 967, 968, 969, 970, 971, 972, 973, 974, 975, 976] (by decide +kernel) (by decide +kernel)) (goodIn_sub (fun _ h => List.mem_append_left _ (List.mem_append_left _ (List.mem_append_left _ (List.mem_append_right _ h)))) (by decide +kernel))
set_option maxRecDepth 20000 in
theorem gL_law_X3_order : GoodIn wsL_law (wsV RL 218 RX3 yX3_order wsX3_order) := goodIn_app (goodIn_of _ (by decide +kernel)) ggL_law_X3_order
set_option maxRecDepth 20000 in
theorem ggL_law_L_between : GoodIn wsL_law wsL_between := goodIn_ca (goodIn_ca (goodIn_ca (goodIn_r _ [396, 44, 45, 397, 398, 399, 2, 400, 67, 68, 14, 332, 50, 51, 52, 53, 54, 55, 401, 402, 71, 403, 271, 272, 273, 274, 404, 405, 406, 231, 221, 222, 73, 223, 224, 225, 186, 187, 95, 107, 188, 87, 88, 82, 89, 100, 101, 102, 103, 93, 104, 94, 105, 106, 90, 91, 92, 226, 70, 72, 232, 97, 98, 99, 84, 85, 86, 77, 78, 79, 80, 81, 83, 953, 954, 955, 956, 957, 958, 959, 960, 961, 962] (by decide +kernel) (by decide +kernel)) (goodIn_sub (fun _ h => List.mem_append_left _ (List.mem_append_left _ (List.mem_append_left _ (List.mem_append_right _ h)))) (by decide +kernel))) (goodIn_sub (fun _ h => List.mem_append_left _ (List.mem_append_right _ h)) (by decide +kernel))) (goodIn_sub (fun _ h => List.mem_append_left _ (List.mem_append_left _ (List.mem_append_right _ h))) (by decide +kernel))
set_option maxRecDepth 20000 in
theorem gL_law_L_between : GoodIn wsL_law (va_wsS RL 219 yL_between wsL_between) := goodIn_app (goodIn_of _ (by decide +kernel)) ggL_law_L_between
set_option maxRecDepth 20000 in
theorem ggL_law_X3_between : GoodIn wsL_law wsX3_between := goodIn_ca (goodIn_r _ [410, 29, 249, 126, 127, 128, 5, 129, 130, 131, 132, 133, 282, 283, 284, 154, 155, 156, 157, 158, 411, 412, 413, 414, 194, 200, 201, 195, 196, 197, 198, 165, 147, 199, 151, 152, 153, 162, 163, 164, 166, 167, 168, 169, 170, 145, 171, 146, 172, 139, 140, 141, 142, 143, 144, 148, 149, 150, 963, 964, 965, 966, 967, 968, 969, 970, 971, 972, 973, 974, 975, 976] (by decide +kernel) (by decide +kernel)) (goodIn_sub (fun _ h => List.mem_append_left _ (List.mem_append_left _ (List.mem_append_left _ (List.mem_append_right _ h)))) (by decide +kernel))
set_option maxRecDepth 20000 in
theorem gL_law_X3_between : GoodIn wsL_law (wsV RL 222 RX3 yX3_between wsX3_between) := goodIn_app (goodIn_of _ (by decide +kernel)) ggL_law_X3_between
set_option maxRecDepth 20000 in
theorem ggL_law_L_span : GoodIn wsL_law wsL_span := goodIn_ca (goodIn_ca (goodIn_ca (goodIn_ca (goodIn_r _ [417, 44, 45, 418, 419, 420, 2, 421, 51, 52, 53, 54, 55, 422, 423, 424, 257, 258, 61, 62, 63, 64, 65, 66, 67, 68, 425, 426, 427, 428, 16, 17, 18, 117, 118, 119, 120, 121, 429, 430, 431, 432, 50, 953, 954, 955, 956, 957, 958, 959, 960, 961, 962] (by decide +kernel) (by decide +kernel)) (goodIn_sub (fun _ h => List.mem_append_left _ (List.mem_append_left _ (List.mem_append_left _ (List.mem_append_right _ h)))) (by decide +kernel))) (goodIn_sub (fun _ h => List.mem_append_left _ (List.mem_append_left _ (List.mem_append_right _ h))) (by decide +kernel))) (goodIn_sub (fun _ h => List.mem_append_left _ (List.mem_append_right _ h)) (by decide +kernel))) (goodIn_sub (fun _ h => List.mem_append_right _ h) (by decide +kernel))
set_option maxRecDepth 20000 in
theorem gL_law_L_span : GoodIn wsL_law (va_wsS RL 223 yL_span wsL_span) := goodIn_app (goodIn_of _ (by decide +kernel)) ggL_law_L_span
set_option maxRecDepth 20000 in
theorem ggL_law_X3_span : GoodIn wsL_law wsX3_span := goodIn_ca (goodIn_r _ [436, 437, 438, 5, 439, 170, 131, 132, 133, 154, 155, 156, 157, 158, 440, 441, 442, 443, 280, 281, 35, 36, 37, 444, 445, 446, 447, 126, 963, 964, 965, 966, 967, 968, 969, 970, 971, 972, 973, 974, 975, 976] (by decide +kernel) (by decide +kernel)) (goodIn_sub (fun _ h => List.mem_append_left _ (List.mem_append_left _ (List.mem_append_left _ (List.mem_append_right _ h)))) (by decide +kernel))
set_option maxRecDepth 20000 in
theorem gL_law_X3_span : GoodIn wsL_law (wsV RL 225 RX3 yX3_span wsX3_span) := goodIn_app (goodIn_of _ (by decide +kernel)) ggL_law_X3_span
set_option maxRecDepth 20000 in
theorem ggL_law_L_until : GoodIn wsL_law wsL_until := goodIn_ca (goodIn_ca (goodIn_ca (goodIn_r _ [450, 44, 180, 451, 452, 453, 2, 454, 14, 50, 51, 52, 53, 54, 55, 117, 118, 119, 120, 121, 401, 402, 71, 403, 271, 272, 273, 274, 404, 405, 406, 231, 221, 222, 73, 223, 224, 225, 186, 187, 95, 107, 188, 87, 88, 82, 89, 100, 101, 102, 103, 93, 104, 94, 105, 106, 90, 91, 92, 226, 70, 72, 232, 97, 98, 99, 84, 85, 86, 77, 78, 79, 80, 81, 83, 309, 266, 267, 268, 269, 270, 275, 75, 76, 425, 426, 427, 428, 16, 17, 18, 422, 423, 424, 257, 258, 61, 62, 63, 429, 430, 431, 432, 953, 954, 955, 956, 957, 958, 959, 960, 961, 962] (by decide +kernel) (by decide +kernel)) (goodIn_sub (fun _ h => List.mem_append_left _ (List.mem_append_left _ (List.mem_append_left _ (List.mem_append_right _ h)))) (by decide +kernel))) (goodIn_sub (fun _ h => List.mem_append_left _ (List.mem_append_left _ (List.mem_append_right _ h))) (by decide +kernel))) (goodIn_sub (fun _ h => List.mem_append_right _ h) (by decide +kernel))
set_option maxRecDepth 20000 in
theorem gL_law_L_until : GoodIn wsL_law (va_wsS RL 226 yL_until wsL_until) := goodIn_app (goodIn_of _ (by decide +kernel)) ggL_law_L_until
set_option maxRecDepth 20000 in
theorem ggL_law_X3_until : GoodIn wsL_law wsX3_until := goodIn_ca (goodIn_r _ [458, 29, 126, 127, 128, 5, 129, 130, 131, 132, 133, 437, 438, 439, 170, 154, 155, 156, 157, 158, 411, 412, 413, 414, 194, 200, 201, 195, 196, 197, 198, 165, 147, 199, 151, 152, 153, 162, 163, 164, 166, 167, 168, 169, 145, 171, 146, 172, 139, 140, 141, 142, 143, 144, 148, 149, 150, 289, 290, 291, 292, 159, 160, 161, 440, 441, 442, 443, 280, 281, 35, 36, 37, 444, 445, 446, 447, 963, 964, 965, 966, 967, 968, 969, 970, 971, 972, 973, 974, 975, 976] (by decide +kernel) (by decide +kernel)) (goodIn_sub (fun _ h => List.mem_append_left _ (List.mem_append_left _ (List.mem_append_left _ (List.mem_append_right _ h)))) (by decide +kernel))
set_option maxRecDepth 20000 in
theorem gL_law_X3_until : GoodIn wsL_law (wsV RL 229 RX3 yX3_until wsX3_until) := goodIn_app (goodIn_of _ (by decide +kernel)) ggL_law_X3_until
set_option maxRecDepth 20000 in
theorem ggL_law_L_go : GoodIn wsL_law wsL_go := goodIn_ca (goodIn_ca (goodIn_ca (goodIn_r _ [461, 44, 180, 462, 463, 464, 2, 465, 14, 18, 51, 52, 53, 54, 55, 429, 430, 431, 432, 50, 16, 17, 309, 266, 71, 267, 231, 221, 222, 73, 223, 224, 225, 186, 187, 95, 107, 188, 87, 88, 82, 89, 100, 101, 102, 103, 93, 104, 94, 105, 106, 90, 91, 92, 226, 70, 72, 232, 97, 98, 99, 84, 85, 86, 77, 78, 79, 80, 81, 83, 268, 269, 270, 271, 272, 273, 274, 275, 75, 76, 108, 109, 110, 111, 112, 113, 114, 115, 116, 117, 118, 119, 120, 121, 953, 954, 955, 956, 957, 958, 959, 960, 961, 962] (by decide +kernel) (by decide +kernel)) (goodIn_sub (fun _ h => List.mem_append_left _ (List.mem_append_left _ (List.mem_append_left _ (List.mem_append_right _ h)))) (by decide +kernel))) (goodIn_sub (fun _ h => List.mem_append_left _ (List.mem_append_left _ (List.mem_append_right _ h))) (by decide +kernel))) (goodIn_sub (fun _ h => List.mem_append_right _ h) (by decide +kernel))
set_option maxRecDepth 20000 in
theorem gL_law_L_go : GoodIn wsL_law (va_wsS RL 230 yL_go wsL_go) := goodIn_app (goodIn_of _ (by decide +kernel)) ggL_law_L_go
set_option maxRecDepth 20000 in
theorem ggL_law_X3_go : GoodIn wsL_law wsX3_go := goodIn_ca (goodIn_r _ [469, 470, 29, 37, 127, 128, 5, 129, 130, 131, 132, 133, 437, 438, 439, 170, 154, 155, 156, 157, 158, 444, 445, 446, 447, 126, 35, 36, 289, 290, 291, 292, 194, 200, 201, 195, 196, 197, 198, 165, 147, 199, 151, 152, 153, 162, 163, 164, 166, 167, 168, 169, 145, 171, 146, 172, 139, 140, 141, 142, 143, 144, 148, 149, 150, 159, 160, 161, 293, 294, 295, 296, 297, 298, 299, 300, 134, 135, 136, 137, 138, 963, 964, 965, 966, 967, 968, 969, 970, 971, 972, 973, 974, 975, 976] (by decide +kernel) (by decide +kernel)) (goodIn_sub (fun _ h => List.mem_append_left _ (List.mem_append_left _ (List.mem_append_left _ (List.mem_append_right _ h)))) (by decide +kernel))
set_option maxRecDepth 20000 in
theorem gL_law_X3_go : GoodIn wsL_law (wsV RL 233 RX3 yX3_go wsX3_go) := goodIn_app (goodIn_of _ (by decide +kernel)) ggL_law_X3_go
set_option maxRecDepth 20000 in
theorem ggL_law_L_spanPart : GoodIn wsL_law wsL_spanPart := goodIn_ca (goodIn_ca (goodIn_ca (goodIn_r _ [473, 44, 45, 474, 475, 476, 2, 477, 67, 68, 16, 17, 18, 51, 52, 53, 54, 55, 953, 954, 955, 956, 957, 958, 959, 960, 961, 962] (by decide +kernel) (by decide +kernel)) (goodIn_sub (fun _ h => List.mem_append_left _ (List.mem_append_left _ (List.mem_append_left _ (List.mem_append_right _ h)))) (by decide +kernel))) (goodIn_sub (fun _ h => List.mem_append_left _ (List.mem_append_right _ h)) (by decide +kernel))) (goodIn_sub (fun _ h => List.mem_append_left _ (List.mem_append_left _ (List.mem_append_right _ h))) (by decide +kernel))
set_option maxRecDepth 20000 in
theorem gL_law_L_spanPart : GoodIn wsL_law (va_wsS RL 234 yL_spanPart wsL_spanPart) := goodIn_app (goodIn_of _ (by decide +kernel)) ggL_law_L_spanPart
set_option maxRecDepth 20000 in
theorem ggL_law_X3_spanPart : GoodIn wsL_law wsX3_spanPart := goodIn_ca (goodIn_r _ [481, 35, 36, 37, 437, 438, 5, 439, 170, 131, 132, 133, 154, 155, 156, 157, 158, 963, 964, 965, 966, 967, 968, 969, 970, 971, 972, 973, 974, 975, 976] (by decide +kernel) (by decide +kernel)) (goodIn_sub (fun _ h => List.mem_append_left _ (List.mem_append_left _ (List.mem_append_left _ (List.mem_append_right _ h)))) (by decide +kernel))
set_option maxRecDepth 20000 in
theorem gL_law_X3_spanPart : GoodIn wsL_law (wsV RL 236 RX3 yX3_spanPart wsX3_spanPart) := goodIn_app (goodIn_of _ (by decide +kernel)) ggL_law_X3_spanPart
set_option maxRecDepth 20000 in
theorem ggL_law_L_addSpan : GoodIn wsL_law wsL_addSpan := goodIn_ca (goodIn_ca (goodIn_ca (goodIn_r _ [484, 44, 180, 485, 486, 487, 2, 488, 489, 16, 17, 18, 51, 52, 53, 54, 55, 425, 426, 427, 428, 422, 423, 424, 257, 258, 61, 62, 63, 117, 118, 119, 120, 121, 429, 430, 431, 432, 50, 953, 954, 955, 956, 957, 958, 959, 960, 961, 962] (by decide +kernel) (by decide +kernel)) (goodIn_sub (fun _ h => List.mem_append_left _ (List.mem_append_left _ (List.mem_append_left _ (List.mem_append_right _ h)))) (by decide +kernel))) (goodIn_sub (fun _ h => List.mem_append_left _ (List.mem_append_left _ (List.mem_append_right _ h))) (by decide +kernel))) (goodIn_sub (fun _ h => List.mem_append_right _ h) (by decide +kernel))
set_option maxRecDepth 20000 in
theorem gL_law_L_addSpan : GoodIn wsL_law (va_wsS RL 237 yL_addSpan wsL_addSpan) := goodIn_app (goodIn_of _ (by decide +kernel)) ggL_law_L_addSpan
set_option maxRecDepth 20000 in
theorem ggL_law_X3_addSpan : GoodIn wsL_law wsX3_addSpan := goodIn_ca (goodIn_r _ [493, 470, 35, 36, 37, 437, 438, 5, 439, 170, 131, 132, 133, 154, 155, 156, 157, 158, 440, 441, 442, 443, 280, 281, 444, 445, 446, 447, 126, 963, 964, 965, 966, 967, 968, 969, 970, 971, 972, 973, 974, 975, 976] (by decide +kernel) (by decide +kernel)) (goodIn_sub (fun _ h => List.mem_append_left _ (List.mem_append_left _ (List.mem_append_left _ (List.mem_append_right _ h)))) (by decide +kernel))
set_option maxRecDepth 20000 in
theorem gL_law_X3_addSpan : GoodIn wsL_law (wsV RL 239 RX3 yX3_addSpan wsX3_addSpan) := goodIn_app (goodIn_of _ (by decide +kernel)) ggL_law_X3_addSpan
set_option maxRecDepth 20000 in
theorem ggL_law_L_timesSpan : GoodIn wsL_law wsL_timesSpan := goodIn_ca (goodIn_ca (goodIn_ca (goodIn_ca (goodIn_r _ [496, 44, 45, 180, 497, 498, 499, 2, 500, 501, 502, 16, 17, 18, 51, 52, 53, 54, 55, 61, 62, 63, 64, 65, 66, 67, 68, 425, 426, 427, 428, 422, 423, 424, 257, 258, 117, 118, 119, 120, 121, 429, 430, 431, 432, 50, 953, 954, 955, 956, 957, 958, 959, 960, 961, 962] (by decide +kernel) (by decide +kernel)) (goodIn_sub (fun _ h => List.mem_append_left _ (List.mem_append_left _ (List.mem_append_left _ (List.mem_append_right _ h)))) (by decide +kernel))) (goodIn_sub (fun _ h => List.mem_append_left _ (List.mem_append_left _ (List.mem_append_right _ h))) (by decide +kernel))) (goodIn_sub (fun _ h => List.mem_append_left _ (List.mem_append_right _ h)) (by decide +kernel))) (goodIn_sub (fun _ h => List.mem_append_right _ h) (by decide +kernel))
set_option maxRecDepth 20000 in
theorem gL_law_L_timesSpan : GoodIn wsL_law (va_wsS RL 240 yL_timesSpan wsL_timesSpan) := goodIn_app (goodIn_of _ (by decide +kernel)) ggL_law_L_timesSpan
set_option maxRecDepth 20000 in
theorem ggL_law_X3_timesSpan : GoodIn wsL_law wsX3_timesSpan := goodIn_ca (goodIn_r _ [506, 507, 146, 35, 36, 37, 437, 438, 5, 439, 170, 131, 132, 133, 154, 155, 156, 157, 158, 440, 441, 442, 443, 280, 281, 444, 445, 446, 447, 126, 963, 964, 965, 966, 967, 968, 969, 970, 971, 972, 973, 974, 975, 976] (by decide +kernel) (by decide +kernel)) (goodIn_sub (fun _ h => List.mem_append_left _ (List.mem_append_left _ (List.mem_append_left _ (List.mem_append_right _ h)))) (by decide +kernel))
set_option maxRecDepth 20000 in
theorem gL_law_X3_timesSpan : GoodIn wsL_law (wsV RL 242 RX3 yX3_timesSpan wsX3_timesSpan) := goodIn_app (goodIn_of _ (by decide +kernel)) ggL_law_X3_timesSpan
set_option maxRecDepth 20000 in
theorem ggL_law_L_plainSpan : GoodIn wsL_law wsL_plainSpan := goodIn_ca (goodIn_ca (goodIn_ca (goodIn_r _ [510, 44, 180, 511, 512, 513, 2, 514, 50, 18, 51, 52, 53, 54, 55, 429, 430, 431, 432, 16, 17, 425, 426, 427, 428, 422, 423, 424, 257, 258, 61, 62, 63, 117, 118, 119, 120, 121, 953, 954, 955, 956, 957, 958, 959, 960, 961, 962] (by decide +kernel) (by decide +kernel)) (goodIn_sub (fun _ h => List.mem_append_left _ (List.mem_append_left _ (List.mem_append_left _ (List.mem_append_right _ h)))) (by decide +kernel))) (goodIn_sub (fun _ h => List.mem_append_left _ (List.mem_append_left _ (List.mem_append_right _ h))) (by decide +kernel))) (goodIn_sub (fun _ h => List.mem_append_right _ h) (by decide +kernel))
set_option maxRecDepth 20000 in
theorem gL_law_L_plainSpan : GoodIn wsL_law (va_wsS RL 243 yL_plainSpan wsL_plainSpan) := goodIn_app (goodIn_of _ (by decide +kernel)) ggL_law_L_plainSpan
set_option maxRecDepth 20000 in
theorem ggL_law_X3_plainSpan : GoodIn wsL_law wsX3_plainSpan := goodIn_ca (goodIn_r _ [518, 126, 37, 437, 438, 5, 439, 170, 131, 132, 133, 154, 155, 156, 157, 158, 444, 445, 446, 447, 35, 36, 440, 441, 442, 443, 280, 281, 963, 964, 965, 966, 967, 968, 969, 970, 971, 972, 973, 974, 975, 976] (by decide +kernel) (by decide +kernel)) (goodIn_sub (fun _ h => List.mem_append_left _ (List.mem_append_left _ (List.mem_append_left _ (List.mem_append_right _ h)))) (by decide +kernel))
set_option maxRecDepth 20000 in
theorem gL_law_X3_plainSpan : GoodIn wsL_law (wsV RL 245 RX3 yX3_plainSpan wsX3_plainSpan) := goodIn_app (goodIn_of _ (by decide +kernel)) ggL_law_X3_plainSpan
set_option maxRecDepth 20000 in
theorem ggL_law_L_month : GoodIn wsL_law wsL_month := goodIn_ca (goodIn_ca (goodIn_ca (goodIn_ca (goodIn_r _ [521, 44, 45, 522, 523, 524, 2, 525, 50, 51, 52, 53, 54, 55, 61, 62, 63, 64, 65, 66, 67, 68, 56, 57, 58, 59, 60, 69, 70, 71, 72, 73, 526, 527, 528, 529, 19, 308, 85, 86, 87, 88, 82, 89, 117, 118, 119, 120, 121, 74, 75, 76, 77, 78, 79, 80, 81, 83, 84, 90, 91, 92, 93, 94, 95, 953, 954, 955, 956, 957, 958, 959, 960, 961, 962] (by decide +kernel) (by decide +kernel)) (goodIn_sub (fun _ h => List.mem_append_left _ (List.mem_append_left _ (List.mem_append_left _ (List.mem_append_right _ h)))) (by decide +kernel))) (goodIn_sub (fun _ h => List.mem_append_left _ (List.mem_append_left _ (List.mem_append_right _ h))) (by decide +kernel))) (goodIn_sub (fun _ h => List.mem_append_left _ (List.mem_append_right _ h)) (by decide +kernel))) (goodIn_sub (fun _ h => List.mem_append_right _ h) (by decide +kernel))
set_option maxRecDepth 20000 in
theorem gL_law_L_month : GoodIn wsL_law (va_wsS RL 246 yL_month wsL_month) := goodIn_app (goodIn_of _ (by decide +kernel)) ggL_law_L_month
set_option maxRecDepth 20000 in
theorem ggL_law_X3_month : GoodIn wsL_law wsX3_month := goodIn_ca (goodIn_r _ [533, 126, 38, 437, 438, 5, 439, 170, 131, 132, 133, 134, 135, 136, 137, 138, 154, 155, 156, 157, 158, 534, 535, 536, 537, 151, 152, 153, 148, 149, 150, 139, 140, 141, 142, 143, 144, 145, 146, 147, 963, 964, 965, 966, 967, 968, 969, 970, 971, 972, 973, 974, 975, 976] (by decide +kernel) (by decide +kernel)) (goodIn_sub (fun _ h => List.mem_append_left _ (List.mem_append_left _ (List.mem_append_left _ (List.mem_append_right _ h)))) (by decide +kernel))
set_option maxRecDepth 20000 in
theorem gL_law_X3_month : GoodIn wsL_law (wsV RL 248 RX3 yX3_month wsX3_month) := goodIn_app (goodIn_of _ (by decide +kernel)) ggL_law_X3_month
set_option maxRecDepth 20000 in
theorem ggL_law_L_moveMonth : GoodIn wsL_law wsL_moveMonth := goodIn_ca (goodIn_ca (goodIn_ca (goodIn_ca (goodIn_r _ [540, 44, 45, 180, 541, 542, 543, 2, 544, 257, 258, 19, 50, 51, 52, 53, 54, 55, 64, 65, 66, 67, 68, 61, 62, 63, 526, 527, 528, 529, 308, 85, 71, 86, 73, 87, 88, 82, 89, 56, 57, 58, 59, 60, 117, 118, 119, 120, 121, 74, 75, 76, 77, 78, 79, 80, 81, 83, 84, 90, 91, 92, 93, 94, 95, 953, 954, 955, 956, 957, 958, 959, 960, 961, 962] (by decide +kernel) (by decide +kernel)) (goodIn_sub (fun _ h => List.mem_append_left _ (List.mem_append_left _ (List.mem_append_left _ (List.mem_append_right _ h)))) (by decide +kernel))) (goodIn_sub (fun _ h => List.mem_append_left _ (List.mem_append_left _ (List.mem_append_right _ h))) (by decide +kernel))) (goodIn_sub (fun _ h => List.mem_append_left _ (List.mem_append_right _ h)) (by decide +kernel))) (goodIn_sub (fun _ h => List.mem_append_right _ h) (by decide +kernel))
set_option maxRecDepth 20000 in
theorem gL_law_L_moveMonth : GoodIn wsL_law (va_wsS RL 249 yL_moveMonth wsL_moveMonth) := goodIn_app (goodIn_of _ (by decide +kernel)) ggL_law_L_moveMonth
set_option maxRecDepth 20000 in
theorem ggL_law_X3_moveMonth : GoodIn wsL_law wsX3_moveMonth := goodIn_ca (goodIn_r _ [548, 280, 281, 38, 126, 437, 438, 5, 439, 170, 131, 132, 133, 154, 155, 156, 157, 158, 151, 152, 153, 134, 135, 136, 137, 138, 534, 535, 536, 537, 148, 149, 150, 139, 140, 141, 142, 143, 144, 145, 146, 147, 963, 964, 965, 966, 967, 968, 969, 970, 971, 972, 973, 974, 975, 976] (by decide +kernel) (by decide +kernel)) (goodIn_sub (fun _ h => List.mem_append_left _ (List.mem_append_left _ (List.mem_append_left _ (List.mem_append_right _ h)))) (by decide +kernel))
set_option maxRecDepth 20000 in
theorem gL_law_X3_moveMonth : GoodIn wsL_law (wsV RL 251 RX3 yX3_moveMonth wsX3_moveMonth) := goodIn_app (goodIn_of _ (by decide +kernel)) ggL_law_X3_moveMonth
set_option maxRecDepth 20000 in
theorem ggL_law_L_monthPart : GoodIn wsL_law wsL_monthPart := goodIn_ca (goodIn_ca (goodIn_ca (goodIn_r _ [551, 44, 45, 552, 553, 554, 2, 555, 67, 68, 19, 51, 52, 53, 54, 55, 308, 85, 71, 86, 73, 87, 88, 82, 89, 227, 78, 79, 80, 81, 83, 74, 75, 76, 77, 84, 90, 91, 92, 93, 94, 95, 238, 239, 240, 953, 954, 955, 956, 957, 958, 959, 960, 961, 962] (by decide +kernel) (by decide +kernel)) (goodIn_sub (fun _ h => List.mem_append_left _ (List.mem_append_left _ (List.mem_append_left _ (List.mem_append_right _ h)))) (by decide +kernel))) (goodIn_sub (fun _ h => List.mem_append_left _ (List.mem_append_right _ h)) (by decide +kernel))) (goodIn_sub (fun _ h => List.mem_append_left _ (List.mem_append_left _ (List.mem_append_right _ h))) (by decide +kernel))
set_option maxRecDepth 20000 in
theorem gL_law_L_monthPart : GoodIn wsL_law (va_wsS RL 252 yL_monthPart wsL_monthPart) := goodIn_app (goodIn_of _ (by decide +kernel)) ggL_law_L_monthPart
set_option maxRecDepth 20000 in
theorem ggL_law_X3_monthPart : GoodIn wsL_law wsX3_monthPart := goodIn_ca (goodIn_r _ [559, 38, 126, 437, 438, 5, 439, 170, 131, 132, 133, 154, 155, 156, 157, 158, 151, 152, 153, 148, 149, 150, 534, 535, 536, 537, 139, 140, 141, 142, 143, 144, 145, 146, 147, 963, 964, 965, 966, 967, 968, 969, 970, 971, 972, 973, 974, 975, 976] (by decide +kernel) (by decide +kernel)) (goodIn_sub (fun _ h => List.mem_append_left _ (List.mem_append_left _ (List.mem_append_left _ (List.mem_append_right _ h)))) (by decide +kernel))
set_option maxRecDepth 20000 in
theorem gL_law_X3_monthPart : GoodIn wsL_law (wsV RL 254 RX3 yX3_monthPart wsX3_monthPart) := goodIn_app (goodIn_of _ (by decide +kernel)) ggL_law_X3_monthPart
set_option maxRecDepth 20000 in
theorem ggL_law_L_atDay : GoodIn wsL_law wsL_atDay := goodIn_ca (goodIn_ca (goodIn_ca (goodIn_ca (goodIn_r _ [562, 44, 45, 563, 564, 565, 2, 566, 19, 51, 52, 53, 54, 55, 74, 75, 71, 76, 77, 78, 79, 73, 80, 81, 82, 83, 84, 85, 86, 87, 88, 89, 90, 91, 92, 93, 94, 95, 61, 62, 63, 64, 65, 66, 67, 68, 96, 97, 98, 99, 100, 101, 102, 103, 104, 105, 106, 107, 108, 109, 110, 111, 14, 112, 113, 114, 115, 116, 117, 118, 119, 120, 121, 953, 954, 955, 956, 957, 958, 959, 960, 961, 962] (by decide +kernel) (by decide +kernel)) (goodIn_sub (fun _ h => List.mem_append_left _ (List.mem_append_left _ (List.mem_append_left _ (List.mem_append_right _ h)))) (by decide +kernel))) (goodIn_sub (fun _ h => List.mem_append_left _ (List.mem_append_left _ (List.mem_append_right _ h))) (by decide +kernel))) (goodIn_sub (fun _ h => List.mem_append_left _ (List.mem_append_right _ h)) (by decide +kernel))) (goodIn_sub (fun _ h => List.mem_append_right _ h) (by decide +kernel))
set_option maxRecDepth 20000 in
theorem gL_law_L_atDay : GoodIn wsL_law (va_wsS RL 255 yL_atDay wsL_atDay) := goodIn_app (goodIn_of _ (by decide +kernel)) ggL_law_L_atDay
set_option maxRecDepth 20000 in
theorem ggL_law_X3_atDay : GoodIn wsL_law wsX3_atDay := goodIn_ca (goodIn_r _ [570, 29, 38, 126, 437, 438, 5, 439, 170, 131, 132, 133, 127, 128, 129, 130, 534, 535, 536, 537, 151, 152, 153, 148, 149, 150, 139, 140, 141, 142, 143, 144, 145, 146, 147, 154, 155, 156, 157, 158, 159, 160, 161, 162, 163, 164, 165, 166, 167, 168, 169, 171, 172, 963, 964, 965, 966, 967, 968, 969, 970, 971, 972, 973, 974, 975, 976] (by decide +kernel) (by decide +kernel)) (goodIn_sub (fun _ h => List.mem_append_left _ (List.mem_append_left _ (List.mem_append_left _ (List.mem_append_right _ h)))) (by decide +kernel))
set_option maxRecDepth 20000 in
theorem gL_law_X3_atDay : GoodIn wsL_law (wsV RL 257 RX3 yX3_atDay wsX3_atDay) := goodIn_app (goodIn_of _ (by decide +kernel)) ggL_law_X3_atDay
set_option maxRecDepth 20000 in
theorem ggL_law_L_orderMonths : GoodIn wsL_law wsL_orderMonths := goodIn_ca (goodIn_ca (goodIn_r _ [573, 44, 574, 575, 576, 2, 577, 19, 51, 52, 53, 54, 55, 384, 385, 386, 953, 954, 955, 956, 957, 958, 959, 960, 961, 962] (by decide +kernel) (by decide +kernel)) (goodIn_sub (fun _ h => List.mem_append_left _ (List.mem_append_left _ (List.mem_append_left _ (List.mem_append_right _ h)))) (by decide +kernel))) (goodIn_sub (fun _ h => List.mem_append_left _ (List.mem_append_left _ (List.mem_append_right _ h))) (by decide +kernel))
set_option maxRecDepth 20000 in
theorem gL_law_L_orderMonths : GoodIn wsL_law (va_wsS RL 258 yL_orderMonths wsL_orderMonths) := goodIn_app (goodIn_of _ (by decide +kernel)) ggL_law_L_orderMonths
set_option maxRecDepth 20000 in
theorem ggL_law_X3_orderMonths : GoodIn wsL_law wsX3_orderMonths := goodIn_ca (goodIn_r _ [581, 38, 437, 438, 5, 439, 170, 131, 132, 133, 154, 155, 156, 157, 158, 391, 392, 393, 963, 964, 965, 966, 967, 968, 969, 970, 971, 972, 973, 974, 975, 976] (by decide +kernel) (by decide +kernel)) (goodIn_sub (fun _ h => List.mem_append_left _ (List.mem_append_left _ (List.mem_append_left _ (List.mem_append_right _ h)))) (by decide +kernel))
set_option maxRecDepth 20000 in
theorem gL_law_X3_orderMonths : GoodIn wsL_law (wsV RL 260 RX3 yX3_orderMonths wsX3_orderMonths) := goodIn_app (goodIn_of _ (by decide +kernel)) ggL_law_X3_orderMonths
set_option maxRecDepth 20000 in
theorem ggL_law_L_time : GoodIn wsL_law wsL_time := goodIn_ca (goodIn_ca (goodIn_ca (goodIn_r _ [584, 44, 45, 585, 586, 587, 2, 588, 589, 590, 591, 20, 592, 593, 594, 51, 52, 53, 54, 55, 61, 62, 63, 64, 65, 66, 67, 68, 953, 954, 955, 956, 957, 958, 959, 960, 961, 962] (by decide +kernel) (by decide +kernel)) (goodIn_sub (fun _ h => List.mem_append_left _ (List.mem_append_left _ (List.mem_append_left _ (List.mem_append_right _ h)))) (by decide +kernel))) (goodIn_sub (fun _ h => List.mem_append_left _ (List.mem_append_left _ (List.mem_append_right _ h))) (by decide +kernel))) (goodIn_sub (fun _ h => List.mem_append_left _ (List.mem_append_right _ h)) (by decide +kernel))
set_option maxRecDepth 20000 in
theorem gL_law_L_time : GoodIn wsL_law (va_wsS RL 261 yL_time wsL_time) := goodIn_app (goodIn_of _ (by decide +kernel)) ggL_law_L_time
set_option maxRecDepth 20000 in
theorem ggL_law_X3_time : GoodIn wsL_law wsX3_time := goodIn_ca (goodIn_r _ [598, 599, 600, 601, 30, 602, 603, 604, 437, 438, 5, 439, 170, 131, 132, 133, 154, 155, 156, 157, 158, 963, 964, 965, 966, 967, 968, 969, 970, 971, 972, 973, 974, 975, 976] (by decide +kernel) (by decide +kernel)) (goodIn_sub (fun _ h => List.mem_append_left _ (List.mem_append_left _ (List.mem_append_left _ (List.mem_append_right _ h)))) (by decide +kernel))
set_option maxRecDepth 20000 in
theorem gL_law_X3_time : GoodIn wsL_law (wsV RL 264 RX3 yX3_time wsX3_time) := goodIn_app (goodIn_of _ (by decide +kernel)) ggL_law_X3_time
set_option maxRecDepth 20000 in
theorem ggL_law_L_ofBillionths : GoodIn wsL_law wsL_ofBillionths := goodIn_ca (goodIn_ca (goodIn_ca (goodIn_r _ [607, 44, 45, 608, 609, 610, 2, 611, 612, 20, 592, 51, 52, 53, 54, 55, 61, 62, 63, 64, 65, 66, 67, 68, 953, 954, 955, 956, 957, 958, 959, 960, 961, 962] (by decide +kernel) (by decide +kernel)) (goodIn_sub (fun _ h => List.mem_append_left _ (List.mem_append_left _ (List.mem_append_left _ (List.mem_append_right _ h)))) (by decide +kernel))) (goodIn_sub (fun _ h => List.mem_append_left _ (List.mem_append_left _ (List.mem_append_right _ h))) (by decide +kernel))) (goodIn_sub (fun _ h => List.mem_append_left _ (List.mem_append_right _ h)) (by decide +kernel))
set_option maxRecDepth 20000 in
theorem gL_law_L_ofBillionths : GoodIn wsL_law (va_wsS RL 265 yL_ofBillionths wsL_ofBillionths) := goodIn_app (goodIn_of _ (by decide +kernel)) ggL_law_L_ofBillionths
set_option maxRecDepth 20000 in
theorem ggL_law_X3_ofBillionths : GoodIn wsL_law wsX3_ofBillionths := goodIn_ca (goodIn_r _ [616, 617, 30, 618, 437, 438, 5, 439, 170, 131, 132, 133, 154, 155, 156, 157, 158, 963, 964, 965, 966, 967, 968, 969, 970, 971, 972, 973, 974, 975, 976] (by decide +kernel) (by decide +kernel)) (goodIn_sub (fun _ h => List.mem_append_left _ (List.mem_append_left _ (List.mem_append_left _ (List.mem_append_right _ h)))) (by decide +kernel))
set_option maxRecDepth 20000 in
theorem gL_law_X3_ofBillionths : GoodIn wsL_law (wsV RL 267 RX3 yX3_ofBillionths wsX3_ofBillionths) := goodIn_app (goodIn_of _ (by decide +kernel)) ggL_law_X3_ofBillionths
set_option maxRecDepth 20000 in
theorem ggL_law_L_timePart : GoodIn wsL_law wsL_timePart := goodIn_ca (goodIn_ca (goodIn_ca (goodIn_r _ [621, 44, 45, 622, 623, 624, 2, 625, 67, 68, 20, 592, 593, 626, 594, 51, 52, 53, 54, 55, 953, 954, 955, 956, 957, 958, 959, 960, 961, 962] (by decide +kernel) (by decide +kernel)) (goodIn_sub (fun _ h => List.mem_append_left _ (List.mem_append_left _ (List.mem_append_left _ (List.mem_append_right _ h)))) (by decide +kernel))) (goodIn_sub (fun _ h => List.mem_append_left _ (List.mem_append_right _ h)) (by decide +kernel))) (goodIn_sub (fun _ h => List.mem_append_left _ (List.mem_append_left _ (List.mem_append_right _ h))) (by decide +kernel))
set_option maxRecDepth 20000 in
theorem gL_law_L_timePart : GoodIn wsL_law (va_wsS RL 268 yL_timePart wsL_timePart) := goodIn_app (goodIn_of _ (by decide +kernel)) ggL_law_L_timePart
set_option maxRecDepth 20000 in
theorem ggL_law_X3_timePart : GoodIn wsL_law wsX3_timePart := goodIn_ca (goodIn_r _ [630, 30, 604, 602, 603, 437, 438, 5, 439, 170, 131, 132, 133, 154, 155, 156, 157, 158, 963, 964, 965, 966, 967, 968, 969, 970, 971, 972, 973, 974, 975, 976] (by decide +kernel) (by decide +kernel)) (goodIn_sub (fun _ h => List.mem_append_left _ (List.mem_append_left _ (List.mem_append_left _ (List.mem_append_right _ h)))) (by decide +kernel))
set_option maxRecDepth 20000 in
theorem gL_law_X3_timePart : GoodIn wsL_law (wsV RL 270 RX3 yX3_timePart wsX3_timePart) := goodIn_app (goodIn_of _ (by decide +kernel)) ggL_law_X3_timePart
set_option maxRecDepth 20000 in
theorem ggL_law_L_moveTime : GoodIn wsL_law wsL_moveTime := goodIn_ca (goodIn_ca (goodIn_ca (goodIn_r _ [633, 44, 45, 634, 635, 636, 2, 637, 638, 639, 20, 51, 52, 53, 54, 55, 64, 65, 66, 67, 68, 640, 641, 642, 643, 644, 645, 646, 647, 61, 62, 63, 648, 649, 650, 651, 81, 82, 83, 652, 653, 654, 953, 954, 955, 956, 957, 958, 959, 960, 961, 962] (by decide +kernel) (by decide +kernel)) (goodIn_sub (fun _ h => List.mem_append_left _ (List.mem_append_left _ (List.mem_append_left _ (List.mem_append_right _ h)))) (by decide +kernel))) (goodIn_sub (fun _ h => List.mem_append_left _ (List.mem_append_left _ (List.mem_append_right _ h))) (by decide +kernel))) (goodIn_sub (fun _ h => List.mem_append_left _ (List.mem_append_right _ h)) (by decide +kernel))
set_option maxRecDepth 20000 in
theorem gL_law_L_moveTime : GoodIn wsL_law (va_wsS RL 271 yL_moveTime wsL_moveTime) := goodIn_app (goodIn_of _ (by decide +kernel)) ggL_law_L_moveTime
set_option maxRecDepth 20000 in
theorem ggL_law_X3_moveTime : GoodIn wsL_law wsX3_moveTime := goodIn_ca (goodIn_r _ [658, 659, 660, 30, 618, 661, 604, 662, 437, 438, 5, 439, 170, 131, 132, 133, 154, 155, 156, 157, 158, 663, 664, 665, 148, 149, 150, 151, 152, 153, 963, 964, 965, 966, 967, 968, 969, 970, 971, 972, 973, 974, 975, 976] (by decide +kernel) (by decide +kernel)) (goodIn_sub (fun _ h => List.mem_append_left _ (List.mem_append_left _ (List.mem_append_left _ (List.mem_append_right _ h)))) (by decide +kernel))
set_option maxRecDepth 20000 in
theorem gL_law_X3_moveTime : GoodIn wsL_law (wsV RL 274 RX3 yX3_moveTime wsX3_moveTime) := goodIn_app (goodIn_of _ (by decide +kernel)) ggL_law_X3_moveTime
set_option maxRecDepth 20000 in
theorem ggL_law_L_cutTime : GoodIn wsL_law wsL_cutTime := goodIn_ca (goodIn_ca (goodIn_ca (goodIn_r _ [668, 44, 45, 669, 670, 671, 2, 672, 67, 68, 20, 592, 593, 594, 51, 52, 53, 54, 55, 953, 954, 955, 956, 957, 958, 959, 960, 961, 962] (by decide +kernel) (by decide +kernel)) (goodIn_sub (fun _ h => List.mem_append_left _ (List.mem_append_left _ (List.mem_append_left _ (List.mem_append_right _ h)))) (by decide +kernel))) (goodIn_sub (fun _ h => List.mem_append_left _ (List.mem_append_right _ h)) (by decide +kernel))) (goodIn_sub (fun _ h => List.mem_append_left _ (List.mem_append_left _ (List.mem_append_right _ h))) (by decide +kernel))
set_option maxRecDepth 20000 in
theorem gL_law_L_cutTime : GoodIn wsL_law (va_wsS RL 275 yL_cutTime wsL_cutTime) := goodIn_app (goodIn_of _ (by decide +kernel)) ggL_law_L_cutTime
set_option maxRecDepth 20000 in
theorem ggL_law_X3_cutTime : GoodIn wsL_law wsX3_cutTime := goodIn_ca (goodIn_r _ [676, 618, 661, 604, 662, 30, 437, 438, 5, 439, 170, 131, 132, 133, 154, 155, 156, 157, 158, 963, 964, 965, 966, 967, 968, 969, 970, 971, 972, 973, 974, 975, 976] (by decide +kernel) (by decide +kernel)) (goodIn_sub (fun _ h => List.mem_append_left _ (List.mem_append_left _ (List.mem_append_left _ (List.mem_append_right _ h)))) (by decide +kernel))
set_option maxRecDepth 20000 in
theorem gL_law_X3_cutTime : GoodIn wsL_law (wsV RL 277 RX3 yX3_cutTime wsX3_cutTime) := goodIn_app (goodIn_of _ (by decide +kernel)) ggL_law_X3_cutTime
set_option maxRecDepth 20000 in
theorem ggL_law_L_goTime : GoodIn wsL_law wsL_goTime := goodIn_ca (goodIn_ca (goodIn_r _ [679, 44, 680, 681, 682, 2, 683, 21, 684, 22, 20, 51, 52, 53, 54, 55, 648, 649, 642, 650, 647, 651, 81, 82, 83, 652, 653, 654, 953, 954, 955, 956, 957, 958, 959, 960, 961, 962] (by decide +kernel) (by decide +kernel)) (goodIn_sub (fun _ h => List.mem_append_left _ (List.mem_append_left _ (List.mem_append_left _ (List.mem_append_right _ h)))) (by decide +kernel))) (goodIn_sub (fun _ h => List.mem_append_left _ (List.mem_append_left _ (List.mem_append_right _ h))) (by decide +kernel))
set_option maxRecDepth 20000 in
theorem gL_law_L_goTime : GoodIn wsL_law (va_wsS RL 278 yL_goTime wsL_goTime) := goodIn_app (goodIn_of _ (by decide +kernel)) ggL_law_L_goTime
set_option maxRecDepth 20000 in
theorem ggL_law_X3_goTime : GoodIn wsL_law wsX3_goTime := goodIn_ca (goodIn_r _ [688, 31, 604, 32, 30, 662, 437, 438, 5, 439, 170, 131, 132, 133, 154, 155, 156, 157, 158, 663, 664, 665, 148, 149, 150, 151, 152, 153, 963, 964, 965, 966, 967, 968, 969, 970, 971, 972, 973, 974, 975, 976] (by decide +kernel) (by decide +kernel)) (goodIn_sub (fun _ h => List.mem_append_left _ (List.mem_append_left _ (List.mem_append_left _ (List.mem_append_right _ h)))) (by decide +kernel))
set_option maxRecDepth 20000 in
theorem gL_law_X3_goTime : GoodIn wsL_law (wsV RL 280 RX3 yX3_goTime wsX3_goTime) := goodIn_app (goodIn_of _ (by decide +kernel)) ggL_law_X3_goTime
set_option maxRecDepth 20000 in
theorem ggL_law_L_orderTimes : GoodIn wsL_law wsL_orderTimes := goodIn_ca (goodIn_ca (goodIn_r _ [691, 44, 692, 693, 694, 2, 695, 20, 51, 52, 53, 54, 55, 384, 385, 386, 953, 954, 955, 956, 957, 958, 959, 960, 961, 962] (by decide +kernel) (by decide +kernel)) (goodIn_sub (fun _ h => List.mem_append_left _ (List.mem_append_left _ (List.mem_append_left _ (List.mem_append_right _ h)))) (by decide +kernel))) (goodIn_sub (fun _ h => List.mem_append_left _ (List.mem_append_left _ (List.mem_append_right _ h))) (by decide +kernel))
set_option maxRecDepth 20000 in
theorem gL_law_L_orderTimes : GoodIn wsL_law (va_wsS RL 281 yL_orderTimes wsL_orderTimes) := goodIn_app (goodIn_of _ (by decide +kernel)) ggL_law_L_orderTimes
set_option maxRecDepth 20000 in
theorem ggL_law_X3_orderTimes : GoodIn wsL_law wsX3_orderTimes := goodIn_ca (goodIn_r _ [699, 30, 437, 438, 5, 439, 170, 131, 132, 133, 154, 155, 156, 157, 158, 391, 392, 393, 963, 964, 965, 966, 967, 968, 969, 970, 971, 972, 973, 974, 975, 976] (by decide +kernel) (by decide +kernel)) (goodIn_sub (fun _ h => List.mem_append_left _ (List.mem_append_left _ (List.mem_append_left _ (List.mem_append_right _ h)))) (by decide +kernel))
set_option maxRecDepth 20000 in
theorem gL_law_X3_orderTimes : GoodIn wsL_law (wsV RL 283 RX3 yX3_orderTimes wsX3_orderTimes) := goodIn_app (goodIn_of _ (by decide +kernel)) ggL_law_X3_orderTimes
set_option maxRecDepth 20000 in
theorem ggL_law_L_length : GoodIn wsL_law wsL_length := goodIn_ca (goodIn_ca (goodIn_ca (goodIn_ca (goodIn_r _ [702, 44, 45, 180, 703, 704, 705, 2, 706, 707, 708, 638, 639, 51, 52, 53, 54, 55, 61, 62, 63, 64, 65, 66, 67, 68, 709, 710, 711, 712, 594, 21, 22, 713, 88, 82, 89, 714, 81, 83, 117, 118, 119, 120, 121, 953, 954, 955, 956, 957, 958, 959, 960, 961, 962] (by decide +kernel) (by decide +kernel)) (goodIn_sub (fun _ h => List.mem_append_left _ (List.mem_append_left _ (List.mem_append_left _ (List.mem_append_right _ h)))) (by decide +kernel))) (goodIn_sub (fun _ h => List.mem_append_left _ (List.mem_append_left _ (List.mem_append_right _ h))) (by decide +kernel))) (goodIn_sub (fun _ h => List.mem_append_left _ (List.mem_append_right _ h)) (by decide +kernel))) (goodIn_sub (fun _ h => List.mem_append_right _ h) (by decide +kernel))
set_option maxRecDepth 20000 in
theorem gL_law_L_length : GoodIn wsL_law (va_wsS RL 284 yL_length wsL_length) := goodIn_app (goodIn_of _ (by decide +kernel)) ggL_law_L_length
set_option maxRecDepth 20000 in
theorem ggL_law_X3_length : GoodIn wsL_law wsX3_length := goodIn_ca (goodIn_r _ [718, 719, 720, 659, 660, 437, 438, 5, 439, 170, 131, 132, 133, 154, 155, 156, 157, 158, 721, 722, 723, 724, 604, 31, 32, 151, 152, 153, 148, 149, 150, 963, 964, 965, 966, 967, 968, 969, 970, 971, 972, 973, 974, 975, 976] (by decide +kernel) (by decide +kernel)) (goodIn_sub (fun _ h => List.mem_append_left _ (List.mem_append_left _ (List.mem_append_left _ (List.mem_append_right _ h)))) (by decide +kernel))
set_option maxRecDepth 20000 in
theorem gL_law_X3_length : GoodIn wsL_law (wsV RL 287 RX3 yX3_length wsX3_length) := goodIn_app (goodIn_of _ (by decide +kernel)) ggL_law_X3_length
set_option maxRecDepth 20000 in
theorem ggL_law_L_lengthPart : GoodIn wsL_law wsL_lengthPart := goodIn_ca (goodIn_ca (goodIn_ca (goodIn_r _ [727, 44, 45, 728, 729, 730, 2, 731, 67, 68, 21, 22, 51, 52, 53, 54, 55, 953, 954, 955, 956, 957, 958, 959, 960, 961, 962] (by decide +kernel) (by decide +kernel)) (goodIn_sub (fun _ h => List.mem_append_left _ (List.mem_append_left _ (List.mem_append_left _ (List.mem_append_right _ h)))) (by decide +kernel))) (goodIn_sub (fun _ h => List.mem_append_left _ (List.mem_append_right _ h)) (by decide +kernel))) (goodIn_sub (fun _ h => List.mem_append_left _ (List.mem_append_left _ (List.mem_append_right _ h))) (by decide +kernel))
set_option maxRecDepth 20000 in
theorem gL_law_L_lengthPart : GoodIn wsL_law (va_wsS RL 288 yL_lengthPart wsL_lengthPart) := goodIn_app (goodIn_of _ (by decide +kernel)) ggL_law_L_lengthPart
set_option maxRecDepth 20000 in
theorem ggL_law_X3_lengthPart : GoodIn wsL_law wsX3_lengthPart := goodIn_ca (goodIn_r _ [735, 31, 32, 437, 438, 5, 439, 170, 131, 132, 133, 154, 155, 156, 157, 158, 963, 964, 965, 966, 967, 968, 969, 970, 971, 972, 973, 974, 975, 976] (by decide +kernel) (by decide +kernel)) (goodIn_sub (fun _ h => List.mem_append_left _ (List.mem_append_left _ (List.mem_append_left _ (List.mem_append_right _ h)))) (by decide +kernel))
set_option maxRecDepth 20000 in
theorem gL_law_X3_lengthPart : GoodIn wsL_law (wsV RL 290 RX3 yX3_lengthPart wsX3_lengthPart) := goodIn_app (goodIn_of _ (by decide +kernel)) ggL_law_X3_lengthPart
set_option maxRecDepth 20000 in
theorem ggL_law_L_addLength : GoodIn wsL_law wsL_addLength := goodIn_ca (goodIn_ca (goodIn_ca (goodIn_r _ [738, 44, 180, 739, 740, 741, 2, 742, 21, 22, 51, 52, 53, 54, 55, 709, 710, 711, 712, 594, 707, 708, 713, 88, 82, 89, 714, 81, 83, 61, 62, 63, 117, 118, 119, 120, 121, 953, 954, 955, 956, 957, 958, 959, 960, 961, 962] (by decide +kernel) (by decide +kernel)) (goodIn_sub (fun _ h => List.mem_append_left _ (List.mem_append_left _ (List.mem_append_left _ (List.mem_append_right _ h)))) (by decide +kernel))) (goodIn_sub (fun _ h => List.mem_append_left _ (List.mem_append_left _ (List.mem_append_right _ h))) (by decide +kernel))) (goodIn_sub (fun _ h => List.mem_append_right _ h) (by decide +kernel))
set_option maxRecDepth 20000 in
theorem gL_law_L_addLength : GoodIn wsL_law (va_wsS RL 291 yL_addLength wsL_addLength) := goodIn_app (goodIn_of _ (by decide +kernel)) ggL_law_L_addLength
set_option maxRecDepth 20000 in
theorem ggL_law_X3_addLength : GoodIn wsL_law wsX3_addLength := goodIn_ca (goodIn_r _ [746, 470, 31, 32, 437, 438, 5, 439, 170, 131, 132, 133, 154, 155, 156, 157, 158, 721, 722, 723, 724, 604, 719, 720, 151, 152, 153, 148, 149, 150, 963, 964, 965, 966, 967, 968, 969, 970, 971, 972, 973, 974, 975, 976] (by decide +kernel) (by decide +kernel)) (goodIn_sub (fun _ h => List.mem_append_left _ (List.mem_append_left _ (List.mem_append_left _ (List.mem_append_right _ h)))) (by decide +kernel))
set_option maxRecDepth 20000 in
theorem gL_law_X3_addLength : GoodIn wsL_law (wsV RL 293 RX3 yX3_addLength wsX3_addLength) := goodIn_app (goodIn_of _ (by decide +kernel)) ggL_law_X3_addLength
set_option maxRecDepth 20000 in
theorem ggL_law_L_timesLength : GoodIn wsL_law wsL_timesLength := goodIn_ca (goodIn_ca (goodIn_ca (goodIn_ca (goodIn_r _ [749, 44, 45, 180, 750, 751, 752, 2, 753, 754, 755, 21, 22, 51, 52, 53, 54, 55, 61, 62, 63, 64, 65, 66, 67, 68, 709, 710, 711, 712, 594, 707, 708, 713, 88, 82, 89, 714, 81, 83, 117, 118, 119, 120, 121, 953, 954, 955, 956, 957, 958, 959, 960, 961, 962] (by decide +kernel) (by decide +kernel)) (goodIn_sub (fun _ h => List.mem_append_left _ (List.mem_append_left _ (List.mem_append_left _ (List.mem_append_right _ h)))) (by decide +kernel))) (goodIn_sub (fun _ h => List.mem_append_left _ (List.mem_append_left _ (List.mem_append_right _ h))) (by decide +kernel))) (goodIn_sub (fun _ h => List.mem_append_left _ (List.mem_append_right _ h)) (by decide +kernel))) (goodIn_sub (fun _ h => List.mem_append_right _ h) (by decide +kernel))
set_option maxRecDepth 20000 in
theorem gL_law_L_timesLength : GoodIn wsL_law (va_wsS RL 294 yL_timesLength wsL_timesLength) := goodIn_app (goodIn_of _ (by decide +kernel)) ggL_law_L_timesLength
set_option maxRecDepth 20000 in
theorem ggL_law_X3_timesLength : GoodIn wsL_law wsX3_timesLength := goodIn_ca (goodIn_r _ [759, 760, 761, 31, 32, 437, 438, 5, 439, 170, 131, 132, 133, 154, 155, 156, 157, 158, 721, 722, 723, 724, 604, 719, 720, 151, 152, 153, 148, 149, 150, 963, 964, 965, 966, 967, 968, 969, 970, 971, 972, 973, 974, 975, 976] (by decide +kernel) (by decide +kernel)) (goodIn_sub (fun _ h => List.mem_append_left _ (List.mem_append_left _ (List.mem_append_left _ (List.mem_append_right _ h)))) (by decide +kernel))
set_option maxRecDepth 20000 in
theorem gL_law_X3_timesLength : GoodIn wsL_law (wsV RL 296 RX3 yX3_timesLength wsX3_timesLength) := goodIn_app (goodIn_of _ (by decide +kernel)) ggL_law_X3_timesLength
set_option maxRecDepth 20000 in
theorem ggL_law_L_lengthOfTimes : GoodIn wsL_law wsL_lengthOfTimes := goodIn_ca (goodIn_ca (goodIn_ca (goodIn_r _ [764, 44, 765, 766, 767, 2, 768, 20, 51, 52, 53, 54, 55, 709, 710, 711, 712, 594, 707, 708, 21, 22, 713, 88, 82, 89, 714, 81, 83, 61, 62, 63, 117, 118, 119, 120, 121, 953, 954, 955, 956, 957, 958, 959, 960, 961, 962] (by decide +kernel) (by decide +kernel)) (goodIn_sub (fun _ h => List.mem_append_left _ (List.mem_append_left _ (List.mem_append_left _ (List.mem_append_right _ h)))) (by decide +kernel))) (goodIn_sub (fun _ h => List.mem_append_left _ (List.mem_append_left _ (List.mem_append_right _ h))) (by decide +kernel))) (goodIn_sub (fun _ h => List.mem_append_right _ h) (by decide +kernel))
set_option maxRecDepth 20000 in
theorem gL_law_L_lengthOfTimes : GoodIn wsL_law (va_wsS RL 297 yL_lengthOfTimes wsL_lengthOfTimes) := goodIn_app (goodIn_of _ (by decide +kernel)) ggL_law_L_lengthOfTimes
set_option maxRecDepth 20000 in
theorem ggL_law_X3_lengthOfTimes : GoodIn wsL_law wsX3_lengthOfTimes := goodIn_ca (goodIn_r _ [772, 30, 437, 438, 5, 439, 170, 131, 132, 133, 154, 155, 156, 157, 158, 721, 722, 723, 724, 604, 719, 720, 31, 32, 151, 152, 153, 148, 149, 150, 963, 964, 965, 966, 967, 968, 969, 970, 971, 972, 973, 974, 975, 976] (by decide +kernel) (by decide +kernel)) (goodIn_sub (fun _ h => List.mem_append_left _ (List.mem_append_left _ (List.mem_append_left _ (List.mem_append_right _ h)))) (by decide +kernel))
set_option maxRecDepth 20000 in
theorem gL_law_X3_lengthOfTimes : GoodIn wsL_law (wsV RL 299 RX3 yX3_lengthOfTimes wsX3_lengthOfTimes) := goodIn_app (goodIn_of _ (by decide +kernel)) ggL_law_X3_lengthOfTimes
set_option maxRecDepth 20000 in
theorem ggL_law_L_orderLengths : GoodIn wsL_law wsL_orderLengths := goodIn_ca (goodIn_ca (goodIn_r _ [775, 44, 776, 777, 778, 2, 779, 21, 22, 51, 52, 53, 54, 55, 384, 385, 386, 953, 954, 955, 956, 957, 958, 959, 960, 961, 962] (by decide +kernel) (by decide +kernel)) (goodIn_sub (fun _ h => List.mem_append_left _ (List.mem_append_left _ (List.mem_append_left _ (List.mem_append_right _ h)))) (by decide +kernel))) (goodIn_sub (fun _ h => List.mem_append_left _ (List.mem_append_left _ (List.mem_append_right _ h))) (by decide +kernel))
set_option maxRecDepth 20000 in
theorem gL_law_L_orderLengths : GoodIn wsL_law (va_wsS RL 300 yL_orderLengths wsL_orderLengths) := goodIn_app (goodIn_of _ (by decide +kernel)) ggL_law_L_orderLengths
set_option maxRecDepth 20000 in
theorem ggL_law_X3_orderLengths : GoodIn wsL_law wsX3_orderLengths := goodIn_ca (goodIn_r _ [783, 31, 32, 437, 438, 5, 439, 170, 131, 132, 133, 154, 155, 156, 157, 158, 391, 392, 393, 963, 964, 965, 966, 967, 968, 969, 970, 971, 972, 973, 974, 975, 976] (by decide +kernel) (by decide +kernel)) (goodIn_sub (fun _ h => List.mem_append_left _ (List.mem_append_left _ (List.mem_append_left _ (List.mem_append_right _ h)))) (by decide +kernel))
set_option maxRecDepth 20000 in
theorem gL_law_X3_orderLengths : GoodIn wsL_law (wsV RL 302 RX3 yX3_orderLengths wsX3_orderLengths) := goodIn_app (goodIn_of _ (by decide +kernel)) ggL_law_X3_orderLengths
set_option maxRecDepth 20000 in
theorem ggL_law_L_moment : GoodIn wsL_law wsL_moment := goodIn_ca (goodIn_ca (goodIn_ca (goodIn_r _ [786, 44, 787, 788, 789, 2, 790, 14, 20, 51, 52, 53, 54, 55, 791, 792, 793, 794, 795, 23, 24, 713, 88, 82, 89, 112, 113, 71, 114, 115, 116, 117, 118, 119, 120, 121, 652, 653, 642, 654, 647, 651, 81, 83, 953, 954, 955, 956, 957, 958, 959, 960, 961, 962] (by decide +kernel) (by decide +kernel)) (goodIn_sub (fun _ h => List.mem_append_left _ (List.mem_append_left _ (List.mem_append_left _ (List.mem_append_right _ h)))) (by decide +kernel))) (goodIn_sub (fun _ h => List.mem_append_left _ (List.mem_append_left _ (List.mem_append_right _ h))) (by decide +kernel))) (goodIn_sub (fun _ h => List.mem_append_right _ h) (by decide +kernel))
set_option maxRecDepth 20000 in
theorem gL_law_L_moment : GoodIn wsL_law (va_wsS RL 303 yL_moment wsL_moment) := goodIn_app (goodIn_of _ (by decide +kernel)) ggL_law_L_moment
set_option maxRecDepth 20000 in
theorem ggL_law_X3_moment : GoodIn wsL_law wsX3_moment := goodIn_ca (goodIn_r _ [799, 33, 29, 34, 30, 437, 438, 5, 439, 170, 131, 132, 133, 127, 128, 129, 130, 154, 155, 156, 157, 158, 963, 964, 965, 966, 967, 968, 969, 970, 971, 972, 973, 974, 975, 976] (by decide +kernel) (by decide +kernel)) (goodIn_sub (fun _ h => List.mem_append_left _ (List.mem_append_left _ (List.mem_append_left _ (List.mem_append_right _ h)))) (by decide +kernel))
set_option maxRecDepth 20000 in
theorem gL_law_X3_moment : GoodIn wsL_law (wsV RL 305 RX3 yX3_moment wsX3_moment) := goodIn_app (goodIn_of _ (by decide +kernel)) ggL_law_X3_moment
set_option maxRecDepth 20000 in
theorem ggL_law_L_dateOf : GoodIn wsL_law wsL_dateOf := goodIn_ca (goodIn_ca (goodIn_ca (goodIn_r _ [802, 44, 803, 804, 805, 2, 806, 23, 51, 52, 53, 54, 55, 108, 109, 110, 111, 14, 112, 113, 71, 114, 115, 116, 117, 118, 119, 120, 121, 953, 954, 955, 956, 957, 958, 959, 960, 961, 962] (by decide +kernel) (by decide +kernel)) (goodIn_sub (fun _ h => List.mem_append_left _ (List.mem_append_left _ (List.mem_append_left _ (List.mem_append_right _ h)))) (by decide +kernel))) (goodIn_sub (fun _ h => List.mem_append_left _ (List.mem_append_left _ (List.mem_append_right _ h))) (by decide +kernel))) (goodIn_sub (fun _ h => List.mem_append_right _ h) (by decide +kernel))
set_option maxRecDepth 20000 in
theorem gL_law_L_dateOf : GoodIn wsL_law (va_wsS RL 306 yL_dateOf wsL_dateOf) := goodIn_app (goodIn_of _ (by decide +kernel)) ggL_law_L_dateOf
set_option maxRecDepth 20000 in
theorem ggL_law_X3_dateOf : GoodIn wsL_law wsX3_dateOf := goodIn_ca (goodIn_r _ [810, 29, 33, 437, 438, 5, 439, 170, 131, 132, 133, 127, 128, 129, 130, 154, 155, 156, 157, 158, 963, 964, 965, 966, 967, 968, 969, 970, 971, 972, 973, 974, 975, 976] (by decide +kernel) (by decide +kernel)) (goodIn_sub (fun _ h => List.mem_append_left _ (List.mem_append_left _ (List.mem_append_left _ (List.mem_append_right _ h)))) (by decide +kernel))
set_option maxRecDepth 20000 in
theorem gL_law_X3_dateOf : GoodIn wsL_law (wsV RL 308 RX3 yX3_dateOf wsX3_dateOf) := goodIn_app (goodIn_of _ (by decide +kernel)) ggL_law_X3_dateOf
set_option maxRecDepth 20000 in
theorem ggL_law_L_timeOf : GoodIn wsL_law wsL_timeOf := goodIn_ca (goodIn_ca (goodIn_r _ [813, 44, 814, 815, 816, 2, 817, 20, 24, 51, 52, 53, 54, 55, 953, 954, 955, 956, 957, 958, 959, 960, 961, 962] (by decide +kernel) (by decide +kernel)) (goodIn_sub (fun _ h => List.mem_append_left _ (List.mem_append_left _ (List.mem_append_left _ (List.mem_append_right _ h)))) (by decide +kernel))) (goodIn_sub (fun _ h => List.mem_append_left _ (List.mem_append_left _ (List.mem_append_right _ h))) (by decide +kernel))
set_option maxRecDepth 20000 in
theorem gL_law_L_timeOf : GoodIn wsL_law (va_wsS RL 309 yL_timeOf wsL_timeOf) := goodIn_app (goodIn_of _ (by decide +kernel)) ggL_law_L_timeOf
set_option maxRecDepth 20000 in
theorem ggL_law_X3_timeOf : GoodIn wsL_law wsX3_timeOf := goodIn_ca (goodIn_r _ [821, 30, 34, 437, 438, 5, 439, 170, 131, 132, 133, 154, 155, 156, 157, 158, 963, 964, 965, 966, 967, 968, 969, 970, 971, 972, 973, 974, 975, 976] (by decide +kernel) (by decide +kernel)) (goodIn_sub (fun _ h => List.mem_append_left _ (List.mem_append_left _ (List.mem_append_left _ (List.mem_append_right _ h)))) (by decide +kernel))
set_option maxRecDepth 20000 in
theorem gL_law_X3_timeOf : GoodIn wsL_law (wsV RL 311 RX3 yX3_timeOf wsX3_timeOf) := goodIn_app (goodIn_of _ (by decide +kernel)) ggL_law_X3_timeOf
set_option maxRecDepth 20000 in
theorem ggL_law_L_moveMoment : GoodIn wsL_law wsL_moveMoment := goodIn_ca (goodIn_ca (goodIn_ca (goodIn_ca (goodIn_r _ [824, 44, 45, 180, 825, 826, 827, 2, 828, 257, 258, 23, 24, 638, 639, 51, 52, 53, 54, 55, 259, 260, 71, 261, 61, 62, 63, 64, 65, 66, 67, 68, 262, 263, 264, 237, 73, 265, 266, 267, 231, 221, 222, 223, 224, 225, 186, 187, 95, 107, 188, 87, 88, 82, 89, 100, 101, 102, 103, 93, 104, 94, 105, 106, 90, 91, 92, 226, 70, 72, 232, 97, 98, 99, 84, 85, 86, 77, 78, 79, 80, 81, 83, 268, 269, 270, 271, 272, 273, 274, 275, 75, 76, 791, 792, 793, 794, 795, 713, 112, 113, 114, 115, 116, 117, 118, 119, 120, 121, 652, 653, 642, 654, 647, 651, 640, 641, 643, 644, 645, 646, 829, 830, 831, 832, 648, 649, 650, 953, 954, 955, 956, 957, 958, 959, 960, 961, 962] (by decide +kernel) (by decide +kernel)) (goodIn_sub (fun _ h => List.mem_append_left _ (List.mem_append_left _ (List.mem_append_left _ (List.mem_append_right _ h)))) (by decide +kernel))) (goodIn_sub (fun _ h => List.mem_append_left _ (List.mem_append_left _ (List.mem_append_right _ h))) (by decide +kernel))) (goodIn_sub (fun _ h => List.mem_append_left _ (List.mem_append_right _ h)) (by decide +kernel))) (goodIn_sub (fun _ h => List.mem_append_right _ h) (by decide +kernel))
set_option maxRecDepth 20000 in
theorem gL_law_L_moveMoment : GoodIn wsL_law (va_wsS RL 312 yL_moveMoment wsL_moveMoment) := goodIn_app (goodIn_of _ (by decide +kernel)) ggL_law_L_moveMoment
set_option maxRecDepth 20000 in
theorem ggL_law_X3_moveMoment : GoodIn wsL_law wsX3_moveMoment := goodIn_ca (goodIn_r _ [836, 659, 280, 660, 281, 33, 34, 618, 661, 604, 662, 437, 438, 5, 439, 170, 131, 132, 133, 282, 283, 284, 154, 155, 156, 157, 158, 285, 286, 287, 288, 249, 126, 289, 290, 291, 292, 194, 200, 201, 195, 196, 197, 198, 165, 147, 199, 151, 152, 153, 162, 163, 164, 166, 167, 168, 169, 145, 171, 146, 172, 139, 140, 141, 142, 143, 144, 148, 149, 150, 159, 160, 161, 837, 838, 839, 840, 137, 193, 963, 964, 965, 966, 967, 968, 969, 970, 971, 972, 973, 974, 975, 976] (by decide +kernel) (by decide +kernel)) (goodIn_sub (fun _ h => List.mem_append_left _ (List.mem_append_left _ (List.mem_append_left _ (List.mem_append_right _ h)))) (by decide +kernel))
set_option maxRecDepth 20000 in
theorem gL_law_X3_moveMoment : GoodIn wsL_law (wsV RL 314 RX3 yX3_moveMoment wsX3_moveMoment) := goodIn_app (goodIn_of _ (by decide +kernel)) ggL_law_X3_moveMoment
set_option maxRecDepth 20000 in
theorem ggL_law_L_goMoment : GoodIn wsL_law wsL_goMoment := goodIn_ca (goodIn_ca (goodIn_ca (goodIn_r _ [843, 44, 180, 844, 845, 846, 2, 847, 23, 21, 684, 22, 24, 51, 52, 53, 54, 55, 829, 830, 642, 831, 832, 88, 82, 89, 648, 649, 650, 647, 651, 81, 83, 791, 792, 793, 794, 795, 713, 112, 113, 71, 114, 115, 116, 117, 118, 119, 120, 121, 652, 653, 654, 953, 954, 955, 956, 957, 958, 959, 960, 961, 962] (by decide +kernel) (by decide +kernel)) (goodIn_sub (fun _ h => List.mem_append_left _ (List.mem_append_left _ (List.mem_append_left _ (List.mem_append_right _ h)))) (by decide +kernel))) (goodIn_sub (fun _ h => List.mem_append_left _ (List.mem_append_left _ (List.mem_append_right _ h))) (by decide +kernel))) (goodIn_sub (fun _ h => List.mem_append_right _ h) (by decide +kernel))
set_option maxRecDepth 20000 in
theorem gL_law_L_goMoment : GoodIn wsL_law (va_wsS RL 315 yL_goMoment wsL_goMoment) := goodIn_app (goodIn_of _ (by decide +kernel)) ggL_law_L_goMoment
set_option maxRecDepth 20000 in
theorem ggL_law_X3_goMoment : GoodIn wsL_law wsX3_goMoment := goodIn_ca (goodIn_r _ [851, 31, 34, 852, 604, 32, 33, 662, 437, 438, 5, 439, 170, 131, 132, 133, 154, 155, 156, 157, 158, 148, 149, 150, 151, 152, 153, 837, 838, 839, 840, 137, 193, 162, 163, 164, 165, 166, 167, 168, 169, 145, 171, 146, 172, 147, 963, 964, 965, 966, 967, 968, 969, 970, 971, 972, 973, 974, 975, 976] (by decide +kernel) (by decide +kernel)) (goodIn_sub (fun _ h => List.mem_append_left _ (List.mem_append_left _ (List.mem_append_left _ (List.mem_append_right _ h)))) (by decide +kernel))
set_option maxRecDepth 20000 in
theorem gL_law_X3_goMoment : GoodIn wsL_law (wsV RL 317 RX3 yX3_goMoment wsX3_goMoment) := goodIn_app (goodIn_of _ (by decide +kernel)) ggL_law_X3_goMoment
set_option maxRecDepth 20000 in
theorem ggL_law_L_lengthOfMoments : GoodIn wsL_law wsL_lengthOfMoments := goodIn_ca (goodIn_ca (goodIn_ca (goodIn_r _ [855, 44, 856, 857, 858, 2, 859, 23, 684, 24, 51, 52, 53, 54, 55, 709, 710, 711, 712, 594, 707, 708, 21, 22, 713, 88, 82, 89, 714, 81, 83, 61, 62, 63, 117, 118, 119, 120, 121, 953, 954, 955, 956, 957, 958, 959, 960, 961, 962] (by decide +kernel) (by decide +kernel)) (goodIn_sub (fun _ h => List.mem_append_left _ (List.mem_append_left _ (List.mem_append_left _ (List.mem_append_right _ h)))) (by decide +kernel))) (goodIn_sub (fun _ h => List.mem_append_left _ (List.mem_append_left _ (List.mem_append_right _ h))) (by decide +kernel))) (goodIn_sub (fun _ h => List.mem_append_right _ h) (by decide +kernel))
set_option maxRecDepth 20000 in
theorem gL_law_L_lengthOfMoments : GoodIn wsL_law (va_wsS RL 318 yL_lengthOfMoments wsL_lengthOfMoments) := goodIn_app (goodIn_of _ (by decide +kernel)) ggL_law_L_lengthOfMoments
set_option maxRecDepth 20000 in
theorem ggL_law_X3_lengthOfMoments : GoodIn wsL_law wsX3_lengthOfMoments := goodIn_ca (goodIn_r _ [863, 852, 33, 34, 437, 438, 5, 439, 170, 131, 132, 133, 154, 155, 156, 157, 158, 721, 722, 723, 724, 604, 719, 720, 31, 32, 151, 152, 153, 148, 149, 150, 963, 964, 965, 966, 967, 968, 969, 970, 971, 972, 973, 974, 975, 976] (by decide +kernel) (by decide +kernel)) (goodIn_sub (fun _ h => List.mem_append_left _ (List.mem_append_left _ (List.mem_append_left _ (List.mem_append_right _ h)))) (by decide +kernel))
set_option maxRecDepth 20000 in
theorem gL_law_X3_lengthOfMoments : GoodIn wsL_law (wsV RL 320 RX3 yX3_lengthOfMoments wsX3_lengthOfMoments) := goodIn_app (goodIn_of _ (by decide +kernel)) ggL_law_X3_lengthOfMoments
set_option maxRecDepth 20000 in
theorem ggL_law_L_whole : GoodIn wsL_law wsL_whole := goodIn_ca (goodIn_ca (goodIn_ca (goodIn_r _ [866, 44, 45, 867, 868, 869, 2, 870, 67, 68, 23, 24, 871, 626, 51, 52, 53, 54, 55, 872, 873, 642, 874, 875, 876, 877, 646, 878, 879, 953, 954, 955, 956, 957, 958, 959, 960, 961, 962] (by decide +kernel) (by decide +kernel)) (goodIn_sub (fun _ h => List.mem_append_left _ (List.mem_append_left _ (List.mem_append_left _ (List.mem_append_right _ h)))) (by decide +kernel))) (goodIn_sub (fun _ h => List.mem_append_left _ (List.mem_append_right _ h)) (by decide +kernel))) (goodIn_sub (fun _ h => List.mem_append_left _ (List.mem_append_left _ (List.mem_append_right _ h))) (by decide +kernel))
set_option maxRecDepth 20000 in
theorem gL_law_L_whole : GoodIn wsL_law (va_wsS RL 321 yL_whole wsL_whole) := goodIn_app (goodIn_of _ (by decide +kernel)) ggL_law_L_whole
set_option maxRecDepth 20000 in
theorem ggL_law_X3_whole : GoodIn wsL_law wsX3_whole := goodIn_ca (goodIn_r _ [883, 34, 33, 662, 604, 852, 602, 603, 437, 438, 5, 439, 170, 131, 132, 133, 154, 155, 156, 157, 158, 884, 885, 886, 887, 963, 964, 965, 966, 967, 968, 969, 970, 971, 972, 973, 974, 975, 976] (by decide +kernel) (by decide +kernel)) (goodIn_sub (fun _ h => List.mem_append_left _ (List.mem_append_left _ (List.mem_append_left _ (List.mem_append_right _ h)))) (by decide +kernel))
set_option maxRecDepth 20000 in
theorem gL_law_X3_whole : GoodIn wsL_law (wsV RL 323 RX3 yX3_whole wsX3_whole) := goodIn_app (goodIn_of _ (by decide +kernel)) ggL_law_X3_whole
set_option maxRecDepth 20000 in
theorem ggL_law_L_orderMoments : GoodIn wsL_law wsL_orderMoments := goodIn_ca (goodIn_ca (goodIn_r _ [890, 44, 891, 892, 893, 2, 894, 23, 24, 51, 52, 53, 54, 55, 384, 385, 386, 953, 954, 955, 956, 957, 958, 959, 960, 961, 962] (by decide +kernel) (by decide +kernel)) (goodIn_sub (fun _ h => List.mem_append_left _ (List.mem_append_left _ (List.mem_append_left _ (List.mem_append_right _ h)))) (by decide +kernel))) (goodIn_sub (fun _ h => List.mem_append_left _ (List.mem_append_left _ (List.mem_append_right _ h))) (by decide +kernel))
set_option maxRecDepth 20000 in
theorem gL_law_L_orderMoments : GoodIn wsL_law (va_wsS RL 324 yL_orderMoments wsL_orderMoments) := goodIn_app (goodIn_of _ (by decide +kernel)) ggL_law_L_orderMoments
set_option maxRecDepth 20000 in
theorem ggL_law_X3_orderMoments : GoodIn wsL_law wsX3_orderMoments := goodIn_ca (goodIn_r _ [898, 437, 438, 5, 439, 170, 131, 132, 133, 154, 155, 156, 157, 158, 884, 885, 886, 887, 33, 34, 963, 964, 965, 966, 967, 968, 969, 970, 971, 972, 973, 974, 975, 976] (by decide +kernel) (by decide +kernel)) (goodIn_sub (fun _ h => List.mem_append_left _ (List.mem_append_left _ (List.mem_append_left _ (List.mem_append_right _ h)))) (by decide +kernel))
set_option maxRecDepth 20000 in
theorem gL_law_X3_orderMoments : GoodIn wsL_law (wsV RL 326 RX3 yX3_orderMoments wsX3_orderMoments) := goodIn_app (goodIn_of _ (by decide +kernel)) ggL_law_X3_orderMoments
set_option maxRecDepth 20000 in
theorem ggL_law_X2_longShare : GoodIn wsL_law wsX2_longShare := goodIn_ca (goodIn_r _ [902, 14, 903, 185, 186, 71, 187, 95, 107, 188, 87, 88, 82, 89, 100, 101, 102, 103, 93, 104, 94, 105, 106, 241, 91, 92, 953, 954, 955, 956, 957, 958, 959, 960, 961, 962] (by decide +kernel) (by decide +kernel)) (goodIn_sub (fun _ h => List.mem_append_left _ (List.mem_append_left _ (List.mem_append_left _ (List.mem_append_right _ h)))) (by decide +kernel))
set_option maxRecDepth 20000 in
theorem gL_law_X2_longShare : GoodIn wsL_law (wsV RL 327 RX2 yX2_longShare wsX2_longShare) := goodIn_app (goodIn_of _ (by decide +kernel)) ggL_law_X2_longShare
set_option maxRecDepth 20000 in
theorem ggL_law_X3_longShare : GoodIn wsL_law wsX3_longShare := goodIn_ca (goodIn_r _ [907, 158, 29, 194, 908, 195, 196, 197, 5, 198, 165, 147, 199, 200, 201, 151, 152, 153, 162, 163, 164, 166, 167, 168, 169, 170, 145, 171, 146, 172, 139, 140, 141, 142, 143, 144, 148, 149, 150, 963, 964, 965, 966, 967, 968, 969, 970, 971, 972, 973, 974, 975, 976] (by decide +kernel) (by decide +kernel)) (goodIn_sub (fun _ h => List.mem_append_left _ (List.mem_append_left _ (List.mem_append_left _ (List.mem_append_right _ h)))) (by decide +kernel))
set_option maxRecDepth 20000 in
theorem gL_law_X3_longShare : GoodIn wsL_law (wsV RL 331 RX3 yX3_longShare wsX3_longShare) := goodIn_app (goodIn_of _ (by decide +kernel)) ggL_law_X3_longShare
set_option maxRecDepth 20000 in
theorem ggL_law_X2_meanDay : GoodIn wsL_law wsX2_meanDay := goodIn_ca (goodIn_r _ [912, 14, 913, 953, 954, 955, 956, 957, 958, 959, 960, 961, 962] (by decide +kernel) (by decide +kernel)) (goodIn_sub (fun _ h => List.mem_append_left _ (List.mem_append_left _ (List.mem_append_left _ (List.mem_append_right _ h)))) (by decide +kernel))
set_option maxRecDepth 20000 in
theorem gL_law_X2_meanDay : GoodIn wsL_law (wsV RL 332 RX2 yX2_meanDay wsX2_meanDay) := goodIn_app (goodIn_of _ (by decide +kernel)) ggL_law_X2_meanDay
set_option maxRecDepth 20000 in
theorem ggL_law_X3_meanDay : GoodIn wsL_law wsX3_meanDay := goodIn_ca (goodIn_r _ [917, 158, 29, 918, 963, 964, 965, 966, 967, 968, 969, 970, 971, 972, 973, 974, 975, 976] (by decide +kernel) (by decide +kernel)) (goodIn_sub (fun _ h => List.mem_append_left _ (List.mem_append_left _ (List.mem_append_left _ (List.mem_append_right _ h)))) (by decide +kernel))
set_option maxRecDepth 20000 in
theorem gL_law_X3_meanDay : GoodIn wsL_law (wsV RL 336 RX3 yX3_meanDay wsX3_meanDay) := goodIn_app (goodIn_of _ (by decide +kernel)) ggL_law_X3_meanDay
set_option maxRecDepth 20000 in
theorem ggL_law_X2_checksum : GoodIn wsL_law wsX2_checksum := goodIn_ca (goodIn_r _ [922, 332, 923, 14, 16, 17, 18, 19, 20, 21, 22, 23, 24, 308, 85, 71, 86, 73, 87, 88, 82, 89, 227, 78, 79, 80, 81, 83, 953, 954, 955, 956, 957, 958, 959, 960, 961, 962] (by decide +kernel) (by decide +kernel)) (goodIn_sub (fun _ h => List.mem_append_left _ (List.mem_append_left _ (List.mem_append_left _ (List.mem_append_right _ h)))) (by decide +kernel))
set_option maxRecDepth 20000 in
theorem gL_law_X2_checksum : GoodIn wsL_law (wsV RL 337 RX2 yX2_checksum wsX2_checksum) := goodIn_app (goodIn_of _ (by decide +kernel)) ggL_law_X2_checksum
set_option maxRecDepth 20000 in
theorem ggL_law_X3_checksum : GoodIn wsL_law wsX3_checksum := goodIn_ca (goodIn_r _ [927, 158, 249, 928, 29, 35, 36, 37, 38, 126, 30, 31, 32, 33, 34, 151, 152, 5, 153, 148, 149, 150, 963, 964, 965, 966, 967, 968, 969, 970, 971, 972, 973, 974, 975, 976] (by decide +kernel) (by decide +kernel)) (goodIn_sub (fun _ h => List.mem_append_left _ (List.mem_append_left _ (List.mem_append_left _ (List.mem_append_right _ h)))) (by decide +kernel))
set_option maxRecDepth 20000 in
theorem gL_law_X3_checksum : GoodIn wsL_law (wsV RL 341 RX3 yX3_checksum wsX3_checksum) := goodIn_app (goodIn_of _ (by decide +kernel)) ggL_law_X3_checksum
set_option maxRecDepth 20000 in
theorem ggL_law_X2_isSound : GoodIn wsL_law wsX2_isSound := goodIn_ca (goodIn_r _ [932, 14, 20, 933, 934, 2, 935, 936, 937, 273, 938, 489, 220, 221, 71, 222, 73, 223, 224, 225, 186, 187, 95, 107, 188, 87, 88, 82, 89, 100, 101, 102, 103, 93, 104, 94, 105, 106, 90, 91, 92, 226, 70, 72, 228, 229, 230, 231, 232, 97, 98, 99, 84, 85, 86, 77, 78, 79, 80, 81, 83, 74, 75, 76, 112, 113, 114, 115, 116, 61, 62, 63, 96, 234, 235, 236, 237, 309, 266, 267, 268, 269, 270, 271, 272, 274, 275, 372, 939, 940, 941, 923, 401, 402, 403, 404, 405, 406, 942, 943, 944, 594, 684, 713, 714, 648, 649, 642, 650, 647, 651, 652, 653, 654, 945, 946, 947, 948, 23, 24, 795, 829, 830, 831, 832, 953, 954, 955, 956, 957, 958, 959, 960, 961, 962] (by decide +kernel) (by decide +kernel)) (goodIn_sub (fun _ h => List.mem_append_left _ (List.mem_append_left _ (List.mem_append_left _ (List.mem_append_right _ h)))) (by decide +kernel))
set_option maxRecDepth 20000 in
theorem gL_law_X2_isSound : GoodIn wsL_law (wsV RL 342 RX2 yX2_isSound wsX2_isSound) := goodIn_app (goodIn_of _ (by decide +kernel)) ggL_law_X2_isSound
set_option maxRecDepth 20000 in
theorem ggL_law_X3_isSound : GoodIn wsL_law wsX3_isSound := goodIn_r _ [952, 158, 963, 964, 965, 966, 967, 968, 969, 970, 971, 972, 973, 974, 975, 976] (by decide +kernel) (by decide +kernel)
set_option maxRecDepth 20000 in
theorem gL_law_X3_isSound : GoodIn wsL_law (wsV RL 346 RX3 yX3_isSound wsX3_isSound) := goodIn_app (goodIn_of _ (by decide +kernel)) ggL_law_X3_isSound
theorem dL_law_0 : decode cL_law 0 = .ok (.new 8, 3) := by decide +kernel
theorem dL_law_3 : decode cL_law 3 = .ok (.dup, 1) := by decide +kernel
theorem dL_law_4 : decode cL_law 4 = .ok (.invokespecial 167, 3) := by decide +kernel
theorem dL_law_7 : decode cL_law 7 = .ok (.astore_n 1, 1) := by decide +kernel
theorem dL_law_8 : decode cL_law 8 = .ok (.new 168, 3) := by decide +kernel
theorem dL_law_11 : decode cL_law 11 = .ok (.dup, 1) := by decide +kernel
theorem dL_law_12 : decode cL_law 12 = .ok (.invokespecial 170, 3) := by decide +kernel
theorem dL_law_15 : decode cL_law 15 = .ok (.astore_n 2, 1) := by decide +kernel
theorem dL_law_16 : decode cL_law 16 = .ok (.iconst 1, 1) := by decide +kernel
theorem dL_law_17 : decode cL_law 17 = .ok (.newarray .long, 2) := by decide +kernel
theorem dL_law_19 : decode cL_law 19 = .ok (.astore_n 3, 1) := by decide +kernel
theorem dL_law_20 : decode cL_law 20 = .ok (.iconst 0, 1) := by decide +kernel
theorem dL_law_21 : decode cL_law 21 = .ok (.istore 4, 2) := by decide +kernel
theorem dL_law_23 : decode cL_law 23 = .ok (.iload 4, 2) := by decide +kernel
theorem dL_law_25 : decode cL_law 25 = .ok (.aload_n 0, 1) := by decide +kernel
theorem dL_law_26 : decode cL_law 26 = .ok (.arraylength, 1) := by decide +kernel
theorem dL_law_27 : decode cL_law 27 = .ok (.bipush 6, 2) := by decide +kernel
theorem dL_law_29 : decode cL_law 29 = .ok (.isub, 1) := by decide +kernel
theorem dL_law_30 : decode cL_law 30 = .ok (.if_icmp .gt 4209, 3) := by decide +kernel
theorem dL_law_33 : decode cL_law 33 = .ok (.aload_n 0, 1) := by decide +kernel
theorem dL_law_34 : decode cL_law 34 = .ok (.iload 4, 2) := by decide +kernel
theorem dL_law_36 : decode cL_law 36 = .ok (.iaload, 1) := by decide +kernel
theorem dL_law_37 : decode cL_law 37 = .ok (.bipush 63, 2) := by decide +kernel
theorem dL_law_39 : decode cL_law 39 = .ok (.iand, 1) := by decide +kernel
theorem dL_law_40 : decode cL_law 40 = .ok (.tableswitch 4193 0 48 #[212, 303, 403, 458, 528, 621, 714, 795, 888, 979, 1070, 1138, 1219, 1310, 1389, 1496, 1566, 1673, 1752, 1819, 1899, 1993, 2063, 2142, 2210, 2313, 2413, 2483, 2608, 2689, 2796, 2864, 3007, 3076, 3183, 3262, 3341, 3409, 3488, 3555, 3622, 3747, 3854, 3933, 4014, 4082, 4125, 4166, 4180], 212) := by decide +kernel
theorem dL_law_252 : decode cL_law 252 = .ok (.aload_n 1, 1) := by decide +kernel
theorem dL_law_253 : decode cL_law 253 = .ok (.aload_n 0, 1) := by decide +kernel
theorem dL_law_254 : decode cL_law 254 = .ok (.iload 4, 2) := by decide +kernel
theorem dL_law_256 : decode cL_law 256 = .ok (.iconst 1, 1) := by decide +kernel
theorem dL_law_257 : decode cL_law 257 = .ok (.iadd, 1) := by decide +kernel
theorem dL_law_258 : decode cL_law 258 = .ok (.iaload, 1) := by decide +kernel
theorem dL_law_259 : decode cL_law 259 = .ok (.aload_n 0, 1) := by decide +kernel
theorem dL_law_260 : decode cL_law 260 = .ok (.iload 4, 2) := by decide +kernel
theorem dL_law_262 : decode cL_law 262 = .ok (.iconst 2, 1) := by decide +kernel
theorem dL_law_263 : decode cL_law 263 = .ok (.iadd, 1) := by decide +kernel
theorem dL_law_264 : decode cL_law 264 = .ok (.iaload, 1) := by decide +kernel
theorem dL_law_265 : decode cL_law 265 = .ok (.aload_n 0, 1) := by decide +kernel
theorem dL_law_266 : decode cL_law 266 = .ok (.iload 4, 2) := by decide +kernel
theorem dL_law_268 : decode cL_law 268 = .ok (.iconst 3, 1) := by decide +kernel
theorem dL_law_269 : decode cL_law 269 = .ok (.iadd, 1) := by decide +kernel
theorem dL_law_270 : decode cL_law 270 = .ok (.iaload, 1) := by decide +kernel
theorem dL_law_271 : decode cL_law 271 = .ok (.aload_n 0, 1) := by decide +kernel
theorem dL_law_272 : decode cL_law 272 = .ok (.iload 4, 2) := by decide +kernel
theorem dL_law_274 : decode cL_law 274 = .ok (.iconst 4, 1) := by decide +kernel
theorem dL_law_275 : decode cL_law 275 = .ok (.iadd, 1) := by decide +kernel
theorem dL_law_276 : decode cL_law 276 = .ok (.iaload, 1) := by decide +kernel
theorem dL_law_277 : decode cL_law 277 = .ok (.aload_n 3, 1) := by decide +kernel
theorem dL_law_278 : decode cL_law 278 = .ok (.invokestatic 171, 3) := by decide +kernel
theorem dL_law_281 : decode cL_law 281 = .ok (.istore 5, 2) := by decide +kernel
theorem dL_law_283 : decode cL_law 283 = .ok (.aload_n 2, 1) := by decide +kernel
theorem dL_law_284 : decode cL_law 284 = .ok (.aload_n 0, 1) := by decide +kernel
theorem dL_law_285 : decode cL_law 285 = .ok (.iload 4, 2) := by decide +kernel
theorem dL_law_287 : decode cL_law 287 = .ok (.iconst 1, 1) := by decide +kernel
theorem dL_law_288 : decode cL_law 288 = .ok (.iadd, 1) := by decide +kernel
theorem dL_law_289 : decode cL_law 289 = .ok (.iaload, 1) := by decide +kernel
theorem dL_law_290 : decode cL_law 290 = .ok (.aload_n 0, 1) := by decide +kernel
theorem dL_law_291 : decode cL_law 291 = .ok (.iload 4, 2) := by decide +kernel
theorem dL_law_293 : decode cL_law 293 = .ok (.iconst 2, 1) := by decide +kernel
theorem dL_law_294 : decode cL_law 294 = .ok (.iadd, 1) := by decide +kernel
theorem dL_law_295 : decode cL_law 295 = .ok (.iaload, 1) := by decide +kernel
theorem dL_law_296 : decode cL_law 296 = .ok (.aload_n 0, 1) := by decide +kernel
theorem dL_law_297 : decode cL_law 297 = .ok (.iload 4, 2) := by decide +kernel
theorem dL_law_299 : decode cL_law 299 = .ok (.iconst 3, 1) := by decide +kernel
theorem dL_law_300 : decode cL_law 300 = .ok (.iadd, 1) := by decide +kernel
theorem dL_law_301 : decode cL_law 301 = .ok (.iaload, 1) := by decide +kernel
theorem dL_law_302 : decode cL_law 302 = .ok (.aload_n 0, 1) := by decide +kernel
theorem dL_law_303 : decode cL_law 303 = .ok (.iload 4, 2) := by decide +kernel
theorem dL_law_305 : decode cL_law 305 = .ok (.iconst 4, 1) := by decide +kernel
theorem dL_law_306 : decode cL_law 306 = .ok (.iadd, 1) := by decide +kernel
theorem dL_law_307 : decode cL_law 307 = .ok (.iaload, 1) := by decide +kernel
theorem dL_law_308 : decode cL_law 308 = .ok (.invokevirtual 176, 3) := by decide +kernel
theorem dL_law_311 : decode cL_law 311 = .ok (.lstore 6, 2) := by decide +kernel
theorem dL_law_313 : decode cL_law 313 = .ok (.aload_n 2, 1) := by decide +kernel
theorem dL_law_314 : decode cL_law 314 = .ok (.invokevirtual 177, 3) := by decide +kernel
theorem dL_law_317 : decode cL_law 317 = .ok (.iload 5, 2) := by decide +kernel
theorem dL_law_319 : decode cL_law 319 = .ok (.if_icmp .eq 5, 3) := by decide +kernel
theorem dL_law_322 : decode cL_law 322 = .ok (.iconst 0, 1) := by decide +kernel
theorem dL_law_323 : decode cL_law 323 = .ok (.ireturn, 1) := by decide +kernel
theorem dL_law_324 : decode cL_law 324 = .ok (.iload 5, 2) := by decide +kernel
theorem dL_law_326 : decode cL_law 326 = .ok (.ifCond .ne 14, 3) := by decide +kernel
theorem dL_law_329 : decode cL_law 329 = .ok (.aload_n 3, 1) := by decide +kernel
theorem dL_law_330 : decode cL_law 330 = .ok (.iconst 0, 1) := by decide +kernel
theorem dL_law_331 : decode cL_law 331 = .ok (.laload, 1) := by decide +kernel
theorem dL_law_332 : decode cL_law 332 = .ok (.lload 6, 2) := by decide +kernel
theorem dL_law_334 : decode cL_law 334 = .ok (.lcmp, 1) := by decide +kernel
theorem dL_law_335 : decode cL_law 335 = .ok (.ifCond .eq 5, 3) := by decide +kernel
theorem dL_law_338 : decode cL_law 338 = .ok (.iconst 0, 1) := by decide +kernel
theorem dL_law_339 : decode cL_law 339 = .ok (.ireturn, 1) := by decide +kernel
theorem dL_law_340 : decode cL_law 340 = .ok (.goto 3893, 3) := by decide +kernel
theorem dL_law_343 : decode cL_law 343 = .ok (.aload_n 1, 1) := by decide +kernel
theorem dL_law_344 : decode cL_law 344 = .ok (.aload_n 0, 1) := by decide +kernel
theorem dL_law_345 : decode cL_law 345 = .ok (.iload 4, 2) := by decide +kernel
theorem dL_law_347 : decode cL_law 347 = .ok (.iconst 1, 1) := by decide +kernel
theorem dL_law_348 : decode cL_law 348 = .ok (.iadd, 1) := by decide +kernel
theorem dL_law_349 : decode cL_law 349 = .ok (.iaload, 1) := by decide +kernel
theorem dL_law_350 : decode cL_law 350 = .ok (.aload_n 0, 1) := by decide +kernel
theorem dL_law_351 : decode cL_law 351 = .ok (.iload 4, 2) := by decide +kernel
theorem dL_law_353 : decode cL_law 353 = .ok (.iconst 2, 1) := by decide +kernel
theorem dL_law_354 : decode cL_law 354 = .ok (.iadd, 1) := by decide +kernel
theorem dL_law_355 : decode cL_law 355 = .ok (.iaload, 1) := by decide +kernel
theorem dL_law_356 : decode cL_law 356 = .ok (.i2l, 1) := by decide +kernel
theorem dL_law_357 : decode cL_law 357 = .ok (.bipush 32, 2) := by decide +kernel
theorem dL_law_359 : decode cL_law 359 = .ok (.lshl, 1) := by decide +kernel
theorem dL_law_360 : decode cL_law 360 = .ok (.aload_n 0, 1) := by decide +kernel
theorem dL_law_361 : decode cL_law 361 = .ok (.iload 4, 2) := by decide +kernel
theorem dL_law_363 : decode cL_law 363 = .ok (.iconst 3, 1) := by decide +kernel
theorem dL_law_364 : decode cL_law 364 = .ok (.iadd, 1) := by decide +kernel
theorem dL_law_365 : decode cL_law 365 = .ok (.iaload, 1) := by decide +kernel
theorem dL_law_366 : decode cL_law 366 = .ok (.i2l, 1) := by decide +kernel
theorem dL_law_367 : decode cL_law 367 = .ok (.ldc2_w 181, 3) := by decide +kernel
theorem dL_law_370 : decode cL_law 370 = .ok (.land, 1) := by decide +kernel
theorem dL_law_371 : decode cL_law 371 = .ok (.lor, 1) := by decide +kernel
theorem dL_law_372 : decode cL_law 372 = .ok (.aload_n 3, 1) := by decide +kernel
theorem dL_law_373 : decode cL_law 373 = .ok (.invokestatic 183, 3) := by decide +kernel
theorem dL_law_376 : decode cL_law 376 = .ok (.istore 5, 2) := by decide +kernel
theorem dL_law_378 : decode cL_law 378 = .ok (.aload_n 2, 1) := by decide +kernel
theorem dL_law_379 : decode cL_law 379 = .ok (.aload_n 0, 1) := by decide +kernel
theorem dL_law_380 : decode cL_law 380 = .ok (.iload 4, 2) := by decide +kernel
theorem dL_law_382 : decode cL_law 382 = .ok (.iconst 1, 1) := by decide +kernel
theorem dL_law_383 : decode cL_law 383 = .ok (.iadd, 1) := by decide +kernel
theorem dL_law_384 : decode cL_law 384 = .ok (.iaload, 1) := by decide +kernel
theorem dL_law_385 : decode cL_law 385 = .ok (.aload_n 0, 1) := by decide +kernel
theorem dL_law_386 : decode cL_law 386 = .ok (.iload 4, 2) := by decide +kernel
theorem dL_law_388 : decode cL_law 388 = .ok (.iconst 2, 1) := by decide +kernel
theorem dL_law_389 : decode cL_law 389 = .ok (.iadd, 1) := by decide +kernel
theorem dL_law_390 : decode cL_law 390 = .ok (.iaload, 1) := by decide +kernel
theorem dL_law_391 : decode cL_law 391 = .ok (.i2l, 1) := by decide +kernel
theorem dL_law_392 : decode cL_law 392 = .ok (.bipush 32, 2) := by decide +kernel
theorem dL_law_394 : decode cL_law 394 = .ok (.lshl, 1) := by decide +kernel
theorem dL_law_395 : decode cL_law 395 = .ok (.aload_n 0, 1) := by decide +kernel
theorem dL_law_396 : decode cL_law 396 = .ok (.iload 4, 2) := by decide +kernel
theorem dL_law_398 : decode cL_law 398 = .ok (.iconst 3, 1) := by decide +kernel
theorem dL_law_399 : decode cL_law 399 = .ok (.iadd, 1) := by decide +kernel
theorem dL_law_400 : decode cL_law 400 = .ok (.iaload, 1) := by decide +kernel
theorem dL_law_401 : decode cL_law 401 = .ok (.i2l, 1) := by decide +kernel
theorem dL_law_402 : decode cL_law 402 = .ok (.ldc2_w 181, 3) := by decide +kernel
theorem dL_law_405 : decode cL_law 405 = .ok (.land, 1) := by decide +kernel
theorem dL_law_406 : decode cL_law 406 = .ok (.lor, 1) := by decide +kernel
theorem dL_law_407 : decode cL_law 407 = .ok (.invokevirtual 186, 3) := by decide +kernel
theorem dL_law_410 : decode cL_law 410 = .ok (.istore 6, 2) := by decide +kernel
theorem dL_law_412 : decode cL_law 412 = .ok (.aload_n 2, 1) := by decide +kernel
theorem dL_law_413 : decode cL_law 413 = .ok (.invokevirtual 177, 3) := by decide +kernel
theorem dL_law_416 : decode cL_law 416 = .ok (.iload 5, 2) := by decide +kernel
theorem dL_law_418 : decode cL_law 418 = .ok (.if_icmp .eq 5, 3) := by decide +kernel
theorem dL_law_421 : decode cL_law 421 = .ok (.iconst 0, 1) := by decide +kernel
theorem dL_law_422 : decode cL_law 422 = .ok (.ireturn, 1) := by decide +kernel
theorem dL_law_423 : decode cL_law 423 = .ok (.iload 5, 2) := by decide +kernel
theorem dL_law_425 : decode cL_law 425 = .ok (.ifCond .ne 15, 3) := by decide +kernel
theorem dL_law_428 : decode cL_law 428 = .ok (.aload_n 3, 1) := by decide +kernel
theorem dL_law_429 : decode cL_law 429 = .ok (.iconst 0, 1) := by decide +kernel
theorem dL_law_430 : decode cL_law 430 = .ok (.laload, 1) := by decide +kernel
theorem dL_law_431 : decode cL_law 431 = .ok (.iload 6, 2) := by decide +kernel
theorem dL_law_433 : decode cL_law 433 = .ok (.i2l, 1) := by decide +kernel
theorem dL_law_434 : decode cL_law 434 = .ok (.lcmp, 1) := by decide +kernel
theorem dL_law_435 : decode cL_law 435 = .ok (.ifCond .eq 5, 3) := by decide +kernel
theorem dL_law_438 : decode cL_law 438 = .ok (.iconst 0, 1) := by decide +kernel
theorem dL_law_439 : decode cL_law 439 = .ok (.ireturn, 1) := by decide +kernel
theorem dL_law_440 : decode cL_law 440 = .ok (.goto 3793, 3) := by decide +kernel
theorem dL_law_443 : decode cL_law 443 = .ok (.aload_n 1, 1) := by decide +kernel
theorem dL_law_444 : decode cL_law 444 = .ok (.aload_n 0, 1) := by decide +kernel
theorem dL_law_445 : decode cL_law 445 = .ok (.iload 4, 2) := by decide +kernel
theorem dL_law_447 : decode cL_law 447 = .ok (.iconst 1, 1) := by decide +kernel
theorem dL_law_448 : decode cL_law 448 = .ok (.iadd, 1) := by decide +kernel
theorem dL_law_449 : decode cL_law 449 = .ok (.iaload, 1) := by decide +kernel
theorem dL_law_450 : decode cL_law 450 = .ok (.aload_n 3, 1) := by decide +kernel
theorem dL_law_451 : decode cL_law 451 = .ok (.invokestatic 187, 3) := by decide +kernel
theorem dL_law_454 : decode cL_law 454 = .ok (.istore 5, 2) := by decide +kernel
theorem dL_law_456 : decode cL_law 456 = .ok (.aload_n 2, 1) := by decide +kernel
theorem dL_law_457 : decode cL_law 457 = .ok (.aload_n 0, 1) := by decide +kernel
theorem dL_law_458 : decode cL_law 458 = .ok (.iload 4, 2) := by decide +kernel
theorem dL_law_460 : decode cL_law 460 = .ok (.iconst 1, 1) := by decide +kernel
theorem dL_law_461 : decode cL_law 461 = .ok (.iadd, 1) := by decide +kernel
theorem dL_law_462 : decode cL_law 462 = .ok (.iaload, 1) := by decide +kernel
theorem dL_law_463 : decode cL_law 463 = .ok (.invokevirtual 190, 3) := by decide +kernel
theorem dL_law_466 : decode cL_law 466 = .ok (.lstore 6, 2) := by decide +kernel
theorem dL_law_468 : decode cL_law 468 = .ok (.aload_n 2, 1) := by decide +kernel
theorem dL_law_469 : decode cL_law 469 = .ok (.invokevirtual 177, 3) := by decide +kernel
theorem dL_law_472 : decode cL_law 472 = .ok (.iload 5, 2) := by decide +kernel
theorem dL_law_474 : decode cL_law 474 = .ok (.if_icmp .eq 5, 3) := by decide +kernel
theorem dL_law_477 : decode cL_law 477 = .ok (.iconst 0, 1) := by decide +kernel
theorem dL_law_478 : decode cL_law 478 = .ok (.ireturn, 1) := by decide +kernel
theorem dL_law_479 : decode cL_law 479 = .ok (.iload 5, 2) := by decide +kernel
theorem dL_law_481 : decode cL_law 481 = .ok (.ifCond .ne 14, 3) := by decide +kernel
theorem dL_law_484 : decode cL_law 484 = .ok (.aload_n 3, 1) := by decide +kernel
theorem dL_law_485 : decode cL_law 485 = .ok (.iconst 0, 1) := by decide +kernel
theorem dL_law_486 : decode cL_law 486 = .ok (.laload, 1) := by decide +kernel
theorem dL_law_487 : decode cL_law 487 = .ok (.lload 6, 2) := by decide +kernel
theorem dL_law_489 : decode cL_law 489 = .ok (.lcmp, 1) := by decide +kernel
theorem dL_law_490 : decode cL_law 490 = .ok (.ifCond .eq 5, 3) := by decide +kernel
theorem dL_law_493 : decode cL_law 493 = .ok (.iconst 0, 1) := by decide +kernel
theorem dL_law_494 : decode cL_law 494 = .ok (.ireturn, 1) := by decide +kernel
theorem dL_law_495 : decode cL_law 495 = .ok (.goto 3738, 3) := by decide +kernel
theorem dL_law_498 : decode cL_law 498 = .ok (.aload_n 1, 1) := by decide +kernel
theorem dL_law_499 : decode cL_law 499 = .ok (.aload_n 0, 1) := by decide +kernel
theorem dL_law_500 : decode cL_law 500 = .ok (.iload 4, 2) := by decide +kernel
theorem dL_law_502 : decode cL_law 502 = .ok (.iconst 1, 1) := by decide +kernel
theorem dL_law_503 : decode cL_law 503 = .ok (.iadd, 1) := by decide +kernel
theorem dL_law_504 : decode cL_law 504 = .ok (.iaload, 1) := by decide +kernel
theorem dL_law_505 : decode cL_law 505 = .ok (.aload_n 0, 1) := by decide +kernel
theorem dL_law_506 : decode cL_law 506 = .ok (.iload 4, 2) := by decide +kernel
theorem dL_law_508 : decode cL_law 508 = .ok (.iconst 2, 1) := by decide +kernel
theorem dL_law_509 : decode cL_law 509 = .ok (.iadd, 1) := by decide +kernel
theorem dL_law_510 : decode cL_law 510 = .ok (.iaload, 1) := by decide +kernel
theorem dL_law_511 : decode cL_law 511 = .ok (.i2c, 1) := by decide +kernel
theorem dL_law_512 : decode cL_law 512 = .ok (.aload_n 3, 1) := by decide +kernel
theorem dL_law_513 : decode cL_law 513 = .ok (.invokestatic 191, 3) := by decide +kernel
theorem dL_law_516 : decode cL_law 516 = .ok (.istore 5, 2) := by decide +kernel
theorem dL_law_518 : decode cL_law 518 = .ok (.aload_n 2, 1) := by decide +kernel
theorem dL_law_519 : decode cL_law 519 = .ok (.aload_n 0, 1) := by decide +kernel
theorem dL_law_520 : decode cL_law 520 = .ok (.iload 4, 2) := by decide +kernel
theorem dL_law_522 : decode cL_law 522 = .ok (.iconst 1, 1) := by decide +kernel
theorem dL_law_523 : decode cL_law 523 = .ok (.iadd, 1) := by decide +kernel
theorem dL_law_524 : decode cL_law 524 = .ok (.iaload, 1) := by decide +kernel
theorem dL_law_525 : decode cL_law 525 = .ok (.aload_n 0, 1) := by decide +kernel
theorem dL_law_526 : decode cL_law 526 = .ok (.iload 4, 2) := by decide +kernel
theorem dL_law_528 : decode cL_law 528 = .ok (.iconst 2, 1) := by decide +kernel
theorem dL_law_529 : decode cL_law 529 = .ok (.iadd, 1) := by decide +kernel
theorem dL_law_530 : decode cL_law 530 = .ok (.iaload, 1) := by decide +kernel
theorem dL_law_531 : decode cL_law 531 = .ok (.i2c, 1) := by decide +kernel
theorem dL_law_532 : decode cL_law 532 = .ok (.invokevirtual 194, 3) := by decide +kernel
theorem dL_law_535 : decode cL_law 535 = .ok (.istore 6, 2) := by decide +kernel
theorem dL_law_537 : decode cL_law 537 = .ok (.aload_n 2, 1) := by decide +kernel
theorem dL_law_538 : decode cL_law 538 = .ok (.invokevirtual 177, 3) := by decide +kernel
theorem dL_law_541 : decode cL_law 541 = .ok (.iload 5, 2) := by decide +kernel
theorem dL_law_543 : decode cL_law 543 = .ok (.if_icmp .eq 5, 3) := by decide +kernel
theorem dL_law_546 : decode cL_law 546 = .ok (.iconst 0, 1) := by decide +kernel
theorem dL_law_547 : decode cL_law 547 = .ok (.ireturn, 1) := by decide +kernel
theorem dL_law_548 : decode cL_law 548 = .ok (.iload 5, 2) := by decide +kernel
theorem dL_law_550 : decode cL_law 550 = .ok (.ifCond .ne 15, 3) := by decide +kernel
theorem dL_law_553 : decode cL_law 553 = .ok (.aload_n 3, 1) := by decide +kernel
theorem dL_law_554 : decode cL_law 554 = .ok (.iconst 0, 1) := by decide +kernel
theorem dL_law_555 : decode cL_law 555 = .ok (.laload, 1) := by decide +kernel
theorem dL_law_556 : decode cL_law 556 = .ok (.iload 6, 2) := by decide +kernel
theorem dL_law_558 : decode cL_law 558 = .ok (.i2l, 1) := by decide +kernel
theorem dL_law_559 : decode cL_law 559 = .ok (.lcmp, 1) := by decide +kernel
theorem dL_law_560 : decode cL_law 560 = .ok (.ifCond .eq 5, 3) := by decide +kernel
theorem dL_law_563 : decode cL_law 563 = .ok (.iconst 0, 1) := by decide +kernel
theorem dL_law_564 : decode cL_law 564 = .ok (.ireturn, 1) := by decide +kernel
theorem dL_law_565 : decode cL_law 565 = .ok (.goto 3668, 3) := by decide +kernel
theorem dL_law_568 : decode cL_law 568 = .ok (.aload_n 1, 1) := by decide +kernel
theorem dL_law_569 : decode cL_law 569 = .ok (.aload_n 0, 1) := by decide +kernel
theorem dL_law_570 : decode cL_law 570 = .ok (.iload 4, 2) := by decide +kernel
theorem dL_law_572 : decode cL_law 572 = .ok (.iconst 1, 1) := by decide +kernel
theorem dL_law_573 : decode cL_law 573 = .ok (.iadd, 1) := by decide +kernel
theorem dL_law_574 : decode cL_law 574 = .ok (.iaload, 1) := by decide +kernel
theorem dL_law_575 : decode cL_law 575 = .ok (.aload_n 0, 1) := by decide +kernel
theorem dL_law_576 : decode cL_law 576 = .ok (.iload 4, 2) := by decide +kernel
theorem dL_law_578 : decode cL_law 578 = .ok (.iconst 2, 1) := by decide +kernel
theorem dL_law_579 : decode cL_law 579 = .ok (.iadd, 1) := by decide +kernel
theorem dL_law_580 : decode cL_law 580 = .ok (.iaload, 1) := by decide +kernel
theorem dL_law_581 : decode cL_law 581 = .ok (.i2c, 1) := by decide +kernel
theorem dL_law_582 : decode cL_law 582 = .ok (.aload_n 0, 1) := by decide +kernel
theorem dL_law_583 : decode cL_law 583 = .ok (.iload 4, 2) := by decide +kernel
theorem dL_law_585 : decode cL_law 585 = .ok (.iconst 3, 1) := by decide +kernel
theorem dL_law_586 : decode cL_law 586 = .ok (.iadd, 1) := by decide +kernel
theorem dL_law_587 : decode cL_law 587 = .ok (.iaload, 1) := by decide +kernel
theorem dL_law_588 : decode cL_law 588 = .ok (.aload_n 0, 1) := by decide +kernel
theorem dL_law_589 : decode cL_law 589 = .ok (.iload 4, 2) := by decide +kernel
theorem dL_law_591 : decode cL_law 591 = .ok (.iconst 4, 1) := by decide +kernel
theorem dL_law_592 : decode cL_law 592 = .ok (.iadd, 1) := by decide +kernel
theorem dL_law_593 : decode cL_law 593 = .ok (.iaload, 1) := by decide +kernel
theorem dL_law_594 : decode cL_law 594 = .ok (.aload_n 3, 1) := by decide +kernel
theorem dL_law_595 : decode cL_law 595 = .ok (.invokestatic 195, 3) := by decide +kernel
theorem dL_law_598 : decode cL_law 598 = .ok (.istore 5, 2) := by decide +kernel
theorem dL_law_600 : decode cL_law 600 = .ok (.aload_n 2, 1) := by decide +kernel
theorem dL_law_601 : decode cL_law 601 = .ok (.aload_n 0, 1) := by decide +kernel
theorem dL_law_602 : decode cL_law 602 = .ok (.iload 4, 2) := by decide +kernel
theorem dL_law_604 : decode cL_law 604 = .ok (.iconst 1, 1) := by decide +kernel
theorem dL_law_605 : decode cL_law 605 = .ok (.iadd, 1) := by decide +kernel
theorem dL_law_606 : decode cL_law 606 = .ok (.iaload, 1) := by decide +kernel
theorem dL_law_607 : decode cL_law 607 = .ok (.aload_n 0, 1) := by decide +kernel
theorem dL_law_608 : decode cL_law 608 = .ok (.iload 4, 2) := by decide +kernel
theorem dL_law_610 : decode cL_law 610 = .ok (.iconst 2, 1) := by decide +kernel
theorem dL_law_611 : decode cL_law 611 = .ok (.iadd, 1) := by decide +kernel
theorem dL_law_612 : decode cL_law 612 = .ok (.iaload, 1) := by decide +kernel
theorem dL_law_613 : decode cL_law 613 = .ok (.i2c, 1) := by decide +kernel
theorem dL_law_614 : decode cL_law 614 = .ok (.aload_n 0, 1) := by decide +kernel
theorem dL_law_615 : decode cL_law 615 = .ok (.iload 4, 2) := by decide +kernel
theorem dL_law_617 : decode cL_law 617 = .ok (.iconst 3, 1) := by decide +kernel
theorem dL_law_618 : decode cL_law 618 = .ok (.iadd, 1) := by decide +kernel
theorem dL_law_619 : decode cL_law 619 = .ok (.iaload, 1) := by decide +kernel
theorem dL_law_620 : decode cL_law 620 = .ok (.aload_n 0, 1) := by decide +kernel
theorem dL_law_621 : decode cL_law 621 = .ok (.iload 4, 2) := by decide +kernel
theorem dL_law_623 : decode cL_law 623 = .ok (.iconst 4, 1) := by decide +kernel
theorem dL_law_624 : decode cL_law 624 = .ok (.iadd, 1) := by decide +kernel
theorem dL_law_625 : decode cL_law 625 = .ok (.iaload, 1) := by decide +kernel
theorem dL_law_626 : decode cL_law 626 = .ok (.invokevirtual 198, 3) := by decide +kernel
theorem dL_law_629 : decode cL_law 629 = .ok (.lstore 6, 2) := by decide +kernel
theorem dL_law_631 : decode cL_law 631 = .ok (.aload_n 2, 1) := by decide +kernel
theorem dL_law_632 : decode cL_law 632 = .ok (.invokevirtual 177, 3) := by decide +kernel
theorem dL_law_635 : decode cL_law 635 = .ok (.iload 5, 2) := by decide +kernel
theorem dL_law_637 : decode cL_law 637 = .ok (.if_icmp .eq 5, 3) := by decide +kernel
theorem dL_law_640 : decode cL_law 640 = .ok (.iconst 0, 1) := by decide +kernel
theorem dL_law_641 : decode cL_law 641 = .ok (.ireturn, 1) := by decide +kernel
theorem dL_law_642 : decode cL_law 642 = .ok (.iload 5, 2) := by decide +kernel
theorem dL_law_644 : decode cL_law 644 = .ok (.ifCond .ne 14, 3) := by decide +kernel
theorem dL_law_647 : decode cL_law 647 = .ok (.aload_n 3, 1) := by decide +kernel
theorem dL_law_648 : decode cL_law 648 = .ok (.iconst 0, 1) := by decide +kernel
theorem dL_law_649 : decode cL_law 649 = .ok (.laload, 1) := by decide +kernel
theorem dL_law_650 : decode cL_law 650 = .ok (.lload 6, 2) := by decide +kernel
theorem dL_law_652 : decode cL_law 652 = .ok (.lcmp, 1) := by decide +kernel
theorem dL_law_653 : decode cL_law 653 = .ok (.ifCond .eq 5, 3) := by decide +kernel
theorem dL_law_656 : decode cL_law 656 = .ok (.iconst 0, 1) := by decide +kernel
theorem dL_law_657 : decode cL_law 657 = .ok (.ireturn, 1) := by decide +kernel
theorem dL_law_658 : decode cL_law 658 = .ok (.goto 3575, 3) := by decide +kernel
theorem dL_law_661 : decode cL_law 661 = .ok (.aload_n 1, 1) := by decide +kernel
theorem dL_law_662 : decode cL_law 662 = .ok (.aload_n 0, 1) := by decide +kernel
theorem dL_law_663 : decode cL_law 663 = .ok (.iload 4, 2) := by decide +kernel
theorem dL_law_665 : decode cL_law 665 = .ok (.iconst 1, 1) := by decide +kernel
theorem dL_law_666 : decode cL_law 666 = .ok (.iadd, 1) := by decide +kernel
theorem dL_law_667 : decode cL_law 667 = .ok (.iaload, 1) := by decide +kernel
theorem dL_law_668 : decode cL_law 668 = .ok (.aload_n 0, 1) := by decide +kernel
theorem dL_law_669 : decode cL_law 669 = .ok (.iload 4, 2) := by decide +kernel
theorem dL_law_671 : decode cL_law 671 = .ok (.iconst 2, 1) := by decide +kernel
theorem dL_law_672 : decode cL_law 672 = .ok (.iadd, 1) := by decide +kernel
theorem dL_law_673 : decode cL_law 673 = .ok (.iaload, 1) := by decide +kernel
theorem dL_law_674 : decode cL_law 674 = .ok (.i2c, 1) := by decide +kernel
theorem dL_law_675 : decode cL_law 675 = .ok (.aload_n 0, 1) := by decide +kernel
theorem dL_law_676 : decode cL_law 676 = .ok (.iload 4, 2) := by decide +kernel
theorem dL_law_678 : decode cL_law 678 = .ok (.iconst 3, 1) := by decide +kernel
theorem dL_law_679 : decode cL_law 679 = .ok (.iadd, 1) := by decide +kernel
theorem dL_law_680 : decode cL_law 680 = .ok (.iaload, 1) := by decide +kernel
theorem dL_law_681 : decode cL_law 681 = .ok (.aload_n 0, 1) := by decide +kernel
theorem dL_law_682 : decode cL_law 682 = .ok (.iload 4, 2) := by decide +kernel
theorem dL_law_684 : decode cL_law 684 = .ok (.iconst 4, 1) := by decide +kernel
theorem dL_law_685 : decode cL_law 685 = .ok (.iadd, 1) := by decide +kernel
theorem dL_law_686 : decode cL_law 686 = .ok (.iaload, 1) := by decide +kernel
theorem dL_law_687 : decode cL_law 687 = .ok (.aload_n 3, 1) := by decide +kernel
theorem dL_law_688 : decode cL_law 688 = .ok (.invokestatic 199, 3) := by decide +kernel
theorem dL_law_691 : decode cL_law 691 = .ok (.istore 5, 2) := by decide +kernel
theorem dL_law_693 : decode cL_law 693 = .ok (.aload_n 2, 1) := by decide +kernel
theorem dL_law_694 : decode cL_law 694 = .ok (.aload_n 0, 1) := by decide +kernel
theorem dL_law_695 : decode cL_law 695 = .ok (.iload 4, 2) := by decide +kernel
theorem dL_law_697 : decode cL_law 697 = .ok (.iconst 1, 1) := by decide +kernel
theorem dL_law_698 : decode cL_law 698 = .ok (.iadd, 1) := by decide +kernel
theorem dL_law_699 : decode cL_law 699 = .ok (.iaload, 1) := by decide +kernel
theorem dL_law_700 : decode cL_law 700 = .ok (.aload_n 0, 1) := by decide +kernel
theorem dL_law_701 : decode cL_law 701 = .ok (.iload 4, 2) := by decide +kernel
theorem dL_law_703 : decode cL_law 703 = .ok (.iconst 2, 1) := by decide +kernel
theorem dL_law_704 : decode cL_law 704 = .ok (.iadd, 1) := by decide +kernel
theorem dL_law_705 : decode cL_law 705 = .ok (.iaload, 1) := by decide +kernel
theorem dL_law_706 : decode cL_law 706 = .ok (.i2c, 1) := by decide +kernel
theorem dL_law_707 : decode cL_law 707 = .ok (.aload_n 0, 1) := by decide +kernel
theorem dL_law_708 : decode cL_law 708 = .ok (.iload 4, 2) := by decide +kernel
theorem dL_law_710 : decode cL_law 710 = .ok (.iconst 3, 1) := by decide +kernel
theorem dL_law_711 : decode cL_law 711 = .ok (.iadd, 1) := by decide +kernel
theorem dL_law_712 : decode cL_law 712 = .ok (.iaload, 1) := by decide +kernel
theorem dL_law_713 : decode cL_law 713 = .ok (.aload_n 0, 1) := by decide +kernel
theorem dL_law_714 : decode cL_law 714 = .ok (.iload 4, 2) := by decide +kernel
theorem dL_law_716 : decode cL_law 716 = .ok (.iconst 4, 1) := by decide +kernel
theorem dL_law_717 : decode cL_law 717 = .ok (.iadd, 1) := by decide +kernel
theorem dL_law_718 : decode cL_law 718 = .ok (.iaload, 1) := by decide +kernel
theorem dL_law_719 : decode cL_law 719 = .ok (.invokevirtual 201, 3) := by decide +kernel
theorem dL_law_722 : decode cL_law 722 = .ok (.lstore 6, 2) := by decide +kernel
theorem dL_law_724 : decode cL_law 724 = .ok (.aload_n 2, 1) := by decide +kernel
theorem dL_law_725 : decode cL_law 725 = .ok (.invokevirtual 177, 3) := by decide +kernel
theorem dL_law_728 : decode cL_law 728 = .ok (.iload 5, 2) := by decide +kernel
theorem dL_law_730 : decode cL_law 730 = .ok (.if_icmp .eq 5, 3) := by decide +kernel
theorem dL_law_733 : decode cL_law 733 = .ok (.iconst 0, 1) := by decide +kernel
theorem dL_law_734 : decode cL_law 734 = .ok (.ireturn, 1) := by decide +kernel
theorem dL_law_735 : decode cL_law 735 = .ok (.iload 5, 2) := by decide +kernel
theorem dL_law_737 : decode cL_law 737 = .ok (.ifCond .ne 14, 3) := by decide +kernel
theorem dL_law_740 : decode cL_law 740 = .ok (.aload_n 3, 1) := by decide +kernel
theorem dL_law_741 : decode cL_law 741 = .ok (.iconst 0, 1) := by decide +kernel
theorem dL_law_742 : decode cL_law 742 = .ok (.laload, 1) := by decide +kernel
theorem dL_law_743 : decode cL_law 743 = .ok (.lload 6, 2) := by decide +kernel
theorem dL_law_745 : decode cL_law 745 = .ok (.lcmp, 1) := by decide +kernel
theorem dL_law_746 : decode cL_law 746 = .ok (.ifCond .eq 5, 3) := by decide +kernel
theorem dL_law_749 : decode cL_law 749 = .ok (.iconst 0, 1) := by decide +kernel
theorem dL_law_750 : decode cL_law 750 = .ok (.ireturn, 1) := by decide +kernel
theorem dL_law_751 : decode cL_law 751 = .ok (.goto 3482, 3) := by decide +kernel
theorem dL_law_754 : decode cL_law 754 = .ok (.aload_n 1, 1) := by decide +kernel
theorem dL_law_755 : decode cL_law 755 = .ok (.aload_n 0, 1) := by decide +kernel
theorem dL_law_756 : decode cL_law 756 = .ok (.iload 4, 2) := by decide +kernel
theorem dL_law_758 : decode cL_law 758 = .ok (.iconst 1, 1) := by decide +kernel
theorem dL_law_759 : decode cL_law 759 = .ok (.iadd, 1) := by decide +kernel
theorem dL_law_760 : decode cL_law 760 = .ok (.iaload, 1) := by decide +kernel
theorem dL_law_761 : decode cL_law 761 = .ok (.aload_n 0, 1) := by decide +kernel
theorem dL_law_762 : decode cL_law 762 = .ok (.iload 4, 2) := by decide +kernel
theorem dL_law_764 : decode cL_law 764 = .ok (.iconst 2, 1) := by decide +kernel
theorem dL_law_765 : decode cL_law 765 = .ok (.iadd, 1) := by decide +kernel
theorem dL_law_766 : decode cL_law 766 = .ok (.iaload, 1) := by decide +kernel
theorem dL_law_767 : decode cL_law 767 = .ok (.i2c, 1) := by decide +kernel
theorem dL_law_768 : decode cL_law 768 = .ok (.aload_n 0, 1) := by decide +kernel
theorem dL_law_769 : decode cL_law 769 = .ok (.iload 4, 2) := by decide +kernel
theorem dL_law_771 : decode cL_law 771 = .ok (.iconst 3, 1) := by decide +kernel
theorem dL_law_772 : decode cL_law 772 = .ok (.iadd, 1) := by decide +kernel
theorem dL_law_773 : decode cL_law 773 = .ok (.iaload, 1) := by decide +kernel
theorem dL_law_774 : decode cL_law 774 = .ok (.aload_n 3, 1) := by decide +kernel
theorem dL_law_775 : decode cL_law 775 = .ok (.invokestatic 202, 3) := by decide +kernel
theorem dL_law_778 : decode cL_law 778 = .ok (.istore 5, 2) := by decide +kernel
theorem dL_law_780 : decode cL_law 780 = .ok (.aload_n 2, 1) := by decide +kernel
theorem dL_law_781 : decode cL_law 781 = .ok (.aload_n 0, 1) := by decide +kernel
theorem dL_law_782 : decode cL_law 782 = .ok (.iload 4, 2) := by decide +kernel
theorem dL_law_784 : decode cL_law 784 = .ok (.iconst 1, 1) := by decide +kernel
theorem dL_law_785 : decode cL_law 785 = .ok (.iadd, 1) := by decide +kernel
theorem dL_law_786 : decode cL_law 786 = .ok (.iaload, 1) := by decide +kernel
theorem dL_law_787 : decode cL_law 787 = .ok (.aload_n 0, 1) := by decide +kernel
theorem dL_law_788 : decode cL_law 788 = .ok (.iload 4, 2) := by decide +kernel
theorem dL_law_790 : decode cL_law 790 = .ok (.iconst 2, 1) := by decide +kernel
theorem dL_law_791 : decode cL_law 791 = .ok (.iadd, 1) := by decide +kernel
theorem dL_law_792 : decode cL_law 792 = .ok (.iaload, 1) := by decide +kernel
theorem dL_law_793 : decode cL_law 793 = .ok (.i2c, 1) := by decide +kernel
theorem dL_law_794 : decode cL_law 794 = .ok (.aload_n 0, 1) := by decide +kernel
theorem dL_law_795 : decode cL_law 795 = .ok (.iload 4, 2) := by decide +kernel
theorem dL_law_797 : decode cL_law 797 = .ok (.iconst 3, 1) := by decide +kernel
theorem dL_law_798 : decode cL_law 798 = .ok (.iadd, 1) := by decide +kernel
theorem dL_law_799 : decode cL_law 799 = .ok (.iaload, 1) := by decide +kernel
theorem dL_law_800 : decode cL_law 800 = .ok (.invokevirtual 205, 3) := by decide +kernel
theorem dL_law_803 : decode cL_law 803 = .ok (.lstore 6, 2) := by decide +kernel
theorem dL_law_805 : decode cL_law 805 = .ok (.aload_n 2, 1) := by decide +kernel
theorem dL_law_806 : decode cL_law 806 = .ok (.invokevirtual 177, 3) := by decide +kernel
theorem dL_law_809 : decode cL_law 809 = .ok (.iload 5, 2) := by decide +kernel
theorem dL_law_811 : decode cL_law 811 = .ok (.if_icmp .eq 5, 3) := by decide +kernel
theorem dL_law_814 : decode cL_law 814 = .ok (.iconst 0, 1) := by decide +kernel
theorem dL_law_815 : decode cL_law 815 = .ok (.ireturn, 1) := by decide +kernel
theorem dL_law_816 : decode cL_law 816 = .ok (.iload 5, 2) := by decide +kernel
theorem dL_law_818 : decode cL_law 818 = .ok (.ifCond .ne 14, 3) := by decide +kernel
theorem dL_law_821 : decode cL_law 821 = .ok (.aload_n 3, 1) := by decide +kernel
theorem dL_law_822 : decode cL_law 822 = .ok (.iconst 0, 1) := by decide +kernel
theorem dL_law_823 : decode cL_law 823 = .ok (.laload, 1) := by decide +kernel
theorem dL_law_824 : decode cL_law 824 = .ok (.lload 6, 2) := by decide +kernel
theorem dL_law_826 : decode cL_law 826 = .ok (.lcmp, 1) := by decide +kernel
theorem dL_law_827 : decode cL_law 827 = .ok (.ifCond .eq 5, 3) := by decide +kernel
theorem dL_law_830 : decode cL_law 830 = .ok (.iconst 0, 1) := by decide +kernel
theorem dL_law_831 : decode cL_law 831 = .ok (.ireturn, 1) := by decide +kernel
theorem dL_law_832 : decode cL_law 832 = .ok (.goto 3401, 3) := by decide +kernel
theorem dL_law_835 : decode cL_law 835 = .ok (.aload_n 1, 1) := by decide +kernel
theorem dL_law_836 : decode cL_law 836 = .ok (.aload_n 0, 1) := by decide +kernel
theorem dL_law_837 : decode cL_law 837 = .ok (.iload 4, 2) := by decide +kernel
theorem dL_law_839 : decode cL_law 839 = .ok (.iconst 1, 1) := by decide +kernel
theorem dL_law_840 : decode cL_law 840 = .ok (.iadd, 1) := by decide +kernel
theorem dL_law_841 : decode cL_law 841 = .ok (.iaload, 1) := by decide +kernel
theorem dL_law_842 : decode cL_law 842 = .ok (.aload_n 0, 1) := by decide +kernel
theorem dL_law_843 : decode cL_law 843 = .ok (.iload 4, 2) := by decide +kernel
theorem dL_law_845 : decode cL_law 845 = .ok (.iconst 2, 1) := by decide +kernel
theorem dL_law_846 : decode cL_law 846 = .ok (.iadd, 1) := by decide +kernel
theorem dL_law_847 : decode cL_law 847 = .ok (.iaload, 1) := by decide +kernel
theorem dL_law_848 : decode cL_law 848 = .ok (.i2c, 1) := by decide +kernel
theorem dL_law_849 : decode cL_law 849 = .ok (.aload_n 0, 1) := by decide +kernel
theorem dL_law_850 : decode cL_law 850 = .ok (.iload 4, 2) := by decide +kernel
theorem dL_law_852 : decode cL_law 852 = .ok (.iconst 3, 1) := by decide +kernel
theorem dL_law_853 : decode cL_law 853 = .ok (.iadd, 1) := by decide +kernel
theorem dL_law_854 : decode cL_law 854 = .ok (.iaload, 1) := by decide +kernel
theorem dL_law_855 : decode cL_law 855 = .ok (.aload_n 0, 1) := by decide +kernel
theorem dL_law_856 : decode cL_law 856 = .ok (.iload 4, 2) := by decide +kernel
theorem dL_law_858 : decode cL_law 858 = .ok (.iconst 4, 1) := by decide +kernel
theorem dL_law_859 : decode cL_law 859 = .ok (.iadd, 1) := by decide +kernel
theorem dL_law_860 : decode cL_law 860 = .ok (.iaload, 1) := by decide +kernel
theorem dL_law_861 : decode cL_law 861 = .ok (.aload_n 3, 1) := by decide +kernel
theorem dL_law_862 : decode cL_law 862 = .ok (.invokestatic 206, 3) := by decide +kernel
theorem dL_law_865 : decode cL_law 865 = .ok (.istore 5, 2) := by decide +kernel
theorem dL_law_867 : decode cL_law 867 = .ok (.aload_n 2, 1) := by decide +kernel
theorem dL_law_868 : decode cL_law 868 = .ok (.aload_n 0, 1) := by decide +kernel
theorem dL_law_869 : decode cL_law 869 = .ok (.iload 4, 2) := by decide +kernel
theorem dL_law_871 : decode cL_law 871 = .ok (.iconst 1, 1) := by decide +kernel
theorem dL_law_872 : decode cL_law 872 = .ok (.iadd, 1) := by decide +kernel
theorem dL_law_873 : decode cL_law 873 = .ok (.iaload, 1) := by decide +kernel
theorem dL_law_874 : decode cL_law 874 = .ok (.aload_n 0, 1) := by decide +kernel
theorem dL_law_875 : decode cL_law 875 = .ok (.iload 4, 2) := by decide +kernel
theorem dL_law_877 : decode cL_law 877 = .ok (.iconst 2, 1) := by decide +kernel
theorem dL_law_878 : decode cL_law 878 = .ok (.iadd, 1) := by decide +kernel
theorem dL_law_879 : decode cL_law 879 = .ok (.iaload, 1) := by decide +kernel
theorem dL_law_880 : decode cL_law 880 = .ok (.i2c, 1) := by decide +kernel
theorem dL_law_881 : decode cL_law 881 = .ok (.aload_n 0, 1) := by decide +kernel
theorem dL_law_882 : decode cL_law 882 = .ok (.iload 4, 2) := by decide +kernel
theorem dL_law_884 : decode cL_law 884 = .ok (.iconst 3, 1) := by decide +kernel
theorem dL_law_885 : decode cL_law 885 = .ok (.iadd, 1) := by decide +kernel
theorem dL_law_886 : decode cL_law 886 = .ok (.iaload, 1) := by decide +kernel
theorem dL_law_887 : decode cL_law 887 = .ok (.aload_n 0, 1) := by decide +kernel
theorem dL_law_888 : decode cL_law 888 = .ok (.iload 4, 2) := by decide +kernel
theorem dL_law_890 : decode cL_law 890 = .ok (.iconst 4, 1) := by decide +kernel
theorem dL_law_891 : decode cL_law 891 = .ok (.iadd, 1) := by decide +kernel
theorem dL_law_892 : decode cL_law 892 = .ok (.iaload, 1) := by decide +kernel
theorem dL_law_893 : decode cL_law 893 = .ok (.invokevirtual 208, 3) := by decide +kernel
theorem dL_law_896 : decode cL_law 896 = .ok (.lstore 6, 2) := by decide +kernel
theorem dL_law_898 : decode cL_law 898 = .ok (.aload_n 2, 1) := by decide +kernel
theorem dL_law_899 : decode cL_law 899 = .ok (.invokevirtual 177, 3) := by decide +kernel
theorem dL_law_902 : decode cL_law 902 = .ok (.iload 5, 2) := by decide +kernel
theorem dL_law_904 : decode cL_law 904 = .ok (.if_icmp .eq 5, 3) := by decide +kernel
theorem dL_law_907 : decode cL_law 907 = .ok (.iconst 0, 1) := by decide +kernel
theorem dL_law_908 : decode cL_law 908 = .ok (.ireturn, 1) := by decide +kernel
theorem dL_law_909 : decode cL_law 909 = .ok (.iload 5, 2) := by decide +kernel
theorem dL_law_911 : decode cL_law 911 = .ok (.ifCond .ne 14, 3) := by decide +kernel
theorem dL_law_914 : decode cL_law 914 = .ok (.aload_n 3, 1) := by decide +kernel
theorem dL_law_915 : decode cL_law 915 = .ok (.iconst 0, 1) := by decide +kernel
theorem dL_law_916 : decode cL_law 916 = .ok (.laload, 1) := by decide +kernel
theorem dL_law_917 : decode cL_law 917 = .ok (.lload 6, 2) := by decide +kernel
theorem dL_law_919 : decode cL_law 919 = .ok (.lcmp, 1) := by decide +kernel
theorem dL_law_920 : decode cL_law 920 = .ok (.ifCond .eq 5, 3) := by decide +kernel
theorem dL_law_923 : decode cL_law 923 = .ok (.iconst 0, 1) := by decide +kernel
theorem dL_law_924 : decode cL_law 924 = .ok (.ireturn, 1) := by decide +kernel
theorem dL_law_925 : decode cL_law 925 = .ok (.goto 3308, 3) := by decide +kernel
theorem dL_law_928 : decode cL_law 928 = .ok (.aload_n 1, 1) := by decide +kernel
theorem dL_law_929 : decode cL_law 929 = .ok (.aload_n 0, 1) := by decide +kernel
theorem dL_law_930 : decode cL_law 930 = .ok (.iload 4, 2) := by decide +kernel
theorem dL_law_932 : decode cL_law 932 = .ok (.iconst 1, 1) := by decide +kernel
theorem dL_law_933 : decode cL_law 933 = .ok (.iadd, 1) := by decide +kernel
theorem dL_law_934 : decode cL_law 934 = .ok (.iaload, 1) := by decide +kernel
theorem dL_law_935 : decode cL_law 935 = .ok (.aload_n 0, 1) := by decide +kernel
theorem dL_law_936 : decode cL_law 936 = .ok (.iload 4, 2) := by decide +kernel
theorem dL_law_938 : decode cL_law 938 = .ok (.iconst 2, 1) := by decide +kernel
theorem dL_law_939 : decode cL_law 939 = .ok (.iadd, 1) := by decide +kernel
theorem dL_law_940 : decode cL_law 940 = .ok (.iaload, 1) := by decide +kernel
theorem dL_law_941 : decode cL_law 941 = .ok (.aload_n 0, 1) := by decide +kernel
theorem dL_law_942 : decode cL_law 942 = .ok (.iload 4, 2) := by decide +kernel
theorem dL_law_944 : decode cL_law 944 = .ok (.iconst 3, 1) := by decide +kernel
theorem dL_law_945 : decode cL_law 945 = .ok (.iadd, 1) := by decide +kernel
theorem dL_law_946 : decode cL_law 946 = .ok (.iaload, 1) := by decide +kernel
theorem dL_law_947 : decode cL_law 947 = .ok (.aload_n 0, 1) := by decide +kernel
theorem dL_law_948 : decode cL_law 948 = .ok (.iload 4, 2) := by decide +kernel
theorem dL_law_950 : decode cL_law 950 = .ok (.iconst 4, 1) := by decide +kernel
theorem dL_law_951 : decode cL_law 951 = .ok (.iadd, 1) := by decide +kernel
theorem dL_law_952 : decode cL_law 952 = .ok (.iaload, 1) := by decide +kernel
theorem dL_law_953 : decode cL_law 953 = .ok (.aload_n 3, 1) := by decide +kernel
theorem dL_law_954 : decode cL_law 954 = .ok (.invokestatic 209, 3) := by decide +kernel
theorem dL_law_957 : decode cL_law 957 = .ok (.istore 5, 2) := by decide +kernel
theorem dL_law_959 : decode cL_law 959 = .ok (.aload_n 2, 1) := by decide +kernel
theorem dL_law_960 : decode cL_law 960 = .ok (.aload_n 0, 1) := by decide +kernel
theorem dL_law_961 : decode cL_law 961 = .ok (.iload 4, 2) := by decide +kernel
theorem dL_law_963 : decode cL_law 963 = .ok (.iconst 1, 1) := by decide +kernel
theorem dL_law_964 : decode cL_law 964 = .ok (.iadd, 1) := by decide +kernel
theorem dL_law_965 : decode cL_law 965 = .ok (.iaload, 1) := by decide +kernel
theorem dL_law_966 : decode cL_law 966 = .ok (.aload_n 0, 1) := by decide +kernel
theorem dL_law_967 : decode cL_law 967 = .ok (.iload 4, 2) := by decide +kernel
theorem dL_law_969 : decode cL_law 969 = .ok (.iconst 2, 1) := by decide +kernel
theorem dL_law_970 : decode cL_law 970 = .ok (.iadd, 1) := by decide +kernel
theorem dL_law_971 : decode cL_law 971 = .ok (.iaload, 1) := by decide +kernel
theorem dL_law_972 : decode cL_law 972 = .ok (.aload_n 0, 1) := by decide +kernel
theorem dL_law_973 : decode cL_law 973 = .ok (.iload 4, 2) := by decide +kernel
theorem dL_law_975 : decode cL_law 975 = .ok (.iconst 3, 1) := by decide +kernel
theorem dL_law_976 : decode cL_law 976 = .ok (.iadd, 1) := by decide +kernel
theorem dL_law_977 : decode cL_law 977 = .ok (.iaload, 1) := by decide +kernel
theorem dL_law_978 : decode cL_law 978 = .ok (.aload_n 0, 1) := by decide +kernel
theorem dL_law_979 : decode cL_law 979 = .ok (.iload 4, 2) := by decide +kernel
theorem dL_law_981 : decode cL_law 981 = .ok (.iconst 4, 1) := by decide +kernel
theorem dL_law_982 : decode cL_law 982 = .ok (.iadd, 1) := by decide +kernel
theorem dL_law_983 : decode cL_law 983 = .ok (.iaload, 1) := by decide +kernel
theorem dL_law_984 : decode cL_law 984 = .ok (.invokevirtual 211, 3) := by decide +kernel
theorem dL_law_987 : decode cL_law 987 = .ok (.lstore 6, 2) := by decide +kernel
theorem dL_law_989 : decode cL_law 989 = .ok (.aload_n 2, 1) := by decide +kernel
theorem dL_law_990 : decode cL_law 990 = .ok (.invokevirtual 177, 3) := by decide +kernel
theorem dL_law_993 : decode cL_law 993 = .ok (.iload 5, 2) := by decide +kernel
theorem dL_law_995 : decode cL_law 995 = .ok (.if_icmp .eq 5, 3) := by decide +kernel
theorem dL_law_998 : decode cL_law 998 = .ok (.iconst 0, 1) := by decide +kernel
theorem dL_law_999 : decode cL_law 999 = .ok (.ireturn, 1) := by decide +kernel
theorem dL_law_1000 : decode cL_law 1000 = .ok (.iload 5, 2) := by decide +kernel
theorem dL_law_1002 : decode cL_law 1002 = .ok (.ifCond .ne 14, 3) := by decide +kernel
theorem dL_law_1005 : decode cL_law 1005 = .ok (.aload_n 3, 1) := by decide +kernel
theorem dL_law_1006 : decode cL_law 1006 = .ok (.iconst 0, 1) := by decide +kernel
theorem dL_law_1007 : decode cL_law 1007 = .ok (.laload, 1) := by decide +kernel
theorem dL_law_1008 : decode cL_law 1008 = .ok (.lload 6, 2) := by decide +kernel
theorem dL_law_1010 : decode cL_law 1010 = .ok (.lcmp, 1) := by decide +kernel
theorem dL_law_1011 : decode cL_law 1011 = .ok (.ifCond .eq 5, 3) := by decide +kernel
theorem dL_law_1014 : decode cL_law 1014 = .ok (.iconst 0, 1) := by decide +kernel
theorem dL_law_1015 : decode cL_law 1015 = .ok (.ireturn, 1) := by decide +kernel
theorem dL_law_1016 : decode cL_law 1016 = .ok (.goto 3217, 3) := by decide +kernel
theorem dL_law_1019 : decode cL_law 1019 = .ok (.aload_n 1, 1) := by decide +kernel
theorem dL_law_1020 : decode cL_law 1020 = .ok (.aload_n 0, 1) := by decide +kernel
theorem dL_law_1021 : decode cL_law 1021 = .ok (.iload 4, 2) := by decide +kernel
theorem dL_law_1023 : decode cL_law 1023 = .ok (.iconst 1, 1) := by decide +kernel
theorem dL_law_1024 : decode cL_law 1024 = .ok (.iadd, 1) := by decide +kernel
theorem dL_law_1025 : decode cL_law 1025 = .ok (.iaload, 1) := by decide +kernel
theorem dL_law_1026 : decode cL_law 1026 = .ok (.aload_n 0, 1) := by decide +kernel
theorem dL_law_1027 : decode cL_law 1027 = .ok (.iload 4, 2) := by decide +kernel
theorem dL_law_1029 : decode cL_law 1029 = .ok (.iconst 2, 1) := by decide +kernel
theorem dL_law_1030 : decode cL_law 1030 = .ok (.iadd, 1) := by decide +kernel
theorem dL_law_1031 : decode cL_law 1031 = .ok (.iaload, 1) := by decide +kernel
theorem dL_law_1032 : decode cL_law 1032 = .ok (.aload_n 0, 1) := by decide +kernel
theorem dL_law_1033 : decode cL_law 1033 = .ok (.iload 4, 2) := by decide +kernel
theorem dL_law_1035 : decode cL_law 1035 = .ok (.iconst 3, 1) := by decide +kernel
theorem dL_law_1036 : decode cL_law 1036 = .ok (.iadd, 1) := by decide +kernel
theorem dL_law_1037 : decode cL_law 1037 = .ok (.iaload, 1) := by decide +kernel
theorem dL_law_1038 : decode cL_law 1038 = .ok (.aload_n 0, 1) := by decide +kernel
theorem dL_law_1039 : decode cL_law 1039 = .ok (.iload 4, 2) := by decide +kernel
theorem dL_law_1041 : decode cL_law 1041 = .ok (.iconst 4, 1) := by decide +kernel
theorem dL_law_1042 : decode cL_law 1042 = .ok (.iadd, 1) := by decide +kernel
theorem dL_law_1043 : decode cL_law 1043 = .ok (.iaload, 1) := by decide +kernel
theorem dL_law_1044 : decode cL_law 1044 = .ok (.aload_n 3, 1) := by decide +kernel
theorem dL_law_1045 : decode cL_law 1045 = .ok (.invokestatic 212, 3) := by decide +kernel
theorem dL_law_1048 : decode cL_law 1048 = .ok (.istore 5, 2) := by decide +kernel
theorem dL_law_1050 : decode cL_law 1050 = .ok (.aload_n 2, 1) := by decide +kernel
theorem dL_law_1051 : decode cL_law 1051 = .ok (.aload_n 0, 1) := by decide +kernel
theorem dL_law_1052 : decode cL_law 1052 = .ok (.iload 4, 2) := by decide +kernel
theorem dL_law_1054 : decode cL_law 1054 = .ok (.iconst 1, 1) := by decide +kernel
theorem dL_law_1055 : decode cL_law 1055 = .ok (.iadd, 1) := by decide +kernel
theorem dL_law_1056 : decode cL_law 1056 = .ok (.iaload, 1) := by decide +kernel
theorem dL_law_1057 : decode cL_law 1057 = .ok (.aload_n 0, 1) := by decide +kernel
theorem dL_law_1058 : decode cL_law 1058 = .ok (.iload 4, 2) := by decide +kernel
theorem dL_law_1060 : decode cL_law 1060 = .ok (.iconst 2, 1) := by decide +kernel
theorem dL_law_1061 : decode cL_law 1061 = .ok (.iadd, 1) := by decide +kernel
theorem dL_law_1062 : decode cL_law 1062 = .ok (.iaload, 1) := by decide +kernel
theorem dL_law_1063 : decode cL_law 1063 = .ok (.aload_n 0, 1) := by decide +kernel
theorem dL_law_1064 : decode cL_law 1064 = .ok (.iload 4, 2) := by decide +kernel
theorem dL_law_1066 : decode cL_law 1066 = .ok (.iconst 3, 1) := by decide +kernel
theorem dL_law_1067 : decode cL_law 1067 = .ok (.iadd, 1) := by decide +kernel
theorem dL_law_1068 : decode cL_law 1068 = .ok (.iaload, 1) := by decide +kernel
theorem dL_law_1069 : decode cL_law 1069 = .ok (.aload_n 0, 1) := by decide +kernel
theorem dL_law_1070 : decode cL_law 1070 = .ok (.iload 4, 2) := by decide +kernel
theorem dL_law_1072 : decode cL_law 1072 = .ok (.iconst 4, 1) := by decide +kernel
theorem dL_law_1073 : decode cL_law 1073 = .ok (.iadd, 1) := by decide +kernel
theorem dL_law_1074 : decode cL_law 1074 = .ok (.iaload, 1) := by decide +kernel
theorem dL_law_1075 : decode cL_law 1075 = .ok (.invokevirtual 214, 3) := by decide +kernel
theorem dL_law_1078 : decode cL_law 1078 = .ok (.lstore 6, 2) := by decide +kernel
theorem dL_law_1080 : decode cL_law 1080 = .ok (.aload_n 2, 1) := by decide +kernel
theorem dL_law_1081 : decode cL_law 1081 = .ok (.invokevirtual 177, 3) := by decide +kernel
theorem dL_law_1084 : decode cL_law 1084 = .ok (.iload 5, 2) := by decide +kernel
theorem dL_law_1086 : decode cL_law 1086 = .ok (.if_icmp .eq 5, 3) := by decide +kernel
theorem dL_law_1089 : decode cL_law 1089 = .ok (.iconst 0, 1) := by decide +kernel
theorem dL_law_1090 : decode cL_law 1090 = .ok (.ireturn, 1) := by decide +kernel
theorem dL_law_1091 : decode cL_law 1091 = .ok (.iload 5, 2) := by decide +kernel
theorem dL_law_1093 : decode cL_law 1093 = .ok (.ifCond .ne 14, 3) := by decide +kernel
theorem dL_law_1096 : decode cL_law 1096 = .ok (.aload_n 3, 1) := by decide +kernel
theorem dL_law_1097 : decode cL_law 1097 = .ok (.iconst 0, 1) := by decide +kernel
theorem dL_law_1098 : decode cL_law 1098 = .ok (.laload, 1) := by decide +kernel
theorem dL_law_1099 : decode cL_law 1099 = .ok (.lload 6, 2) := by decide +kernel
theorem dL_law_1101 : decode cL_law 1101 = .ok (.lcmp, 1) := by decide +kernel
theorem dL_law_1102 : decode cL_law 1102 = .ok (.ifCond .eq 5, 3) := by decide +kernel
theorem dL_law_1105 : decode cL_law 1105 = .ok (.iconst 0, 1) := by decide +kernel
theorem dL_law_1106 : decode cL_law 1106 = .ok (.ireturn, 1) := by decide +kernel
theorem dL_law_1107 : decode cL_law 1107 = .ok (.goto 3126, 3) := by decide +kernel
theorem dL_law_1110 : decode cL_law 1110 = .ok (.aload_n 1, 1) := by decide +kernel
theorem dL_law_1111 : decode cL_law 1111 = .ok (.aload_n 0, 1) := by decide +kernel
theorem dL_law_1112 : decode cL_law 1112 = .ok (.iload 4, 2) := by decide +kernel
theorem dL_law_1114 : decode cL_law 1114 = .ok (.iconst 1, 1) := by decide +kernel
theorem dL_law_1115 : decode cL_law 1115 = .ok (.iadd, 1) := by decide +kernel
theorem dL_law_1116 : decode cL_law 1116 = .ok (.iaload, 1) := by decide +kernel
theorem dL_law_1117 : decode cL_law 1117 = .ok (.aload_n 0, 1) := by decide +kernel
theorem dL_law_1118 : decode cL_law 1118 = .ok (.iload 4, 2) := by decide +kernel
theorem dL_law_1120 : decode cL_law 1120 = .ok (.iconst 2, 1) := by decide +kernel
theorem dL_law_1121 : decode cL_law 1121 = .ok (.iadd, 1) := by decide +kernel
theorem dL_law_1122 : decode cL_law 1122 = .ok (.iaload, 1) := by decide +kernel
theorem dL_law_1123 : decode cL_law 1123 = .ok (.aload_n 3, 1) := by decide +kernel
theorem dL_law_1124 : decode cL_law 1124 = .ok (.invokestatic 215, 3) := by decide +kernel
theorem dL_law_1127 : decode cL_law 1127 = .ok (.istore 5, 2) := by decide +kernel
theorem dL_law_1129 : decode cL_law 1129 = .ok (.aload_n 2, 1) := by decide +kernel
theorem dL_law_1130 : decode cL_law 1130 = .ok (.aload_n 0, 1) := by decide +kernel
theorem dL_law_1131 : decode cL_law 1131 = .ok (.iload 4, 2) := by decide +kernel
theorem dL_law_1133 : decode cL_law 1133 = .ok (.iconst 1, 1) := by decide +kernel
theorem dL_law_1134 : decode cL_law 1134 = .ok (.iadd, 1) := by decide +kernel
theorem dL_law_1135 : decode cL_law 1135 = .ok (.iaload, 1) := by decide +kernel
theorem dL_law_1136 : decode cL_law 1136 = .ok (.aload_n 0, 1) := by decide +kernel
theorem dL_law_1137 : decode cL_law 1137 = .ok (.iload 4, 2) := by decide +kernel
theorem dL_law_1139 : decode cL_law 1139 = .ok (.iconst 2, 1) := by decide +kernel
theorem dL_law_1140 : decode cL_law 1140 = .ok (.iadd, 1) := by decide +kernel
theorem dL_law_1141 : decode cL_law 1141 = .ok (.iaload, 1) := by decide +kernel
theorem dL_law_1142 : decode cL_law 1142 = .ok (.invokevirtual 218, 3) := by decide +kernel
theorem dL_law_1145 : decode cL_law 1145 = .ok (.istore 6, 2) := by decide +kernel
theorem dL_law_1147 : decode cL_law 1147 = .ok (.aload_n 2, 1) := by decide +kernel
theorem dL_law_1148 : decode cL_law 1148 = .ok (.invokevirtual 177, 3) := by decide +kernel
theorem dL_law_1151 : decode cL_law 1151 = .ok (.iload 5, 2) := by decide +kernel
theorem dL_law_1153 : decode cL_law 1153 = .ok (.if_icmp .eq 5, 3) := by decide +kernel
theorem dL_law_1156 : decode cL_law 1156 = .ok (.iconst 0, 1) := by decide +kernel
theorem dL_law_1157 : decode cL_law 1157 = .ok (.ireturn, 1) := by decide +kernel
theorem dL_law_1158 : decode cL_law 1158 = .ok (.iload 5, 2) := by decide +kernel
theorem dL_law_1160 : decode cL_law 1160 = .ok (.ifCond .ne 15, 3) := by decide +kernel
theorem dL_law_1163 : decode cL_law 1163 = .ok (.aload_n 3, 1) := by decide +kernel
theorem dL_law_1164 : decode cL_law 1164 = .ok (.iconst 0, 1) := by decide +kernel
theorem dL_law_1165 : decode cL_law 1165 = .ok (.laload, 1) := by decide +kernel
theorem dL_law_1166 : decode cL_law 1166 = .ok (.iload 6, 2) := by decide +kernel
theorem dL_law_1168 : decode cL_law 1168 = .ok (.i2l, 1) := by decide +kernel
theorem dL_law_1169 : decode cL_law 1169 = .ok (.lcmp, 1) := by decide +kernel
theorem dL_law_1170 : decode cL_law 1170 = .ok (.ifCond .eq 5, 3) := by decide +kernel
theorem dL_law_1173 : decode cL_law 1173 = .ok (.iconst 0, 1) := by decide +kernel
theorem dL_law_1174 : decode cL_law 1174 = .ok (.ireturn, 1) := by decide +kernel
theorem dL_law_1175 : decode cL_law 1175 = .ok (.goto 3058, 3) := by decide +kernel
theorem dL_law_1178 : decode cL_law 1178 = .ok (.aload_n 1, 1) := by decide +kernel
theorem dL_law_1179 : decode cL_law 1179 = .ok (.aload_n 0, 1) := by decide +kernel
theorem dL_law_1180 : decode cL_law 1180 = .ok (.iload 4, 2) := by decide +kernel
theorem dL_law_1182 : decode cL_law 1182 = .ok (.iconst 1, 1) := by decide +kernel
theorem dL_law_1183 : decode cL_law 1183 = .ok (.iadd, 1) := by decide +kernel
theorem dL_law_1184 : decode cL_law 1184 = .ok (.iaload, 1) := by decide +kernel
theorem dL_law_1185 : decode cL_law 1185 = .ok (.aload_n 0, 1) := by decide +kernel
theorem dL_law_1186 : decode cL_law 1186 = .ok (.iload 4, 2) := by decide +kernel
theorem dL_law_1188 : decode cL_law 1188 = .ok (.iconst 2, 1) := by decide +kernel
theorem dL_law_1189 : decode cL_law 1189 = .ok (.iadd, 1) := by decide +kernel
theorem dL_law_1190 : decode cL_law 1190 = .ok (.iaload, 1) := by decide +kernel
theorem dL_law_1191 : decode cL_law 1191 = .ok (.aload_n 0, 1) := by decide +kernel
theorem dL_law_1192 : decode cL_law 1192 = .ok (.iload 4, 2) := by decide +kernel
theorem dL_law_1194 : decode cL_law 1194 = .ok (.iconst 3, 1) := by decide +kernel
theorem dL_law_1195 : decode cL_law 1195 = .ok (.iadd, 1) := by decide +kernel
theorem dL_law_1196 : decode cL_law 1196 = .ok (.iaload, 1) := by decide +kernel
theorem dL_law_1197 : decode cL_law 1197 = .ok (.i2c, 1) := by decide +kernel
theorem dL_law_1198 : decode cL_law 1198 = .ok (.aload_n 3, 1) := by decide +kernel
theorem dL_law_1199 : decode cL_law 1199 = .ok (.invokestatic 219, 3) := by decide +kernel
theorem dL_law_1202 : decode cL_law 1202 = .ok (.istore 5, 2) := by decide +kernel
theorem dL_law_1204 : decode cL_law 1204 = .ok (.aload_n 2, 1) := by decide +kernel
theorem dL_law_1205 : decode cL_law 1205 = .ok (.aload_n 0, 1) := by decide +kernel
theorem dL_law_1206 : decode cL_law 1206 = .ok (.iload 4, 2) := by decide +kernel
theorem dL_law_1208 : decode cL_law 1208 = .ok (.iconst 1, 1) := by decide +kernel
theorem dL_law_1209 : decode cL_law 1209 = .ok (.iadd, 1) := by decide +kernel
theorem dL_law_1210 : decode cL_law 1210 = .ok (.iaload, 1) := by decide +kernel
theorem dL_law_1211 : decode cL_law 1211 = .ok (.aload_n 0, 1) := by decide +kernel
theorem dL_law_1212 : decode cL_law 1212 = .ok (.iload 4, 2) := by decide +kernel
theorem dL_law_1214 : decode cL_law 1214 = .ok (.iconst 2, 1) := by decide +kernel
theorem dL_law_1215 : decode cL_law 1215 = .ok (.iadd, 1) := by decide +kernel
theorem dL_law_1216 : decode cL_law 1216 = .ok (.iaload, 1) := by decide +kernel
theorem dL_law_1217 : decode cL_law 1217 = .ok (.aload_n 0, 1) := by decide +kernel
theorem dL_law_1218 : decode cL_law 1218 = .ok (.iload 4, 2) := by decide +kernel
theorem dL_law_1220 : decode cL_law 1220 = .ok (.iconst 3, 1) := by decide +kernel
theorem dL_law_1221 : decode cL_law 1221 = .ok (.iadd, 1) := by decide +kernel
theorem dL_law_1222 : decode cL_law 1222 = .ok (.iaload, 1) := by decide +kernel
theorem dL_law_1223 : decode cL_law 1223 = .ok (.i2c, 1) := by decide +kernel
theorem dL_law_1224 : decode cL_law 1224 = .ok (.invokevirtual 222, 3) := by decide +kernel
theorem dL_law_1227 : decode cL_law 1227 = .ok (.lstore 6, 2) := by decide +kernel
theorem dL_law_1229 : decode cL_law 1229 = .ok (.aload_n 2, 1) := by decide +kernel
theorem dL_law_1230 : decode cL_law 1230 = .ok (.invokevirtual 177, 3) := by decide +kernel
theorem dL_law_1233 : decode cL_law 1233 = .ok (.iload 5, 2) := by decide +kernel
theorem dL_law_1235 : decode cL_law 1235 = .ok (.if_icmp .eq 5, 3) := by decide +kernel
theorem dL_law_1238 : decode cL_law 1238 = .ok (.iconst 0, 1) := by decide +kernel
theorem dL_law_1239 : decode cL_law 1239 = .ok (.ireturn, 1) := by decide +kernel
theorem dL_law_1240 : decode cL_law 1240 = .ok (.iload 5, 2) := by decide +kernel
theorem dL_law_1242 : decode cL_law 1242 = .ok (.ifCond .ne 14, 3) := by decide +kernel
theorem dL_law_1245 : decode cL_law 1245 = .ok (.aload_n 3, 1) := by decide +kernel
theorem dL_law_1246 : decode cL_law 1246 = .ok (.iconst 0, 1) := by decide +kernel
theorem dL_law_1247 : decode cL_law 1247 = .ok (.laload, 1) := by decide +kernel
theorem dL_law_1248 : decode cL_law 1248 = .ok (.lload 6, 2) := by decide +kernel
theorem dL_law_1250 : decode cL_law 1250 = .ok (.lcmp, 1) := by decide +kernel
theorem dL_law_1251 : decode cL_law 1251 = .ok (.ifCond .eq 5, 3) := by decide +kernel
theorem dL_law_1254 : decode cL_law 1254 = .ok (.iconst 0, 1) := by decide +kernel
theorem dL_law_1255 : decode cL_law 1255 = .ok (.ireturn, 1) := by decide +kernel
theorem dL_law_1256 : decode cL_law 1256 = .ok (.goto 2977, 3) := by decide +kernel
theorem dL_law_1259 : decode cL_law 1259 = .ok (.aload_n 1, 1) := by decide +kernel
theorem dL_law_1260 : decode cL_law 1260 = .ok (.aload_n 0, 1) := by decide +kernel
theorem dL_law_1261 : decode cL_law 1261 = .ok (.iload 4, 2) := by decide +kernel
theorem dL_law_1263 : decode cL_law 1263 = .ok (.iconst 1, 1) := by decide +kernel
theorem dL_law_1264 : decode cL_law 1264 = .ok (.iadd, 1) := by decide +kernel
theorem dL_law_1265 : decode cL_law 1265 = .ok (.iaload, 1) := by decide +kernel
theorem dL_law_1266 : decode cL_law 1266 = .ok (.aload_n 0, 1) := by decide +kernel
theorem dL_law_1267 : decode cL_law 1267 = .ok (.iload 4, 2) := by decide +kernel
theorem dL_law_1269 : decode cL_law 1269 = .ok (.iconst 2, 1) := by decide +kernel
theorem dL_law_1270 : decode cL_law 1270 = .ok (.iadd, 1) := by decide +kernel
theorem dL_law_1271 : decode cL_law 1271 = .ok (.iaload, 1) := by decide +kernel
theorem dL_law_1272 : decode cL_law 1272 = .ok (.aload_n 0, 1) := by decide +kernel
theorem dL_law_1273 : decode cL_law 1273 = .ok (.iload 4, 2) := by decide +kernel
theorem dL_law_1275 : decode cL_law 1275 = .ok (.iconst 3, 1) := by decide +kernel
theorem dL_law_1276 : decode cL_law 1276 = .ok (.iadd, 1) := by decide +kernel
theorem dL_law_1277 : decode cL_law 1277 = .ok (.iaload, 1) := by decide +kernel
theorem dL_law_1278 : decode cL_law 1278 = .ok (.aload_n 0, 1) := by decide +kernel
theorem dL_law_1279 : decode cL_law 1279 = .ok (.iload 4, 2) := by decide +kernel
theorem dL_law_1281 : decode cL_law 1281 = .ok (.iconst 4, 1) := by decide +kernel
theorem dL_law_1282 : decode cL_law 1282 = .ok (.iadd, 1) := by decide +kernel
theorem dL_law_1283 : decode cL_law 1283 = .ok (.iaload, 1) := by decide +kernel
theorem dL_law_1284 : decode cL_law 1284 = .ok (.aload_n 3, 1) := by decide +kernel
theorem dL_law_1285 : decode cL_law 1285 = .ok (.invokestatic 223, 3) := by decide +kernel
theorem dL_law_1288 : decode cL_law 1288 = .ok (.istore 5, 2) := by decide +kernel
theorem dL_law_1290 : decode cL_law 1290 = .ok (.aload_n 2, 1) := by decide +kernel
theorem dL_law_1291 : decode cL_law 1291 = .ok (.aload_n 0, 1) := by decide +kernel
theorem dL_law_1292 : decode cL_law 1292 = .ok (.iload 4, 2) := by decide +kernel
theorem dL_law_1294 : decode cL_law 1294 = .ok (.iconst 1, 1) := by decide +kernel
theorem dL_law_1295 : decode cL_law 1295 = .ok (.iadd, 1) := by decide +kernel
theorem dL_law_1296 : decode cL_law 1296 = .ok (.iaload, 1) := by decide +kernel
theorem dL_law_1297 : decode cL_law 1297 = .ok (.aload_n 0, 1) := by decide +kernel
theorem dL_law_1298 : decode cL_law 1298 = .ok (.iload 4, 2) := by decide +kernel
theorem dL_law_1300 : decode cL_law 1300 = .ok (.iconst 2, 1) := by decide +kernel
theorem dL_law_1301 : decode cL_law 1301 = .ok (.iadd, 1) := by decide +kernel
theorem dL_law_1302 : decode cL_law 1302 = .ok (.iaload, 1) := by decide +kernel
theorem dL_law_1303 : decode cL_law 1303 = .ok (.aload_n 0, 1) := by decide +kernel
theorem dL_law_1304 : decode cL_law 1304 = .ok (.iload 4, 2) := by decide +kernel
theorem dL_law_1306 : decode cL_law 1306 = .ok (.iconst 3, 1) := by decide +kernel
theorem dL_law_1307 : decode cL_law 1307 = .ok (.iadd, 1) := by decide +kernel
theorem dL_law_1308 : decode cL_law 1308 = .ok (.iaload, 1) := by decide +kernel
theorem dL_law_1309 : decode cL_law 1309 = .ok (.aload_n 0, 1) := by decide +kernel
theorem dL_law_1310 : decode cL_law 1310 = .ok (.iload 4, 2) := by decide +kernel
theorem dL_law_1312 : decode cL_law 1312 = .ok (.iconst 4, 1) := by decide +kernel
theorem dL_law_1313 : decode cL_law 1313 = .ok (.iadd, 1) := by decide +kernel
theorem dL_law_1314 : decode cL_law 1314 = .ok (.iaload, 1) := by decide +kernel
theorem dL_law_1315 : decode cL_law 1315 = .ok (.invokevirtual 225, 3) := by decide +kernel
theorem dL_law_1318 : decode cL_law 1318 = .ok (.lstore 6, 2) := by decide +kernel
theorem dL_law_1320 : decode cL_law 1320 = .ok (.aload_n 2, 1) := by decide +kernel
theorem dL_law_1321 : decode cL_law 1321 = .ok (.invokevirtual 177, 3) := by decide +kernel
theorem dL_law_1324 : decode cL_law 1324 = .ok (.iload 5, 2) := by decide +kernel
theorem dL_law_1326 : decode cL_law 1326 = .ok (.if_icmp .eq 5, 3) := by decide +kernel
theorem dL_law_1329 : decode cL_law 1329 = .ok (.iconst 0, 1) := by decide +kernel
theorem dL_law_1330 : decode cL_law 1330 = .ok (.ireturn, 1) := by decide +kernel
theorem dL_law_1331 : decode cL_law 1331 = .ok (.iload 5, 2) := by decide +kernel
theorem dL_law_1333 : decode cL_law 1333 = .ok (.ifCond .ne 14, 3) := by decide +kernel
theorem dL_law_1336 : decode cL_law 1336 = .ok (.aload_n 3, 1) := by decide +kernel
theorem dL_law_1337 : decode cL_law 1337 = .ok (.iconst 0, 1) := by decide +kernel
theorem dL_law_1338 : decode cL_law 1338 = .ok (.laload, 1) := by decide +kernel
theorem dL_law_1339 : decode cL_law 1339 = .ok (.lload 6, 2) := by decide +kernel
theorem dL_law_1341 : decode cL_law 1341 = .ok (.lcmp, 1) := by decide +kernel
theorem dL_law_1342 : decode cL_law 1342 = .ok (.ifCond .eq 5, 3) := by decide +kernel
theorem dL_law_1345 : decode cL_law 1345 = .ok (.iconst 0, 1) := by decide +kernel
theorem dL_law_1346 : decode cL_law 1346 = .ok (.ireturn, 1) := by decide +kernel
theorem dL_law_1347 : decode cL_law 1347 = .ok (.goto 2886, 3) := by decide +kernel
theorem dL_law_1350 : decode cL_law 1350 = .ok (.aload_n 1, 1) := by decide +kernel
theorem dL_law_1351 : decode cL_law 1351 = .ok (.aload_n 0, 1) := by decide +kernel
theorem dL_law_1352 : decode cL_law 1352 = .ok (.iload 4, 2) := by decide +kernel
theorem dL_law_1354 : decode cL_law 1354 = .ok (.iconst 1, 1) := by decide +kernel
theorem dL_law_1355 : decode cL_law 1355 = .ok (.iadd, 1) := by decide +kernel
theorem dL_law_1356 : decode cL_law 1356 = .ok (.iaload, 1) := by decide +kernel
theorem dL_law_1357 : decode cL_law 1357 = .ok (.aload_n 0, 1) := by decide +kernel
theorem dL_law_1358 : decode cL_law 1358 = .ok (.iload 4, 2) := by decide +kernel
theorem dL_law_1360 : decode cL_law 1360 = .ok (.iconst 2, 1) := by decide +kernel
theorem dL_law_1361 : decode cL_law 1361 = .ok (.iadd, 1) := by decide +kernel
theorem dL_law_1362 : decode cL_law 1362 = .ok (.iaload, 1) := by decide +kernel
theorem dL_law_1363 : decode cL_law 1363 = .ok (.aload_n 0, 1) := by decide +kernel
theorem dL_law_1364 : decode cL_law 1364 = .ok (.iload 4, 2) := by decide +kernel
theorem dL_law_1366 : decode cL_law 1366 = .ok (.iconst 3, 1) := by decide +kernel
theorem dL_law_1367 : decode cL_law 1367 = .ok (.iadd, 1) := by decide +kernel
theorem dL_law_1368 : decode cL_law 1368 = .ok (.iaload, 1) := by decide +kernel
theorem dL_law_1369 : decode cL_law 1369 = .ok (.aload_n 3, 1) := by decide +kernel
theorem dL_law_1370 : decode cL_law 1370 = .ok (.invokestatic 226, 3) := by decide +kernel
theorem dL_law_1373 : decode cL_law 1373 = .ok (.istore 5, 2) := by decide +kernel
theorem dL_law_1375 : decode cL_law 1375 = .ok (.aload_n 2, 1) := by decide +kernel
theorem dL_law_1376 : decode cL_law 1376 = .ok (.aload_n 0, 1) := by decide +kernel
theorem dL_law_1377 : decode cL_law 1377 = .ok (.iload 4, 2) := by decide +kernel
theorem dL_law_1379 : decode cL_law 1379 = .ok (.iconst 1, 1) := by decide +kernel
theorem dL_law_1380 : decode cL_law 1380 = .ok (.iadd, 1) := by decide +kernel
theorem dL_law_1381 : decode cL_law 1381 = .ok (.iaload, 1) := by decide +kernel
theorem dL_law_1382 : decode cL_law 1382 = .ok (.aload_n 0, 1) := by decide +kernel
theorem dL_law_1383 : decode cL_law 1383 = .ok (.iload 4, 2) := by decide +kernel
theorem dL_law_1385 : decode cL_law 1385 = .ok (.iconst 2, 1) := by decide +kernel
theorem dL_law_1386 : decode cL_law 1386 = .ok (.iadd, 1) := by decide +kernel
theorem dL_law_1387 : decode cL_law 1387 = .ok (.iaload, 1) := by decide +kernel
theorem dL_law_1388 : decode cL_law 1388 = .ok (.aload_n 0, 1) := by decide +kernel
theorem dL_law_1389 : decode cL_law 1389 = .ok (.iload 4, 2) := by decide +kernel
theorem dL_law_1391 : decode cL_law 1391 = .ok (.iconst 3, 1) := by decide +kernel
theorem dL_law_1392 : decode cL_law 1392 = .ok (.iadd, 1) := by decide +kernel
theorem dL_law_1393 : decode cL_law 1393 = .ok (.iaload, 1) := by decide +kernel
theorem dL_law_1394 : decode cL_law 1394 = .ok (.invokevirtual 229, 3) := by decide +kernel
theorem dL_law_1397 : decode cL_law 1397 = .ok (.lstore 6, 2) := by decide +kernel
theorem dL_law_1399 : decode cL_law 1399 = .ok (.aload_n 2, 1) := by decide +kernel
theorem dL_law_1400 : decode cL_law 1400 = .ok (.invokevirtual 177, 3) := by decide +kernel
theorem dL_law_1403 : decode cL_law 1403 = .ok (.iload 5, 2) := by decide +kernel
theorem dL_law_1405 : decode cL_law 1405 = .ok (.if_icmp .eq 5, 3) := by decide +kernel
theorem dL_law_1408 : decode cL_law 1408 = .ok (.iconst 0, 1) := by decide +kernel
theorem dL_law_1409 : decode cL_law 1409 = .ok (.ireturn, 1) := by decide +kernel
theorem dL_law_1410 : decode cL_law 1410 = .ok (.iload 5, 2) := by decide +kernel
theorem dL_law_1412 : decode cL_law 1412 = .ok (.ifCond .ne 14, 3) := by decide +kernel
theorem dL_law_1415 : decode cL_law 1415 = .ok (.aload_n 3, 1) := by decide +kernel
theorem dL_law_1416 : decode cL_law 1416 = .ok (.iconst 0, 1) := by decide +kernel
theorem dL_law_1417 : decode cL_law 1417 = .ok (.laload, 1) := by decide +kernel
theorem dL_law_1418 : decode cL_law 1418 = .ok (.lload 6, 2) := by decide +kernel
theorem dL_law_1420 : decode cL_law 1420 = .ok (.lcmp, 1) := by decide +kernel
theorem dL_law_1421 : decode cL_law 1421 = .ok (.ifCond .eq 5, 3) := by decide +kernel
theorem dL_law_1424 : decode cL_law 1424 = .ok (.iconst 0, 1) := by decide +kernel
theorem dL_law_1425 : decode cL_law 1425 = .ok (.ireturn, 1) := by decide +kernel
theorem dL_law_1426 : decode cL_law 1426 = .ok (.goto 2807, 3) := by decide +kernel
theorem dL_law_1429 : decode cL_law 1429 = .ok (.aload_n 1, 1) := by decide +kernel
theorem dL_law_1430 : decode cL_law 1430 = .ok (.aload_n 0, 1) := by decide +kernel
theorem dL_law_1431 : decode cL_law 1431 = .ok (.iload 4, 2) := by decide +kernel
theorem dL_law_1433 : decode cL_law 1433 = .ok (.iconst 1, 1) := by decide +kernel
theorem dL_law_1434 : decode cL_law 1434 = .ok (.iadd, 1) := by decide +kernel
theorem dL_law_1435 : decode cL_law 1435 = .ok (.iaload, 1) := by decide +kernel
theorem dL_law_1436 : decode cL_law 1436 = .ok (.aload_n 0, 1) := by decide +kernel
theorem dL_law_1437 : decode cL_law 1437 = .ok (.iload 4, 2) := by decide +kernel
theorem dL_law_1439 : decode cL_law 1439 = .ok (.iconst 2, 1) := by decide +kernel
theorem dL_law_1440 : decode cL_law 1440 = .ok (.iadd, 1) := by decide +kernel
theorem dL_law_1441 : decode cL_law 1441 = .ok (.iaload, 1) := by decide +kernel
theorem dL_law_1442 : decode cL_law 1442 = .ok (.aload_n 0, 1) := by decide +kernel
theorem dL_law_1443 : decode cL_law 1443 = .ok (.iload 4, 2) := by decide +kernel
theorem dL_law_1445 : decode cL_law 1445 = .ok (.iconst 3, 1) := by decide +kernel
theorem dL_law_1446 : decode cL_law 1446 = .ok (.iadd, 1) := by decide +kernel
theorem dL_law_1447 : decode cL_law 1447 = .ok (.iaload, 1) := by decide +kernel
theorem dL_law_1448 : decode cL_law 1448 = .ok (.ifCond .eq 7, 3) := by decide +kernel
theorem dL_law_1451 : decode cL_law 1451 = .ok (.iconst 1, 1) := by decide +kernel
theorem dL_law_1452 : decode cL_law 1452 = .ok (.goto 4, 3) := by decide +kernel
theorem dL_law_1455 : decode cL_law 1455 = .ok (.iconst 0, 1) := by decide +kernel
theorem dL_law_1456 : decode cL_law 1456 = .ok (.aload_n 0, 1) := by decide +kernel
theorem dL_law_1457 : decode cL_law 1457 = .ok (.iload 4, 2) := by decide +kernel
theorem dL_law_1459 : decode cL_law 1459 = .ok (.iconst 4, 1) := by decide +kernel
theorem dL_law_1460 : decode cL_law 1460 = .ok (.iadd, 1) := by decide +kernel
theorem dL_law_1461 : decode cL_law 1461 = .ok (.iaload, 1) := by decide +kernel
theorem dL_law_1462 : decode cL_law 1462 = .ok (.aload_n 3, 1) := by decide +kernel
theorem dL_law_1463 : decode cL_law 1463 = .ok (.invokestatic 230, 3) := by decide +kernel
theorem dL_law_1466 : decode cL_law 1466 = .ok (.istore 5, 2) := by decide +kernel
theorem dL_law_1468 : decode cL_law 1468 = .ok (.aload_n 2, 1) := by decide +kernel
theorem dL_law_1469 : decode cL_law 1469 = .ok (.aload_n 0, 1) := by decide +kernel
theorem dL_law_1470 : decode cL_law 1470 = .ok (.iload 4, 2) := by decide +kernel
theorem dL_law_1472 : decode cL_law 1472 = .ok (.iconst 1, 1) := by decide +kernel
theorem dL_law_1473 : decode cL_law 1473 = .ok (.iadd, 1) := by decide +kernel
theorem dL_law_1474 : decode cL_law 1474 = .ok (.iaload, 1) := by decide +kernel
theorem dL_law_1475 : decode cL_law 1475 = .ok (.aload_n 0, 1) := by decide +kernel
theorem dL_law_1476 : decode cL_law 1476 = .ok (.iload 4, 2) := by decide +kernel
theorem dL_law_1478 : decode cL_law 1478 = .ok (.iconst 2, 1) := by decide +kernel
theorem dL_law_1479 : decode cL_law 1479 = .ok (.iadd, 1) := by decide +kernel
theorem dL_law_1480 : decode cL_law 1480 = .ok (.iaload, 1) := by decide +kernel
theorem dL_law_1481 : decode cL_law 1481 = .ok (.aload_n 0, 1) := by decide +kernel
theorem dL_law_1482 : decode cL_law 1482 = .ok (.iload 4, 2) := by decide +kernel
theorem dL_law_1484 : decode cL_law 1484 = .ok (.iconst 3, 1) := by decide +kernel
theorem dL_law_1485 : decode cL_law 1485 = .ok (.iadd, 1) := by decide +kernel
theorem dL_law_1486 : decode cL_law 1486 = .ok (.iaload, 1) := by decide +kernel
theorem dL_law_1487 : decode cL_law 1487 = .ok (.ifCond .eq 7, 3) := by decide +kernel
theorem dL_law_1490 : decode cL_law 1490 = .ok (.iconst 1, 1) := by decide +kernel
theorem dL_law_1491 : decode cL_law 1491 = .ok (.goto 4, 3) := by decide +kernel
theorem dL_law_1494 : decode cL_law 1494 = .ok (.iconst 0, 1) := by decide +kernel
theorem dL_law_1495 : decode cL_law 1495 = .ok (.aload_n 0, 1) := by decide +kernel
theorem dL_law_1496 : decode cL_law 1496 = .ok (.iload 4, 2) := by decide +kernel
theorem dL_law_1498 : decode cL_law 1498 = .ok (.iconst 4, 1) := by decide +kernel
theorem dL_law_1499 : decode cL_law 1499 = .ok (.iadd, 1) := by decide +kernel
theorem dL_law_1500 : decode cL_law 1500 = .ok (.iaload, 1) := by decide +kernel
theorem dL_law_1501 : decode cL_law 1501 = .ok (.invokevirtual 233, 3) := by decide +kernel
theorem dL_law_1504 : decode cL_law 1504 = .ok (.lstore 6, 2) := by decide +kernel
theorem dL_law_1506 : decode cL_law 1506 = .ok (.aload_n 2, 1) := by decide +kernel
theorem dL_law_1507 : decode cL_law 1507 = .ok (.invokevirtual 177, 3) := by decide +kernel
theorem dL_law_1510 : decode cL_law 1510 = .ok (.iload 5, 2) := by decide +kernel
theorem dL_law_1512 : decode cL_law 1512 = .ok (.if_icmp .eq 5, 3) := by decide +kernel
theorem dL_law_1515 : decode cL_law 1515 = .ok (.iconst 0, 1) := by decide +kernel
theorem dL_law_1516 : decode cL_law 1516 = .ok (.ireturn, 1) := by decide +kernel
theorem dL_law_1517 : decode cL_law 1517 = .ok (.iload 5, 2) := by decide +kernel
theorem dL_law_1519 : decode cL_law 1519 = .ok (.ifCond .ne 14, 3) := by decide +kernel
theorem dL_law_1522 : decode cL_law 1522 = .ok (.aload_n 3, 1) := by decide +kernel
theorem dL_law_1523 : decode cL_law 1523 = .ok (.iconst 0, 1) := by decide +kernel
theorem dL_law_1524 : decode cL_law 1524 = .ok (.laload, 1) := by decide +kernel
theorem dL_law_1525 : decode cL_law 1525 = .ok (.lload 6, 2) := by decide +kernel
theorem dL_law_1527 : decode cL_law 1527 = .ok (.lcmp, 1) := by decide +kernel
theorem dL_law_1528 : decode cL_law 1528 = .ok (.ifCond .eq 5, 3) := by decide +kernel
theorem dL_law_1531 : decode cL_law 1531 = .ok (.iconst 0, 1) := by decide +kernel
theorem dL_law_1532 : decode cL_law 1532 = .ok (.ireturn, 1) := by decide +kernel
theorem dL_law_1533 : decode cL_law 1533 = .ok (.goto 2700, 3) := by decide +kernel
theorem dL_law_1536 : decode cL_law 1536 = .ok (.aload_n 1, 1) := by decide +kernel
theorem dL_law_1537 : decode cL_law 1537 = .ok (.aload_n 0, 1) := by decide +kernel
theorem dL_law_1538 : decode cL_law 1538 = .ok (.iload 4, 2) := by decide +kernel
theorem dL_law_1540 : decode cL_law 1540 = .ok (.iconst 1, 1) := by decide +kernel
theorem dL_law_1541 : decode cL_law 1541 = .ok (.iadd, 1) := by decide +kernel
theorem dL_law_1542 : decode cL_law 1542 = .ok (.iaload, 1) := by decide +kernel
theorem dL_law_1543 : decode cL_law 1543 = .ok (.aload_n 0, 1) := by decide +kernel
theorem dL_law_1544 : decode cL_law 1544 = .ok (.iload 4, 2) := by decide +kernel
theorem dL_law_1546 : decode cL_law 1546 = .ok (.iconst 2, 1) := by decide +kernel
theorem dL_law_1547 : decode cL_law 1547 = .ok (.iadd, 1) := by decide +kernel
theorem dL_law_1548 : decode cL_law 1548 = .ok (.iaload, 1) := by decide +kernel
theorem dL_law_1549 : decode cL_law 1549 = .ok (.i2c, 1) := by decide +kernel
theorem dL_law_1550 : decode cL_law 1550 = .ok (.aload_n 3, 1) := by decide +kernel
theorem dL_law_1551 : decode cL_law 1551 = .ok (.invokestatic 234, 3) := by decide +kernel
theorem dL_law_1554 : decode cL_law 1554 = .ok (.istore 5, 2) := by decide +kernel
theorem dL_law_1556 : decode cL_law 1556 = .ok (.aload_n 2, 1) := by decide +kernel
theorem dL_law_1557 : decode cL_law 1557 = .ok (.aload_n 0, 1) := by decide +kernel
theorem dL_law_1558 : decode cL_law 1558 = .ok (.iload 4, 2) := by decide +kernel
theorem dL_law_1560 : decode cL_law 1560 = .ok (.iconst 1, 1) := by decide +kernel
theorem dL_law_1561 : decode cL_law 1561 = .ok (.iadd, 1) := by decide +kernel
theorem dL_law_1562 : decode cL_law 1562 = .ok (.iaload, 1) := by decide +kernel
theorem dL_law_1563 : decode cL_law 1563 = .ok (.aload_n 0, 1) := by decide +kernel
theorem dL_law_1564 : decode cL_law 1564 = .ok (.iload 4, 2) := by decide +kernel
theorem dL_law_1566 : decode cL_law 1566 = .ok (.iconst 2, 1) := by decide +kernel
theorem dL_law_1567 : decode cL_law 1567 = .ok (.iadd, 1) := by decide +kernel
theorem dL_law_1568 : decode cL_law 1568 = .ok (.iaload, 1) := by decide +kernel
theorem dL_law_1569 : decode cL_law 1569 = .ok (.i2c, 1) := by decide +kernel
theorem dL_law_1570 : decode cL_law 1570 = .ok (.invokevirtual 236, 3) := by decide +kernel
theorem dL_law_1573 : decode cL_law 1573 = .ok (.istore 6, 2) := by decide +kernel
theorem dL_law_1575 : decode cL_law 1575 = .ok (.aload_n 2, 1) := by decide +kernel
theorem dL_law_1576 : decode cL_law 1576 = .ok (.invokevirtual 177, 3) := by decide +kernel
theorem dL_law_1579 : decode cL_law 1579 = .ok (.iload 5, 2) := by decide +kernel
theorem dL_law_1581 : decode cL_law 1581 = .ok (.if_icmp .eq 5, 3) := by decide +kernel
theorem dL_law_1584 : decode cL_law 1584 = .ok (.iconst 0, 1) := by decide +kernel
theorem dL_law_1585 : decode cL_law 1585 = .ok (.ireturn, 1) := by decide +kernel
theorem dL_law_1586 : decode cL_law 1586 = .ok (.iload 5, 2) := by decide +kernel
theorem dL_law_1588 : decode cL_law 1588 = .ok (.ifCond .ne 15, 3) := by decide +kernel
theorem dL_law_1591 : decode cL_law 1591 = .ok (.aload_n 3, 1) := by decide +kernel
theorem dL_law_1592 : decode cL_law 1592 = .ok (.iconst 0, 1) := by decide +kernel
theorem dL_law_1593 : decode cL_law 1593 = .ok (.laload, 1) := by decide +kernel
theorem dL_law_1594 : decode cL_law 1594 = .ok (.iload 6, 2) := by decide +kernel
theorem dL_law_1596 : decode cL_law 1596 = .ok (.i2l, 1) := by decide +kernel
theorem dL_law_1597 : decode cL_law 1597 = .ok (.lcmp, 1) := by decide +kernel
theorem dL_law_1598 : decode cL_law 1598 = .ok (.ifCond .eq 5, 3) := by decide +kernel
theorem dL_law_1601 : decode cL_law 1601 = .ok (.iconst 0, 1) := by decide +kernel
theorem dL_law_1602 : decode cL_law 1602 = .ok (.ireturn, 1) := by decide +kernel
theorem dL_law_1603 : decode cL_law 1603 = .ok (.goto 2630, 3) := by decide +kernel
theorem dL_law_1606 : decode cL_law 1606 = .ok (.aload_n 1, 1) := by decide +kernel
theorem dL_law_1607 : decode cL_law 1607 = .ok (.aload_n 0, 1) := by decide +kernel
theorem dL_law_1608 : decode cL_law 1608 = .ok (.iload 4, 2) := by decide +kernel
theorem dL_law_1610 : decode cL_law 1610 = .ok (.iconst 1, 1) := by decide +kernel
theorem dL_law_1611 : decode cL_law 1611 = .ok (.iadd, 1) := by decide +kernel
theorem dL_law_1612 : decode cL_law 1612 = .ok (.iaload, 1) := by decide +kernel
theorem dL_law_1613 : decode cL_law 1613 = .ok (.aload_n 0, 1) := by decide +kernel
theorem dL_law_1614 : decode cL_law 1614 = .ok (.iload 4, 2) := by decide +kernel
theorem dL_law_1616 : decode cL_law 1616 = .ok (.iconst 2, 1) := by decide +kernel
theorem dL_law_1617 : decode cL_law 1617 = .ok (.iadd, 1) := by decide +kernel
theorem dL_law_1618 : decode cL_law 1618 = .ok (.iaload, 1) := by decide +kernel
theorem dL_law_1619 : decode cL_law 1619 = .ok (.aload_n 0, 1) := by decide +kernel
theorem dL_law_1620 : decode cL_law 1620 = .ok (.iload 4, 2) := by decide +kernel
theorem dL_law_1622 : decode cL_law 1622 = .ok (.iconst 3, 1) := by decide +kernel
theorem dL_law_1623 : decode cL_law 1623 = .ok (.iadd, 1) := by decide +kernel
theorem dL_law_1624 : decode cL_law 1624 = .ok (.iaload, 1) := by decide +kernel
theorem dL_law_1625 : decode cL_law 1625 = .ok (.ifCond .eq 7, 3) := by decide +kernel
theorem dL_law_1628 : decode cL_law 1628 = .ok (.iconst 1, 1) := by decide +kernel
theorem dL_law_1629 : decode cL_law 1629 = .ok (.goto 4, 3) := by decide +kernel
theorem dL_law_1632 : decode cL_law 1632 = .ok (.iconst 0, 1) := by decide +kernel
theorem dL_law_1633 : decode cL_law 1633 = .ok (.aload_n 0, 1) := by decide +kernel
theorem dL_law_1634 : decode cL_law 1634 = .ok (.iload 4, 2) := by decide +kernel
theorem dL_law_1636 : decode cL_law 1636 = .ok (.iconst 4, 1) := by decide +kernel
theorem dL_law_1637 : decode cL_law 1637 = .ok (.iadd, 1) := by decide +kernel
theorem dL_law_1638 : decode cL_law 1638 = .ok (.iaload, 1) := by decide +kernel
theorem dL_law_1639 : decode cL_law 1639 = .ok (.aload_n 3, 1) := by decide +kernel
theorem dL_law_1640 : decode cL_law 1640 = .ok (.invokestatic 237, 3) := by decide +kernel
theorem dL_law_1643 : decode cL_law 1643 = .ok (.istore 5, 2) := by decide +kernel
theorem dL_law_1645 : decode cL_law 1645 = .ok (.aload_n 2, 1) := by decide +kernel
theorem dL_law_1646 : decode cL_law 1646 = .ok (.aload_n 0, 1) := by decide +kernel
theorem dL_law_1647 : decode cL_law 1647 = .ok (.iload 4, 2) := by decide +kernel
theorem dL_law_1649 : decode cL_law 1649 = .ok (.iconst 1, 1) := by decide +kernel
theorem dL_law_1650 : decode cL_law 1650 = .ok (.iadd, 1) := by decide +kernel
theorem dL_law_1651 : decode cL_law 1651 = .ok (.iaload, 1) := by decide +kernel
theorem dL_law_1652 : decode cL_law 1652 = .ok (.aload_n 0, 1) := by decide +kernel
theorem dL_law_1653 : decode cL_law 1653 = .ok (.iload 4, 2) := by decide +kernel
theorem dL_law_1655 : decode cL_law 1655 = .ok (.iconst 2, 1) := by decide +kernel
theorem dL_law_1656 : decode cL_law 1656 = .ok (.iadd, 1) := by decide +kernel
theorem dL_law_1657 : decode cL_law 1657 = .ok (.iaload, 1) := by decide +kernel
theorem dL_law_1658 : decode cL_law 1658 = .ok (.aload_n 0, 1) := by decide +kernel
theorem dL_law_1659 : decode cL_law 1659 = .ok (.iload 4, 2) := by decide +kernel
theorem dL_law_1661 : decode cL_law 1661 = .ok (.iconst 3, 1) := by decide +kernel
theorem dL_law_1662 : decode cL_law 1662 = .ok (.iadd, 1) := by decide +kernel
theorem dL_law_1663 : decode cL_law 1663 = .ok (.iaload, 1) := by decide +kernel
theorem dL_law_1664 : decode cL_law 1664 = .ok (.ifCond .eq 7, 3) := by decide +kernel
theorem dL_law_1667 : decode cL_law 1667 = .ok (.iconst 1, 1) := by decide +kernel
theorem dL_law_1668 : decode cL_law 1668 = .ok (.goto 4, 3) := by decide +kernel
theorem dL_law_1671 : decode cL_law 1671 = .ok (.iconst 0, 1) := by decide +kernel
theorem dL_law_1672 : decode cL_law 1672 = .ok (.aload_n 0, 1) := by decide +kernel
theorem dL_law_1673 : decode cL_law 1673 = .ok (.iload 4, 2) := by decide +kernel
theorem dL_law_1675 : decode cL_law 1675 = .ok (.iconst 4, 1) := by decide +kernel
theorem dL_law_1676 : decode cL_law 1676 = .ok (.iadd, 1) := by decide +kernel
theorem dL_law_1677 : decode cL_law 1677 = .ok (.iaload, 1) := by decide +kernel
theorem dL_law_1678 : decode cL_law 1678 = .ok (.invokevirtual 239, 3) := by decide +kernel
theorem dL_law_1681 : decode cL_law 1681 = .ok (.lstore 6, 2) := by decide +kernel
theorem dL_law_1683 : decode cL_law 1683 = .ok (.aload_n 2, 1) := by decide +kernel
theorem dL_law_1684 : decode cL_law 1684 = .ok (.invokevirtual 177, 3) := by decide +kernel
theorem dL_law_1687 : decode cL_law 1687 = .ok (.iload 5, 2) := by decide +kernel
theorem dL_law_1689 : decode cL_law 1689 = .ok (.if_icmp .eq 5, 3) := by decide +kernel
theorem dL_law_1692 : decode cL_law 1692 = .ok (.iconst 0, 1) := by decide +kernel
theorem dL_law_1693 : decode cL_law 1693 = .ok (.ireturn, 1) := by decide +kernel
theorem dL_law_1694 : decode cL_law 1694 = .ok (.iload 5, 2) := by decide +kernel
theorem dL_law_1696 : decode cL_law 1696 = .ok (.ifCond .ne 14, 3) := by decide +kernel
theorem dL_law_1699 : decode cL_law 1699 = .ok (.aload_n 3, 1) := by decide +kernel
theorem dL_law_1700 : decode cL_law 1700 = .ok (.iconst 0, 1) := by decide +kernel
theorem dL_law_1701 : decode cL_law 1701 = .ok (.laload, 1) := by decide +kernel
theorem dL_law_1702 : decode cL_law 1702 = .ok (.lload 6, 2) := by decide +kernel
theorem dL_law_1704 : decode cL_law 1704 = .ok (.lcmp, 1) := by decide +kernel
theorem dL_law_1705 : decode cL_law 1705 = .ok (.ifCond .eq 5, 3) := by decide +kernel
theorem dL_law_1708 : decode cL_law 1708 = .ok (.iconst 0, 1) := by decide +kernel
theorem dL_law_1709 : decode cL_law 1709 = .ok (.ireturn, 1) := by decide +kernel
theorem dL_law_1710 : decode cL_law 1710 = .ok (.goto 2523, 3) := by decide +kernel
theorem dL_law_1713 : decode cL_law 1713 = .ok (.aload_n 1, 1) := by decide +kernel
theorem dL_law_1714 : decode cL_law 1714 = .ok (.aload_n 0, 1) := by decide +kernel
theorem dL_law_1715 : decode cL_law 1715 = .ok (.iload 4, 2) := by decide +kernel
theorem dL_law_1717 : decode cL_law 1717 = .ok (.iconst 1, 1) := by decide +kernel
theorem dL_law_1718 : decode cL_law 1718 = .ok (.iadd, 1) := by decide +kernel
theorem dL_law_1719 : decode cL_law 1719 = .ok (.iaload, 1) := by decide +kernel
theorem dL_law_1720 : decode cL_law 1720 = .ok (.aload_n 0, 1) := by decide +kernel
theorem dL_law_1721 : decode cL_law 1721 = .ok (.iload 4, 2) := by decide +kernel
theorem dL_law_1723 : decode cL_law 1723 = .ok (.iconst 2, 1) := by decide +kernel
theorem dL_law_1724 : decode cL_law 1724 = .ok (.iadd, 1) := by decide +kernel
theorem dL_law_1725 : decode cL_law 1725 = .ok (.iaload, 1) := by decide +kernel
theorem dL_law_1726 : decode cL_law 1726 = .ok (.aload_n 0, 1) := by decide +kernel
theorem dL_law_1727 : decode cL_law 1727 = .ok (.iload 4, 2) := by decide +kernel
theorem dL_law_1729 : decode cL_law 1729 = .ok (.iconst 3, 1) := by decide +kernel
theorem dL_law_1730 : decode cL_law 1730 = .ok (.iadd, 1) := by decide +kernel
theorem dL_law_1731 : decode cL_law 1731 = .ok (.iaload, 1) := by decide +kernel
theorem dL_law_1732 : decode cL_law 1732 = .ok (.aload_n 3, 1) := by decide +kernel
theorem dL_law_1733 : decode cL_law 1733 = .ok (.invokestatic 240, 3) := by decide +kernel
theorem dL_law_1736 : decode cL_law 1736 = .ok (.istore 5, 2) := by decide +kernel
theorem dL_law_1738 : decode cL_law 1738 = .ok (.aload_n 2, 1) := by decide +kernel
theorem dL_law_1739 : decode cL_law 1739 = .ok (.aload_n 0, 1) := by decide +kernel
theorem dL_law_1740 : decode cL_law 1740 = .ok (.iload 4, 2) := by decide +kernel
theorem dL_law_1742 : decode cL_law 1742 = .ok (.iconst 1, 1) := by decide +kernel
theorem dL_law_1743 : decode cL_law 1743 = .ok (.iadd, 1) := by decide +kernel
theorem dL_law_1744 : decode cL_law 1744 = .ok (.iaload, 1) := by decide +kernel
theorem dL_law_1745 : decode cL_law 1745 = .ok (.aload_n 0, 1) := by decide +kernel
theorem dL_law_1746 : decode cL_law 1746 = .ok (.iload 4, 2) := by decide +kernel
theorem dL_law_1748 : decode cL_law 1748 = .ok (.iconst 2, 1) := by decide +kernel
theorem dL_law_1749 : decode cL_law 1749 = .ok (.iadd, 1) := by decide +kernel
theorem dL_law_1750 : decode cL_law 1750 = .ok (.iaload, 1) := by decide +kernel
theorem dL_law_1751 : decode cL_law 1751 = .ok (.aload_n 0, 1) := by decide +kernel
theorem dL_law_1752 : decode cL_law 1752 = .ok (.iload 4, 2) := by decide +kernel
theorem dL_law_1754 : decode cL_law 1754 = .ok (.iconst 3, 1) := by decide +kernel
theorem dL_law_1755 : decode cL_law 1755 = .ok (.iadd, 1) := by decide +kernel
theorem dL_law_1756 : decode cL_law 1756 = .ok (.iaload, 1) := by decide +kernel
theorem dL_law_1757 : decode cL_law 1757 = .ok (.invokevirtual 242, 3) := by decide +kernel
theorem dL_law_1760 : decode cL_law 1760 = .ok (.lstore 6, 2) := by decide +kernel
theorem dL_law_1762 : decode cL_law 1762 = .ok (.aload_n 2, 1) := by decide +kernel
theorem dL_law_1763 : decode cL_law 1763 = .ok (.invokevirtual 177, 3) := by decide +kernel
theorem dL_law_1766 : decode cL_law 1766 = .ok (.iload 5, 2) := by decide +kernel
theorem dL_law_1768 : decode cL_law 1768 = .ok (.if_icmp .eq 5, 3) := by decide +kernel
theorem dL_law_1771 : decode cL_law 1771 = .ok (.iconst 0, 1) := by decide +kernel
theorem dL_law_1772 : decode cL_law 1772 = .ok (.ireturn, 1) := by decide +kernel
theorem dL_law_1773 : decode cL_law 1773 = .ok (.iload 5, 2) := by decide +kernel
theorem dL_law_1775 : decode cL_law 1775 = .ok (.ifCond .ne 14, 3) := by decide +kernel
theorem dL_law_1778 : decode cL_law 1778 = .ok (.aload_n 3, 1) := by decide +kernel
theorem dL_law_1779 : decode cL_law 1779 = .ok (.iconst 0, 1) := by decide +kernel
theorem dL_law_1780 : decode cL_law 1780 = .ok (.laload, 1) := by decide +kernel
theorem dL_law_1781 : decode cL_law 1781 = .ok (.lload 6, 2) := by decide +kernel
theorem dL_law_1783 : decode cL_law 1783 = .ok (.lcmp, 1) := by decide +kernel
theorem dL_law_1784 : decode cL_law 1784 = .ok (.ifCond .eq 5, 3) := by decide +kernel
theorem dL_law_1787 : decode cL_law 1787 = .ok (.iconst 0, 1) := by decide +kernel
theorem dL_law_1788 : decode cL_law 1788 = .ok (.ireturn, 1) := by decide +kernel
theorem dL_law_1789 : decode cL_law 1789 = .ok (.goto 2444, 3) := by decide +kernel
theorem dL_law_1792 : decode cL_law 1792 = .ok (.aload_n 1, 1) := by decide +kernel
theorem dL_law_1793 : decode cL_law 1793 = .ok (.aload_n 0, 1) := by decide +kernel
theorem dL_law_1794 : decode cL_law 1794 = .ok (.iload 4, 2) := by decide +kernel
theorem dL_law_1796 : decode cL_law 1796 = .ok (.iconst 1, 1) := by decide +kernel
theorem dL_law_1797 : decode cL_law 1797 = .ok (.iadd, 1) := by decide +kernel
theorem dL_law_1798 : decode cL_law 1798 = .ok (.iaload, 1) := by decide +kernel
theorem dL_law_1799 : decode cL_law 1799 = .ok (.aload_n 0, 1) := by decide +kernel
theorem dL_law_1800 : decode cL_law 1800 = .ok (.iload 4, 2) := by decide +kernel
theorem dL_law_1802 : decode cL_law 1802 = .ok (.iconst 2, 1) := by decide +kernel
theorem dL_law_1803 : decode cL_law 1803 = .ok (.iadd, 1) := by decide +kernel
theorem dL_law_1804 : decode cL_law 1804 = .ok (.iaload, 1) := by decide +kernel
theorem dL_law_1805 : decode cL_law 1805 = .ok (.aload_n 3, 1) := by decide +kernel
theorem dL_law_1806 : decode cL_law 1806 = .ok (.invokestatic 243, 3) := by decide +kernel
theorem dL_law_1809 : decode cL_law 1809 = .ok (.istore 5, 2) := by decide +kernel
theorem dL_law_1811 : decode cL_law 1811 = .ok (.aload_n 2, 1) := by decide +kernel
theorem dL_law_1812 : decode cL_law 1812 = .ok (.aload_n 0, 1) := by decide +kernel
theorem dL_law_1813 : decode cL_law 1813 = .ok (.iload 4, 2) := by decide +kernel
theorem dL_law_1815 : decode cL_law 1815 = .ok (.iconst 1, 1) := by decide +kernel
theorem dL_law_1816 : decode cL_law 1816 = .ok (.iadd, 1) := by decide +kernel
theorem dL_law_1817 : decode cL_law 1817 = .ok (.iaload, 1) := by decide +kernel
theorem dL_law_1818 : decode cL_law 1818 = .ok (.aload_n 0, 1) := by decide +kernel
theorem dL_law_1819 : decode cL_law 1819 = .ok (.iload 4, 2) := by decide +kernel
theorem dL_law_1821 : decode cL_law 1821 = .ok (.iconst 2, 1) := by decide +kernel
theorem dL_law_1822 : decode cL_law 1822 = .ok (.iadd, 1) := by decide +kernel
theorem dL_law_1823 : decode cL_law 1823 = .ok (.iaload, 1) := by decide +kernel
theorem dL_law_1824 : decode cL_law 1824 = .ok (.invokevirtual 245, 3) := by decide +kernel
theorem dL_law_1827 : decode cL_law 1827 = .ok (.lstore 6, 2) := by decide +kernel
theorem dL_law_1829 : decode cL_law 1829 = .ok (.aload_n 2, 1) := by decide +kernel
theorem dL_law_1830 : decode cL_law 1830 = .ok (.invokevirtual 177, 3) := by decide +kernel
theorem dL_law_1833 : decode cL_law 1833 = .ok (.iload 5, 2) := by decide +kernel
theorem dL_law_1835 : decode cL_law 1835 = .ok (.if_icmp .eq 5, 3) := by decide +kernel
theorem dL_law_1838 : decode cL_law 1838 = .ok (.iconst 0, 1) := by decide +kernel
theorem dL_law_1839 : decode cL_law 1839 = .ok (.ireturn, 1) := by decide +kernel
theorem dL_law_1840 : decode cL_law 1840 = .ok (.iload 5, 2) := by decide +kernel
theorem dL_law_1842 : decode cL_law 1842 = .ok (.ifCond .ne 14, 3) := by decide +kernel
theorem dL_law_1845 : decode cL_law 1845 = .ok (.aload_n 3, 1) := by decide +kernel
theorem dL_law_1846 : decode cL_law 1846 = .ok (.iconst 0, 1) := by decide +kernel
theorem dL_law_1847 : decode cL_law 1847 = .ok (.laload, 1) := by decide +kernel
theorem dL_law_1848 : decode cL_law 1848 = .ok (.lload 6, 2) := by decide +kernel
theorem dL_law_1850 : decode cL_law 1850 = .ok (.lcmp, 1) := by decide +kernel
theorem dL_law_1851 : decode cL_law 1851 = .ok (.ifCond .eq 5, 3) := by decide +kernel
theorem dL_law_1854 : decode cL_law 1854 = .ok (.iconst 0, 1) := by decide +kernel
theorem dL_law_1855 : decode cL_law 1855 = .ok (.ireturn, 1) := by decide +kernel
theorem dL_law_1856 : decode cL_law 1856 = .ok (.goto 2377, 3) := by decide +kernel
theorem dL_law_1859 : decode cL_law 1859 = .ok (.aload_n 1, 1) := by decide +kernel
theorem dL_law_1860 : decode cL_law 1860 = .ok (.aload_n 0, 1) := by decide +kernel
theorem dL_law_1861 : decode cL_law 1861 = .ok (.iload 4, 2) := by decide +kernel
theorem dL_law_1863 : decode cL_law 1863 = .ok (.iconst 1, 1) := by decide +kernel
theorem dL_law_1864 : decode cL_law 1864 = .ok (.iadd, 1) := by decide +kernel
theorem dL_law_1865 : decode cL_law 1865 = .ok (.iaload, 1) := by decide +kernel
theorem dL_law_1866 : decode cL_law 1866 = .ok (.aload_n 0, 1) := by decide +kernel
theorem dL_law_1867 : decode cL_law 1867 = .ok (.iload 4, 2) := by decide +kernel
theorem dL_law_1869 : decode cL_law 1869 = .ok (.iconst 2, 1) := by decide +kernel
theorem dL_law_1870 : decode cL_law 1870 = .ok (.iadd, 1) := by decide +kernel
theorem dL_law_1871 : decode cL_law 1871 = .ok (.iaload, 1) := by decide +kernel
theorem dL_law_1872 : decode cL_law 1872 = .ok (.aload_n 0, 1) := by decide +kernel
theorem dL_law_1873 : decode cL_law 1873 = .ok (.iload 4, 2) := by decide +kernel
theorem dL_law_1875 : decode cL_law 1875 = .ok (.iconst 3, 1) := by decide +kernel
theorem dL_law_1876 : decode cL_law 1876 = .ok (.iadd, 1) := by decide +kernel
theorem dL_law_1877 : decode cL_law 1877 = .ok (.iaload, 1) := by decide +kernel
theorem dL_law_1878 : decode cL_law 1878 = .ok (.aload_n 3, 1) := by decide +kernel
theorem dL_law_1879 : decode cL_law 1879 = .ok (.invokestatic 246, 3) := by decide +kernel
theorem dL_law_1882 : decode cL_law 1882 = .ok (.istore 5, 2) := by decide +kernel
theorem dL_law_1884 : decode cL_law 1884 = .ok (.aload_n 2, 1) := by decide +kernel
theorem dL_law_1885 : decode cL_law 1885 = .ok (.aload_n 0, 1) := by decide +kernel
theorem dL_law_1886 : decode cL_law 1886 = .ok (.iload 4, 2) := by decide +kernel
theorem dL_law_1888 : decode cL_law 1888 = .ok (.iconst 1, 1) := by decide +kernel
theorem dL_law_1889 : decode cL_law 1889 = .ok (.iadd, 1) := by decide +kernel
theorem dL_law_1890 : decode cL_law 1890 = .ok (.iaload, 1) := by decide +kernel
theorem dL_law_1891 : decode cL_law 1891 = .ok (.aload_n 0, 1) := by decide +kernel
theorem dL_law_1892 : decode cL_law 1892 = .ok (.iload 4, 2) := by decide +kernel
theorem dL_law_1894 : decode cL_law 1894 = .ok (.iconst 2, 1) := by decide +kernel
theorem dL_law_1895 : decode cL_law 1895 = .ok (.iadd, 1) := by decide +kernel
theorem dL_law_1896 : decode cL_law 1896 = .ok (.iaload, 1) := by decide +kernel
theorem dL_law_1897 : decode cL_law 1897 = .ok (.aload_n 0, 1) := by decide +kernel
theorem dL_law_1898 : decode cL_law 1898 = .ok (.iload 4, 2) := by decide +kernel
theorem dL_law_1900 : decode cL_law 1900 = .ok (.iconst 3, 1) := by decide +kernel
theorem dL_law_1901 : decode cL_law 1901 = .ok (.iadd, 1) := by decide +kernel
theorem dL_law_1902 : decode cL_law 1902 = .ok (.iaload, 1) := by decide +kernel
theorem dL_law_1903 : decode cL_law 1903 = .ok (.invokevirtual 248, 3) := by decide +kernel
theorem dL_law_1906 : decode cL_law 1906 = .ok (.istore 6, 2) := by decide +kernel
theorem dL_law_1908 : decode cL_law 1908 = .ok (.aload_n 2, 1) := by decide +kernel
theorem dL_law_1909 : decode cL_law 1909 = .ok (.invokevirtual 177, 3) := by decide +kernel
theorem dL_law_1912 : decode cL_law 1912 = .ok (.iload 5, 2) := by decide +kernel
theorem dL_law_1914 : decode cL_law 1914 = .ok (.if_icmp .eq 5, 3) := by decide +kernel
theorem dL_law_1917 : decode cL_law 1917 = .ok (.iconst 0, 1) := by decide +kernel
theorem dL_law_1918 : decode cL_law 1918 = .ok (.ireturn, 1) := by decide +kernel
theorem dL_law_1919 : decode cL_law 1919 = .ok (.iload 5, 2) := by decide +kernel
theorem dL_law_1921 : decode cL_law 1921 = .ok (.ifCond .ne 15, 3) := by decide +kernel
theorem dL_law_1924 : decode cL_law 1924 = .ok (.aload_n 3, 1) := by decide +kernel
theorem dL_law_1925 : decode cL_law 1925 = .ok (.iconst 0, 1) := by decide +kernel
theorem dL_law_1926 : decode cL_law 1926 = .ok (.laload, 1) := by decide +kernel
theorem dL_law_1927 : decode cL_law 1927 = .ok (.iload 6, 2) := by decide +kernel
theorem dL_law_1929 : decode cL_law 1929 = .ok (.i2l, 1) := by decide +kernel
theorem dL_law_1930 : decode cL_law 1930 = .ok (.lcmp, 1) := by decide +kernel
theorem dL_law_1931 : decode cL_law 1931 = .ok (.ifCond .eq 5, 3) := by decide +kernel
theorem dL_law_1934 : decode cL_law 1934 = .ok (.iconst 0, 1) := by decide +kernel
theorem dL_law_1935 : decode cL_law 1935 = .ok (.ireturn, 1) := by decide +kernel
theorem dL_law_1936 : decode cL_law 1936 = .ok (.goto 2297, 3) := by decide +kernel
theorem dL_law_1939 : decode cL_law 1939 = .ok (.aload_n 1, 1) := by decide +kernel
theorem dL_law_1940 : decode cL_law 1940 = .ok (.aload_n 0, 1) := by decide +kernel
theorem dL_law_1941 : decode cL_law 1941 = .ok (.iload 4, 2) := by decide +kernel
theorem dL_law_1943 : decode cL_law 1943 = .ok (.iconst 1, 1) := by decide +kernel
theorem dL_law_1944 : decode cL_law 1944 = .ok (.iadd, 1) := by decide +kernel
theorem dL_law_1945 : decode cL_law 1945 = .ok (.iaload, 1) := by decide +kernel
theorem dL_law_1946 : decode cL_law 1946 = .ok (.aload_n 0, 1) := by decide +kernel
theorem dL_law_1947 : decode cL_law 1947 = .ok (.iload 4, 2) := by decide +kernel
theorem dL_law_1949 : decode cL_law 1949 = .ok (.iconst 2, 1) := by decide +kernel
theorem dL_law_1950 : decode cL_law 1950 = .ok (.iadd, 1) := by decide +kernel
theorem dL_law_1951 : decode cL_law 1951 = .ok (.iaload, 1) := by decide +kernel
theorem dL_law_1952 : decode cL_law 1952 = .ok (.i2c, 1) := by decide +kernel
theorem dL_law_1953 : decode cL_law 1953 = .ok (.aload_n 0, 1) := by decide +kernel
theorem dL_law_1954 : decode cL_law 1954 = .ok (.iload 4, 2) := by decide +kernel
theorem dL_law_1956 : decode cL_law 1956 = .ok (.iconst 3, 1) := by decide +kernel
theorem dL_law_1957 : decode cL_law 1957 = .ok (.iadd, 1) := by decide +kernel
theorem dL_law_1958 : decode cL_law 1958 = .ok (.iaload, 1) := by decide +kernel
theorem dL_law_1959 : decode cL_law 1959 = .ok (.aload_n 0, 1) := by decide +kernel
theorem dL_law_1960 : decode cL_law 1960 = .ok (.iload 4, 2) := by decide +kernel
theorem dL_law_1962 : decode cL_law 1962 = .ok (.iconst 4, 1) := by decide +kernel
theorem dL_law_1963 : decode cL_law 1963 = .ok (.iadd, 1) := by decide +kernel
theorem dL_law_1964 : decode cL_law 1964 = .ok (.iaload, 1) := by decide +kernel
theorem dL_law_1965 : decode cL_law 1965 = .ok (.aload_n 3, 1) := by decide +kernel
theorem dL_law_1966 : decode cL_law 1966 = .ok (.invokestatic 249, 3) := by decide +kernel
theorem dL_law_1969 : decode cL_law 1969 = .ok (.istore 5, 2) := by decide +kernel
theorem dL_law_1971 : decode cL_law 1971 = .ok (.aload_n 2, 1) := by decide +kernel
theorem dL_law_1972 : decode cL_law 1972 = .ok (.aload_n 0, 1) := by decide +kernel
theorem dL_law_1973 : decode cL_law 1973 = .ok (.iload 4, 2) := by decide +kernel
theorem dL_law_1975 : decode cL_law 1975 = .ok (.iconst 1, 1) := by decide +kernel
theorem dL_law_1976 : decode cL_law 1976 = .ok (.iadd, 1) := by decide +kernel
theorem dL_law_1977 : decode cL_law 1977 = .ok (.iaload, 1) := by decide +kernel
theorem dL_law_1978 : decode cL_law 1978 = .ok (.aload_n 0, 1) := by decide +kernel
theorem dL_law_1979 : decode cL_law 1979 = .ok (.iload 4, 2) := by decide +kernel
theorem dL_law_1981 : decode cL_law 1981 = .ok (.iconst 2, 1) := by decide +kernel
theorem dL_law_1982 : decode cL_law 1982 = .ok (.iadd, 1) := by decide +kernel
theorem dL_law_1983 : decode cL_law 1983 = .ok (.iaload, 1) := by decide +kernel
theorem dL_law_1984 : decode cL_law 1984 = .ok (.i2c, 1) := by decide +kernel
theorem dL_law_1985 : decode cL_law 1985 = .ok (.aload_n 0, 1) := by decide +kernel
theorem dL_law_1986 : decode cL_law 1986 = .ok (.iload 4, 2) := by decide +kernel
theorem dL_law_1988 : decode cL_law 1988 = .ok (.iconst 3, 1) := by decide +kernel
theorem dL_law_1989 : decode cL_law 1989 = .ok (.iadd, 1) := by decide +kernel
theorem dL_law_1990 : decode cL_law 1990 = .ok (.iaload, 1) := by decide +kernel
theorem dL_law_1991 : decode cL_law 1991 = .ok (.aload_n 0, 1) := by decide +kernel
theorem dL_law_1992 : decode cL_law 1992 = .ok (.iload 4, 2) := by decide +kernel
theorem dL_law_1994 : decode cL_law 1994 = .ok (.iconst 4, 1) := by decide +kernel
theorem dL_law_1995 : decode cL_law 1995 = .ok (.iadd, 1) := by decide +kernel
theorem dL_law_1996 : decode cL_law 1996 = .ok (.iaload, 1) := by decide +kernel
theorem dL_law_1997 : decode cL_law 1997 = .ok (.invokevirtual 251, 3) := by decide +kernel
theorem dL_law_2000 : decode cL_law 2000 = .ok (.istore 6, 2) := by decide +kernel
theorem dL_law_2002 : decode cL_law 2002 = .ok (.aload_n 2, 1) := by decide +kernel
theorem dL_law_2003 : decode cL_law 2003 = .ok (.invokevirtual 177, 3) := by decide +kernel
theorem dL_law_2006 : decode cL_law 2006 = .ok (.iload 5, 2) := by decide +kernel
theorem dL_law_2008 : decode cL_law 2008 = .ok (.if_icmp .eq 5, 3) := by decide +kernel
theorem dL_law_2011 : decode cL_law 2011 = .ok (.iconst 0, 1) := by decide +kernel
theorem dL_law_2012 : decode cL_law 2012 = .ok (.ireturn, 1) := by decide +kernel
theorem dL_law_2013 : decode cL_law 2013 = .ok (.iload 5, 2) := by decide +kernel
theorem dL_law_2015 : decode cL_law 2015 = .ok (.ifCond .ne 15, 3) := by decide +kernel
theorem dL_law_2018 : decode cL_law 2018 = .ok (.aload_n 3, 1) := by decide +kernel
theorem dL_law_2019 : decode cL_law 2019 = .ok (.iconst 0, 1) := by decide +kernel
theorem dL_law_2020 : decode cL_law 2020 = .ok (.laload, 1) := by decide +kernel
theorem dL_law_2021 : decode cL_law 2021 = .ok (.iload 6, 2) := by decide +kernel
theorem dL_law_2023 : decode cL_law 2023 = .ok (.i2l, 1) := by decide +kernel
theorem dL_law_2024 : decode cL_law 2024 = .ok (.lcmp, 1) := by decide +kernel
theorem dL_law_2025 : decode cL_law 2025 = .ok (.ifCond .eq 5, 3) := by decide +kernel
theorem dL_law_2028 : decode cL_law 2028 = .ok (.iconst 0, 1) := by decide +kernel
theorem dL_law_2029 : decode cL_law 2029 = .ok (.ireturn, 1) := by decide +kernel
theorem dL_law_2030 : decode cL_law 2030 = .ok (.goto 2203, 3) := by decide +kernel
theorem dL_law_2033 : decode cL_law 2033 = .ok (.aload_n 1, 1) := by decide +kernel
theorem dL_law_2034 : decode cL_law 2034 = .ok (.aload_n 0, 1) := by decide +kernel
theorem dL_law_2035 : decode cL_law 2035 = .ok (.iload 4, 2) := by decide +kernel
theorem dL_law_2037 : decode cL_law 2037 = .ok (.iconst 1, 1) := by decide +kernel
theorem dL_law_2038 : decode cL_law 2038 = .ok (.iadd, 1) := by decide +kernel
theorem dL_law_2039 : decode cL_law 2039 = .ok (.iaload, 1) := by decide +kernel
theorem dL_law_2040 : decode cL_law 2040 = .ok (.aload_n 0, 1) := by decide +kernel
theorem dL_law_2041 : decode cL_law 2041 = .ok (.iload 4, 2) := by decide +kernel
theorem dL_law_2043 : decode cL_law 2043 = .ok (.iconst 2, 1) := by decide +kernel
theorem dL_law_2044 : decode cL_law 2044 = .ok (.iadd, 1) := by decide +kernel
theorem dL_law_2045 : decode cL_law 2045 = .ok (.iaload, 1) := by decide +kernel
theorem dL_law_2046 : decode cL_law 2046 = .ok (.i2c, 1) := by decide +kernel
theorem dL_law_2047 : decode cL_law 2047 = .ok (.aload_n 3, 1) := by decide +kernel
theorem dL_law_2048 : decode cL_law 2048 = .ok (.invokestatic 252, 3) := by decide +kernel
theorem dL_law_2051 : decode cL_law 2051 = .ok (.istore 5, 2) := by decide +kernel
theorem dL_law_2053 : decode cL_law 2053 = .ok (.aload_n 2, 1) := by decide +kernel
theorem dL_law_2054 : decode cL_law 2054 = .ok (.aload_n 0, 1) := by decide +kernel
theorem dL_law_2055 : decode cL_law 2055 = .ok (.iload 4, 2) := by decide +kernel
theorem dL_law_2057 : decode cL_law 2057 = .ok (.iconst 1, 1) := by decide +kernel
theorem dL_law_2058 : decode cL_law 2058 = .ok (.iadd, 1) := by decide +kernel
theorem dL_law_2059 : decode cL_law 2059 = .ok (.iaload, 1) := by decide +kernel
theorem dL_law_2060 : decode cL_law 2060 = .ok (.aload_n 0, 1) := by decide +kernel
theorem dL_law_2061 : decode cL_law 2061 = .ok (.iload 4, 2) := by decide +kernel
theorem dL_law_2063 : decode cL_law 2063 = .ok (.iconst 2, 1) := by decide +kernel
theorem dL_law_2064 : decode cL_law 2064 = .ok (.iadd, 1) := by decide +kernel
theorem dL_law_2065 : decode cL_law 2065 = .ok (.iaload, 1) := by decide +kernel
theorem dL_law_2066 : decode cL_law 2066 = .ok (.i2c, 1) := by decide +kernel
theorem dL_law_2067 : decode cL_law 2067 = .ok (.invokevirtual 254, 3) := by decide +kernel
theorem dL_law_2070 : decode cL_law 2070 = .ok (.istore 6, 2) := by decide +kernel
theorem dL_law_2072 : decode cL_law 2072 = .ok (.aload_n 2, 1) := by decide +kernel
theorem dL_law_2073 : decode cL_law 2073 = .ok (.invokevirtual 177, 3) := by decide +kernel
theorem dL_law_2076 : decode cL_law 2076 = .ok (.iload 5, 2) := by decide +kernel
theorem dL_law_2078 : decode cL_law 2078 = .ok (.if_icmp .eq 5, 3) := by decide +kernel
theorem dL_law_2081 : decode cL_law 2081 = .ok (.iconst 0, 1) := by decide +kernel
theorem dL_law_2082 : decode cL_law 2082 = .ok (.ireturn, 1) := by decide +kernel
theorem dL_law_2083 : decode cL_law 2083 = .ok (.iload 5, 2) := by decide +kernel
theorem dL_law_2085 : decode cL_law 2085 = .ok (.ifCond .ne 15, 3) := by decide +kernel
theorem dL_law_2088 : decode cL_law 2088 = .ok (.aload_n 3, 1) := by decide +kernel
theorem dL_law_2089 : decode cL_law 2089 = .ok (.iconst 0, 1) := by decide +kernel
theorem dL_law_2090 : decode cL_law 2090 = .ok (.laload, 1) := by decide +kernel
theorem dL_law_2091 : decode cL_law 2091 = .ok (.iload 6, 2) := by decide +kernel
theorem dL_law_2093 : decode cL_law 2093 = .ok (.i2l, 1) := by decide +kernel
theorem dL_law_2094 : decode cL_law 2094 = .ok (.lcmp, 1) := by decide +kernel
theorem dL_law_2095 : decode cL_law 2095 = .ok (.ifCond .eq 5, 3) := by decide +kernel
theorem dL_law_2098 : decode cL_law 2098 = .ok (.iconst 0, 1) := by decide +kernel
theorem dL_law_2099 : decode cL_law 2099 = .ok (.ireturn, 1) := by decide +kernel
theorem dL_law_2100 : decode cL_law 2100 = .ok (.goto 2133, 3) := by decide +kernel
theorem dL_law_2103 : decode cL_law 2103 = .ok (.aload_n 1, 1) := by decide +kernel
theorem dL_law_2104 : decode cL_law 2104 = .ok (.aload_n 0, 1) := by decide +kernel
theorem dL_law_2105 : decode cL_law 2105 = .ok (.iload 4, 2) := by decide +kernel
theorem dL_law_2107 : decode cL_law 2107 = .ok (.iconst 1, 1) := by decide +kernel
theorem dL_law_2108 : decode cL_law 2108 = .ok (.iadd, 1) := by decide +kernel
theorem dL_law_2109 : decode cL_law 2109 = .ok (.iaload, 1) := by decide +kernel
theorem dL_law_2110 : decode cL_law 2110 = .ok (.aload_n 0, 1) := by decide +kernel
theorem dL_law_2111 : decode cL_law 2111 = .ok (.iload 4, 2) := by decide +kernel
theorem dL_law_2113 : decode cL_law 2113 = .ok (.iconst 2, 1) := by decide +kernel
theorem dL_law_2114 : decode cL_law 2114 = .ok (.iadd, 1) := by decide +kernel
theorem dL_law_2115 : decode cL_law 2115 = .ok (.iaload, 1) := by decide +kernel
theorem dL_law_2116 : decode cL_law 2116 = .ok (.aload_n 0, 1) := by decide +kernel
theorem dL_law_2117 : decode cL_law 2117 = .ok (.iload 4, 2) := by decide +kernel
theorem dL_law_2119 : decode cL_law 2119 = .ok (.iconst 3, 1) := by decide +kernel
theorem dL_law_2120 : decode cL_law 2120 = .ok (.iadd, 1) := by decide +kernel
theorem dL_law_2121 : decode cL_law 2121 = .ok (.iaload, 1) := by decide +kernel
theorem dL_law_2122 : decode cL_law 2122 = .ok (.aload_n 3, 1) := by decide +kernel
theorem dL_law_2123 : decode cL_law 2123 = .ok (.invokestatic 255, 3) := by decide +kernel
theorem dL_law_2126 : decode cL_law 2126 = .ok (.istore 5, 2) := by decide +kernel
theorem dL_law_2128 : decode cL_law 2128 = .ok (.aload_n 2, 1) := by decide +kernel
theorem dL_law_2129 : decode cL_law 2129 = .ok (.aload_n 0, 1) := by decide +kernel
theorem dL_law_2130 : decode cL_law 2130 = .ok (.iload 4, 2) := by decide +kernel
theorem dL_law_2132 : decode cL_law 2132 = .ok (.iconst 1, 1) := by decide +kernel
theorem dL_law_2133 : decode cL_law 2133 = .ok (.iadd, 1) := by decide +kernel
theorem dL_law_2134 : decode cL_law 2134 = .ok (.iaload, 1) := by decide +kernel
theorem dL_law_2135 : decode cL_law 2135 = .ok (.aload_n 0, 1) := by decide +kernel
theorem dL_law_2136 : decode cL_law 2136 = .ok (.iload 4, 2) := by decide +kernel
theorem dL_law_2138 : decode cL_law 2138 = .ok (.iconst 2, 1) := by decide +kernel
theorem dL_law_2139 : decode cL_law 2139 = .ok (.iadd, 1) := by decide +kernel
theorem dL_law_2140 : decode cL_law 2140 = .ok (.iaload, 1) := by decide +kernel
theorem dL_law_2141 : decode cL_law 2141 = .ok (.aload_n 0, 1) := by decide +kernel
theorem dL_law_2142 : decode cL_law 2142 = .ok (.iload 4, 2) := by decide +kernel
theorem dL_law_2144 : decode cL_law 2144 = .ok (.iconst 3, 1) := by decide +kernel
theorem dL_law_2145 : decode cL_law 2145 = .ok (.iadd, 1) := by decide +kernel
theorem dL_law_2146 : decode cL_law 2146 = .ok (.iaload, 1) := by decide +kernel
theorem dL_law_2147 : decode cL_law 2147 = .ok (.invokevirtual 257, 3) := by decide +kernel
theorem dL_law_2150 : decode cL_law 2150 = .ok (.lstore 6, 2) := by decide +kernel
theorem dL_law_2152 : decode cL_law 2152 = .ok (.aload_n 2, 1) := by decide +kernel
theorem dL_law_2153 : decode cL_law 2153 = .ok (.invokevirtual 177, 3) := by decide +kernel
theorem dL_law_2156 : decode cL_law 2156 = .ok (.iload 5, 2) := by decide +kernel
theorem dL_law_2158 : decode cL_law 2158 = .ok (.if_icmp .eq 5, 3) := by decide +kernel
theorem dL_law_2161 : decode cL_law 2161 = .ok (.iconst 0, 1) := by decide +kernel
theorem dL_law_2162 : decode cL_law 2162 = .ok (.ireturn, 1) := by decide +kernel
theorem dL_law_2163 : decode cL_law 2163 = .ok (.iload 5, 2) := by decide +kernel
theorem dL_law_2165 : decode cL_law 2165 = .ok (.ifCond .ne 14, 3) := by decide +kernel
theorem dL_law_2168 : decode cL_law 2168 = .ok (.aload_n 3, 1) := by decide +kernel
theorem dL_law_2169 : decode cL_law 2169 = .ok (.iconst 0, 1) := by decide +kernel
theorem dL_law_2170 : decode cL_law 2170 = .ok (.laload, 1) := by decide +kernel
theorem dL_law_2171 : decode cL_law 2171 = .ok (.lload 6, 2) := by decide +kernel
theorem dL_law_2173 : decode cL_law 2173 = .ok (.lcmp, 1) := by decide +kernel
theorem dL_law_2174 : decode cL_law 2174 = .ok (.ifCond .eq 5, 3) := by decide +kernel
theorem dL_law_2177 : decode cL_law 2177 = .ok (.iconst 0, 1) := by decide +kernel
theorem dL_law_2178 : decode cL_law 2178 = .ok (.ireturn, 1) := by decide +kernel
theorem dL_law_2179 : decode cL_law 2179 = .ok (.goto 2054, 3) := by decide +kernel
theorem dL_law_2182 : decode cL_law 2182 = .ok (.aload_n 1, 1) := by decide +kernel
theorem dL_law_2183 : decode cL_law 2183 = .ok (.aload_n 0, 1) := by decide +kernel
theorem dL_law_2184 : decode cL_law 2184 = .ok (.iload 4, 2) := by decide +kernel
theorem dL_law_2186 : decode cL_law 2186 = .ok (.iconst 1, 1) := by decide +kernel
theorem dL_law_2187 : decode cL_law 2187 = .ok (.iadd, 1) := by decide +kernel
theorem dL_law_2188 : decode cL_law 2188 = .ok (.iaload, 1) := by decide +kernel
theorem dL_law_2189 : decode cL_law 2189 = .ok (.aload_n 0, 1) := by decide +kernel
theorem dL_law_2190 : decode cL_law 2190 = .ok (.iload 4, 2) := by decide +kernel
theorem dL_law_2192 : decode cL_law 2192 = .ok (.iconst 2, 1) := by decide +kernel
theorem dL_law_2193 : decode cL_law 2193 = .ok (.iadd, 1) := by decide +kernel
theorem dL_law_2194 : decode cL_law 2194 = .ok (.iaload, 1) := by decide +kernel
theorem dL_law_2195 : decode cL_law 2195 = .ok (.aload_n 3, 1) := by decide +kernel
theorem dL_law_2196 : decode cL_law 2196 = .ok (.invokestatic 258, 3) := by decide +kernel
theorem dL_law_2199 : decode cL_law 2199 = .ok (.istore 5, 2) := by decide +kernel
theorem dL_law_2201 : decode cL_law 2201 = .ok (.aload_n 2, 1) := by decide +kernel
theorem dL_law_2202 : decode cL_law 2202 = .ok (.aload_n 0, 1) := by decide +kernel
theorem dL_law_2203 : decode cL_law 2203 = .ok (.iload 4, 2) := by decide +kernel
theorem dL_law_2205 : decode cL_law 2205 = .ok (.iconst 1, 1) := by decide +kernel
theorem dL_law_2206 : decode cL_law 2206 = .ok (.iadd, 1) := by decide +kernel
theorem dL_law_2207 : decode cL_law 2207 = .ok (.iaload, 1) := by decide +kernel
theorem dL_law_2208 : decode cL_law 2208 = .ok (.aload_n 0, 1) := by decide +kernel
theorem dL_law_2209 : decode cL_law 2209 = .ok (.iload 4, 2) := by decide +kernel
theorem dL_law_2211 : decode cL_law 2211 = .ok (.iconst 2, 1) := by decide +kernel
theorem dL_law_2212 : decode cL_law 2212 = .ok (.iadd, 1) := by decide +kernel
theorem dL_law_2213 : decode cL_law 2213 = .ok (.iaload, 1) := by decide +kernel
theorem dL_law_2214 : decode cL_law 2214 = .ok (.invokevirtual 260, 3) := by decide +kernel
theorem dL_law_2217 : decode cL_law 2217 = .ok (.istore 6, 2) := by decide +kernel
theorem dL_law_2219 : decode cL_law 2219 = .ok (.aload_n 2, 1) := by decide +kernel
theorem dL_law_2220 : decode cL_law 2220 = .ok (.invokevirtual 177, 3) := by decide +kernel
theorem dL_law_2223 : decode cL_law 2223 = .ok (.iload 5, 2) := by decide +kernel
theorem dL_law_2225 : decode cL_law 2225 = .ok (.if_icmp .eq 5, 3) := by decide +kernel
theorem dL_law_2228 : decode cL_law 2228 = .ok (.iconst 0, 1) := by decide +kernel
theorem dL_law_2229 : decode cL_law 2229 = .ok (.ireturn, 1) := by decide +kernel
theorem dL_law_2230 : decode cL_law 2230 = .ok (.iload 5, 2) := by decide +kernel
theorem dL_law_2232 : decode cL_law 2232 = .ok (.ifCond .ne 15, 3) := by decide +kernel
theorem dL_law_2235 : decode cL_law 2235 = .ok (.aload_n 3, 1) := by decide +kernel
theorem dL_law_2236 : decode cL_law 2236 = .ok (.iconst 0, 1) := by decide +kernel
theorem dL_law_2237 : decode cL_law 2237 = .ok (.laload, 1) := by decide +kernel
theorem dL_law_2238 : decode cL_law 2238 = .ok (.iload 6, 2) := by decide +kernel
theorem dL_law_2240 : decode cL_law 2240 = .ok (.i2l, 1) := by decide +kernel
theorem dL_law_2241 : decode cL_law 2241 = .ok (.lcmp, 1) := by decide +kernel
theorem dL_law_2242 : decode cL_law 2242 = .ok (.ifCond .eq 5, 3) := by decide +kernel
theorem dL_law_2245 : decode cL_law 2245 = .ok (.iconst 0, 1) := by decide +kernel
theorem dL_law_2246 : decode cL_law 2246 = .ok (.ireturn, 1) := by decide +kernel
theorem dL_law_2247 : decode cL_law 2247 = .ok (.goto 1986, 3) := by decide +kernel
theorem dL_law_2250 : decode cL_law 2250 = .ok (.aload_n 1, 1) := by decide +kernel
theorem dL_law_2251 : decode cL_law 2251 = .ok (.aload_n 0, 1) := by decide +kernel
theorem dL_law_2252 : decode cL_law 2252 = .ok (.iload 4, 2) := by decide +kernel
theorem dL_law_2254 : decode cL_law 2254 = .ok (.iconst 1, 1) := by decide +kernel
theorem dL_law_2255 : decode cL_law 2255 = .ok (.iadd, 1) := by decide +kernel
theorem dL_law_2256 : decode cL_law 2256 = .ok (.iaload, 1) := by decide +kernel
theorem dL_law_2257 : decode cL_law 2257 = .ok (.aload_n 0, 1) := by decide +kernel
theorem dL_law_2258 : decode cL_law 2258 = .ok (.iload 4, 2) := by decide +kernel
theorem dL_law_2260 : decode cL_law 2260 = .ok (.iconst 2, 1) := by decide +kernel
theorem dL_law_2261 : decode cL_law 2261 = .ok (.iadd, 1) := by decide +kernel
theorem dL_law_2262 : decode cL_law 2262 = .ok (.iaload, 1) := by decide +kernel
theorem dL_law_2263 : decode cL_law 2263 = .ok (.aload_n 0, 1) := by decide +kernel
theorem dL_law_2264 : decode cL_law 2264 = .ok (.iload 4, 2) := by decide +kernel
theorem dL_law_2266 : decode cL_law 2266 = .ok (.iconst 3, 1) := by decide +kernel
theorem dL_law_2267 : decode cL_law 2267 = .ok (.iadd, 1) := by decide +kernel
theorem dL_law_2268 : decode cL_law 2268 = .ok (.iaload, 1) := by decide +kernel
theorem dL_law_2269 : decode cL_law 2269 = .ok (.aload_n 0, 1) := by decide +kernel
theorem dL_law_2270 : decode cL_law 2270 = .ok (.iload 4, 2) := by decide +kernel
theorem dL_law_2272 : decode cL_law 2272 = .ok (.iconst 4, 1) := by decide +kernel
theorem dL_law_2273 : decode cL_law 2273 = .ok (.iadd, 1) := by decide +kernel
theorem dL_law_2274 : decode cL_law 2274 = .ok (.iaload, 1) := by decide +kernel
theorem dL_law_2275 : decode cL_law 2275 = .ok (.aload_n 0, 1) := by decide +kernel
theorem dL_law_2276 : decode cL_law 2276 = .ok (.iload 4, 2) := by decide +kernel
theorem dL_law_2278 : decode cL_law 2278 = .ok (.iconst 5, 1) := by decide +kernel
theorem dL_law_2279 : decode cL_law 2279 = .ok (.iadd, 1) := by decide +kernel
theorem dL_law_2280 : decode cL_law 2280 = .ok (.iaload, 1) := by decide +kernel
theorem dL_law_2281 : decode cL_law 2281 = .ok (.aload_n 3, 1) := by decide +kernel
theorem dL_law_2282 : decode cL_law 2282 = .ok (.invokestatic 261, 3) := by decide +kernel
theorem dL_law_2285 : decode cL_law 2285 = .ok (.istore 5, 2) := by decide +kernel
theorem dL_law_2287 : decode cL_law 2287 = .ok (.aload_n 2, 1) := by decide +kernel
theorem dL_law_2288 : decode cL_law 2288 = .ok (.aload_n 0, 1) := by decide +kernel
theorem dL_law_2289 : decode cL_law 2289 = .ok (.iload 4, 2) := by decide +kernel
theorem dL_law_2291 : decode cL_law 2291 = .ok (.iconst 1, 1) := by decide +kernel
theorem dL_law_2292 : decode cL_law 2292 = .ok (.iadd, 1) := by decide +kernel
theorem dL_law_2293 : decode cL_law 2293 = .ok (.iaload, 1) := by decide +kernel
theorem dL_law_2294 : decode cL_law 2294 = .ok (.aload_n 0, 1) := by decide +kernel
theorem dL_law_2295 : decode cL_law 2295 = .ok (.iload 4, 2) := by decide +kernel
theorem dL_law_2297 : decode cL_law 2297 = .ok (.iconst 2, 1) := by decide +kernel
theorem dL_law_2298 : decode cL_law 2298 = .ok (.iadd, 1) := by decide +kernel
theorem dL_law_2299 : decode cL_law 2299 = .ok (.iaload, 1) := by decide +kernel
theorem dL_law_2300 : decode cL_law 2300 = .ok (.aload_n 0, 1) := by decide +kernel
theorem dL_law_2301 : decode cL_law 2301 = .ok (.iload 4, 2) := by decide +kernel
theorem dL_law_2303 : decode cL_law 2303 = .ok (.iconst 3, 1) := by decide +kernel
theorem dL_law_2304 : decode cL_law 2304 = .ok (.iadd, 1) := by decide +kernel
theorem dL_law_2305 : decode cL_law 2305 = .ok (.iaload, 1) := by decide +kernel
theorem dL_law_2306 : decode cL_law 2306 = .ok (.aload_n 0, 1) := by decide +kernel
theorem dL_law_2307 : decode cL_law 2307 = .ok (.iload 4, 2) := by decide +kernel
theorem dL_law_2309 : decode cL_law 2309 = .ok (.iconst 4, 1) := by decide +kernel
theorem dL_law_2310 : decode cL_law 2310 = .ok (.iadd, 1) := by decide +kernel
theorem dL_law_2311 : decode cL_law 2311 = .ok (.iaload, 1) := by decide +kernel
theorem dL_law_2312 : decode cL_law 2312 = .ok (.aload_n 0, 1) := by decide +kernel
theorem dL_law_2313 : decode cL_law 2313 = .ok (.iload 4, 2) := by decide +kernel
theorem dL_law_2315 : decode cL_law 2315 = .ok (.iconst 5, 1) := by decide +kernel
theorem dL_law_2316 : decode cL_law 2316 = .ok (.iadd, 1) := by decide +kernel
theorem dL_law_2317 : decode cL_law 2317 = .ok (.iaload, 1) := by decide +kernel
theorem dL_law_2318 : decode cL_law 2318 = .ok (.invokevirtual 264, 3) := by decide +kernel
theorem dL_law_2321 : decode cL_law 2321 = .ok (.lstore 6, 2) := by decide +kernel
theorem dL_law_2323 : decode cL_law 2323 = .ok (.aload_n 2, 1) := by decide +kernel
theorem dL_law_2324 : decode cL_law 2324 = .ok (.invokevirtual 177, 3) := by decide +kernel
theorem dL_law_2327 : decode cL_law 2327 = .ok (.iload 5, 2) := by decide +kernel
theorem dL_law_2329 : decode cL_law 2329 = .ok (.if_icmp .eq 5, 3) := by decide +kernel
theorem dL_law_2332 : decode cL_law 2332 = .ok (.iconst 0, 1) := by decide +kernel
theorem dL_law_2333 : decode cL_law 2333 = .ok (.ireturn, 1) := by decide +kernel
theorem dL_law_2334 : decode cL_law 2334 = .ok (.iload 5, 2) := by decide +kernel
theorem dL_law_2336 : decode cL_law 2336 = .ok (.ifCond .ne 14, 3) := by decide +kernel
theorem dL_law_2339 : decode cL_law 2339 = .ok (.aload_n 3, 1) := by decide +kernel
theorem dL_law_2340 : decode cL_law 2340 = .ok (.iconst 0, 1) := by decide +kernel
theorem dL_law_2341 : decode cL_law 2341 = .ok (.laload, 1) := by decide +kernel
theorem dL_law_2342 : decode cL_law 2342 = .ok (.lload 6, 2) := by decide +kernel
theorem dL_law_2344 : decode cL_law 2344 = .ok (.lcmp, 1) := by decide +kernel
theorem dL_law_2345 : decode cL_law 2345 = .ok (.ifCond .eq 5, 3) := by decide +kernel
theorem dL_law_2348 : decode cL_law 2348 = .ok (.iconst 0, 1) := by decide +kernel
theorem dL_law_2349 : decode cL_law 2349 = .ok (.ireturn, 1) := by decide +kernel
theorem dL_law_2350 : decode cL_law 2350 = .ok (.goto 1883, 3) := by decide +kernel
theorem dL_law_2353 : decode cL_law 2353 = .ok (.aload_n 1, 1) := by decide +kernel
theorem dL_law_2354 : decode cL_law 2354 = .ok (.aload_n 0, 1) := by decide +kernel
theorem dL_law_2355 : decode cL_law 2355 = .ok (.iload 4, 2) := by decide +kernel
theorem dL_law_2357 : decode cL_law 2357 = .ok (.iconst 1, 1) := by decide +kernel
theorem dL_law_2358 : decode cL_law 2358 = .ok (.iadd, 1) := by decide +kernel
theorem dL_law_2359 : decode cL_law 2359 = .ok (.iaload, 1) := by decide +kernel
theorem dL_law_2360 : decode cL_law 2360 = .ok (.aload_n 0, 1) := by decide +kernel
theorem dL_law_2361 : decode cL_law 2361 = .ok (.iload 4, 2) := by decide +kernel
theorem dL_law_2363 : decode cL_law 2363 = .ok (.iconst 2, 1) := by decide +kernel
theorem dL_law_2364 : decode cL_law 2364 = .ok (.iadd, 1) := by decide +kernel
theorem dL_law_2365 : decode cL_law 2365 = .ok (.iaload, 1) := by decide +kernel
theorem dL_law_2366 : decode cL_law 2366 = .ok (.i2l, 1) := by decide +kernel
theorem dL_law_2367 : decode cL_law 2367 = .ok (.bipush 32, 2) := by decide +kernel
theorem dL_law_2369 : decode cL_law 2369 = .ok (.lshl, 1) := by decide +kernel
theorem dL_law_2370 : decode cL_law 2370 = .ok (.aload_n 0, 1) := by decide +kernel
theorem dL_law_2371 : decode cL_law 2371 = .ok (.iload 4, 2) := by decide +kernel
theorem dL_law_2373 : decode cL_law 2373 = .ok (.iconst 3, 1) := by decide +kernel
theorem dL_law_2374 : decode cL_law 2374 = .ok (.iadd, 1) := by decide +kernel
theorem dL_law_2375 : decode cL_law 2375 = .ok (.iaload, 1) := by decide +kernel
theorem dL_law_2376 : decode cL_law 2376 = .ok (.i2l, 1) := by decide +kernel
theorem dL_law_2377 : decode cL_law 2377 = .ok (.ldc2_w 181, 3) := by decide +kernel
theorem dL_law_2380 : decode cL_law 2380 = .ok (.land, 1) := by decide +kernel
theorem dL_law_2381 : decode cL_law 2381 = .ok (.lor, 1) := by decide +kernel
theorem dL_law_2382 : decode cL_law 2382 = .ok (.aload_n 3, 1) := by decide +kernel
theorem dL_law_2383 : decode cL_law 2383 = .ok (.invokestatic 265, 3) := by decide +kernel
theorem dL_law_2386 : decode cL_law 2386 = .ok (.istore 5, 2) := by decide +kernel
theorem dL_law_2388 : decode cL_law 2388 = .ok (.aload_n 2, 1) := by decide +kernel
theorem dL_law_2389 : decode cL_law 2389 = .ok (.aload_n 0, 1) := by decide +kernel
theorem dL_law_2390 : decode cL_law 2390 = .ok (.iload 4, 2) := by decide +kernel
theorem dL_law_2392 : decode cL_law 2392 = .ok (.iconst 1, 1) := by decide +kernel
theorem dL_law_2393 : decode cL_law 2393 = .ok (.iadd, 1) := by decide +kernel
theorem dL_law_2394 : decode cL_law 2394 = .ok (.iaload, 1) := by decide +kernel
theorem dL_law_2395 : decode cL_law 2395 = .ok (.aload_n 0, 1) := by decide +kernel
theorem dL_law_2396 : decode cL_law 2396 = .ok (.iload 4, 2) := by decide +kernel
theorem dL_law_2398 : decode cL_law 2398 = .ok (.iconst 2, 1) := by decide +kernel
theorem dL_law_2399 : decode cL_law 2399 = .ok (.iadd, 1) := by decide +kernel
theorem dL_law_2400 : decode cL_law 2400 = .ok (.iaload, 1) := by decide +kernel
theorem dL_law_2401 : decode cL_law 2401 = .ok (.i2l, 1) := by decide +kernel
theorem dL_law_2402 : decode cL_law 2402 = .ok (.bipush 32, 2) := by decide +kernel
theorem dL_law_2404 : decode cL_law 2404 = .ok (.lshl, 1) := by decide +kernel
theorem dL_law_2405 : decode cL_law 2405 = .ok (.aload_n 0, 1) := by decide +kernel
theorem dL_law_2406 : decode cL_law 2406 = .ok (.iload 4, 2) := by decide +kernel
theorem dL_law_2408 : decode cL_law 2408 = .ok (.iconst 3, 1) := by decide +kernel
theorem dL_law_2409 : decode cL_law 2409 = .ok (.iadd, 1) := by decide +kernel
theorem dL_law_2410 : decode cL_law 2410 = .ok (.iaload, 1) := by decide +kernel
theorem dL_law_2411 : decode cL_law 2411 = .ok (.i2l, 1) := by decide +kernel
theorem dL_law_2412 : decode cL_law 2412 = .ok (.ldc2_w 181, 3) := by decide +kernel
theorem dL_law_2415 : decode cL_law 2415 = .ok (.land, 1) := by decide +kernel
theorem dL_law_2416 : decode cL_law 2416 = .ok (.lor, 1) := by decide +kernel
theorem dL_law_2417 : decode cL_law 2417 = .ok (.invokevirtual 267, 3) := by decide +kernel
theorem dL_law_2420 : decode cL_law 2420 = .ok (.istore 6, 2) := by decide +kernel
theorem dL_law_2422 : decode cL_law 2422 = .ok (.aload_n 2, 1) := by decide +kernel
theorem dL_law_2423 : decode cL_law 2423 = .ok (.invokevirtual 177, 3) := by decide +kernel
theorem dL_law_2426 : decode cL_law 2426 = .ok (.iload 5, 2) := by decide +kernel
theorem dL_law_2428 : decode cL_law 2428 = .ok (.if_icmp .eq 5, 3) := by decide +kernel
theorem dL_law_2431 : decode cL_law 2431 = .ok (.iconst 0, 1) := by decide +kernel
theorem dL_law_2432 : decode cL_law 2432 = .ok (.ireturn, 1) := by decide +kernel
theorem dL_law_2433 : decode cL_law 2433 = .ok (.iload 5, 2) := by decide +kernel
theorem dL_law_2435 : decode cL_law 2435 = .ok (.ifCond .ne 15, 3) := by decide +kernel
theorem dL_law_2438 : decode cL_law 2438 = .ok (.aload_n 3, 1) := by decide +kernel
theorem dL_law_2439 : decode cL_law 2439 = .ok (.iconst 0, 1) := by decide +kernel
theorem dL_law_2440 : decode cL_law 2440 = .ok (.laload, 1) := by decide +kernel
theorem dL_law_2441 : decode cL_law 2441 = .ok (.iload 6, 2) := by decide +kernel
theorem dL_law_2443 : decode cL_law 2443 = .ok (.i2l, 1) := by decide +kernel
theorem dL_law_2444 : decode cL_law 2444 = .ok (.lcmp, 1) := by decide +kernel
theorem dL_law_2445 : decode cL_law 2445 = .ok (.ifCond .eq 5, 3) := by decide +kernel
theorem dL_law_2448 : decode cL_law 2448 = .ok (.iconst 0, 1) := by decide +kernel
theorem dL_law_2449 : decode cL_law 2449 = .ok (.ireturn, 1) := by decide +kernel
theorem dL_law_2450 : decode cL_law 2450 = .ok (.goto 1783, 3) := by decide +kernel
theorem dL_law_2453 : decode cL_law 2453 = .ok (.aload_n 1, 1) := by decide +kernel
theorem dL_law_2454 : decode cL_law 2454 = .ok (.aload_n 0, 1) := by decide +kernel
theorem dL_law_2455 : decode cL_law 2455 = .ok (.iload 4, 2) := by decide +kernel
theorem dL_law_2457 : decode cL_law 2457 = .ok (.iconst 1, 1) := by decide +kernel
theorem dL_law_2458 : decode cL_law 2458 = .ok (.iadd, 1) := by decide +kernel
theorem dL_law_2459 : decode cL_law 2459 = .ok (.iaload, 1) := by decide +kernel
theorem dL_law_2460 : decode cL_law 2460 = .ok (.aload_n 0, 1) := by decide +kernel
theorem dL_law_2461 : decode cL_law 2461 = .ok (.iload 4, 2) := by decide +kernel
theorem dL_law_2463 : decode cL_law 2463 = .ok (.iconst 2, 1) := by decide +kernel
theorem dL_law_2464 : decode cL_law 2464 = .ok (.iadd, 1) := by decide +kernel
theorem dL_law_2465 : decode cL_law 2465 = .ok (.iaload, 1) := by decide +kernel
theorem dL_law_2466 : decode cL_law 2466 = .ok (.i2c, 1) := by decide +kernel
theorem dL_law_2467 : decode cL_law 2467 = .ok (.aload_n 3, 1) := by decide +kernel
theorem dL_law_2468 : decode cL_law 2468 = .ok (.invokestatic 268, 3) := by decide +kernel
theorem dL_law_2471 : decode cL_law 2471 = .ok (.istore 5, 2) := by decide +kernel
theorem dL_law_2473 : decode cL_law 2473 = .ok (.aload_n 2, 1) := by decide +kernel
theorem dL_law_2474 : decode cL_law 2474 = .ok (.aload_n 0, 1) := by decide +kernel
theorem dL_law_2475 : decode cL_law 2475 = .ok (.iload 4, 2) := by decide +kernel
theorem dL_law_2477 : decode cL_law 2477 = .ok (.iconst 1, 1) := by decide +kernel
theorem dL_law_2478 : decode cL_law 2478 = .ok (.iadd, 1) := by decide +kernel
theorem dL_law_2479 : decode cL_law 2479 = .ok (.iaload, 1) := by decide +kernel
theorem dL_law_2480 : decode cL_law 2480 = .ok (.aload_n 0, 1) := by decide +kernel
theorem dL_law_2481 : decode cL_law 2481 = .ok (.iload 4, 2) := by decide +kernel
theorem dL_law_2483 : decode cL_law 2483 = .ok (.iconst 2, 1) := by decide +kernel
theorem dL_law_2484 : decode cL_law 2484 = .ok (.iadd, 1) := by decide +kernel
theorem dL_law_2485 : decode cL_law 2485 = .ok (.iaload, 1) := by decide +kernel
theorem dL_law_2486 : decode cL_law 2486 = .ok (.i2c, 1) := by decide +kernel
theorem dL_law_2487 : decode cL_law 2487 = .ok (.invokevirtual 270, 3) := by decide +kernel
theorem dL_law_2490 : decode cL_law 2490 = .ok (.istore 6, 2) := by decide +kernel
theorem dL_law_2492 : decode cL_law 2492 = .ok (.aload_n 2, 1) := by decide +kernel
theorem dL_law_2493 : decode cL_law 2493 = .ok (.invokevirtual 177, 3) := by decide +kernel
theorem dL_law_2496 : decode cL_law 2496 = .ok (.iload 5, 2) := by decide +kernel
theorem dL_law_2498 : decode cL_law 2498 = .ok (.if_icmp .eq 5, 3) := by decide +kernel
theorem dL_law_2501 : decode cL_law 2501 = .ok (.iconst 0, 1) := by decide +kernel
theorem dL_law_2502 : decode cL_law 2502 = .ok (.ireturn, 1) := by decide +kernel
theorem dL_law_2503 : decode cL_law 2503 = .ok (.iload 5, 2) := by decide +kernel
theorem dL_law_2505 : decode cL_law 2505 = .ok (.ifCond .ne 15, 3) := by decide +kernel
theorem dL_law_2508 : decode cL_law 2508 = .ok (.aload_n 3, 1) := by decide +kernel
theorem dL_law_2509 : decode cL_law 2509 = .ok (.iconst 0, 1) := by decide +kernel
theorem dL_law_2510 : decode cL_law 2510 = .ok (.laload, 1) := by decide +kernel
theorem dL_law_2511 : decode cL_law 2511 = .ok (.iload 6, 2) := by decide +kernel
theorem dL_law_2513 : decode cL_law 2513 = .ok (.i2l, 1) := by decide +kernel
theorem dL_law_2514 : decode cL_law 2514 = .ok (.lcmp, 1) := by decide +kernel
theorem dL_law_2515 : decode cL_law 2515 = .ok (.ifCond .eq 5, 3) := by decide +kernel
theorem dL_law_2518 : decode cL_law 2518 = .ok (.iconst 0, 1) := by decide +kernel
theorem dL_law_2519 : decode cL_law 2519 = .ok (.ireturn, 1) := by decide +kernel
theorem dL_law_2520 : decode cL_law 2520 = .ok (.goto 1713, 3) := by decide +kernel
theorem dL_law_2523 : decode cL_law 2523 = .ok (.aload_n 1, 1) := by decide +kernel
theorem dL_law_2524 : decode cL_law 2524 = .ok (.aload_n 0, 1) := by decide +kernel
theorem dL_law_2525 : decode cL_law 2525 = .ok (.iload 4, 2) := by decide +kernel
theorem dL_law_2527 : decode cL_law 2527 = .ok (.iconst 1, 1) := by decide +kernel
theorem dL_law_2528 : decode cL_law 2528 = .ok (.iadd, 1) := by decide +kernel
theorem dL_law_2529 : decode cL_law 2529 = .ok (.iaload, 1) := by decide +kernel
theorem dL_law_2530 : decode cL_law 2530 = .ok (.aload_n 0, 1) := by decide +kernel
theorem dL_law_2531 : decode cL_law 2531 = .ok (.iload 4, 2) := by decide +kernel
theorem dL_law_2533 : decode cL_law 2533 = .ok (.iconst 2, 1) := by decide +kernel
theorem dL_law_2534 : decode cL_law 2534 = .ok (.iadd, 1) := by decide +kernel
theorem dL_law_2535 : decode cL_law 2535 = .ok (.iaload, 1) := by decide +kernel
theorem dL_law_2536 : decode cL_law 2536 = .ok (.i2c, 1) := by decide +kernel
theorem dL_law_2537 : decode cL_law 2537 = .ok (.aload_n 0, 1) := by decide +kernel
theorem dL_law_2538 : decode cL_law 2538 = .ok (.iload 4, 2) := by decide +kernel
theorem dL_law_2540 : decode cL_law 2540 = .ok (.iconst 3, 1) := by decide +kernel
theorem dL_law_2541 : decode cL_law 2541 = .ok (.iadd, 1) := by decide +kernel
theorem dL_law_2542 : decode cL_law 2542 = .ok (.iaload, 1) := by decide +kernel
theorem dL_law_2543 : decode cL_law 2543 = .ok (.i2l, 1) := by decide +kernel
theorem dL_law_2544 : decode cL_law 2544 = .ok (.bipush 32, 2) := by decide +kernel
theorem dL_law_2546 : decode cL_law 2546 = .ok (.lshl, 1) := by decide +kernel
theorem dL_law_2547 : decode cL_law 2547 = .ok (.aload_n 0, 1) := by decide +kernel
theorem dL_law_2548 : decode cL_law 2548 = .ok (.iload 4, 2) := by decide +kernel
theorem dL_law_2550 : decode cL_law 2550 = .ok (.iconst 4, 1) := by decide +kernel
theorem dL_law_2551 : decode cL_law 2551 = .ok (.iadd, 1) := by decide +kernel
theorem dL_law_2552 : decode cL_law 2552 = .ok (.iaload, 1) := by decide +kernel
theorem dL_law_2553 : decode cL_law 2553 = .ok (.i2l, 1) := by decide +kernel
theorem dL_law_2554 : decode cL_law 2554 = .ok (.ldc2_w 181, 3) := by decide +kernel
theorem dL_law_2557 : decode cL_law 2557 = .ok (.land, 1) := by decide +kernel
theorem dL_law_2558 : decode cL_law 2558 = .ok (.lor, 1) := by decide +kernel
theorem dL_law_2559 : decode cL_law 2559 = .ok (.aload_n 0, 1) := by decide +kernel
theorem dL_law_2560 : decode cL_law 2560 = .ok (.iload 4, 2) := by decide +kernel
theorem dL_law_2562 : decode cL_law 2562 = .ok (.iconst 5, 1) := by decide +kernel
theorem dL_law_2563 : decode cL_law 2563 = .ok (.iadd, 1) := by decide +kernel
theorem dL_law_2564 : decode cL_law 2564 = .ok (.iaload, 1) := by decide +kernel
theorem dL_law_2565 : decode cL_law 2565 = .ok (.aload_n 3, 1) := by decide +kernel
theorem dL_law_2566 : decode cL_law 2566 = .ok (.invokestatic 271, 3) := by decide +kernel
theorem dL_law_2569 : decode cL_law 2569 = .ok (.istore 5, 2) := by decide +kernel
theorem dL_law_2571 : decode cL_law 2571 = .ok (.aload_n 2, 1) := by decide +kernel
theorem dL_law_2572 : decode cL_law 2572 = .ok (.aload_n 0, 1) := by decide +kernel
theorem dL_law_2573 : decode cL_law 2573 = .ok (.iload 4, 2) := by decide +kernel
theorem dL_law_2575 : decode cL_law 2575 = .ok (.iconst 1, 1) := by decide +kernel
theorem dL_law_2576 : decode cL_law 2576 = .ok (.iadd, 1) := by decide +kernel
theorem dL_law_2577 : decode cL_law 2577 = .ok (.iaload, 1) := by decide +kernel
theorem dL_law_2578 : decode cL_law 2578 = .ok (.aload_n 0, 1) := by decide +kernel
theorem dL_law_2579 : decode cL_law 2579 = .ok (.iload 4, 2) := by decide +kernel
theorem dL_law_2581 : decode cL_law 2581 = .ok (.iconst 2, 1) := by decide +kernel
theorem dL_law_2582 : decode cL_law 2582 = .ok (.iadd, 1) := by decide +kernel
theorem dL_law_2583 : decode cL_law 2583 = .ok (.iaload, 1) := by decide +kernel
theorem dL_law_2584 : decode cL_law 2584 = .ok (.i2c, 1) := by decide +kernel
theorem dL_law_2585 : decode cL_law 2585 = .ok (.aload_n 0, 1) := by decide +kernel
theorem dL_law_2586 : decode cL_law 2586 = .ok (.iload 4, 2) := by decide +kernel
theorem dL_law_2588 : decode cL_law 2588 = .ok (.iconst 3, 1) := by decide +kernel
theorem dL_law_2589 : decode cL_law 2589 = .ok (.iadd, 1) := by decide +kernel
theorem dL_law_2590 : decode cL_law 2590 = .ok (.iaload, 1) := by decide +kernel
theorem dL_law_2591 : decode cL_law 2591 = .ok (.i2l, 1) := by decide +kernel
theorem dL_law_2592 : decode cL_law 2592 = .ok (.bipush 32, 2) := by decide +kernel
theorem dL_law_2594 : decode cL_law 2594 = .ok (.lshl, 1) := by decide +kernel
theorem dL_law_2595 : decode cL_law 2595 = .ok (.aload_n 0, 1) := by decide +kernel
theorem dL_law_2596 : decode cL_law 2596 = .ok (.iload 4, 2) := by decide +kernel
theorem dL_law_2598 : decode cL_law 2598 = .ok (.iconst 4, 1) := by decide +kernel
theorem dL_law_2599 : decode cL_law 2599 = .ok (.iadd, 1) := by decide +kernel
theorem dL_law_2600 : decode cL_law 2600 = .ok (.iaload, 1) := by decide +kernel
theorem dL_law_2601 : decode cL_law 2601 = .ok (.i2l, 1) := by decide +kernel
theorem dL_law_2602 : decode cL_law 2602 = .ok (.ldc2_w 181, 3) := by decide +kernel
theorem dL_law_2605 : decode cL_law 2605 = .ok (.land, 1) := by decide +kernel
theorem dL_law_2606 : decode cL_law 2606 = .ok (.lor, 1) := by decide +kernel
theorem dL_law_2607 : decode cL_law 2607 = .ok (.aload_n 0, 1) := by decide +kernel
theorem dL_law_2608 : decode cL_law 2608 = .ok (.iload 4, 2) := by decide +kernel
theorem dL_law_2610 : decode cL_law 2610 = .ok (.iconst 5, 1) := by decide +kernel
theorem dL_law_2611 : decode cL_law 2611 = .ok (.iadd, 1) := by decide +kernel
theorem dL_law_2612 : decode cL_law 2612 = .ok (.iaload, 1) := by decide +kernel
theorem dL_law_2613 : decode cL_law 2613 = .ok (.invokevirtual 274, 3) := by decide +kernel
theorem dL_law_2616 : decode cL_law 2616 = .ok (.lstore 6, 2) := by decide +kernel
theorem dL_law_2618 : decode cL_law 2618 = .ok (.aload_n 2, 1) := by decide +kernel
theorem dL_law_2619 : decode cL_law 2619 = .ok (.invokevirtual 177, 3) := by decide +kernel
theorem dL_law_2622 : decode cL_law 2622 = .ok (.iload 5, 2) := by decide +kernel
theorem dL_law_2624 : decode cL_law 2624 = .ok (.if_icmp .eq 5, 3) := by decide +kernel
theorem dL_law_2627 : decode cL_law 2627 = .ok (.iconst 0, 1) := by decide +kernel
theorem dL_law_2628 : decode cL_law 2628 = .ok (.ireturn, 1) := by decide +kernel
theorem dL_law_2629 : decode cL_law 2629 = .ok (.iload 5, 2) := by decide +kernel
theorem dL_law_2631 : decode cL_law 2631 = .ok (.ifCond .ne 14, 3) := by decide +kernel
theorem dL_law_2634 : decode cL_law 2634 = .ok (.aload_n 3, 1) := by decide +kernel
theorem dL_law_2635 : decode cL_law 2635 = .ok (.iconst 0, 1) := by decide +kernel
theorem dL_law_2636 : decode cL_law 2636 = .ok (.laload, 1) := by decide +kernel
theorem dL_law_2637 : decode cL_law 2637 = .ok (.lload 6, 2) := by decide +kernel
theorem dL_law_2639 : decode cL_law 2639 = .ok (.lcmp, 1) := by decide +kernel
theorem dL_law_2640 : decode cL_law 2640 = .ok (.ifCond .eq 5, 3) := by decide +kernel
theorem dL_law_2643 : decode cL_law 2643 = .ok (.iconst 0, 1) := by decide +kernel
theorem dL_law_2644 : decode cL_law 2644 = .ok (.ireturn, 1) := by decide +kernel
theorem dL_law_2645 : decode cL_law 2645 = .ok (.goto 1588, 3) := by decide +kernel
theorem dL_law_2648 : decode cL_law 2648 = .ok (.aload_n 1, 1) := by decide +kernel
theorem dL_law_2649 : decode cL_law 2649 = .ok (.aload_n 0, 1) := by decide +kernel
theorem dL_law_2650 : decode cL_law 2650 = .ok (.iload 4, 2) := by decide +kernel
theorem dL_law_2652 : decode cL_law 2652 = .ok (.iconst 1, 1) := by decide +kernel
theorem dL_law_2653 : decode cL_law 2653 = .ok (.iadd, 1) := by decide +kernel
theorem dL_law_2654 : decode cL_law 2654 = .ok (.iaload, 1) := by decide +kernel
theorem dL_law_2655 : decode cL_law 2655 = .ok (.aload_n 0, 1) := by decide +kernel
theorem dL_law_2656 : decode cL_law 2656 = .ok (.iload 4, 2) := by decide +kernel
theorem dL_law_2658 : decode cL_law 2658 = .ok (.iconst 2, 1) := by decide +kernel
theorem dL_law_2659 : decode cL_law 2659 = .ok (.iadd, 1) := by decide +kernel
theorem dL_law_2660 : decode cL_law 2660 = .ok (.iaload, 1) := by decide +kernel
theorem dL_law_2661 : decode cL_law 2661 = .ok (.i2c, 1) := by decide +kernel
theorem dL_law_2662 : decode cL_law 2662 = .ok (.aload_n 0, 1) := by decide +kernel
theorem dL_law_2663 : decode cL_law 2663 = .ok (.iload 4, 2) := by decide +kernel
theorem dL_law_2665 : decode cL_law 2665 = .ok (.iconst 3, 1) := by decide +kernel
theorem dL_law_2666 : decode cL_law 2666 = .ok (.iadd, 1) := by decide +kernel
theorem dL_law_2667 : decode cL_law 2667 = .ok (.iaload, 1) := by decide +kernel
theorem dL_law_2668 : decode cL_law 2668 = .ok (.aload_n 3, 1) := by decide +kernel
theorem dL_law_2669 : decode cL_law 2669 = .ok (.invokestatic 275, 3) := by decide +kernel
theorem dL_law_2672 : decode cL_law 2672 = .ok (.istore 5, 2) := by decide +kernel
theorem dL_law_2674 : decode cL_law 2674 = .ok (.aload_n 2, 1) := by decide +kernel
theorem dL_law_2675 : decode cL_law 2675 = .ok (.aload_n 0, 1) := by decide +kernel
theorem dL_law_2676 : decode cL_law 2676 = .ok (.iload 4, 2) := by decide +kernel
theorem dL_law_2678 : decode cL_law 2678 = .ok (.iconst 1, 1) := by decide +kernel
theorem dL_law_2679 : decode cL_law 2679 = .ok (.iadd, 1) := by decide +kernel
theorem dL_law_2680 : decode cL_law 2680 = .ok (.iaload, 1) := by decide +kernel
theorem dL_law_2681 : decode cL_law 2681 = .ok (.aload_n 0, 1) := by decide +kernel
theorem dL_law_2682 : decode cL_law 2682 = .ok (.iload 4, 2) := by decide +kernel
theorem dL_law_2684 : decode cL_law 2684 = .ok (.iconst 2, 1) := by decide +kernel
theorem dL_law_2685 : decode cL_law 2685 = .ok (.iadd, 1) := by decide +kernel
theorem dL_law_2686 : decode cL_law 2686 = .ok (.iaload, 1) := by decide +kernel
theorem dL_law_2687 : decode cL_law 2687 = .ok (.i2c, 1) := by decide +kernel
theorem dL_law_2688 : decode cL_law 2688 = .ok (.aload_n 0, 1) := by decide +kernel
theorem dL_law_2689 : decode cL_law 2689 = .ok (.iload 4, 2) := by decide +kernel
theorem dL_law_2691 : decode cL_law 2691 = .ok (.iconst 3, 1) := by decide +kernel
theorem dL_law_2692 : decode cL_law 2692 = .ok (.iadd, 1) := by decide +kernel
theorem dL_law_2693 : decode cL_law 2693 = .ok (.iaload, 1) := by decide +kernel
theorem dL_law_2694 : decode cL_law 2694 = .ok (.invokevirtual 277, 3) := by decide +kernel
theorem dL_law_2697 : decode cL_law 2697 = .ok (.lstore 6, 2) := by decide +kernel
theorem dL_law_2699 : decode cL_law 2699 = .ok (.aload_n 2, 1) := by decide +kernel
theorem dL_law_2700 : decode cL_law 2700 = .ok (.invokevirtual 177, 3) := by decide +kernel
theorem dL_law_2703 : decode cL_law 2703 = .ok (.iload 5, 2) := by decide +kernel
theorem dL_law_2705 : decode cL_law 2705 = .ok (.if_icmp .eq 5, 3) := by decide +kernel
theorem dL_law_2708 : decode cL_law 2708 = .ok (.iconst 0, 1) := by decide +kernel
theorem dL_law_2709 : decode cL_law 2709 = .ok (.ireturn, 1) := by decide +kernel
theorem dL_law_2710 : decode cL_law 2710 = .ok (.iload 5, 2) := by decide +kernel
theorem dL_law_2712 : decode cL_law 2712 = .ok (.ifCond .ne 14, 3) := by decide +kernel
theorem dL_law_2715 : decode cL_law 2715 = .ok (.aload_n 3, 1) := by decide +kernel
theorem dL_law_2716 : decode cL_law 2716 = .ok (.iconst 0, 1) := by decide +kernel
theorem dL_law_2717 : decode cL_law 2717 = .ok (.laload, 1) := by decide +kernel
theorem dL_law_2718 : decode cL_law 2718 = .ok (.lload 6, 2) := by decide +kernel
theorem dL_law_2720 : decode cL_law 2720 = .ok (.lcmp, 1) := by decide +kernel
theorem dL_law_2721 : decode cL_law 2721 = .ok (.ifCond .eq 5, 3) := by decide +kernel
theorem dL_law_2724 : decode cL_law 2724 = .ok (.iconst 0, 1) := by decide +kernel
theorem dL_law_2725 : decode cL_law 2725 = .ok (.ireturn, 1) := by decide +kernel
theorem dL_law_2726 : decode cL_law 2726 = .ok (.goto 1507, 3) := by decide +kernel
theorem dL_law_2729 : decode cL_law 2729 = .ok (.aload_n 1, 1) := by decide +kernel
theorem dL_law_2730 : decode cL_law 2730 = .ok (.aload_n 0, 1) := by decide +kernel
theorem dL_law_2731 : decode cL_law 2731 = .ok (.iload 4, 2) := by decide +kernel
theorem dL_law_2733 : decode cL_law 2733 = .ok (.iconst 1, 1) := by decide +kernel
theorem dL_law_2734 : decode cL_law 2734 = .ok (.iadd, 1) := by decide +kernel
theorem dL_law_2735 : decode cL_law 2735 = .ok (.iaload, 1) := by decide +kernel
theorem dL_law_2736 : decode cL_law 2736 = .ok (.aload_n 0, 1) := by decide +kernel
theorem dL_law_2737 : decode cL_law 2737 = .ok (.iload 4, 2) := by decide +kernel
theorem dL_law_2739 : decode cL_law 2739 = .ok (.iconst 2, 1) := by decide +kernel
theorem dL_law_2740 : decode cL_law 2740 = .ok (.iadd, 1) := by decide +kernel
theorem dL_law_2741 : decode cL_law 2741 = .ok (.iaload, 1) := by decide +kernel
theorem dL_law_2742 : decode cL_law 2742 = .ok (.aload_n 0, 1) := by decide +kernel
theorem dL_law_2743 : decode cL_law 2743 = .ok (.iload 4, 2) := by decide +kernel
theorem dL_law_2745 : decode cL_law 2745 = .ok (.iconst 3, 1) := by decide +kernel
theorem dL_law_2746 : decode cL_law 2746 = .ok (.iadd, 1) := by decide +kernel
theorem dL_law_2747 : decode cL_law 2747 = .ok (.iaload, 1) := by decide +kernel
theorem dL_law_2748 : decode cL_law 2748 = .ok (.ifCond .eq 7, 3) := by decide +kernel
theorem dL_law_2751 : decode cL_law 2751 = .ok (.iconst 1, 1) := by decide +kernel
theorem dL_law_2752 : decode cL_law 2752 = .ok (.goto 4, 3) := by decide +kernel
theorem dL_law_2755 : decode cL_law 2755 = .ok (.iconst 0, 1) := by decide +kernel
theorem dL_law_2756 : decode cL_law 2756 = .ok (.aload_n 0, 1) := by decide +kernel
theorem dL_law_2757 : decode cL_law 2757 = .ok (.iload 4, 2) := by decide +kernel
theorem dL_law_2759 : decode cL_law 2759 = .ok (.iconst 4, 1) := by decide +kernel
theorem dL_law_2760 : decode cL_law 2760 = .ok (.iadd, 1) := by decide +kernel
theorem dL_law_2761 : decode cL_law 2761 = .ok (.iaload, 1) := by decide +kernel
theorem dL_law_2762 : decode cL_law 2762 = .ok (.aload_n 3, 1) := by decide +kernel
theorem dL_law_2763 : decode cL_law 2763 = .ok (.invokestatic 278, 3) := by decide +kernel
theorem dL_law_2766 : decode cL_law 2766 = .ok (.istore 5, 2) := by decide +kernel
theorem dL_law_2768 : decode cL_law 2768 = .ok (.aload_n 2, 1) := by decide +kernel
theorem dL_law_2769 : decode cL_law 2769 = .ok (.aload_n 0, 1) := by decide +kernel
theorem dL_law_2770 : decode cL_law 2770 = .ok (.iload 4, 2) := by decide +kernel
theorem dL_law_2772 : decode cL_law 2772 = .ok (.iconst 1, 1) := by decide +kernel
theorem dL_law_2773 : decode cL_law 2773 = .ok (.iadd, 1) := by decide +kernel
theorem dL_law_2774 : decode cL_law 2774 = .ok (.iaload, 1) := by decide +kernel
theorem dL_law_2775 : decode cL_law 2775 = .ok (.aload_n 0, 1) := by decide +kernel
theorem dL_law_2776 : decode cL_law 2776 = .ok (.iload 4, 2) := by decide +kernel
theorem dL_law_2778 : decode cL_law 2778 = .ok (.iconst 2, 1) := by decide +kernel
theorem dL_law_2779 : decode cL_law 2779 = .ok (.iadd, 1) := by decide +kernel
theorem dL_law_2780 : decode cL_law 2780 = .ok (.iaload, 1) := by decide +kernel
theorem dL_law_2781 : decode cL_law 2781 = .ok (.aload_n 0, 1) := by decide +kernel
theorem dL_law_2782 : decode cL_law 2782 = .ok (.iload 4, 2) := by decide +kernel
theorem dL_law_2784 : decode cL_law 2784 = .ok (.iconst 3, 1) := by decide +kernel
theorem dL_law_2785 : decode cL_law 2785 = .ok (.iadd, 1) := by decide +kernel
theorem dL_law_2786 : decode cL_law 2786 = .ok (.iaload, 1) := by decide +kernel
theorem dL_law_2787 : decode cL_law 2787 = .ok (.ifCond .eq 7, 3) := by decide +kernel
theorem dL_law_2790 : decode cL_law 2790 = .ok (.iconst 1, 1) := by decide +kernel
theorem dL_law_2791 : decode cL_law 2791 = .ok (.goto 4, 3) := by decide +kernel
theorem dL_law_2794 : decode cL_law 2794 = .ok (.iconst 0, 1) := by decide +kernel
theorem dL_law_2795 : decode cL_law 2795 = .ok (.aload_n 0, 1) := by decide +kernel
theorem dL_law_2796 : decode cL_law 2796 = .ok (.iload 4, 2) := by decide +kernel
theorem dL_law_2798 : decode cL_law 2798 = .ok (.iconst 4, 1) := by decide +kernel
theorem dL_law_2799 : decode cL_law 2799 = .ok (.iadd, 1) := by decide +kernel
theorem dL_law_2800 : decode cL_law 2800 = .ok (.iaload, 1) := by decide +kernel
theorem dL_law_2801 : decode cL_law 2801 = .ok (.invokevirtual 280, 3) := by decide +kernel
theorem dL_law_2804 : decode cL_law 2804 = .ok (.lstore 6, 2) := by decide +kernel
theorem dL_law_2806 : decode cL_law 2806 = .ok (.aload_n 2, 1) := by decide +kernel
theorem dL_law_2807 : decode cL_law 2807 = .ok (.invokevirtual 177, 3) := by decide +kernel
theorem dL_law_2810 : decode cL_law 2810 = .ok (.iload 5, 2) := by decide +kernel
theorem dL_law_2812 : decode cL_law 2812 = .ok (.if_icmp .eq 5, 3) := by decide +kernel
theorem dL_law_2815 : decode cL_law 2815 = .ok (.iconst 0, 1) := by decide +kernel
theorem dL_law_2816 : decode cL_law 2816 = .ok (.ireturn, 1) := by decide +kernel
theorem dL_law_2817 : decode cL_law 2817 = .ok (.iload 5, 2) := by decide +kernel
theorem dL_law_2819 : decode cL_law 2819 = .ok (.ifCond .ne 14, 3) := by decide +kernel
theorem dL_law_2822 : decode cL_law 2822 = .ok (.aload_n 3, 1) := by decide +kernel
theorem dL_law_2823 : decode cL_law 2823 = .ok (.iconst 0, 1) := by decide +kernel
theorem dL_law_2824 : decode cL_law 2824 = .ok (.laload, 1) := by decide +kernel
theorem dL_law_2825 : decode cL_law 2825 = .ok (.lload 6, 2) := by decide +kernel
theorem dL_law_2827 : decode cL_law 2827 = .ok (.lcmp, 1) := by decide +kernel
theorem dL_law_2828 : decode cL_law 2828 = .ok (.ifCond .eq 5, 3) := by decide +kernel
theorem dL_law_2831 : decode cL_law 2831 = .ok (.iconst 0, 1) := by decide +kernel
theorem dL_law_2832 : decode cL_law 2832 = .ok (.ireturn, 1) := by decide +kernel
theorem dL_law_2833 : decode cL_law 2833 = .ok (.goto 1400, 3) := by decide +kernel
theorem dL_law_2836 : decode cL_law 2836 = .ok (.aload_n 1, 1) := by decide +kernel
theorem dL_law_2837 : decode cL_law 2837 = .ok (.aload_n 0, 1) := by decide +kernel
theorem dL_law_2838 : decode cL_law 2838 = .ok (.iload 4, 2) := by decide +kernel
theorem dL_law_2840 : decode cL_law 2840 = .ok (.iconst 1, 1) := by decide +kernel
theorem dL_law_2841 : decode cL_law 2841 = .ok (.iadd, 1) := by decide +kernel
theorem dL_law_2842 : decode cL_law 2842 = .ok (.iaload, 1) := by decide +kernel
theorem dL_law_2843 : decode cL_law 2843 = .ok (.aload_n 0, 1) := by decide +kernel
theorem dL_law_2844 : decode cL_law 2844 = .ok (.iload 4, 2) := by decide +kernel
theorem dL_law_2846 : decode cL_law 2846 = .ok (.iconst 2, 1) := by decide +kernel
theorem dL_law_2847 : decode cL_law 2847 = .ok (.iadd, 1) := by decide +kernel
theorem dL_law_2848 : decode cL_law 2848 = .ok (.iaload, 1) := by decide +kernel
theorem dL_law_2849 : decode cL_law 2849 = .ok (.aload_n 3, 1) := by decide +kernel
theorem dL_law_2850 : decode cL_law 2850 = .ok (.invokestatic 281, 3) := by decide +kernel
theorem dL_law_2853 : decode cL_law 2853 = .ok (.istore 5, 2) := by decide +kernel
theorem dL_law_2855 : decode cL_law 2855 = .ok (.aload_n 2, 1) := by decide +kernel
theorem dL_law_2856 : decode cL_law 2856 = .ok (.aload_n 0, 1) := by decide +kernel
theorem dL_law_2857 : decode cL_law 2857 = .ok (.iload 4, 2) := by decide +kernel
theorem dL_law_2859 : decode cL_law 2859 = .ok (.iconst 1, 1) := by decide +kernel
theorem dL_law_2860 : decode cL_law 2860 = .ok (.iadd, 1) := by decide +kernel
theorem dL_law_2861 : decode cL_law 2861 = .ok (.iaload, 1) := by decide +kernel
theorem dL_law_2862 : decode cL_law 2862 = .ok (.aload_n 0, 1) := by decide +kernel
theorem dL_law_2863 : decode cL_law 2863 = .ok (.iload 4, 2) := by decide +kernel
theorem dL_law_2865 : decode cL_law 2865 = .ok (.iconst 2, 1) := by decide +kernel
theorem dL_law_2866 : decode cL_law 2866 = .ok (.iadd, 1) := by decide +kernel
theorem dL_law_2867 : decode cL_law 2867 = .ok (.iaload, 1) := by decide +kernel
theorem dL_law_2868 : decode cL_law 2868 = .ok (.invokevirtual 283, 3) := by decide +kernel
theorem dL_law_2871 : decode cL_law 2871 = .ok (.istore 6, 2) := by decide +kernel
theorem dL_law_2873 : decode cL_law 2873 = .ok (.aload_n 2, 1) := by decide +kernel
theorem dL_law_2874 : decode cL_law 2874 = .ok (.invokevirtual 177, 3) := by decide +kernel
theorem dL_law_2877 : decode cL_law 2877 = .ok (.iload 5, 2) := by decide +kernel
theorem dL_law_2879 : decode cL_law 2879 = .ok (.if_icmp .eq 5, 3) := by decide +kernel
theorem dL_law_2882 : decode cL_law 2882 = .ok (.iconst 0, 1) := by decide +kernel
theorem dL_law_2883 : decode cL_law 2883 = .ok (.ireturn, 1) := by decide +kernel
theorem dL_law_2884 : decode cL_law 2884 = .ok (.iload 5, 2) := by decide +kernel
theorem dL_law_2886 : decode cL_law 2886 = .ok (.ifCond .ne 15, 3) := by decide +kernel
theorem dL_law_2889 : decode cL_law 2889 = .ok (.aload_n 3, 1) := by decide +kernel
theorem dL_law_2890 : decode cL_law 2890 = .ok (.iconst 0, 1) := by decide +kernel
theorem dL_law_2891 : decode cL_law 2891 = .ok (.laload, 1) := by decide +kernel
theorem dL_law_2892 : decode cL_law 2892 = .ok (.iload 6, 2) := by decide +kernel
theorem dL_law_2894 : decode cL_law 2894 = .ok (.i2l, 1) := by decide +kernel
theorem dL_law_2895 : decode cL_law 2895 = .ok (.lcmp, 1) := by decide +kernel
theorem dL_law_2896 : decode cL_law 2896 = .ok (.ifCond .eq 5, 3) := by decide +kernel
theorem dL_law_2899 : decode cL_law 2899 = .ok (.iconst 0, 1) := by decide +kernel
theorem dL_law_2900 : decode cL_law 2900 = .ok (.ireturn, 1) := by decide +kernel
theorem dL_law_2901 : decode cL_law 2901 = .ok (.goto 1332, 3) := by decide +kernel
theorem dL_law_2904 : decode cL_law 2904 = .ok (.aload_n 1, 1) := by decide +kernel
theorem dL_law_2905 : decode cL_law 2905 = .ok (.aload_n 0, 1) := by decide +kernel
theorem dL_law_2906 : decode cL_law 2906 = .ok (.iload 4, 2) := by decide +kernel
theorem dL_law_2908 : decode cL_law 2908 = .ok (.iconst 1, 1) := by decide +kernel
theorem dL_law_2909 : decode cL_law 2909 = .ok (.iadd, 1) := by decide +kernel
theorem dL_law_2910 : decode cL_law 2910 = .ok (.iaload, 1) := by decide +kernel
theorem dL_law_2911 : decode cL_law 2911 = .ok (.aload_n 0, 1) := by decide +kernel
theorem dL_law_2912 : decode cL_law 2912 = .ok (.iload 4, 2) := by decide +kernel
theorem dL_law_2914 : decode cL_law 2914 = .ok (.iconst 2, 1) := by decide +kernel
theorem dL_law_2915 : decode cL_law 2915 = .ok (.iadd, 1) := by decide +kernel
theorem dL_law_2916 : decode cL_law 2916 = .ok (.iaload, 1) := by decide +kernel
theorem dL_law_2917 : decode cL_law 2917 = .ok (.i2l, 1) := by decide +kernel
theorem dL_law_2918 : decode cL_law 2918 = .ok (.bipush 32, 2) := by decide +kernel
theorem dL_law_2920 : decode cL_law 2920 = .ok (.lshl, 1) := by decide +kernel
theorem dL_law_2921 : decode cL_law 2921 = .ok (.aload_n 0, 1) := by decide +kernel
theorem dL_law_2922 : decode cL_law 2922 = .ok (.iload 4, 2) := by decide +kernel
theorem dL_law_2924 : decode cL_law 2924 = .ok (.iconst 3, 1) := by decide +kernel
theorem dL_law_2925 : decode cL_law 2925 = .ok (.iadd, 1) := by decide +kernel
theorem dL_law_2926 : decode cL_law 2926 = .ok (.iaload, 1) := by decide +kernel
theorem dL_law_2927 : decode cL_law 2927 = .ok (.i2l, 1) := by decide +kernel
theorem dL_law_2928 : decode cL_law 2928 = .ok (.ldc2_w 181, 3) := by decide +kernel
theorem dL_law_2931 : decode cL_law 2931 = .ok (.land, 1) := by decide +kernel
theorem dL_law_2932 : decode cL_law 2932 = .ok (.lor, 1) := by decide +kernel
theorem dL_law_2933 : decode cL_law 2933 = .ok (.aload_n 0, 1) := by decide +kernel
theorem dL_law_2934 : decode cL_law 2934 = .ok (.iload 4, 2) := by decide +kernel
theorem dL_law_2936 : decode cL_law 2936 = .ok (.iconst 4, 1) := by decide +kernel
theorem dL_law_2937 : decode cL_law 2937 = .ok (.iadd, 1) := by decide +kernel
theorem dL_law_2938 : decode cL_law 2938 = .ok (.iaload, 1) := by decide +kernel
theorem dL_law_2939 : decode cL_law 2939 = .ok (.i2l, 1) := by decide +kernel
theorem dL_law_2940 : decode cL_law 2940 = .ok (.bipush 32, 2) := by decide +kernel
theorem dL_law_2942 : decode cL_law 2942 = .ok (.lshl, 1) := by decide +kernel
theorem dL_law_2943 : decode cL_law 2943 = .ok (.aload_n 0, 1) := by decide +kernel
theorem dL_law_2944 : decode cL_law 2944 = .ok (.iload 4, 2) := by decide +kernel
theorem dL_law_2946 : decode cL_law 2946 = .ok (.iconst 5, 1) := by decide +kernel
theorem dL_law_2947 : decode cL_law 2947 = .ok (.iadd, 1) := by decide +kernel
theorem dL_law_2948 : decode cL_law 2948 = .ok (.iaload, 1) := by decide +kernel
theorem dL_law_2949 : decode cL_law 2949 = .ok (.i2l, 1) := by decide +kernel
theorem dL_law_2950 : decode cL_law 2950 = .ok (.ldc2_w 181, 3) := by decide +kernel
theorem dL_law_2953 : decode cL_law 2953 = .ok (.land, 1) := by decide +kernel
theorem dL_law_2954 : decode cL_law 2954 = .ok (.lor, 1) := by decide +kernel
theorem dL_law_2955 : decode cL_law 2955 = .ok (.aload_n 3, 1) := by decide +kernel
theorem dL_law_2956 : decode cL_law 2956 = .ok (.invokestatic 284, 3) := by decide +kernel
theorem dL_law_2959 : decode cL_law 2959 = .ok (.istore 5, 2) := by decide +kernel
theorem dL_law_2961 : decode cL_law 2961 = .ok (.aload_n 2, 1) := by decide +kernel
theorem dL_law_2962 : decode cL_law 2962 = .ok (.aload_n 0, 1) := by decide +kernel
theorem dL_law_2963 : decode cL_law 2963 = .ok (.iload 4, 2) := by decide +kernel
theorem dL_law_2965 : decode cL_law 2965 = .ok (.iconst 1, 1) := by decide +kernel
theorem dL_law_2966 : decode cL_law 2966 = .ok (.iadd, 1) := by decide +kernel
theorem dL_law_2967 : decode cL_law 2967 = .ok (.iaload, 1) := by decide +kernel
theorem dL_law_2968 : decode cL_law 2968 = .ok (.aload_n 0, 1) := by decide +kernel
theorem dL_law_2969 : decode cL_law 2969 = .ok (.iload 4, 2) := by decide +kernel
theorem dL_law_2971 : decode cL_law 2971 = .ok (.iconst 2, 1) := by decide +kernel
theorem dL_law_2972 : decode cL_law 2972 = .ok (.iadd, 1) := by decide +kernel
theorem dL_law_2973 : decode cL_law 2973 = .ok (.iaload, 1) := by decide +kernel
theorem dL_law_2974 : decode cL_law 2974 = .ok (.i2l, 1) := by decide +kernel
theorem dL_law_2975 : decode cL_law 2975 = .ok (.bipush 32, 2) := by decide +kernel
theorem dL_law_2977 : decode cL_law 2977 = .ok (.lshl, 1) := by decide +kernel
theorem dL_law_2978 : decode cL_law 2978 = .ok (.aload_n 0, 1) := by decide +kernel
theorem dL_law_2979 : decode cL_law 2979 = .ok (.iload 4, 2) := by decide +kernel
theorem dL_law_2981 : decode cL_law 2981 = .ok (.iconst 3, 1) := by decide +kernel
theorem dL_law_2982 : decode cL_law 2982 = .ok (.iadd, 1) := by decide +kernel
theorem dL_law_2983 : decode cL_law 2983 = .ok (.iaload, 1) := by decide +kernel
theorem dL_law_2984 : decode cL_law 2984 = .ok (.i2l, 1) := by decide +kernel
theorem dL_law_2985 : decode cL_law 2985 = .ok (.ldc2_w 181, 3) := by decide +kernel
theorem dL_law_2988 : decode cL_law 2988 = .ok (.land, 1) := by decide +kernel
theorem dL_law_2989 : decode cL_law 2989 = .ok (.lor, 1) := by decide +kernel
theorem dL_law_2990 : decode cL_law 2990 = .ok (.aload_n 0, 1) := by decide +kernel
theorem dL_law_2991 : decode cL_law 2991 = .ok (.iload 4, 2) := by decide +kernel
theorem dL_law_2993 : decode cL_law 2993 = .ok (.iconst 4, 1) := by decide +kernel
theorem dL_law_2994 : decode cL_law 2994 = .ok (.iadd, 1) := by decide +kernel
theorem dL_law_2995 : decode cL_law 2995 = .ok (.iaload, 1) := by decide +kernel
theorem dL_law_2996 : decode cL_law 2996 = .ok (.i2l, 1) := by decide +kernel
theorem dL_law_2997 : decode cL_law 2997 = .ok (.bipush 32, 2) := by decide +kernel
theorem dL_law_2999 : decode cL_law 2999 = .ok (.lshl, 1) := by decide +kernel
theorem dL_law_3000 : decode cL_law 3000 = .ok (.aload_n 0, 1) := by decide +kernel
theorem dL_law_3001 : decode cL_law 3001 = .ok (.iload 4, 2) := by decide +kernel
theorem dL_law_3003 : decode cL_law 3003 = .ok (.iconst 5, 1) := by decide +kernel
theorem dL_law_3004 : decode cL_law 3004 = .ok (.iadd, 1) := by decide +kernel
theorem dL_law_3005 : decode cL_law 3005 = .ok (.iaload, 1) := by decide +kernel
theorem dL_law_3006 : decode cL_law 3006 = .ok (.i2l, 1) := by decide +kernel
theorem dL_law_3007 : decode cL_law 3007 = .ok (.ldc2_w 181, 3) := by decide +kernel
theorem dL_law_3010 : decode cL_law 3010 = .ok (.land, 1) := by decide +kernel
theorem dL_law_3011 : decode cL_law 3011 = .ok (.lor, 1) := by decide +kernel
theorem dL_law_3012 : decode cL_law 3012 = .ok (.invokevirtual 287, 3) := by decide +kernel
theorem dL_law_3015 : decode cL_law 3015 = .ok (.lstore 6, 2) := by decide +kernel
theorem dL_law_3017 : decode cL_law 3017 = .ok (.aload_n 2, 1) := by decide +kernel
theorem dL_law_3018 : decode cL_law 3018 = .ok (.invokevirtual 177, 3) := by decide +kernel
theorem dL_law_3021 : decode cL_law 3021 = .ok (.iload 5, 2) := by decide +kernel
theorem dL_law_3023 : decode cL_law 3023 = .ok (.if_icmp .eq 5, 3) := by decide +kernel
theorem dL_law_3026 : decode cL_law 3026 = .ok (.iconst 0, 1) := by decide +kernel
theorem dL_law_3027 : decode cL_law 3027 = .ok (.ireturn, 1) := by decide +kernel
theorem dL_law_3028 : decode cL_law 3028 = .ok (.iload 5, 2) := by decide +kernel
theorem dL_law_3030 : decode cL_law 3030 = .ok (.ifCond .ne 14, 3) := by decide +kernel
theorem dL_law_3033 : decode cL_law 3033 = .ok (.aload_n 3, 1) := by decide +kernel
theorem dL_law_3034 : decode cL_law 3034 = .ok (.iconst 0, 1) := by decide +kernel
theorem dL_law_3035 : decode cL_law 3035 = .ok (.laload, 1) := by decide +kernel
theorem dL_law_3036 : decode cL_law 3036 = .ok (.lload 6, 2) := by decide +kernel
theorem dL_law_3038 : decode cL_law 3038 = .ok (.lcmp, 1) := by decide +kernel
theorem dL_law_3039 : decode cL_law 3039 = .ok (.ifCond .eq 5, 3) := by decide +kernel
theorem dL_law_3042 : decode cL_law 3042 = .ok (.iconst 0, 1) := by decide +kernel
theorem dL_law_3043 : decode cL_law 3043 = .ok (.ireturn, 1) := by decide +kernel
theorem dL_law_3044 : decode cL_law 3044 = .ok (.goto 1189, 3) := by decide +kernel
theorem dL_law_3047 : decode cL_law 3047 = .ok (.aload_n 1, 1) := by decide +kernel
theorem dL_law_3048 : decode cL_law 3048 = .ok (.aload_n 0, 1) := by decide +kernel
theorem dL_law_3049 : decode cL_law 3049 = .ok (.iload 4, 2) := by decide +kernel
theorem dL_law_3051 : decode cL_law 3051 = .ok (.iconst 1, 1) := by decide +kernel
theorem dL_law_3052 : decode cL_law 3052 = .ok (.iadd, 1) := by decide +kernel
theorem dL_law_3053 : decode cL_law 3053 = .ok (.iaload, 1) := by decide +kernel
theorem dL_law_3054 : decode cL_law 3054 = .ok (.aload_n 0, 1) := by decide +kernel
theorem dL_law_3055 : decode cL_law 3055 = .ok (.iload 4, 2) := by decide +kernel
theorem dL_law_3057 : decode cL_law 3057 = .ok (.iconst 2, 1) := by decide +kernel
theorem dL_law_3058 : decode cL_law 3058 = .ok (.iadd, 1) := by decide +kernel
theorem dL_law_3059 : decode cL_law 3059 = .ok (.iaload, 1) := by decide +kernel
theorem dL_law_3060 : decode cL_law 3060 = .ok (.i2c, 1) := by decide +kernel
theorem dL_law_3061 : decode cL_law 3061 = .ok (.aload_n 3, 1) := by decide +kernel
theorem dL_law_3062 : decode cL_law 3062 = .ok (.invokestatic 288, 3) := by decide +kernel
theorem dL_law_3065 : decode cL_law 3065 = .ok (.istore 5, 2) := by decide +kernel
theorem dL_law_3067 : decode cL_law 3067 = .ok (.aload_n 2, 1) := by decide +kernel
theorem dL_law_3068 : decode cL_law 3068 = .ok (.aload_n 0, 1) := by decide +kernel
theorem dL_law_3069 : decode cL_law 3069 = .ok (.iload 4, 2) := by decide +kernel
theorem dL_law_3071 : decode cL_law 3071 = .ok (.iconst 1, 1) := by decide +kernel
theorem dL_law_3072 : decode cL_law 3072 = .ok (.iadd, 1) := by decide +kernel
theorem dL_law_3073 : decode cL_law 3073 = .ok (.iaload, 1) := by decide +kernel
theorem dL_law_3074 : decode cL_law 3074 = .ok (.aload_n 0, 1) := by decide +kernel
theorem dL_law_3075 : decode cL_law 3075 = .ok (.iload 4, 2) := by decide +kernel
theorem dL_law_3077 : decode cL_law 3077 = .ok (.iconst 2, 1) := by decide +kernel
theorem dL_law_3078 : decode cL_law 3078 = .ok (.iadd, 1) := by decide +kernel
theorem dL_law_3079 : decode cL_law 3079 = .ok (.iaload, 1) := by decide +kernel
theorem dL_law_3080 : decode cL_law 3080 = .ok (.i2c, 1) := by decide +kernel
theorem dL_law_3081 : decode cL_law 3081 = .ok (.invokevirtual 290, 3) := by decide +kernel
theorem dL_law_3084 : decode cL_law 3084 = .ok (.lstore 6, 2) := by decide +kernel
theorem dL_law_3086 : decode cL_law 3086 = .ok (.aload_n 2, 1) := by decide +kernel
theorem dL_law_3087 : decode cL_law 3087 = .ok (.invokevirtual 177, 3) := by decide +kernel
theorem dL_law_3090 : decode cL_law 3090 = .ok (.iload 5, 2) := by decide +kernel
theorem dL_law_3092 : decode cL_law 3092 = .ok (.if_icmp .eq 5, 3) := by decide +kernel
theorem dL_law_3095 : decode cL_law 3095 = .ok (.iconst 0, 1) := by decide +kernel
theorem dL_law_3096 : decode cL_law 3096 = .ok (.ireturn, 1) := by decide +kernel
theorem dL_law_3097 : decode cL_law 3097 = .ok (.iload 5, 2) := by decide +kernel
theorem dL_law_3099 : decode cL_law 3099 = .ok (.ifCond .ne 14, 3) := by decide +kernel
theorem dL_law_3102 : decode cL_law 3102 = .ok (.aload_n 3, 1) := by decide +kernel
theorem dL_law_3103 : decode cL_law 3103 = .ok (.iconst 0, 1) := by decide +kernel
theorem dL_law_3104 : decode cL_law 3104 = .ok (.laload, 1) := by decide +kernel
theorem dL_law_3105 : decode cL_law 3105 = .ok (.lload 6, 2) := by decide +kernel
theorem dL_law_3107 : decode cL_law 3107 = .ok (.lcmp, 1) := by decide +kernel
theorem dL_law_3108 : decode cL_law 3108 = .ok (.ifCond .eq 5, 3) := by decide +kernel
theorem dL_law_3111 : decode cL_law 3111 = .ok (.iconst 0, 1) := by decide +kernel
theorem dL_law_3112 : decode cL_law 3112 = .ok (.ireturn, 1) := by decide +kernel
theorem dL_law_3113 : decode cL_law 3113 = .ok (.goto 1120, 3) := by decide +kernel
theorem dL_law_3116 : decode cL_law 3116 = .ok (.aload_n 1, 1) := by decide +kernel
theorem dL_law_3117 : decode cL_law 3117 = .ok (.aload_n 0, 1) := by decide +kernel
theorem dL_law_3118 : decode cL_law 3118 = .ok (.iload 4, 2) := by decide +kernel
theorem dL_law_3120 : decode cL_law 3120 = .ok (.iconst 1, 1) := by decide +kernel
theorem dL_law_3121 : decode cL_law 3121 = .ok (.iadd, 1) := by decide +kernel
theorem dL_law_3122 : decode cL_law 3122 = .ok (.iaload, 1) := by decide +kernel
theorem dL_law_3123 : decode cL_law 3123 = .ok (.aload_n 0, 1) := by decide +kernel
theorem dL_law_3124 : decode cL_law 3124 = .ok (.iload 4, 2) := by decide +kernel
theorem dL_law_3126 : decode cL_law 3126 = .ok (.iconst 2, 1) := by decide +kernel
theorem dL_law_3127 : decode cL_law 3127 = .ok (.iadd, 1) := by decide +kernel
theorem dL_law_3128 : decode cL_law 3128 = .ok (.iaload, 1) := by decide +kernel
theorem dL_law_3129 : decode cL_law 3129 = .ok (.aload_n 0, 1) := by decide +kernel
theorem dL_law_3130 : decode cL_law 3130 = .ok (.iload 4, 2) := by decide +kernel
theorem dL_law_3132 : decode cL_law 3132 = .ok (.iconst 3, 1) := by decide +kernel
theorem dL_law_3133 : decode cL_law 3133 = .ok (.iadd, 1) := by decide +kernel
theorem dL_law_3134 : decode cL_law 3134 = .ok (.iaload, 1) := by decide +kernel
theorem dL_law_3135 : decode cL_law 3135 = .ok (.ifCond .eq 7, 3) := by decide +kernel
theorem dL_law_3138 : decode cL_law 3138 = .ok (.iconst 1, 1) := by decide +kernel
theorem dL_law_3139 : decode cL_law 3139 = .ok (.goto 4, 3) := by decide +kernel
theorem dL_law_3142 : decode cL_law 3142 = .ok (.iconst 0, 1) := by decide +kernel
theorem dL_law_3143 : decode cL_law 3143 = .ok (.aload_n 0, 1) := by decide +kernel
theorem dL_law_3144 : decode cL_law 3144 = .ok (.iload 4, 2) := by decide +kernel
theorem dL_law_3146 : decode cL_law 3146 = .ok (.iconst 4, 1) := by decide +kernel
theorem dL_law_3147 : decode cL_law 3147 = .ok (.iadd, 1) := by decide +kernel
theorem dL_law_3148 : decode cL_law 3148 = .ok (.iaload, 1) := by decide +kernel
theorem dL_law_3149 : decode cL_law 3149 = .ok (.aload_n 3, 1) := by decide +kernel
theorem dL_law_3150 : decode cL_law 3150 = .ok (.invokestatic 291, 3) := by decide +kernel
theorem dL_law_3153 : decode cL_law 3153 = .ok (.istore 5, 2) := by decide +kernel
theorem dL_law_3155 : decode cL_law 3155 = .ok (.aload_n 2, 1) := by decide +kernel
theorem dL_law_3156 : decode cL_law 3156 = .ok (.aload_n 0, 1) := by decide +kernel
theorem dL_law_3157 : decode cL_law 3157 = .ok (.iload 4, 2) := by decide +kernel
theorem dL_law_3159 : decode cL_law 3159 = .ok (.iconst 1, 1) := by decide +kernel
theorem dL_law_3160 : decode cL_law 3160 = .ok (.iadd, 1) := by decide +kernel
theorem dL_law_3161 : decode cL_law 3161 = .ok (.iaload, 1) := by decide +kernel
theorem dL_law_3162 : decode cL_law 3162 = .ok (.aload_n 0, 1) := by decide +kernel
theorem dL_law_3163 : decode cL_law 3163 = .ok (.iload 4, 2) := by decide +kernel
theorem dL_law_3165 : decode cL_law 3165 = .ok (.iconst 2, 1) := by decide +kernel
theorem dL_law_3166 : decode cL_law 3166 = .ok (.iadd, 1) := by decide +kernel
theorem dL_law_3167 : decode cL_law 3167 = .ok (.iaload, 1) := by decide +kernel
theorem dL_law_3168 : decode cL_law 3168 = .ok (.aload_n 0, 1) := by decide +kernel
theorem dL_law_3169 : decode cL_law 3169 = .ok (.iload 4, 2) := by decide +kernel
theorem dL_law_3171 : decode cL_law 3171 = .ok (.iconst 3, 1) := by decide +kernel
theorem dL_law_3172 : decode cL_law 3172 = .ok (.iadd, 1) := by decide +kernel
theorem dL_law_3173 : decode cL_law 3173 = .ok (.iaload, 1) := by decide +kernel
theorem dL_law_3174 : decode cL_law 3174 = .ok (.ifCond .eq 7, 3) := by decide +kernel
theorem dL_law_3177 : decode cL_law 3177 = .ok (.iconst 1, 1) := by decide +kernel
theorem dL_law_3178 : decode cL_law 3178 = .ok (.goto 4, 3) := by decide +kernel
theorem dL_law_3181 : decode cL_law 3181 = .ok (.iconst 0, 1) := by decide +kernel
theorem dL_law_3182 : decode cL_law 3182 = .ok (.aload_n 0, 1) := by decide +kernel
theorem dL_law_3183 : decode cL_law 3183 = .ok (.iload 4, 2) := by decide +kernel
theorem dL_law_3185 : decode cL_law 3185 = .ok (.iconst 4, 1) := by decide +kernel
theorem dL_law_3186 : decode cL_law 3186 = .ok (.iadd, 1) := by decide +kernel
theorem dL_law_3187 : decode cL_law 3187 = .ok (.iaload, 1) := by decide +kernel
theorem dL_law_3188 : decode cL_law 3188 = .ok (.invokevirtual 293, 3) := by decide +kernel
theorem dL_law_3191 : decode cL_law 3191 = .ok (.lstore 6, 2) := by decide +kernel
theorem dL_law_3193 : decode cL_law 3193 = .ok (.aload_n 2, 1) := by decide +kernel
theorem dL_law_3194 : decode cL_law 3194 = .ok (.invokevirtual 177, 3) := by decide +kernel
theorem dL_law_3197 : decode cL_law 3197 = .ok (.iload 5, 2) := by decide +kernel
theorem dL_law_3199 : decode cL_law 3199 = .ok (.if_icmp .eq 5, 3) := by decide +kernel
theorem dL_law_3202 : decode cL_law 3202 = .ok (.iconst 0, 1) := by decide +kernel
theorem dL_law_3203 : decode cL_law 3203 = .ok (.ireturn, 1) := by decide +kernel
theorem dL_law_3204 : decode cL_law 3204 = .ok (.iload 5, 2) := by decide +kernel
theorem dL_law_3206 : decode cL_law 3206 = .ok (.ifCond .ne 14, 3) := by decide +kernel
theorem dL_law_3209 : decode cL_law 3209 = .ok (.aload_n 3, 1) := by decide +kernel
theorem dL_law_3210 : decode cL_law 3210 = .ok (.iconst 0, 1) := by decide +kernel
theorem dL_law_3211 : decode cL_law 3211 = .ok (.laload, 1) := by decide +kernel
theorem dL_law_3212 : decode cL_law 3212 = .ok (.lload 6, 2) := by decide +kernel
theorem dL_law_3214 : decode cL_law 3214 = .ok (.lcmp, 1) := by decide +kernel
theorem dL_law_3215 : decode cL_law 3215 = .ok (.ifCond .eq 5, 3) := by decide +kernel
theorem dL_law_3218 : decode cL_law 3218 = .ok (.iconst 0, 1) := by decide +kernel
theorem dL_law_3219 : decode cL_law 3219 = .ok (.ireturn, 1) := by decide +kernel
theorem dL_law_3220 : decode cL_law 3220 = .ok (.goto 1013, 3) := by decide +kernel
theorem dL_law_3223 : decode cL_law 3223 = .ok (.aload_n 1, 1) := by decide +kernel
theorem dL_law_3224 : decode cL_law 3224 = .ok (.aload_n 0, 1) := by decide +kernel
theorem dL_law_3225 : decode cL_law 3225 = .ok (.iload 4, 2) := by decide +kernel
theorem dL_law_3227 : decode cL_law 3227 = .ok (.iconst 1, 1) := by decide +kernel
theorem dL_law_3228 : decode cL_law 3228 = .ok (.iadd, 1) := by decide +kernel
theorem dL_law_3229 : decode cL_law 3229 = .ok (.iaload, 1) := by decide +kernel
theorem dL_law_3230 : decode cL_law 3230 = .ok (.aload_n 0, 1) := by decide +kernel
theorem dL_law_3231 : decode cL_law 3231 = .ok (.iload 4, 2) := by decide +kernel
theorem dL_law_3233 : decode cL_law 3233 = .ok (.iconst 2, 1) := by decide +kernel
theorem dL_law_3234 : decode cL_law 3234 = .ok (.iadd, 1) := by decide +kernel
theorem dL_law_3235 : decode cL_law 3235 = .ok (.iaload, 1) := by decide +kernel
theorem dL_law_3236 : decode cL_law 3236 = .ok (.aload_n 0, 1) := by decide +kernel
theorem dL_law_3237 : decode cL_law 3237 = .ok (.iload 4, 2) := by decide +kernel
theorem dL_law_3239 : decode cL_law 3239 = .ok (.iconst 3, 1) := by decide +kernel
theorem dL_law_3240 : decode cL_law 3240 = .ok (.iadd, 1) := by decide +kernel
theorem dL_law_3241 : decode cL_law 3241 = .ok (.iaload, 1) := by decide +kernel
theorem dL_law_3242 : decode cL_law 3242 = .ok (.aload_n 3, 1) := by decide +kernel
theorem dL_law_3243 : decode cL_law 3243 = .ok (.invokestatic 294, 3) := by decide +kernel
theorem dL_law_3246 : decode cL_law 3246 = .ok (.istore 5, 2) := by decide +kernel
theorem dL_law_3248 : decode cL_law 3248 = .ok (.aload_n 2, 1) := by decide +kernel
theorem dL_law_3249 : decode cL_law 3249 = .ok (.aload_n 0, 1) := by decide +kernel
theorem dL_law_3250 : decode cL_law 3250 = .ok (.iload 4, 2) := by decide +kernel
theorem dL_law_3252 : decode cL_law 3252 = .ok (.iconst 1, 1) := by decide +kernel
theorem dL_law_3253 : decode cL_law 3253 = .ok (.iadd, 1) := by decide +kernel
theorem dL_law_3254 : decode cL_law 3254 = .ok (.iaload, 1) := by decide +kernel
theorem dL_law_3255 : decode cL_law 3255 = .ok (.aload_n 0, 1) := by decide +kernel
theorem dL_law_3256 : decode cL_law 3256 = .ok (.iload 4, 2) := by decide +kernel
theorem dL_law_3258 : decode cL_law 3258 = .ok (.iconst 2, 1) := by decide +kernel
theorem dL_law_3259 : decode cL_law 3259 = .ok (.iadd, 1) := by decide +kernel
theorem dL_law_3260 : decode cL_law 3260 = .ok (.iaload, 1) := by decide +kernel
theorem dL_law_3261 : decode cL_law 3261 = .ok (.aload_n 0, 1) := by decide +kernel
theorem dL_law_3262 : decode cL_law 3262 = .ok (.iload 4, 2) := by decide +kernel
theorem dL_law_3264 : decode cL_law 3264 = .ok (.iconst 3, 1) := by decide +kernel
theorem dL_law_3265 : decode cL_law 3265 = .ok (.iadd, 1) := by decide +kernel
theorem dL_law_3266 : decode cL_law 3266 = .ok (.iaload, 1) := by decide +kernel
theorem dL_law_3267 : decode cL_law 3267 = .ok (.invokevirtual 296, 3) := by decide +kernel
theorem dL_law_3270 : decode cL_law 3270 = .ok (.lstore 6, 2) := by decide +kernel
theorem dL_law_3272 : decode cL_law 3272 = .ok (.aload_n 2, 1) := by decide +kernel
theorem dL_law_3273 : decode cL_law 3273 = .ok (.invokevirtual 177, 3) := by decide +kernel
theorem dL_law_3276 : decode cL_law 3276 = .ok (.iload 5, 2) := by decide +kernel
theorem dL_law_3278 : decode cL_law 3278 = .ok (.if_icmp .eq 5, 3) := by decide +kernel
theorem dL_law_3281 : decode cL_law 3281 = .ok (.iconst 0, 1) := by decide +kernel
theorem dL_law_3282 : decode cL_law 3282 = .ok (.ireturn, 1) := by decide +kernel
theorem dL_law_3283 : decode cL_law 3283 = .ok (.iload 5, 2) := by decide +kernel
theorem dL_law_3285 : decode cL_law 3285 = .ok (.ifCond .ne 14, 3) := by decide +kernel
theorem dL_law_3288 : decode cL_law 3288 = .ok (.aload_n 3, 1) := by decide +kernel
theorem dL_law_3289 : decode cL_law 3289 = .ok (.iconst 0, 1) := by decide +kernel
theorem dL_law_3290 : decode cL_law 3290 = .ok (.laload, 1) := by decide +kernel
theorem dL_law_3291 : decode cL_law 3291 = .ok (.lload 6, 2) := by decide +kernel
theorem dL_law_3293 : decode cL_law 3293 = .ok (.lcmp, 1) := by decide +kernel
theorem dL_law_3294 : decode cL_law 3294 = .ok (.ifCond .eq 5, 3) := by decide +kernel
theorem dL_law_3297 : decode cL_law 3297 = .ok (.iconst 0, 1) := by decide +kernel
theorem dL_law_3298 : decode cL_law 3298 = .ok (.ireturn, 1) := by decide +kernel
theorem dL_law_3299 : decode cL_law 3299 = .ok (.goto 934, 3) := by decide +kernel
theorem dL_law_3302 : decode cL_law 3302 = .ok (.aload_n 1, 1) := by decide +kernel
theorem dL_law_3303 : decode cL_law 3303 = .ok (.aload_n 0, 1) := by decide +kernel
theorem dL_law_3304 : decode cL_law 3304 = .ok (.iload 4, 2) := by decide +kernel
theorem dL_law_3306 : decode cL_law 3306 = .ok (.iconst 1, 1) := by decide +kernel
theorem dL_law_3307 : decode cL_law 3307 = .ok (.iadd, 1) := by decide +kernel
theorem dL_law_3308 : decode cL_law 3308 = .ok (.iaload, 1) := by decide +kernel
theorem dL_law_3309 : decode cL_law 3309 = .ok (.aload_n 0, 1) := by decide +kernel
theorem dL_law_3310 : decode cL_law 3310 = .ok (.iload 4, 2) := by decide +kernel
theorem dL_law_3312 : decode cL_law 3312 = .ok (.iconst 2, 1) := by decide +kernel
theorem dL_law_3313 : decode cL_law 3313 = .ok (.iadd, 1) := by decide +kernel
theorem dL_law_3314 : decode cL_law 3314 = .ok (.iaload, 1) := by decide +kernel
theorem dL_law_3315 : decode cL_law 3315 = .ok (.aload_n 0, 1) := by decide +kernel
theorem dL_law_3316 : decode cL_law 3316 = .ok (.iload 4, 2) := by decide +kernel
theorem dL_law_3318 : decode cL_law 3318 = .ok (.iconst 3, 1) := by decide +kernel
theorem dL_law_3319 : decode cL_law 3319 = .ok (.iadd, 1) := by decide +kernel
theorem dL_law_3320 : decode cL_law 3320 = .ok (.iaload, 1) := by decide +kernel
theorem dL_law_3321 : decode cL_law 3321 = .ok (.aload_n 3, 1) := by decide +kernel
theorem dL_law_3322 : decode cL_law 3322 = .ok (.invokestatic 297, 3) := by decide +kernel
theorem dL_law_3325 : decode cL_law 3325 = .ok (.istore 5, 2) := by decide +kernel
theorem dL_law_3327 : decode cL_law 3327 = .ok (.aload_n 2, 1) := by decide +kernel
theorem dL_law_3328 : decode cL_law 3328 = .ok (.aload_n 0, 1) := by decide +kernel
theorem dL_law_3329 : decode cL_law 3329 = .ok (.iload 4, 2) := by decide +kernel
theorem dL_law_3331 : decode cL_law 3331 = .ok (.iconst 1, 1) := by decide +kernel
theorem dL_law_3332 : decode cL_law 3332 = .ok (.iadd, 1) := by decide +kernel
theorem dL_law_3333 : decode cL_law 3333 = .ok (.iaload, 1) := by decide +kernel
theorem dL_law_3334 : decode cL_law 3334 = .ok (.aload_n 0, 1) := by decide +kernel
theorem dL_law_3335 : decode cL_law 3335 = .ok (.iload 4, 2) := by decide +kernel
theorem dL_law_3337 : decode cL_law 3337 = .ok (.iconst 2, 1) := by decide +kernel
theorem dL_law_3338 : decode cL_law 3338 = .ok (.iadd, 1) := by decide +kernel
theorem dL_law_3339 : decode cL_law 3339 = .ok (.iaload, 1) := by decide +kernel
theorem dL_law_3340 : decode cL_law 3340 = .ok (.aload_n 0, 1) := by decide +kernel
theorem dL_law_3341 : decode cL_law 3341 = .ok (.iload 4, 2) := by decide +kernel
theorem dL_law_3343 : decode cL_law 3343 = .ok (.iconst 3, 1) := by decide +kernel
theorem dL_law_3344 : decode cL_law 3344 = .ok (.iadd, 1) := by decide +kernel
theorem dL_law_3345 : decode cL_law 3345 = .ok (.iaload, 1) := by decide +kernel
theorem dL_law_3346 : decode cL_law 3346 = .ok (.invokevirtual 299, 3) := by decide +kernel
theorem dL_law_3349 : decode cL_law 3349 = .ok (.lstore 6, 2) := by decide +kernel
theorem dL_law_3351 : decode cL_law 3351 = .ok (.aload_n 2, 1) := by decide +kernel
theorem dL_law_3352 : decode cL_law 3352 = .ok (.invokevirtual 177, 3) := by decide +kernel
theorem dL_law_3355 : decode cL_law 3355 = .ok (.iload 5, 2) := by decide +kernel
theorem dL_law_3357 : decode cL_law 3357 = .ok (.if_icmp .eq 5, 3) := by decide +kernel
theorem dL_law_3360 : decode cL_law 3360 = .ok (.iconst 0, 1) := by decide +kernel
theorem dL_law_3361 : decode cL_law 3361 = .ok (.ireturn, 1) := by decide +kernel
theorem dL_law_3362 : decode cL_law 3362 = .ok (.iload 5, 2) := by decide +kernel
theorem dL_law_3364 : decode cL_law 3364 = .ok (.ifCond .ne 14, 3) := by decide +kernel
theorem dL_law_3367 : decode cL_law 3367 = .ok (.aload_n 3, 1) := by decide +kernel
theorem dL_law_3368 : decode cL_law 3368 = .ok (.iconst 0, 1) := by decide +kernel
theorem dL_law_3369 : decode cL_law 3369 = .ok (.laload, 1) := by decide +kernel
theorem dL_law_3370 : decode cL_law 3370 = .ok (.lload 6, 2) := by decide +kernel
theorem dL_law_3372 : decode cL_law 3372 = .ok (.lcmp, 1) := by decide +kernel
theorem dL_law_3373 : decode cL_law 3373 = .ok (.ifCond .eq 5, 3) := by decide +kernel
theorem dL_law_3376 : decode cL_law 3376 = .ok (.iconst 0, 1) := by decide +kernel
theorem dL_law_3377 : decode cL_law 3377 = .ok (.ireturn, 1) := by decide +kernel
theorem dL_law_3378 : decode cL_law 3378 = .ok (.goto 855, 3) := by decide +kernel
theorem dL_law_3381 : decode cL_law 3381 = .ok (.aload_n 1, 1) := by decide +kernel
theorem dL_law_3382 : decode cL_law 3382 = .ok (.aload_n 0, 1) := by decide +kernel
theorem dL_law_3383 : decode cL_law 3383 = .ok (.iload 4, 2) := by decide +kernel
theorem dL_law_3385 : decode cL_law 3385 = .ok (.iconst 1, 1) := by decide +kernel
theorem dL_law_3386 : decode cL_law 3386 = .ok (.iadd, 1) := by decide +kernel
theorem dL_law_3387 : decode cL_law 3387 = .ok (.iaload, 1) := by decide +kernel
theorem dL_law_3388 : decode cL_law 3388 = .ok (.aload_n 0, 1) := by decide +kernel
theorem dL_law_3389 : decode cL_law 3389 = .ok (.iload 4, 2) := by decide +kernel
theorem dL_law_3391 : decode cL_law 3391 = .ok (.iconst 2, 1) := by decide +kernel
theorem dL_law_3392 : decode cL_law 3392 = .ok (.iadd, 1) := by decide +kernel
theorem dL_law_3393 : decode cL_law 3393 = .ok (.iaload, 1) := by decide +kernel
theorem dL_law_3394 : decode cL_law 3394 = .ok (.aload_n 3, 1) := by decide +kernel
theorem dL_law_3395 : decode cL_law 3395 = .ok (.invokestatic 300, 3) := by decide +kernel
theorem dL_law_3398 : decode cL_law 3398 = .ok (.istore 5, 2) := by decide +kernel
theorem dL_law_3400 : decode cL_law 3400 = .ok (.aload_n 2, 1) := by decide +kernel
theorem dL_law_3401 : decode cL_law 3401 = .ok (.aload_n 0, 1) := by decide +kernel
theorem dL_law_3402 : decode cL_law 3402 = .ok (.iload 4, 2) := by decide +kernel
theorem dL_law_3404 : decode cL_law 3404 = .ok (.iconst 1, 1) := by decide +kernel
theorem dL_law_3405 : decode cL_law 3405 = .ok (.iadd, 1) := by decide +kernel
theorem dL_law_3406 : decode cL_law 3406 = .ok (.iaload, 1) := by decide +kernel
theorem dL_law_3407 : decode cL_law 3407 = .ok (.aload_n 0, 1) := by decide +kernel
theorem dL_law_3408 : decode cL_law 3408 = .ok (.iload 4, 2) := by decide +kernel
theorem dL_law_3410 : decode cL_law 3410 = .ok (.iconst 2, 1) := by decide +kernel
theorem dL_law_3411 : decode cL_law 3411 = .ok (.iadd, 1) := by decide +kernel
theorem dL_law_3412 : decode cL_law 3412 = .ok (.iaload, 1) := by decide +kernel
theorem dL_law_3413 : decode cL_law 3413 = .ok (.invokevirtual 302, 3) := by decide +kernel
theorem dL_law_3416 : decode cL_law 3416 = .ok (.istore 6, 2) := by decide +kernel
theorem dL_law_3418 : decode cL_law 3418 = .ok (.aload_n 2, 1) := by decide +kernel
theorem dL_law_3419 : decode cL_law 3419 = .ok (.invokevirtual 177, 3) := by decide +kernel
theorem dL_law_3422 : decode cL_law 3422 = .ok (.iload 5, 2) := by decide +kernel
theorem dL_law_3424 : decode cL_law 3424 = .ok (.if_icmp .eq 5, 3) := by decide +kernel
theorem dL_law_3427 : decode cL_law 3427 = .ok (.iconst 0, 1) := by decide +kernel
theorem dL_law_3428 : decode cL_law 3428 = .ok (.ireturn, 1) := by decide +kernel
theorem dL_law_3429 : decode cL_law 3429 = .ok (.iload 5, 2) := by decide +kernel
theorem dL_law_3431 : decode cL_law 3431 = .ok (.ifCond .ne 15, 3) := by decide +kernel
theorem dL_law_3434 : decode cL_law 3434 = .ok (.aload_n 3, 1) := by decide +kernel
theorem dL_law_3435 : decode cL_law 3435 = .ok (.iconst 0, 1) := by decide +kernel
theorem dL_law_3436 : decode cL_law 3436 = .ok (.laload, 1) := by decide +kernel
theorem dL_law_3437 : decode cL_law 3437 = .ok (.iload 6, 2) := by decide +kernel
theorem dL_law_3439 : decode cL_law 3439 = .ok (.i2l, 1) := by decide +kernel
theorem dL_law_3440 : decode cL_law 3440 = .ok (.lcmp, 1) := by decide +kernel
theorem dL_law_3441 : decode cL_law 3441 = .ok (.ifCond .eq 5, 3) := by decide +kernel
theorem dL_law_3444 : decode cL_law 3444 = .ok (.iconst 0, 1) := by decide +kernel
theorem dL_law_3445 : decode cL_law 3445 = .ok (.ireturn, 1) := by decide +kernel
theorem dL_law_3446 : decode cL_law 3446 = .ok (.goto 787, 3) := by decide +kernel
theorem dL_law_3449 : decode cL_law 3449 = .ok (.aload_n 1, 1) := by decide +kernel
theorem dL_law_3450 : decode cL_law 3450 = .ok (.aload_n 0, 1) := by decide +kernel
theorem dL_law_3451 : decode cL_law 3451 = .ok (.iload 4, 2) := by decide +kernel
theorem dL_law_3453 : decode cL_law 3453 = .ok (.iconst 1, 1) := by decide +kernel
theorem dL_law_3454 : decode cL_law 3454 = .ok (.iadd, 1) := by decide +kernel
theorem dL_law_3455 : decode cL_law 3455 = .ok (.iaload, 1) := by decide +kernel
theorem dL_law_3456 : decode cL_law 3456 = .ok (.aload_n 0, 1) := by decide +kernel
theorem dL_law_3457 : decode cL_law 3457 = .ok (.iload 4, 2) := by decide +kernel
theorem dL_law_3459 : decode cL_law 3459 = .ok (.iconst 2, 1) := by decide +kernel
theorem dL_law_3460 : decode cL_law 3460 = .ok (.iadd, 1) := by decide +kernel
theorem dL_law_3461 : decode cL_law 3461 = .ok (.iaload, 1) := by decide +kernel
theorem dL_law_3462 : decode cL_law 3462 = .ok (.aload_n 0, 1) := by decide +kernel
theorem dL_law_3463 : decode cL_law 3463 = .ok (.iload 4, 2) := by decide +kernel
theorem dL_law_3465 : decode cL_law 3465 = .ok (.iconst 3, 1) := by decide +kernel
theorem dL_law_3466 : decode cL_law 3466 = .ok (.iadd, 1) := by decide +kernel
theorem dL_law_3467 : decode cL_law 3467 = .ok (.iaload, 1) := by decide +kernel
theorem dL_law_3468 : decode cL_law 3468 = .ok (.aload_n 3, 1) := by decide +kernel
theorem dL_law_3469 : decode cL_law 3469 = .ok (.invokestatic 303, 3) := by decide +kernel
theorem dL_law_3472 : decode cL_law 3472 = .ok (.istore 5, 2) := by decide +kernel
theorem dL_law_3474 : decode cL_law 3474 = .ok (.aload_n 2, 1) := by decide +kernel
theorem dL_law_3475 : decode cL_law 3475 = .ok (.aload_n 0, 1) := by decide +kernel
theorem dL_law_3476 : decode cL_law 3476 = .ok (.iload 4, 2) := by decide +kernel
theorem dL_law_3478 : decode cL_law 3478 = .ok (.iconst 1, 1) := by decide +kernel
theorem dL_law_3479 : decode cL_law 3479 = .ok (.iadd, 1) := by decide +kernel
theorem dL_law_3480 : decode cL_law 3480 = .ok (.iaload, 1) := by decide +kernel
theorem dL_law_3481 : decode cL_law 3481 = .ok (.aload_n 0, 1) := by decide +kernel
theorem dL_law_3482 : decode cL_law 3482 = .ok (.iload 4, 2) := by decide +kernel
theorem dL_law_3484 : decode cL_law 3484 = .ok (.iconst 2, 1) := by decide +kernel
theorem dL_law_3485 : decode cL_law 3485 = .ok (.iadd, 1) := by decide +kernel
theorem dL_law_3486 : decode cL_law 3486 = .ok (.iaload, 1) := by decide +kernel
theorem dL_law_3487 : decode cL_law 3487 = .ok (.aload_n 0, 1) := by decide +kernel
theorem dL_law_3488 : decode cL_law 3488 = .ok (.iload 4, 2) := by decide +kernel
theorem dL_law_3490 : decode cL_law 3490 = .ok (.iconst 3, 1) := by decide +kernel
theorem dL_law_3491 : decode cL_law 3491 = .ok (.iadd, 1) := by decide +kernel
theorem dL_law_3492 : decode cL_law 3492 = .ok (.iaload, 1) := by decide +kernel
theorem dL_law_3493 : decode cL_law 3493 = .ok (.invokevirtual 305, 3) := by decide +kernel
theorem dL_law_3496 : decode cL_law 3496 = .ok (.lstore 6, 2) := by decide +kernel
theorem dL_law_3498 : decode cL_law 3498 = .ok (.aload_n 2, 1) := by decide +kernel
theorem dL_law_3499 : decode cL_law 3499 = .ok (.invokevirtual 177, 3) := by decide +kernel
theorem dL_law_3502 : decode cL_law 3502 = .ok (.iload 5, 2) := by decide +kernel
theorem dL_law_3504 : decode cL_law 3504 = .ok (.if_icmp .eq 5, 3) := by decide +kernel
theorem dL_law_3507 : decode cL_law 3507 = .ok (.iconst 0, 1) := by decide +kernel
theorem dL_law_3508 : decode cL_law 3508 = .ok (.ireturn, 1) := by decide +kernel
theorem dL_law_3509 : decode cL_law 3509 = .ok (.iload 5, 2) := by decide +kernel
theorem dL_law_3511 : decode cL_law 3511 = .ok (.ifCond .ne 14, 3) := by decide +kernel
theorem dL_law_3514 : decode cL_law 3514 = .ok (.aload_n 3, 1) := by decide +kernel
theorem dL_law_3515 : decode cL_law 3515 = .ok (.iconst 0, 1) := by decide +kernel
theorem dL_law_3516 : decode cL_law 3516 = .ok (.laload, 1) := by decide +kernel
theorem dL_law_3517 : decode cL_law 3517 = .ok (.lload 6, 2) := by decide +kernel
theorem dL_law_3519 : decode cL_law 3519 = .ok (.lcmp, 1) := by decide +kernel
theorem dL_law_3520 : decode cL_law 3520 = .ok (.ifCond .eq 5, 3) := by decide +kernel
theorem dL_law_3523 : decode cL_law 3523 = .ok (.iconst 0, 1) := by decide +kernel
theorem dL_law_3524 : decode cL_law 3524 = .ok (.ireturn, 1) := by decide +kernel
theorem dL_law_3525 : decode cL_law 3525 = .ok (.goto 708, 3) := by decide +kernel
theorem dL_law_3528 : decode cL_law 3528 = .ok (.aload_n 1, 1) := by decide +kernel
theorem dL_law_3529 : decode cL_law 3529 = .ok (.aload_n 0, 1) := by decide +kernel
theorem dL_law_3530 : decode cL_law 3530 = .ok (.iload 4, 2) := by decide +kernel
theorem dL_law_3532 : decode cL_law 3532 = .ok (.iconst 1, 1) := by decide +kernel
theorem dL_law_3533 : decode cL_law 3533 = .ok (.iadd, 1) := by decide +kernel
theorem dL_law_3534 : decode cL_law 3534 = .ok (.iaload, 1) := by decide +kernel
theorem dL_law_3535 : decode cL_law 3535 = .ok (.aload_n 0, 1) := by decide +kernel
theorem dL_law_3536 : decode cL_law 3536 = .ok (.iload 4, 2) := by decide +kernel
theorem dL_law_3538 : decode cL_law 3538 = .ok (.iconst 2, 1) := by decide +kernel
theorem dL_law_3539 : decode cL_law 3539 = .ok (.iadd, 1) := by decide +kernel
theorem dL_law_3540 : decode cL_law 3540 = .ok (.iaload, 1) := by decide +kernel
theorem dL_law_3541 : decode cL_law 3541 = .ok (.aload_n 3, 1) := by decide +kernel
theorem dL_law_3542 : decode cL_law 3542 = .ok (.invokestatic 306, 3) := by decide +kernel
theorem dL_law_3545 : decode cL_law 3545 = .ok (.istore 5, 2) := by decide +kernel
theorem dL_law_3547 : decode cL_law 3547 = .ok (.aload_n 2, 1) := by decide +kernel
theorem dL_law_3548 : decode cL_law 3548 = .ok (.aload_n 0, 1) := by decide +kernel
theorem dL_law_3549 : decode cL_law 3549 = .ok (.iload 4, 2) := by decide +kernel
theorem dL_law_3551 : decode cL_law 3551 = .ok (.iconst 1, 1) := by decide +kernel
theorem dL_law_3552 : decode cL_law 3552 = .ok (.iadd, 1) := by decide +kernel
theorem dL_law_3553 : decode cL_law 3553 = .ok (.iaload, 1) := by decide +kernel
theorem dL_law_3554 : decode cL_law 3554 = .ok (.aload_n 0, 1) := by decide +kernel
theorem dL_law_3555 : decode cL_law 3555 = .ok (.iload 4, 2) := by decide +kernel
theorem dL_law_3557 : decode cL_law 3557 = .ok (.iconst 2, 1) := by decide +kernel
theorem dL_law_3558 : decode cL_law 3558 = .ok (.iadd, 1) := by decide +kernel
theorem dL_law_3559 : decode cL_law 3559 = .ok (.iaload, 1) := by decide +kernel
theorem dL_law_3560 : decode cL_law 3560 = .ok (.invokevirtual 308, 3) := by decide +kernel
theorem dL_law_3563 : decode cL_law 3563 = .ok (.lstore 6, 2) := by decide +kernel
theorem dL_law_3565 : decode cL_law 3565 = .ok (.aload_n 2, 1) := by decide +kernel
theorem dL_law_3566 : decode cL_law 3566 = .ok (.invokevirtual 177, 3) := by decide +kernel
theorem dL_law_3569 : decode cL_law 3569 = .ok (.iload 5, 2) := by decide +kernel
theorem dL_law_3571 : decode cL_law 3571 = .ok (.if_icmp .eq 5, 3) := by decide +kernel
theorem dL_law_3574 : decode cL_law 3574 = .ok (.iconst 0, 1) := by decide +kernel
theorem dL_law_3575 : decode cL_law 3575 = .ok (.ireturn, 1) := by decide +kernel
theorem dL_law_3576 : decode cL_law 3576 = .ok (.iload 5, 2) := by decide +kernel
theorem dL_law_3578 : decode cL_law 3578 = .ok (.ifCond .ne 14, 3) := by decide +kernel
theorem dL_law_3581 : decode cL_law 3581 = .ok (.aload_n 3, 1) := by decide +kernel
theorem dL_law_3582 : decode cL_law 3582 = .ok (.iconst 0, 1) := by decide +kernel
theorem dL_law_3583 : decode cL_law 3583 = .ok (.laload, 1) := by decide +kernel
theorem dL_law_3584 : decode cL_law 3584 = .ok (.lload 6, 2) := by decide +kernel
theorem dL_law_3586 : decode cL_law 3586 = .ok (.lcmp, 1) := by decide +kernel
theorem dL_law_3587 : decode cL_law 3587 = .ok (.ifCond .eq 5, 3) := by decide +kernel
theorem dL_law_3590 : decode cL_law 3590 = .ok (.iconst 0, 1) := by decide +kernel
theorem dL_law_3591 : decode cL_law 3591 = .ok (.ireturn, 1) := by decide +kernel
theorem dL_law_3592 : decode cL_law 3592 = .ok (.goto 641, 3) := by decide +kernel
theorem dL_law_3595 : decode cL_law 3595 = .ok (.aload_n 1, 1) := by decide +kernel
theorem dL_law_3596 : decode cL_law 3596 = .ok (.aload_n 0, 1) := by decide +kernel
theorem dL_law_3597 : decode cL_law 3597 = .ok (.iload 4, 2) := by decide +kernel
theorem dL_law_3599 : decode cL_law 3599 = .ok (.iconst 1, 1) := by decide +kernel
theorem dL_law_3600 : decode cL_law 3600 = .ok (.iadd, 1) := by decide +kernel
theorem dL_law_3601 : decode cL_law 3601 = .ok (.iaload, 1) := by decide +kernel
theorem dL_law_3602 : decode cL_law 3602 = .ok (.aload_n 0, 1) := by decide +kernel
theorem dL_law_3603 : decode cL_law 3603 = .ok (.iload 4, 2) := by decide +kernel
theorem dL_law_3605 : decode cL_law 3605 = .ok (.iconst 2, 1) := by decide +kernel
theorem dL_law_3606 : decode cL_law 3606 = .ok (.iadd, 1) := by decide +kernel
theorem dL_law_3607 : decode cL_law 3607 = .ok (.iaload, 1) := by decide +kernel
theorem dL_law_3608 : decode cL_law 3608 = .ok (.aload_n 3, 1) := by decide +kernel
theorem dL_law_3609 : decode cL_law 3609 = .ok (.invokestatic 309, 3) := by decide +kernel
theorem dL_law_3612 : decode cL_law 3612 = .ok (.istore 5, 2) := by decide +kernel
theorem dL_law_3614 : decode cL_law 3614 = .ok (.aload_n 2, 1) := by decide +kernel
theorem dL_law_3615 : decode cL_law 3615 = .ok (.aload_n 0, 1) := by decide +kernel
theorem dL_law_3616 : decode cL_law 3616 = .ok (.iload 4, 2) := by decide +kernel
theorem dL_law_3618 : decode cL_law 3618 = .ok (.iconst 1, 1) := by decide +kernel
theorem dL_law_3619 : decode cL_law 3619 = .ok (.iadd, 1) := by decide +kernel
theorem dL_law_3620 : decode cL_law 3620 = .ok (.iaload, 1) := by decide +kernel
theorem dL_law_3621 : decode cL_law 3621 = .ok (.aload_n 0, 1) := by decide +kernel
theorem dL_law_3622 : decode cL_law 3622 = .ok (.iload 4, 2) := by decide +kernel
theorem dL_law_3624 : decode cL_law 3624 = .ok (.iconst 2, 1) := by decide +kernel
theorem dL_law_3625 : decode cL_law 3625 = .ok (.iadd, 1) := by decide +kernel
theorem dL_law_3626 : decode cL_law 3626 = .ok (.iaload, 1) := by decide +kernel
theorem dL_law_3627 : decode cL_law 3627 = .ok (.invokevirtual 311, 3) := by decide +kernel
theorem dL_law_3630 : decode cL_law 3630 = .ok (.lstore 6, 2) := by decide +kernel
theorem dL_law_3632 : decode cL_law 3632 = .ok (.aload_n 2, 1) := by decide +kernel
theorem dL_law_3633 : decode cL_law 3633 = .ok (.invokevirtual 177, 3) := by decide +kernel
theorem dL_law_3636 : decode cL_law 3636 = .ok (.iload 5, 2) := by decide +kernel
theorem dL_law_3638 : decode cL_law 3638 = .ok (.if_icmp .eq 5, 3) := by decide +kernel
theorem dL_law_3641 : decode cL_law 3641 = .ok (.iconst 0, 1) := by decide +kernel
theorem dL_law_3642 : decode cL_law 3642 = .ok (.ireturn, 1) := by decide +kernel
theorem dL_law_3643 : decode cL_law 3643 = .ok (.iload 5, 2) := by decide +kernel
theorem dL_law_3645 : decode cL_law 3645 = .ok (.ifCond .ne 14, 3) := by decide +kernel
theorem dL_law_3648 : decode cL_law 3648 = .ok (.aload_n 3, 1) := by decide +kernel
theorem dL_law_3649 : decode cL_law 3649 = .ok (.iconst 0, 1) := by decide +kernel
theorem dL_law_3650 : decode cL_law 3650 = .ok (.laload, 1) := by decide +kernel
theorem dL_law_3651 : decode cL_law 3651 = .ok (.lload 6, 2) := by decide +kernel
theorem dL_law_3653 : decode cL_law 3653 = .ok (.lcmp, 1) := by decide +kernel
theorem dL_law_3654 : decode cL_law 3654 = .ok (.ifCond .eq 5, 3) := by decide +kernel
theorem dL_law_3657 : decode cL_law 3657 = .ok (.iconst 0, 1) := by decide +kernel
theorem dL_law_3658 : decode cL_law 3658 = .ok (.ireturn, 1) := by decide +kernel
theorem dL_law_3659 : decode cL_law 3659 = .ok (.goto 574, 3) := by decide +kernel
theorem dL_law_3662 : decode cL_law 3662 = .ok (.aload_n 1, 1) := by decide +kernel
theorem dL_law_3663 : decode cL_law 3663 = .ok (.aload_n 0, 1) := by decide +kernel
theorem dL_law_3664 : decode cL_law 3664 = .ok (.iload 4, 2) := by decide +kernel
theorem dL_law_3666 : decode cL_law 3666 = .ok (.iconst 1, 1) := by decide +kernel
theorem dL_law_3667 : decode cL_law 3667 = .ok (.iadd, 1) := by decide +kernel
theorem dL_law_3668 : decode cL_law 3668 = .ok (.iaload, 1) := by decide +kernel
theorem dL_law_3669 : decode cL_law 3669 = .ok (.aload_n 0, 1) := by decide +kernel
theorem dL_law_3670 : decode cL_law 3670 = .ok (.iload 4, 2) := by decide +kernel
theorem dL_law_3672 : decode cL_law 3672 = .ok (.iconst 2, 1) := by decide +kernel
theorem dL_law_3673 : decode cL_law 3673 = .ok (.iadd, 1) := by decide +kernel
theorem dL_law_3674 : decode cL_law 3674 = .ok (.iaload, 1) := by decide +kernel
theorem dL_law_3675 : decode cL_law 3675 = .ok (.i2c, 1) := by decide +kernel
theorem dL_law_3676 : decode cL_law 3676 = .ok (.aload_n 0, 1) := by decide +kernel
theorem dL_law_3677 : decode cL_law 3677 = .ok (.iload 4, 2) := by decide +kernel
theorem dL_law_3679 : decode cL_law 3679 = .ok (.iconst 3, 1) := by decide +kernel
theorem dL_law_3680 : decode cL_law 3680 = .ok (.iadd, 1) := by decide +kernel
theorem dL_law_3681 : decode cL_law 3681 = .ok (.iaload, 1) := by decide +kernel
theorem dL_law_3682 : decode cL_law 3682 = .ok (.i2l, 1) := by decide +kernel
theorem dL_law_3683 : decode cL_law 3683 = .ok (.bipush 32, 2) := by decide +kernel
theorem dL_law_3685 : decode cL_law 3685 = .ok (.lshl, 1) := by decide +kernel
theorem dL_law_3686 : decode cL_law 3686 = .ok (.aload_n 0, 1) := by decide +kernel
theorem dL_law_3687 : decode cL_law 3687 = .ok (.iload 4, 2) := by decide +kernel
theorem dL_law_3689 : decode cL_law 3689 = .ok (.iconst 4, 1) := by decide +kernel
theorem dL_law_3690 : decode cL_law 3690 = .ok (.iadd, 1) := by decide +kernel
theorem dL_law_3691 : decode cL_law 3691 = .ok (.iaload, 1) := by decide +kernel
theorem dL_law_3692 : decode cL_law 3692 = .ok (.i2l, 1) := by decide +kernel
theorem dL_law_3693 : decode cL_law 3693 = .ok (.ldc2_w 181, 3) := by decide +kernel
theorem dL_law_3696 : decode cL_law 3696 = .ok (.land, 1) := by decide +kernel
theorem dL_law_3697 : decode cL_law 3697 = .ok (.lor, 1) := by decide +kernel
theorem dL_law_3698 : decode cL_law 3698 = .ok (.aload_n 0, 1) := by decide +kernel
theorem dL_law_3699 : decode cL_law 3699 = .ok (.iload 4, 2) := by decide +kernel
theorem dL_law_3701 : decode cL_law 3701 = .ok (.iconst 5, 1) := by decide +kernel
theorem dL_law_3702 : decode cL_law 3702 = .ok (.iadd, 1) := by decide +kernel
theorem dL_law_3703 : decode cL_law 3703 = .ok (.iaload, 1) := by decide +kernel
theorem dL_law_3704 : decode cL_law 3704 = .ok (.aload_n 3, 1) := by decide +kernel
theorem dL_law_3705 : decode cL_law 3705 = .ok (.invokestatic 312, 3) := by decide +kernel
theorem dL_law_3708 : decode cL_law 3708 = .ok (.istore 5, 2) := by decide +kernel
theorem dL_law_3710 : decode cL_law 3710 = .ok (.aload_n 2, 1) := by decide +kernel
theorem dL_law_3711 : decode cL_law 3711 = .ok (.aload_n 0, 1) := by decide +kernel
theorem dL_law_3712 : decode cL_law 3712 = .ok (.iload 4, 2) := by decide +kernel
theorem dL_law_3714 : decode cL_law 3714 = .ok (.iconst 1, 1) := by decide +kernel
theorem dL_law_3715 : decode cL_law 3715 = .ok (.iadd, 1) := by decide +kernel
theorem dL_law_3716 : decode cL_law 3716 = .ok (.iaload, 1) := by decide +kernel
theorem dL_law_3717 : decode cL_law 3717 = .ok (.aload_n 0, 1) := by decide +kernel
theorem dL_law_3718 : decode cL_law 3718 = .ok (.iload 4, 2) := by decide +kernel
theorem dL_law_3720 : decode cL_law 3720 = .ok (.iconst 2, 1) := by decide +kernel
theorem dL_law_3721 : decode cL_law 3721 = .ok (.iadd, 1) := by decide +kernel
theorem dL_law_3722 : decode cL_law 3722 = .ok (.iaload, 1) := by decide +kernel
theorem dL_law_3723 : decode cL_law 3723 = .ok (.i2c, 1) := by decide +kernel
theorem dL_law_3724 : decode cL_law 3724 = .ok (.aload_n 0, 1) := by decide +kernel
theorem dL_law_3725 : decode cL_law 3725 = .ok (.iload 4, 2) := by decide +kernel
theorem dL_law_3727 : decode cL_law 3727 = .ok (.iconst 3, 1) := by decide +kernel
theorem dL_law_3728 : decode cL_law 3728 = .ok (.iadd, 1) := by decide +kernel
theorem dL_law_3729 : decode cL_law 3729 = .ok (.iaload, 1) := by decide +kernel
theorem dL_law_3730 : decode cL_law 3730 = .ok (.i2l, 1) := by decide +kernel
theorem dL_law_3731 : decode cL_law 3731 = .ok (.bipush 32, 2) := by decide +kernel
theorem dL_law_3733 : decode cL_law 3733 = .ok (.lshl, 1) := by decide +kernel
theorem dL_law_3734 : decode cL_law 3734 = .ok (.aload_n 0, 1) := by decide +kernel
theorem dL_law_3735 : decode cL_law 3735 = .ok (.iload 4, 2) := by decide +kernel
theorem dL_law_3737 : decode cL_law 3737 = .ok (.iconst 4, 1) := by decide +kernel
theorem dL_law_3738 : decode cL_law 3738 = .ok (.iadd, 1) := by decide +kernel
theorem dL_law_3739 : decode cL_law 3739 = .ok (.iaload, 1) := by decide +kernel
theorem dL_law_3740 : decode cL_law 3740 = .ok (.i2l, 1) := by decide +kernel
theorem dL_law_3741 : decode cL_law 3741 = .ok (.ldc2_w 181, 3) := by decide +kernel
theorem dL_law_3744 : decode cL_law 3744 = .ok (.land, 1) := by decide +kernel
theorem dL_law_3745 : decode cL_law 3745 = .ok (.lor, 1) := by decide +kernel
theorem dL_law_3746 : decode cL_law 3746 = .ok (.aload_n 0, 1) := by decide +kernel
theorem dL_law_3747 : decode cL_law 3747 = .ok (.iload 4, 2) := by decide +kernel
theorem dL_law_3749 : decode cL_law 3749 = .ok (.iconst 5, 1) := by decide +kernel
theorem dL_law_3750 : decode cL_law 3750 = .ok (.iadd, 1) := by decide +kernel
theorem dL_law_3751 : decode cL_law 3751 = .ok (.iaload, 1) := by decide +kernel
theorem dL_law_3752 : decode cL_law 3752 = .ok (.invokevirtual 314, 3) := by decide +kernel
theorem dL_law_3755 : decode cL_law 3755 = .ok (.lstore 6, 2) := by decide +kernel
theorem dL_law_3757 : decode cL_law 3757 = .ok (.aload_n 2, 1) := by decide +kernel
theorem dL_law_3758 : decode cL_law 3758 = .ok (.invokevirtual 177, 3) := by decide +kernel
theorem dL_law_3761 : decode cL_law 3761 = .ok (.iload 5, 2) := by decide +kernel
theorem dL_law_3763 : decode cL_law 3763 = .ok (.if_icmp .eq 5, 3) := by decide +kernel
theorem dL_law_3766 : decode cL_law 3766 = .ok (.iconst 0, 1) := by decide +kernel
theorem dL_law_3767 : decode cL_law 3767 = .ok (.ireturn, 1) := by decide +kernel
theorem dL_law_3768 : decode cL_law 3768 = .ok (.iload 5, 2) := by decide +kernel
theorem dL_law_3770 : decode cL_law 3770 = .ok (.ifCond .ne 14, 3) := by decide +kernel
theorem dL_law_3773 : decode cL_law 3773 = .ok (.aload_n 3, 1) := by decide +kernel
theorem dL_law_3774 : decode cL_law 3774 = .ok (.iconst 0, 1) := by decide +kernel
theorem dL_law_3775 : decode cL_law 3775 = .ok (.laload, 1) := by decide +kernel
theorem dL_law_3776 : decode cL_law 3776 = .ok (.lload 6, 2) := by decide +kernel
theorem dL_law_3778 : decode cL_law 3778 = .ok (.lcmp, 1) := by decide +kernel
theorem dL_law_3779 : decode cL_law 3779 = .ok (.ifCond .eq 5, 3) := by decide +kernel
theorem dL_law_3782 : decode cL_law 3782 = .ok (.iconst 0, 1) := by decide +kernel
theorem dL_law_3783 : decode cL_law 3783 = .ok (.ireturn, 1) := by decide +kernel
theorem dL_law_3784 : decode cL_law 3784 = .ok (.goto 449, 3) := by decide +kernel
theorem dL_law_3787 : decode cL_law 3787 = .ok (.aload_n 1, 1) := by decide +kernel
theorem dL_law_3788 : decode cL_law 3788 = .ok (.aload_n 0, 1) := by decide +kernel
theorem dL_law_3789 : decode cL_law 3789 = .ok (.iload 4, 2) := by decide +kernel
theorem dL_law_3791 : decode cL_law 3791 = .ok (.iconst 1, 1) := by decide +kernel
theorem dL_law_3792 : decode cL_law 3792 = .ok (.iadd, 1) := by decide +kernel
theorem dL_law_3793 : decode cL_law 3793 = .ok (.iaload, 1) := by decide +kernel
theorem dL_law_3794 : decode cL_law 3794 = .ok (.aload_n 0, 1) := by decide +kernel
theorem dL_law_3795 : decode cL_law 3795 = .ok (.iload 4, 2) := by decide +kernel
theorem dL_law_3797 : decode cL_law 3797 = .ok (.iconst 2, 1) := by decide +kernel
theorem dL_law_3798 : decode cL_law 3798 = .ok (.iadd, 1) := by decide +kernel
theorem dL_law_3799 : decode cL_law 3799 = .ok (.iaload, 1) := by decide +kernel
theorem dL_law_3800 : decode cL_law 3800 = .ok (.aload_n 0, 1) := by decide +kernel
theorem dL_law_3801 : decode cL_law 3801 = .ok (.iload 4, 2) := by decide +kernel
theorem dL_law_3803 : decode cL_law 3803 = .ok (.iconst 3, 1) := by decide +kernel
theorem dL_law_3804 : decode cL_law 3804 = .ok (.iadd, 1) := by decide +kernel
theorem dL_law_3805 : decode cL_law 3805 = .ok (.iaload, 1) := by decide +kernel
theorem dL_law_3806 : decode cL_law 3806 = .ok (.ifCond .eq 7, 3) := by decide +kernel
theorem dL_law_3809 : decode cL_law 3809 = .ok (.iconst 1, 1) := by decide +kernel
theorem dL_law_3810 : decode cL_law 3810 = .ok (.goto 4, 3) := by decide +kernel
theorem dL_law_3813 : decode cL_law 3813 = .ok (.iconst 0, 1) := by decide +kernel
theorem dL_law_3814 : decode cL_law 3814 = .ok (.aload_n 0, 1) := by decide +kernel
theorem dL_law_3815 : decode cL_law 3815 = .ok (.iload 4, 2) := by decide +kernel
theorem dL_law_3817 : decode cL_law 3817 = .ok (.iconst 4, 1) := by decide +kernel
theorem dL_law_3818 : decode cL_law 3818 = .ok (.iadd, 1) := by decide +kernel
theorem dL_law_3819 : decode cL_law 3819 = .ok (.iaload, 1) := by decide +kernel
theorem dL_law_3820 : decode cL_law 3820 = .ok (.aload_n 3, 1) := by decide +kernel
theorem dL_law_3821 : decode cL_law 3821 = .ok (.invokestatic 315, 3) := by decide +kernel
theorem dL_law_3824 : decode cL_law 3824 = .ok (.istore 5, 2) := by decide +kernel
theorem dL_law_3826 : decode cL_law 3826 = .ok (.aload_n 2, 1) := by decide +kernel
theorem dL_law_3827 : decode cL_law 3827 = .ok (.aload_n 0, 1) := by decide +kernel
theorem dL_law_3828 : decode cL_law 3828 = .ok (.iload 4, 2) := by decide +kernel
theorem dL_law_3830 : decode cL_law 3830 = .ok (.iconst 1, 1) := by decide +kernel
theorem dL_law_3831 : decode cL_law 3831 = .ok (.iadd, 1) := by decide +kernel
theorem dL_law_3832 : decode cL_law 3832 = .ok (.iaload, 1) := by decide +kernel
theorem dL_law_3833 : decode cL_law 3833 = .ok (.aload_n 0, 1) := by decide +kernel
theorem dL_law_3834 : decode cL_law 3834 = .ok (.iload 4, 2) := by decide +kernel
theorem dL_law_3836 : decode cL_law 3836 = .ok (.iconst 2, 1) := by decide +kernel
theorem dL_law_3837 : decode cL_law 3837 = .ok (.iadd, 1) := by decide +kernel
theorem dL_law_3838 : decode cL_law 3838 = .ok (.iaload, 1) := by decide +kernel
theorem dL_law_3839 : decode cL_law 3839 = .ok (.aload_n 0, 1) := by decide +kernel
theorem dL_law_3840 : decode cL_law 3840 = .ok (.iload 4, 2) := by decide +kernel
theorem dL_law_3842 : decode cL_law 3842 = .ok (.iconst 3, 1) := by decide +kernel
theorem dL_law_3843 : decode cL_law 3843 = .ok (.iadd, 1) := by decide +kernel
theorem dL_law_3844 : decode cL_law 3844 = .ok (.iaload, 1) := by decide +kernel
theorem dL_law_3845 : decode cL_law 3845 = .ok (.ifCond .eq 7, 3) := by decide +kernel
theorem dL_law_3848 : decode cL_law 3848 = .ok (.iconst 1, 1) := by decide +kernel
theorem dL_law_3849 : decode cL_law 3849 = .ok (.goto 4, 3) := by decide +kernel
theorem dL_law_3852 : decode cL_law 3852 = .ok (.iconst 0, 1) := by decide +kernel
theorem dL_law_3853 : decode cL_law 3853 = .ok (.aload_n 0, 1) := by decide +kernel
theorem dL_law_3854 : decode cL_law 3854 = .ok (.iload 4, 2) := by decide +kernel
theorem dL_law_3856 : decode cL_law 3856 = .ok (.iconst 4, 1) := by decide +kernel
theorem dL_law_3857 : decode cL_law 3857 = .ok (.iadd, 1) := by decide +kernel
theorem dL_law_3858 : decode cL_law 3858 = .ok (.iaload, 1) := by decide +kernel
theorem dL_law_3859 : decode cL_law 3859 = .ok (.invokevirtual 317, 3) := by decide +kernel
theorem dL_law_3862 : decode cL_law 3862 = .ok (.lstore 6, 2) := by decide +kernel
theorem dL_law_3864 : decode cL_law 3864 = .ok (.aload_n 2, 1) := by decide +kernel
theorem dL_law_3865 : decode cL_law 3865 = .ok (.invokevirtual 177, 3) := by decide +kernel
theorem dL_law_3868 : decode cL_law 3868 = .ok (.iload 5, 2) := by decide +kernel
theorem dL_law_3870 : decode cL_law 3870 = .ok (.if_icmp .eq 5, 3) := by decide +kernel
theorem dL_law_3873 : decode cL_law 3873 = .ok (.iconst 0, 1) := by decide +kernel
theorem dL_law_3874 : decode cL_law 3874 = .ok (.ireturn, 1) := by decide +kernel
theorem dL_law_3875 : decode cL_law 3875 = .ok (.iload 5, 2) := by decide +kernel
theorem dL_law_3877 : decode cL_law 3877 = .ok (.ifCond .ne 14, 3) := by decide +kernel
theorem dL_law_3880 : decode cL_law 3880 = .ok (.aload_n 3, 1) := by decide +kernel
theorem dL_law_3881 : decode cL_law 3881 = .ok (.iconst 0, 1) := by decide +kernel
theorem dL_law_3882 : decode cL_law 3882 = .ok (.laload, 1) := by decide +kernel
theorem dL_law_3883 : decode cL_law 3883 = .ok (.lload 6, 2) := by decide +kernel
theorem dL_law_3885 : decode cL_law 3885 = .ok (.lcmp, 1) := by decide +kernel
theorem dL_law_3886 : decode cL_law 3886 = .ok (.ifCond .eq 5, 3) := by decide +kernel
theorem dL_law_3889 : decode cL_law 3889 = .ok (.iconst 0, 1) := by decide +kernel
theorem dL_law_3890 : decode cL_law 3890 = .ok (.ireturn, 1) := by decide +kernel
theorem dL_law_3891 : decode cL_law 3891 = .ok (.goto 342, 3) := by decide +kernel
theorem dL_law_3894 : decode cL_law 3894 = .ok (.aload_n 1, 1) := by decide +kernel
theorem dL_law_3895 : decode cL_law 3895 = .ok (.aload_n 0, 1) := by decide +kernel
theorem dL_law_3896 : decode cL_law 3896 = .ok (.iload 4, 2) := by decide +kernel
theorem dL_law_3898 : decode cL_law 3898 = .ok (.iconst 1, 1) := by decide +kernel
theorem dL_law_3899 : decode cL_law 3899 = .ok (.iadd, 1) := by decide +kernel
theorem dL_law_3900 : decode cL_law 3900 = .ok (.iaload, 1) := by decide +kernel
theorem dL_law_3901 : decode cL_law 3901 = .ok (.aload_n 0, 1) := by decide +kernel
theorem dL_law_3902 : decode cL_law 3902 = .ok (.iload 4, 2) := by decide +kernel
theorem dL_law_3904 : decode cL_law 3904 = .ok (.iconst 2, 1) := by decide +kernel
theorem dL_law_3905 : decode cL_law 3905 = .ok (.iadd, 1) := by decide +kernel
theorem dL_law_3906 : decode cL_law 3906 = .ok (.iaload, 1) := by decide +kernel
theorem dL_law_3907 : decode cL_law 3907 = .ok (.aload_n 0, 1) := by decide +kernel
theorem dL_law_3908 : decode cL_law 3908 = .ok (.iload 4, 2) := by decide +kernel
theorem dL_law_3910 : decode cL_law 3910 = .ok (.iconst 3, 1) := by decide +kernel
theorem dL_law_3911 : decode cL_law 3911 = .ok (.iadd, 1) := by decide +kernel
theorem dL_law_3912 : decode cL_law 3912 = .ok (.iaload, 1) := by decide +kernel
theorem dL_law_3913 : decode cL_law 3913 = .ok (.aload_n 3, 1) := by decide +kernel
theorem dL_law_3914 : decode cL_law 3914 = .ok (.invokestatic 318, 3) := by decide +kernel
theorem dL_law_3917 : decode cL_law 3917 = .ok (.istore 5, 2) := by decide +kernel
theorem dL_law_3919 : decode cL_law 3919 = .ok (.aload_n 2, 1) := by decide +kernel
theorem dL_law_3920 : decode cL_law 3920 = .ok (.aload_n 0, 1) := by decide +kernel
theorem dL_law_3921 : decode cL_law 3921 = .ok (.iload 4, 2) := by decide +kernel
theorem dL_law_3923 : decode cL_law 3923 = .ok (.iconst 1, 1) := by decide +kernel
theorem dL_law_3924 : decode cL_law 3924 = .ok (.iadd, 1) := by decide +kernel
theorem dL_law_3925 : decode cL_law 3925 = .ok (.iaload, 1) := by decide +kernel
theorem dL_law_3926 : decode cL_law 3926 = .ok (.aload_n 0, 1) := by decide +kernel
theorem dL_law_3927 : decode cL_law 3927 = .ok (.iload 4, 2) := by decide +kernel
theorem dL_law_3929 : decode cL_law 3929 = .ok (.iconst 2, 1) := by decide +kernel
theorem dL_law_3930 : decode cL_law 3930 = .ok (.iadd, 1) := by decide +kernel
theorem dL_law_3931 : decode cL_law 3931 = .ok (.iaload, 1) := by decide +kernel
theorem dL_law_3932 : decode cL_law 3932 = .ok (.aload_n 0, 1) := by decide +kernel
theorem dL_law_3933 : decode cL_law 3933 = .ok (.iload 4, 2) := by decide +kernel
theorem dL_law_3935 : decode cL_law 3935 = .ok (.iconst 3, 1) := by decide +kernel
theorem dL_law_3936 : decode cL_law 3936 = .ok (.iadd, 1) := by decide +kernel
theorem dL_law_3937 : decode cL_law 3937 = .ok (.iaload, 1) := by decide +kernel
theorem dL_law_3938 : decode cL_law 3938 = .ok (.invokevirtual 320, 3) := by decide +kernel
theorem dL_law_3941 : decode cL_law 3941 = .ok (.lstore 6, 2) := by decide +kernel
theorem dL_law_3943 : decode cL_law 3943 = .ok (.aload_n 2, 1) := by decide +kernel
theorem dL_law_3944 : decode cL_law 3944 = .ok (.invokevirtual 177, 3) := by decide +kernel
theorem dL_law_3947 : decode cL_law 3947 = .ok (.iload 5, 2) := by decide +kernel
theorem dL_law_3949 : decode cL_law 3949 = .ok (.if_icmp .eq 5, 3) := by decide +kernel
theorem dL_law_3952 : decode cL_law 3952 = .ok (.iconst 0, 1) := by decide +kernel
theorem dL_law_3953 : decode cL_law 3953 = .ok (.ireturn, 1) := by decide +kernel
theorem dL_law_3954 : decode cL_law 3954 = .ok (.iload 5, 2) := by decide +kernel
theorem dL_law_3956 : decode cL_law 3956 = .ok (.ifCond .ne 14, 3) := by decide +kernel
theorem dL_law_3959 : decode cL_law 3959 = .ok (.aload_n 3, 1) := by decide +kernel
theorem dL_law_3960 : decode cL_law 3960 = .ok (.iconst 0, 1) := by decide +kernel
theorem dL_law_3961 : decode cL_law 3961 = .ok (.laload, 1) := by decide +kernel
theorem dL_law_3962 : decode cL_law 3962 = .ok (.lload 6, 2) := by decide +kernel
theorem dL_law_3964 : decode cL_law 3964 = .ok (.lcmp, 1) := by decide +kernel
theorem dL_law_3965 : decode cL_law 3965 = .ok (.ifCond .eq 5, 3) := by decide +kernel
theorem dL_law_3968 : decode cL_law 3968 = .ok (.iconst 0, 1) := by decide +kernel
theorem dL_law_3969 : decode cL_law 3969 = .ok (.ireturn, 1) := by decide +kernel
theorem dL_law_3970 : decode cL_law 3970 = .ok (.goto 263, 3) := by decide +kernel
theorem dL_law_3973 : decode cL_law 3973 = .ok (.aload_n 1, 1) := by decide +kernel
theorem dL_law_3974 : decode cL_law 3974 = .ok (.aload_n 0, 1) := by decide +kernel
theorem dL_law_3975 : decode cL_law 3975 = .ok (.iload 4, 2) := by decide +kernel
theorem dL_law_3977 : decode cL_law 3977 = .ok (.iconst 1, 1) := by decide +kernel
theorem dL_law_3978 : decode cL_law 3978 = .ok (.iadd, 1) := by decide +kernel
theorem dL_law_3979 : decode cL_law 3979 = .ok (.iaload, 1) := by decide +kernel
theorem dL_law_3980 : decode cL_law 3980 = .ok (.aload_n 0, 1) := by decide +kernel
theorem dL_law_3981 : decode cL_law 3981 = .ok (.iload 4, 2) := by decide +kernel
theorem dL_law_3983 : decode cL_law 3983 = .ok (.iconst 2, 1) := by decide +kernel
theorem dL_law_3984 : decode cL_law 3984 = .ok (.iadd, 1) := by decide +kernel
theorem dL_law_3985 : decode cL_law 3985 = .ok (.iaload, 1) := by decide +kernel
theorem dL_law_3986 : decode cL_law 3986 = .ok (.aload_n 0, 1) := by decide +kernel
theorem dL_law_3987 : decode cL_law 3987 = .ok (.iload 4, 2) := by decide +kernel
theorem dL_law_3989 : decode cL_law 3989 = .ok (.iconst 3, 1) := by decide +kernel
theorem dL_law_3990 : decode cL_law 3990 = .ok (.iadd, 1) := by decide +kernel
theorem dL_law_3991 : decode cL_law 3991 = .ok (.iaload, 1) := by decide +kernel
theorem dL_law_3992 : decode cL_law 3992 = .ok (.i2c, 1) := by decide +kernel
theorem dL_law_3993 : decode cL_law 3993 = .ok (.aload_n 3, 1) := by decide +kernel
theorem dL_law_3994 : decode cL_law 3994 = .ok (.invokestatic 321, 3) := by decide +kernel
theorem dL_law_3997 : decode cL_law 3997 = .ok (.istore 5, 2) := by decide +kernel
theorem dL_law_3999 : decode cL_law 3999 = .ok (.aload_n 2, 1) := by decide +kernel
theorem dL_law_4000 : decode cL_law 4000 = .ok (.aload_n 0, 1) := by decide +kernel
theorem dL_law_4001 : decode cL_law 4001 = .ok (.iload 4, 2) := by decide +kernel
theorem dL_law_4003 : decode cL_law 4003 = .ok (.iconst 1, 1) := by decide +kernel
theorem dL_law_4004 : decode cL_law 4004 = .ok (.iadd, 1) := by decide +kernel
theorem dL_law_4005 : decode cL_law 4005 = .ok (.iaload, 1) := by decide +kernel
theorem dL_law_4006 : decode cL_law 4006 = .ok (.aload_n 0, 1) := by decide +kernel
theorem dL_law_4007 : decode cL_law 4007 = .ok (.iload 4, 2) := by decide +kernel
theorem dL_law_4009 : decode cL_law 4009 = .ok (.iconst 2, 1) := by decide +kernel
theorem dL_law_4010 : decode cL_law 4010 = .ok (.iadd, 1) := by decide +kernel
theorem dL_law_4011 : decode cL_law 4011 = .ok (.iaload, 1) := by decide +kernel
theorem dL_law_4012 : decode cL_law 4012 = .ok (.aload_n 0, 1) := by decide +kernel
theorem dL_law_4013 : decode cL_law 4013 = .ok (.iload 4, 2) := by decide +kernel
theorem dL_law_4015 : decode cL_law 4015 = .ok (.iconst 3, 1) := by decide +kernel
theorem dL_law_4016 : decode cL_law 4016 = .ok (.iadd, 1) := by decide +kernel
theorem dL_law_4017 : decode cL_law 4017 = .ok (.iaload, 1) := by decide +kernel
theorem dL_law_4018 : decode cL_law 4018 = .ok (.i2c, 1) := by decide +kernel
theorem dL_law_4019 : decode cL_law 4019 = .ok (.invokevirtual 323, 3) := by decide +kernel
theorem dL_law_4022 : decode cL_law 4022 = .ok (.lstore 6, 2) := by decide +kernel
theorem dL_law_4024 : decode cL_law 4024 = .ok (.aload_n 2, 1) := by decide +kernel
theorem dL_law_4025 : decode cL_law 4025 = .ok (.invokevirtual 177, 3) := by decide +kernel
theorem dL_law_4028 : decode cL_law 4028 = .ok (.iload 5, 2) := by decide +kernel
theorem dL_law_4030 : decode cL_law 4030 = .ok (.if_icmp .eq 5, 3) := by decide +kernel
theorem dL_law_4033 : decode cL_law 4033 = .ok (.iconst 0, 1) := by decide +kernel
theorem dL_law_4034 : decode cL_law 4034 = .ok (.ireturn, 1) := by decide +kernel
theorem dL_law_4035 : decode cL_law 4035 = .ok (.iload 5, 2) := by decide +kernel
theorem dL_law_4037 : decode cL_law 4037 = .ok (.ifCond .ne 14, 3) := by decide +kernel
theorem dL_law_4040 : decode cL_law 4040 = .ok (.aload_n 3, 1) := by decide +kernel
theorem dL_law_4041 : decode cL_law 4041 = .ok (.iconst 0, 1) := by decide +kernel
theorem dL_law_4042 : decode cL_law 4042 = .ok (.laload, 1) := by decide +kernel
theorem dL_law_4043 : decode cL_law 4043 = .ok (.lload 6, 2) := by decide +kernel
theorem dL_law_4045 : decode cL_law 4045 = .ok (.lcmp, 1) := by decide +kernel
theorem dL_law_4046 : decode cL_law 4046 = .ok (.ifCond .eq 5, 3) := by decide +kernel
theorem dL_law_4049 : decode cL_law 4049 = .ok (.iconst 0, 1) := by decide +kernel
theorem dL_law_4050 : decode cL_law 4050 = .ok (.ireturn, 1) := by decide +kernel
theorem dL_law_4051 : decode cL_law 4051 = .ok (.goto 182, 3) := by decide +kernel
theorem dL_law_4054 : decode cL_law 4054 = .ok (.aload_n 1, 1) := by decide +kernel
theorem dL_law_4055 : decode cL_law 4055 = .ok (.aload_n 0, 1) := by decide +kernel
theorem dL_law_4056 : decode cL_law 4056 = .ok (.iload 4, 2) := by decide +kernel
theorem dL_law_4058 : decode cL_law 4058 = .ok (.iconst 1, 1) := by decide +kernel
theorem dL_law_4059 : decode cL_law 4059 = .ok (.iadd, 1) := by decide +kernel
theorem dL_law_4060 : decode cL_law 4060 = .ok (.iaload, 1) := by decide +kernel
theorem dL_law_4061 : decode cL_law 4061 = .ok (.aload_n 0, 1) := by decide +kernel
theorem dL_law_4062 : decode cL_law 4062 = .ok (.iload 4, 2) := by decide +kernel
theorem dL_law_4064 : decode cL_law 4064 = .ok (.iconst 2, 1) := by decide +kernel
theorem dL_law_4065 : decode cL_law 4065 = .ok (.iadd, 1) := by decide +kernel
theorem dL_law_4066 : decode cL_law 4066 = .ok (.iaload, 1) := by decide +kernel
theorem dL_law_4067 : decode cL_law 4067 = .ok (.aload_n 3, 1) := by decide +kernel
theorem dL_law_4068 : decode cL_law 4068 = .ok (.invokestatic 324, 3) := by decide +kernel
theorem dL_law_4071 : decode cL_law 4071 = .ok (.istore 5, 2) := by decide +kernel
theorem dL_law_4073 : decode cL_law 4073 = .ok (.aload_n 2, 1) := by decide +kernel
theorem dL_law_4074 : decode cL_law 4074 = .ok (.aload_n 0, 1) := by decide +kernel
theorem dL_law_4075 : decode cL_law 4075 = .ok (.iload 4, 2) := by decide +kernel
theorem dL_law_4077 : decode cL_law 4077 = .ok (.iconst 1, 1) := by decide +kernel
theorem dL_law_4078 : decode cL_law 4078 = .ok (.iadd, 1) := by decide +kernel
theorem dL_law_4079 : decode cL_law 4079 = .ok (.iaload, 1) := by decide +kernel
theorem dL_law_4080 : decode cL_law 4080 = .ok (.aload_n 0, 1) := by decide +kernel
theorem dL_law_4081 : decode cL_law 4081 = .ok (.iload 4, 2) := by decide +kernel
theorem dL_law_4083 : decode cL_law 4083 = .ok (.iconst 2, 1) := by decide +kernel
theorem dL_law_4084 : decode cL_law 4084 = .ok (.iadd, 1) := by decide +kernel
theorem dL_law_4085 : decode cL_law 4085 = .ok (.iaload, 1) := by decide +kernel
theorem dL_law_4086 : decode cL_law 4086 = .ok (.invokevirtual 326, 3) := by decide +kernel
theorem dL_law_4089 : decode cL_law 4089 = .ok (.istore 6, 2) := by decide +kernel
theorem dL_law_4091 : decode cL_law 4091 = .ok (.aload_n 2, 1) := by decide +kernel
theorem dL_law_4092 : decode cL_law 4092 = .ok (.invokevirtual 177, 3) := by decide +kernel
theorem dL_law_4095 : decode cL_law 4095 = .ok (.iload 5, 2) := by decide +kernel
theorem dL_law_4097 : decode cL_law 4097 = .ok (.if_icmp .eq 5, 3) := by decide +kernel
theorem dL_law_4100 : decode cL_law 4100 = .ok (.iconst 0, 1) := by decide +kernel
theorem dL_law_4101 : decode cL_law 4101 = .ok (.ireturn, 1) := by decide +kernel
theorem dL_law_4102 : decode cL_law 4102 = .ok (.iload 5, 2) := by decide +kernel
theorem dL_law_4104 : decode cL_law 4104 = .ok (.ifCond .ne 15, 3) := by decide +kernel
theorem dL_law_4107 : decode cL_law 4107 = .ok (.aload_n 3, 1) := by decide +kernel
theorem dL_law_4108 : decode cL_law 4108 = .ok (.iconst 0, 1) := by decide +kernel
theorem dL_law_4109 : decode cL_law 4109 = .ok (.laload, 1) := by decide +kernel
theorem dL_law_4110 : decode cL_law 4110 = .ok (.iload 6, 2) := by decide +kernel
theorem dL_law_4112 : decode cL_law 4112 = .ok (.i2l, 1) := by decide +kernel
theorem dL_law_4113 : decode cL_law 4113 = .ok (.lcmp, 1) := by decide +kernel
theorem dL_law_4114 : decode cL_law 4114 = .ok (.ifCond .eq 5, 3) := by decide +kernel
theorem dL_law_4117 : decode cL_law 4117 = .ok (.iconst 0, 1) := by decide +kernel
theorem dL_law_4118 : decode cL_law 4118 = .ok (.ireturn, 1) := by decide +kernel
theorem dL_law_4119 : decode cL_law 4119 = .ok (.goto 114, 3) := by decide +kernel
theorem dL_law_4122 : decode cL_law 4122 = .ok (.aload_n 1, 1) := by decide +kernel
theorem dL_law_4123 : decode cL_law 4123 = .ok (.invokevirtual 327, 3) := by decide +kernel
theorem dL_law_4126 : decode cL_law 4126 = .ok (.f2d, 1) := by decide +kernel
theorem dL_law_4127 : decode cL_law 4127 = .ok (.dstore 5, 2) := by decide +kernel
theorem dL_law_4129 : decode cL_law 4129 = .ok (.aload_n 2, 1) := by decide +kernel
theorem dL_law_4130 : decode cL_law 4130 = .ok (.invokevirtual 331, 3) := by decide +kernel
theorem dL_law_4133 : decode cL_law 4133 = .ok (.f2d, 1) := by decide +kernel
theorem dL_law_4134 : decode cL_law 4134 = .ok (.dstore 7, 2) := by decide +kernel
theorem dL_law_4136 : decode cL_law 4136 = .ok (.dload 5, 2) := by decide +kernel
theorem dL_law_4138 : decode cL_law 4138 = .ok (.dload 7, 2) := by decide +kernel
theorem dL_law_4140 : decode cL_law 4140 = .ok (.dcmp .l, 1) := by decide +kernel
theorem dL_law_4141 : decode cL_law 4141 = .ok (.ifCond .eq 21, 3) := by decide +kernel
theorem dL_law_4144 : decode cL_law 4144 = .ok (.dload 5, 2) := by decide +kernel
theorem dL_law_4146 : decode cL_law 4146 = .ok (.dload 5, 2) := by decide +kernel
theorem dL_law_4148 : decode cL_law 4148 = .ok (.dcmp .l, 1) := by decide +kernel
theorem dL_law_4149 : decode cL_law 4149 = .ok (.ifCond .eq 11, 3) := by decide +kernel
theorem dL_law_4152 : decode cL_law 4152 = .ok (.dload 7, 2) := by decide +kernel
theorem dL_law_4154 : decode cL_law 4154 = .ok (.dload 7, 2) := by decide +kernel
theorem dL_law_4156 : decode cL_law 4156 = .ok (.dcmp .l, 1) := by decide +kernel
theorem dL_law_4157 : decode cL_law 4157 = .ok (.ifCond .ne 5, 3) := by decide +kernel
theorem dL_law_4160 : decode cL_law 4160 = .ok (.iconst 0, 1) := by decide +kernel
theorem dL_law_4161 : decode cL_law 4161 = .ok (.ireturn, 1) := by decide +kernel
theorem dL_law_4162 : decode cL_law 4162 = .ok (.goto 71, 3) := by decide +kernel
theorem dL_law_4165 : decode cL_law 4165 = .ok (.aload_n 1, 1) := by decide +kernel
theorem dL_law_4166 : decode cL_law 4166 = .ok (.invokevirtual 332, 3) := by decide +kernel
theorem dL_law_4169 : decode cL_law 4169 = .ok (.dstore 5, 2) := by decide +kernel
theorem dL_law_4171 : decode cL_law 4171 = .ok (.aload_n 2, 1) := by decide +kernel
theorem dL_law_4172 : decode cL_law 4172 = .ok (.invokevirtual 336, 3) := by decide +kernel
theorem dL_law_4175 : decode cL_law 4175 = .ok (.dstore 7, 2) := by decide +kernel
theorem dL_law_4177 : decode cL_law 4177 = .ok (.dload 5, 2) := by decide +kernel
theorem dL_law_4179 : decode cL_law 4179 = .ok (.dload 7, 2) := by decide +kernel
theorem dL_law_4181 : decode cL_law 4181 = .ok (.dcmp .l, 1) := by decide +kernel
theorem dL_law_4182 : decode cL_law 4182 = .ok (.ifCond .eq 21, 3) := by decide +kernel
theorem dL_law_4185 : decode cL_law 4185 = .ok (.dload 5, 2) := by decide +kernel
theorem dL_law_4187 : decode cL_law 4187 = .ok (.dload 5, 2) := by decide +kernel
theorem dL_law_4189 : decode cL_law 4189 = .ok (.dcmp .l, 1) := by decide +kernel
theorem dL_law_4190 : decode cL_law 4190 = .ok (.ifCond .eq 11, 3) := by decide +kernel
theorem dL_law_4193 : decode cL_law 4193 = .ok (.dload 7, 2) := by decide +kernel
theorem dL_law_4195 : decode cL_law 4195 = .ok (.dload 7, 2) := by decide +kernel
theorem dL_law_4197 : decode cL_law 4197 = .ok (.dcmp .l, 1) := by decide +kernel
theorem dL_law_4198 : decode cL_law 4198 = .ok (.ifCond .ne 5, 3) := by decide +kernel
theorem dL_law_4201 : decode cL_law 4201 = .ok (.iconst 0, 1) := by decide +kernel
theorem dL_law_4202 : decode cL_law 4202 = .ok (.ireturn, 1) := by decide +kernel
theorem dL_law_4203 : decode cL_law 4203 = .ok (.goto 30, 3) := by decide +kernel
theorem dL_law_4206 : decode cL_law 4206 = .ok (.aload_n 1, 1) := by decide +kernel
theorem dL_law_4207 : decode cL_law 4207 = .ok (.invokevirtual 337, 3) := by decide +kernel
theorem dL_law_4210 : decode cL_law 4210 = .ok (.aload_n 2, 1) := by decide +kernel
theorem dL_law_4211 : decode cL_law 4211 = .ok (.invokevirtual 341, 3) := by decide +kernel
theorem dL_law_4214 : decode cL_law 4214 = .ok (.lcmp, 1) := by decide +kernel
theorem dL_law_4215 : decode cL_law 4215 = .ok (.ifCond .eq 18, 3) := by decide +kernel
theorem dL_law_4218 : decode cL_law 4218 = .ok (.iconst 0, 1) := by decide +kernel
theorem dL_law_4219 : decode cL_law 4219 = .ok (.ireturn, 1) := by decide +kernel
theorem dL_law_4220 : decode cL_law 4220 = .ok (.aload_n 1, 1) := by decide +kernel
theorem dL_law_4221 : decode cL_law 4221 = .ok (.invokevirtual 342, 3) := by decide +kernel
theorem dL_law_4224 : decode cL_law 4224 = .ok (.aload_n 2, 1) := by decide +kernel
theorem dL_law_4225 : decode cL_law 4225 = .ok (.invokevirtual 346, 3) := by decide +kernel
theorem dL_law_4228 : decode cL_law 4228 = .ok (.if_icmp .eq 5, 3) := by decide +kernel
theorem dL_law_4231 : decode cL_law 4231 = .ok (.iconst 0, 1) := by decide +kernel
theorem dL_law_4232 : decode cL_law 4232 = .ok (.ireturn, 1) := by decide +kernel
theorem dL_law_4233 : decode cL_law 4233 = .ok (.iinc 4 6, 3) := by decide +kernel
theorem dL_law_4236 : decode cL_law 4236 = .ok (.goto (-4213), 3) := by decide +kernel
theorem dL_law_4239 : decode cL_law 4239 = .ok (.iconst 1, 1) := by decide +kernel
theorem dL_law_4240 : decode cL_law 4240 = .ok (.ireturn, 1) := by decide +kernel
