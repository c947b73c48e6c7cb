set_option maxRecDepth 20000 in
theorem ggL_law_X2_init : GoodIn wsL_law wsX2_init := goodIn_r _ [10, 11, 12, 13, 14, 15, 16, 17, 3, 18, 19, 20, 21, 22, 23, 24, 25, 26, 27, 28, 29, 30, 31, 32, 33, 34, 35, 36, 37, 414, 415, 416, 417, 418, 419, 420, 421, 405, 406, 407, 408, 409, 410, 411, 412, 413, 422, 423, 424, 425, 426] (by decide +kernel) (by decide +kernel)
set_option maxRecDepth 20000 in
theorem gL_law_X2_init : GoodIn wsL_law (wsX2_init) := ggL_law_X2_init
set_option maxRecDepth 100000 in
theorem ggL_law_L_build : GoodIn wsL_law wsL_build := goodIn_ca (goodIn_ca (goodIn_ca (goodIn_r _ [41, 42, 43, 44, 45, 46, 47, 12, 13, 48, 49, 3, 50, 51, 52, 53, 40, 54, 55, 56, 57, 58, 59, 60, 61, 62, 63, 64, 65, 66, 67, 68, 69, 70, 71, 72, 73, 2, 74, 75, 76, 77, 78, 79, 20, 80, 81, 82, 83, 17, 84, 85, 86, 87, 88, 89, 90, 91, 92, 93, 94, 95, 96, 97, 98, 99, 100, 101, 102, 103, 18, 104, 105, 106, 107, 108, 109, 110, 111, 112, 113, 114, 115, 116, 117, 118, 119, 23, 24, 120, 121, 122, 123, 124, 16, 125, 126, 127, 31, 29, 30, 128, 129, 130, 131, 132, 133, 134, 33, 135, 136, 137, 138, 139, 140, 141, 142, 143, 144, 145, 28, 146, 147, 148, 149, 150, 151, 152, 153, 154, 155, 156, 157, 158, 159, 160, 161, 162, 163, 164, 165, 166, 5, 6, 7, 167, 168, 169, 170, 171, 172, 173, 174, 175, 176, 177, 178, 179, 180, 181, 182, 183, 184, 185, 186, 187, 188, 189, 190, 191, 192, 193, 194, 195, 196, 197, 198, 199, 200, 201, 202, 22, 203, 204, 37, 205, 206, 207, 208, 209, 210, 211, 212, 213, 214, 215, 216, 217, 218, 427, 428, 429, 430, 431, 432, 433, 405, 406, 407, 408, 409, 410, 411, 412, 413, 422, 423, 424, 425, 426, 414, 415, 416, 417, 418, 419, 420, 421] (by rfl) (by decide +kernel)) (goodIn_sub (fun _ h => List.mem_append_left _ (List.mem_append_left _ (List.mem_append_right _ h))) (by decide +kernel))) (goodIn_sub (fun _ h => List.mem_append_left _ (List.mem_append_right _ h)) (by decide +kernel))) (goodIn_sub (fun _ h => List.mem_append_right _ h) (by decide +kernel))
set_option maxRecDepth 20000 in
theorem gL_law_L_build : GoodIn wsL_law (va_wsS RL 90 yL_build wsL_build) := goodIn_app (goodIn_of _ (by decide +kernel)) ggL_law_L_build
set_option maxRecDepth 20000 in
theorem ggL_law_L_cell : GoodIn wsL_law wsL_cell := goodIn_r _ [54, 55] (by decide +kernel) (by decide +kernel)
set_option maxRecDepth 20000 in
theorem gL_law_L_cell : GoodIn wsL_law (va_wsS RL 81 yL_cell wsL_cell) := goodIn_app (goodIn_of _ (by decide +kernel)) ggL_law_L_cell
set_option maxRecDepth 100000 in
theorem ggL_law_L_act : GoodIn wsL_law wsL_act := goodIn_ca (goodIn_ca (goodIn_ca (goodIn_r _ [62, 63, 64, 3, 65, 66, 67, 56, 57, 40, 58, 59, 68, 69, 44, 70, 48, 71, 72, 73, 2, 74, 75, 76, 77, 78, 79, 20, 80, 81, 82, 83, 17, 84, 85, 86, 87, 88, 89, 90, 91, 92, 93, 94, 95, 96, 97, 98, 99, 100, 101, 102, 103, 18, 104, 105, 106, 107, 49, 108, 109, 50, 110, 111, 112, 113, 51, 114, 115, 116, 117, 118, 119, 23, 24, 120, 121, 122, 123, 124, 16, 125, 126, 127, 31, 29, 30, 128, 129, 130, 131, 132, 133, 134, 33, 135, 136, 137, 138, 139, 140, 141, 142, 143, 144, 145, 28, 146, 147, 148, 149, 150, 151, 152, 153, 154, 155, 156, 157, 158, 159, 160, 161, 162, 163, 164, 165, 166, 5, 6, 7, 167, 168, 169, 170, 171, 172, 173, 174, 175, 176, 177, 178, 179, 180, 181, 182, 183, 184, 185, 186, 187, 188, 189, 190, 191, 192, 193, 194, 195, 196, 197, 198, 199, 200, 201, 202, 22, 203, 204, 37, 205, 206, 207, 208, 209, 210, 211, 212, 213, 214, 215, 216, 217, 218, 427, 428, 429, 430, 431, 432, 433, 405, 406, 407, 408, 409, 410, 411, 412, 413, 422, 423, 424, 425, 426, 414, 415, 416, 417, 418, 419, 420, 421] (by rfl) (by decide +kernel)) (goodIn_sub (fun _ h => List.mem_append_left _ (List.mem_append_left _ (List.mem_append_right _ h))) (by decide +kernel))) (goodIn_sub (fun _ h => List.mem_append_left _ (List.mem_append_right _ h)) (by decide +kernel))) (goodIn_sub (fun _ h => List.mem_append_right _ h) (by decide +kernel))
set_option maxRecDepth 20000 in
theorem gL_law_L_act : GoodIn wsL_law (va_wsS RL 85 yL_act wsL_act) := goodIn_app (goodIn_of _ (by decide +kernel)) ggL_law_L_act
set_option maxRecDepth 20000 in
theorem ggL_law_X2_phrases : GoodIn wsL_law wsX2_phrases := goodIn_r _ [222, 17, 405, 406, 407, 408, 409, 410, 411, 412, 413, 414, 415, 416, 417, 418, 419, 420, 421] (by decide +kernel) (by decide +kernel)
set_option maxRecDepth 20000 in
theorem gL_law_X2_phrases : GoodIn wsL_law (wsV RL 94 RX2 yX2_phrases wsX2_phrases) := goodIn_app (goodIn_of _ (by decide +kernel)) ggL_law_X2_phrases
set_option maxRecDepth 20000 in
theorem ggL_law_X2_nextOffset : GoodIn wsL_law wsX2_nextOffset := goodIn_r _ [226, 17, 405, 406, 407, 408, 409, 410, 411, 412, 413, 414, 415, 416, 417, 418, 419, 420, 421] (by decide +kernel) (by decide +kernel)
set_option maxRecDepth 20000 in
theorem gL_law_X2_nextOffset : GoodIn wsL_law (wsV RL 97 RX2 yX2_nextOffset wsX2_nextOffset) := goodIn_app (goodIn_of _ (by decide +kernel)) ggL_law_X2_nextOffset
set_option maxRecDepth 20000 in
theorem ggL_law_X2_firstOffset : GoodIn wsL_law wsX2_firstOffset := goodIn_r _ [230, 17, 405, 406, 407, 408, 409, 410, 411, 412, 413, 414, 415, 416, 417, 418, 419, 420, 421] (by decide +kernel) (by decide +kernel)
set_option maxRecDepth 20000 in
theorem gL_law_X2_firstOffset : GoodIn wsL_law (wsV RL 100 RX2 yX2_firstOffset wsX2_firstOffset) := goodIn_app (goodIn_of _ (by decide +kernel)) ggL_law_X2_firstOffset
set_option maxRecDepth 20000 in
theorem ggL_law_X2_ships : GoodIn wsL_law wsX2_ships := goodIn_r _ [234, 79, 405, 406, 407, 408, 409, 410, 411, 412, 413] (by decide +kernel) (by decide +kernel)
set_option maxRecDepth 20000 in
theorem gL_law_X2_ships : GoodIn wsL_law (wsV RL 103 RX2 yX2_ships wsX2_ships) := goodIn_app (goodIn_of _ (by decide +kernel)) ggL_law_X2_ships
set_option maxRecDepth 20000 in
theorem ggL_law_X2_dropped : GoodIn wsL_law wsX2_dropped := goodIn_r _ [238, 17, 405, 406, 407, 408, 409, 410, 411, 412, 413, 414, 415, 416, 417, 418, 419, 420, 421] (by decide +kernel) (by decide +kernel)
set_option maxRecDepth 20000 in
theorem gL_law_X2_dropped : GoodIn wsL_law (wsV RL 105 RX2 yX2_dropped wsX2_dropped) := goodIn_app (goodIn_of _ (by decide +kernel)) ggL_law_X2_dropped
set_option maxRecDepth 20000 in
theorem ggL_law_X2_isKept : GoodIn wsL_law wsX2_isKept := goodIn_r _ [242, 17, 243, 16, 244, 245, 127, 28, 142, 143, 144, 145, 405, 406, 407, 408, 409, 410, 411, 412, 413, 414, 415, 416, 417, 418, 419, 420, 421] (by decide +kernel) (by decide +kernel)
set_option maxRecDepth 20000 in
theorem gL_law_X2_isKept : GoodIn wsL_law (wsV RL 108 RX2 yX2_isKept wsX2_isKept) := goodIn_app (goodIn_of _ (by decide +kernel)) ggL_law_X2_isKept
set_option maxRecDepth 20000 in
theorem ggL_law_X2_latestOf : GoodIn wsL_law wsX2_latestOf := goodIn_ca (goodIn_r _ [249, 17, 250, 251, 2, 252, 92, 93, 216, 217, 218, 253, 16, 254, 255, 127, 28, 170, 171, 172, 173, 29, 405, 406, 407, 408, 409, 410, 411, 412, 413, 414, 415, 416, 417, 418, 419, 420, 421] (by decide +kernel) (by decide +kernel)) (goodIn_sub (fun _ h => List.mem_append_right _ h) (by decide +kernel))
set_option maxRecDepth 20000 in
theorem gL_law_X2_latestOf : GoodIn wsL_law (wsV RL 112 RX2 yX2_latestOf wsX2_latestOf) := goodIn_app (goodIn_of _ (by decide +kernel)) ggL_law_X2_latestOf
set_option maxRecDepth 20000 in
theorem ggL_law_X2_countOf : GoodIn wsL_law wsX2_countOf := goodIn_ca (goodIn_r _ [259, 17, 250, 251, 2, 252, 92, 93, 216, 217, 218, 260, 16, 261, 262, 29, 263, 264, 265, 266, 127, 405, 406, 407, 408, 409, 410, 411, 412, 413, 414, 415, 416, 417, 418, 419, 420, 421] (by decide +kernel) (by decide +kernel)) (goodIn_sub (fun _ h => List.mem_append_right _ h) (by decide +kernel))
set_option maxRecDepth 20000 in
theorem gL_law_X2_countOf : GoodIn wsL_law (wsV RL 115 RX2 yX2_countOf wsX2_countOf) := goodIn_app (goodIn_of _ (by decide +kernel)) ggL_law_X2_countOf
