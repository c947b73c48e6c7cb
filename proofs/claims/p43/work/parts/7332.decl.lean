set_option maxRecDepth 20000 in
theorem ggL_law_X2_errorsOf : GoodIn wsL_law wsX2_errorsOf := goodIn_ca (goodIn_r _ [336, 88, 89, 90, 2, 91, 92, 93, 79, 20, 337, 338, 339, 340, 17, 166, 5, 6, 7, 143, 16, 144, 145, 127, 28, 171, 172, 173, 29, 283, 284, 285, 30, 170, 405, 406, 407, 408, 409, 410, 411, 412, 413, 422, 423, 424, 425, 426, 414, 415, 416, 417, 418, 419, 420, 421] (by decide +kernel) (by decide +kernel)) (goodIn_sub (fun _ h => List.mem_append_right _ h) (by decide +kernel))
set_option maxRecDepth 20000 in
theorem gL_law_X2_errorsOf : GoodIn wsL_law (wsV RL 154 RX2 yX2_errorsOf wsX2_errorsOf) := goodIn_app (goodIn_of _ (by decide +kernel)) ggL_law_X2_errorsOf
set_option maxRecDepth 20000 in
theorem ggL_law_X2_farthestBehind : GoodIn wsL_law wsX2_farthestBehind := goodIn_r _ [344, 79, 20, 325, 326, 327, 2, 328, 17, 143, 16, 144, 145, 127, 28, 405, 406, 407, 408, 409, 410, 411, 412, 413, 414, 415, 416, 417, 418, 419, 420, 421, 422, 423, 424, 425, 426] (by decide +kernel) (by decide +kernel)
set_option maxRecDepth 20000 in
theorem gL_law_X2_farthestBehind : GoodIn wsL_law (wsV RL 157 RX2 yX2_farthestBehind wsX2_farthestBehind) := goodIn_app (goodIn_of _ (by decide +kernel)) ggL_law_X2_farthestBehind
set_option maxRecDepth 20000 in
theorem ggL_law_X2_wouldMiss : GoodIn wsL_law wsX2_wouldMiss := goodIn_ca (goodIn_r _ [348, 17, 88, 89, 90, 2, 91, 92, 93, 79, 20, 158, 159, 160, 161, 162, 163, 164, 165, 166, 5, 6, 7, 167, 16, 168, 169, 127, 29, 30, 28, 33, 170, 171, 172, 173, 139, 140, 141, 142, 143, 144, 145, 405, 406, 407, 408, 409, 410, 411, 412, 413, 422, 423, 424, 425, 426, 414, 415, 416, 417, 418, 419, 420, 421] (by decide +kernel) (by decide +kernel)) (goodIn_sub (fun _ h => List.mem_append_right _ h) (by decide +kernel))
set_option maxRecDepth 20000 in
theorem gL_law_X2_wouldMiss : GoodIn wsL_law (wsV RL 160 RX2 yX2_wouldMiss wsX2_wouldMiss) := goodIn_app (goodIn_of _ (by decide +kernel)) ggL_law_X2_wouldMiss
set_option maxRecDepth 20000 in
theorem ggL_law_X2_meanLag : GoodIn wsL_law wsX2_meanLag := goodIn_r _ [352, 79, 20, 325, 326, 327, 2, 328, 17, 143, 16, 144, 145, 127, 28, 405, 406, 407, 408, 409, 410, 411, 412, 413, 414, 415, 416, 417, 418, 419, 420, 421, 422, 423, 424, 425, 426] (by decide +kernel) (by decide +kernel)
set_option maxRecDepth 20000 in
theorem gL_law_X2_meanLag : GoodIn wsL_law (wsV RL 163 RX2 yX2_meanLag wsX2_meanLag) := goodIn_app (goodIn_of _ (by decide +kernel)) ggL_law_X2_meanLag
set_option maxRecDepth 20000 in
theorem ggL_law_X2_hours : GoodIn wsL_law wsX2_hours := goodIn_r _ [356, 190, 405, 406, 407, 408, 409, 410, 411, 412, 413] (by decide +kernel) (by decide +kernel)
set_option maxRecDepth 20000 in
theorem gL_law_X2_hours : GoodIn wsL_law (wsV RL 167 RX2 yX2_hours wsX2_hours) := goodIn_app (goodIn_of _ (by decide +kernel)) ggL_law_X2_hours
set_option maxRecDepth 20000 in
theorem ggL_law_X2_isStormy : GoodIn wsL_law wsX2_isStormy := goodIn_r _ [360, 98, 405, 406, 407, 408, 409, 410, 411, 412, 413] (by decide +kernel) (by decide +kernel)
set_option maxRecDepth 20000 in
theorem gL_law_X2_isStormy : GoodIn wsL_law (wsV RL 170 RX2 yX2_isStormy wsX2_isStormy) := goodIn_app (goodIn_of _ (by decide +kernel)) ggL_law_X2_isStormy
set_option maxRecDepth 20000 in
theorem ggL_law_X2_passHours : GoodIn wsL_law wsX2_passHours := goodIn_ca (goodIn_r _ [189, 79, 20, 190, 191, 192, 2, 193, 75, 76, 194, 195, 196, 197, 98, 198, 199, 200, 201, 17, 166, 5, 6, 7, 143, 16, 144, 145, 127, 28, 202, 22, 203, 204, 37, 205, 206, 405, 406, 407, 408, 409, 410, 411, 412, 413, 422, 423, 424, 425, 426, 414, 415, 416, 417, 418, 419, 420, 421] (by decide +kernel) (by decide +kernel)) (goodIn_sub (fun _ h => List.mem_append_left _ (List.mem_append_left _ (List.mem_append_right _ h))) (by decide +kernel))
set_option maxRecDepth 20000 in
theorem gL_law_X2_passHours : GoodIn wsL_law (wsV RL 73 RX2 yX2_passHours wsX2_passHours) := goodIn_app (goodIn_of _ (by decide +kernel)) ggL_law_X2_passHours
set_option maxRecDepth 20000 in
theorem ggL_law_X3_pass : GoodIn wsL_law wsX3_pass := goodIn_r _ [210, 211, 109, 51, 49, 427, 428, 429, 430, 431, 432, 433] (by decide +kernel) (by decide +kernel)
set_option maxRecDepth 20000 in
theorem gL_law_X3_pass : GoodIn wsL_law (wsV RL 76 RX3 yX3_pass wsX3_pass) := goodIn_app (goodIn_of _ (by decide +kernel)) ggL_law_X3_pass
set_option maxRecDepth 20000 in
theorem ggL_law_L_below : GoodIn wsL_law wsL_below := goodIn_r _ [58, 59] (by decide +kernel) (by decide +kernel)
set_option maxRecDepth 20000 in
theorem gL_law_L_below : GoodIn wsL_law (va_wsS RL 19 yL_below wsL_below) := goodIn_app (goodIn_of _ (by decide +kernel)) ggL_law_L_below
set_option maxRecDepth 20000 in
theorem ggL_law_X2_say : GoodIn wsL_law wsX2_say := goodIn_ca (goodIn_r _ [215, 75, 76, 216, 217, 2, 218, 128, 129, 130, 131, 17, 98, 99, 18, 132, 16, 133, 134, 127, 33, 135, 136, 137, 138, 79, 20, 139, 140, 141, 142, 143, 144, 145, 28, 146, 147, 148, 29, 30, 31, 149, 150, 151, 152, 153, 405, 406, 407, 408, 409, 410, 411, 412, 413, 414, 415, 416, 417, 418, 419, 420, 421, 422, 423, 424, 425, 426] (by decide +kernel) (by decide +kernel)) (goodIn_sub (fun _ h => List.mem_append_left _ (List.mem_append_left _ (List.mem_append_right _ h))) (by decide +kernel))
set_option maxRecDepth 20000 in
theorem gL_law_X2_say : GoodIn wsL_law (wsV RL 79 RX2 yX2_say wsX2_say) := goodIn_app (goodIn_of _ (by decide +kernel)) ggL_law_X2_say
set_option maxRecDepth 20000 in
theorem ggL_law_X3_say : GoodIn wsL_law wsX3_say := goodIn_r _ [107, 49, 3, 108, 109, 50, 110, 111, 112, 44, 113, 48, 51, 114, 115, 69, 70, 427, 428, 429, 430, 431, 432, 433] (by decide +kernel) (by decide +kernel)
set_option maxRecDepth 20000 in
theorem gL_law_X3_say : GoodIn wsL_law (wsV RL 55 RX3 yX3_say wsX3_say) := goodIn_app (goodIn_of _ (by decide +kernel)) ggL_law_X3_say
set_option maxRecDepth 100000 in
theorem ggL_law_X3_isSame : GoodIn wsL_law wsX3_isSame := goodIn_ca (goodIn_r _ [364, 49, 211, 108, 114, 109, 50, 51, 3, 365, 354, 355, 2, 356, 190, 366, 220, 221, 222, 17, 367, 224, 225, 226, 368, 228, 229, 230, 369, 236, 237, 238, 370, 358, 359, 360, 98, 371, 291, 292, 293, 99, 372, 232, 233, 234, 79, 373, 240, 241, 242, 243, 16, 244, 245, 127, 28, 142, 143, 144, 145, 374, 268, 269, 270, 271, 272, 273, 274, 92, 93, 375, 276, 277, 278, 376, 287, 288, 289, 377, 247, 248, 249, 250, 251, 252, 216, 217, 218, 253, 254, 255, 170, 171, 172, 173, 29, 378, 280, 281, 282, 283, 284, 285, 30, 379, 380, 381, 44, 382, 383, 257, 258, 259, 260, 261, 262, 263, 264, 265, 266, 384, 310, 311, 312, 18, 120, 121, 122, 123, 385, 303, 304, 305, 306, 307, 308, 31, 386, 387, 388, 389, 390, 330, 331, 332, 88, 89, 90, 91, 20, 391, 322, 323, 324, 325, 326, 327, 328, 392, 314, 315, 316, 393, 318, 319, 320, 394, 334, 335, 336, 337, 338, 339, 340, 166, 5, 6, 7, 395, 396, 397, 398, 399, 400, 401, 402, 403, 342, 343, 344, 404, 350, 351, 352, 427, 428, 429, 430, 431, 432, 433, 405, 406, 407, 408, 409, 410, 411, 412, 413, 414, 415, 416, 417, 418, 419, 420, 421, 422, 423, 424, 425, 426] (by rfl) (by decide +kernel)) (goodIn_sub (fun _ h => List.mem_append_right _ h) (by decide +kernel))
set_option maxRecDepth 20000 in
theorem gL_law_X3_isSame : GoodIn wsL_law (wsV RL 179 RX3 yX3_isSame wsX3_isSame) := goodIn_app (goodIn_of _ (by decide +kernel)) ggL_law_X3_isSame
