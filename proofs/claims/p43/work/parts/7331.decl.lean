set_option maxRecDepth 20000 in
theorem ggL_law_X2_keyAt : GoodIn wsL_law wsX2_keyAt := goodIn_ca (goodIn_r _ [270, 17, 271, 272, 273, 2, 274, 92, 93, 243, 16, 244, 245, 127, 28, 142, 143, 144, 145, 405, 406, 407, 408, 409, 410, 411, 412, 413, 414, 415, 416, 417, 418, 419, 420, 421] (by decide +kernel) (by decide +kernel)) (goodIn_sub (fun _ h => List.mem_append_right _ h) (by decide +kernel))
set_option maxRecDepth 20000 in
theorem gL_law_X2_keyAt : GoodIn wsL_law (wsV RL 118 RX2 yX2_keyAt wsX2_keyAt) := goodIn_app (goodIn_of _ (by decide +kernel)) ggL_law_X2_keyAt
set_option maxRecDepth 20000 in
theorem ggL_law_X2_valueAt : GoodIn wsL_law wsX2_valueAt := goodIn_ca (goodIn_r _ [278, 17, 271, 272, 273, 2, 274, 92, 93, 243, 16, 244, 245, 127, 28, 142, 143, 144, 145, 405, 406, 407, 408, 409, 410, 411, 412, 413, 414, 415, 416, 417, 418, 419, 420, 421] (by decide +kernel) (by decide +kernel)) (goodIn_sub (fun _ h => List.mem_append_right _ h) (by decide +kernel))
set_option maxRecDepth 20000 in
theorem gL_law_X2_valueAt : GoodIn wsL_law (wsV RL 121 RX2 yX2_valueAt wsX2_valueAt) := goodIn_app (goodIn_of _ (by decide +kernel)) ggL_law_X2_valueAt
set_option maxRecDepth 20000 in
theorem ggL_law_X2_valueOf : GoodIn wsL_law wsX2_valueOf := goodIn_ca (goodIn_r _ [282, 17, 250, 251, 2, 252, 92, 93, 216, 217, 218, 283, 16, 284, 285, 127, 30, 170, 171, 172, 173, 29, 405, 406, 407, 408, 409, 410, 411, 412, 413, 414, 415, 416, 417, 418, 419, 420, 421] (by decide +kernel) (by decide +kernel)) (goodIn_sub (fun _ h => List.mem_append_right _ h) (by decide +kernel))
set_option maxRecDepth 20000 in
theorem gL_law_X2_valueOf : GoodIn wsL_law (wsV RL 124 RX2 yX2_valueOf wsX2_valueOf) := goodIn_app (goodIn_of _ (by decide +kernel)) ggL_law_X2_valueOf
set_option maxRecDepth 20000 in
theorem ggL_law_X2_stormAt : GoodIn wsL_law wsX2_stormAt := goodIn_ca (goodIn_r _ [289, 17, 271, 272, 273, 2, 274, 92, 93, 243, 16, 244, 245, 127, 28, 142, 143, 144, 145, 405, 406, 407, 408, 409, 410, 411, 412, 413, 414, 415, 416, 417, 418, 419, 420, 421] (by decide +kernel) (by decide +kernel)) (goodIn_sub (fun _ h => List.mem_append_right _ h) (by decide +kernel))
set_option maxRecDepth 20000 in
theorem gL_law_X2_stormAt : GoodIn wsL_law (wsV RL 127 RX2 yX2_stormAt wsX2_stormAt) := goodIn_app (goodIn_of _ (by decide +kernel)) ggL_law_X2_stormAt
set_option maxRecDepth 20000 in
theorem ggL_law_X2_storms : GoodIn wsL_law wsX2_storms := goodIn_r _ [293, 99, 405, 406, 407, 408, 409, 410, 411, 412, 413] (by decide +kernel) (by decide +kernel)
set_option maxRecDepth 20000 in
theorem gL_law_X2_storms : GoodIn wsL_law (wsV RL 130 RX2 yX2_storms wsX2_storms) := goodIn_app (goodIn_of _ (by decide +kernel)) ggL_law_X2_storms
set_option maxRecDepth 20000 in
theorem ggL_law_X2_wouldCompact : GoodIn wsL_law wsX2_wouldCompact := goodIn_r _ [297, 17, 158, 159, 160, 2, 161, 162, 163, 164, 165, 79, 20, 166, 5, 6, 7, 167, 16, 168, 169, 127, 29, 30, 28, 33, 170, 171, 172, 173, 298, 299, 300, 301, 139, 140, 141, 142, 143, 144, 145, 405, 406, 407, 408, 409, 410, 411, 412, 413, 414, 415, 416, 417, 418, 419, 420, 421, 422, 423, 424, 425, 426] (by decide +kernel) (by decide +kernel)
set_option maxRecDepth 20000 in
theorem gL_law_X2_wouldCompact : GoodIn wsL_law (wsV RL 133 RX2 yX2_wouldCompact wsX2_wouldCompact) := goodIn_app (goodIn_of _ (by decide +kernel)) ggL_law_X2_wouldCompact
set_option maxRecDepth 20000 in
theorem ggL_law_X2_keptOf : GoodIn wsL_law wsX2_keptOf := goodIn_ca (goodIn_r _ [305, 17, 120, 121, 122, 2, 123, 92, 93, 99, 306, 16, 307, 308, 31, 263, 264, 265, 266, 127, 405, 406, 407, 408, 409, 410, 411, 412, 413, 414, 415, 416, 417, 418, 419, 420, 421] (by decide +kernel) (by decide +kernel)) (goodIn_sub (fun _ h => List.mem_append_right _ h) (by decide +kernel))
set_option maxRecDepth 20000 in
theorem gL_law_X2_keptOf : GoodIn wsL_law (wsV RL 136 RX2 yX2_keptOf wsX2_keptOf) := goodIn_app (goodIn_of _ (by decide +kernel)) ggL_law_X2_keptOf
set_option maxRecDepth 20000 in
theorem ggL_law_X2_saidIn : GoodIn wsL_law wsX2_saidIn := goodIn_ca (goodIn_r _ [312, 18, 120, 121, 122, 2, 123, 92, 93, 99, 405, 406, 407, 408, 409, 410, 411, 412, 413] (by decide +kernel) (by decide +kernel)) (goodIn_sub (fun _ h => List.mem_append_right _ h) (by decide +kernel))
set_option maxRecDepth 20000 in
theorem gL_law_X2_saidIn : GoodIn wsL_law (wsV RL 139 RX2 yX2_saidIn wsX2_saidIn) := goodIn_app (goodIn_of _ (by decide +kernel)) ggL_law_X2_saidIn
set_option maxRecDepth 20000 in
theorem ggL_law_X2_heardBy : GoodIn wsL_law wsX2_heardBy := goodIn_ca (goodIn_r _ [316, 88, 89, 90, 2, 91, 92, 93, 79, 20, 422, 423, 424, 425, 426, 405, 406, 407, 408, 409, 410, 411, 412, 413] (by decide +kernel) (by decide +kernel)) (goodIn_sub (fun _ h => List.mem_append_right _ h) (by decide +kernel))
set_option maxRecDepth 20000 in
theorem gL_law_X2_heardBy : GoodIn wsL_law (wsV RL 142 RX2 yX2_heardBy wsX2_heardBy) := goodIn_app (goodIn_of _ (by decide +kernel)) ggL_law_X2_heardBy
set_option maxRecDepth 20000 in
theorem ggL_law_X2_missedBy : GoodIn wsL_law wsX2_missedBy := goodIn_ca (goodIn_r _ [320, 88, 89, 90, 2, 91, 92, 93, 79, 20, 422, 423, 424, 425, 426, 405, 406, 407, 408, 409, 410, 411, 412, 413] (by decide +kernel) (by decide +kernel)) (goodIn_sub (fun _ h => List.mem_append_right _ h) (by decide +kernel))
set_option maxRecDepth 20000 in
theorem gL_law_X2_missedBy : GoodIn wsL_law (wsV RL 145 RX2 yX2_missedBy wsX2_missedBy) := goodIn_app (goodIn_of _ (by decide +kernel)) ggL_law_X2_missedBy
set_option maxRecDepth 20000 in
theorem ggL_law_X2_lagOf : GoodIn wsL_law wsX2_lagOf := goodIn_ca (goodIn_r _ [324, 88, 89, 90, 2, 91, 92, 93, 79, 20, 325, 326, 327, 328, 17, 143, 16, 144, 145, 127, 28, 405, 406, 407, 408, 409, 410, 411, 412, 413, 414, 415, 416, 417, 418, 419, 420, 421, 422, 423, 424, 425, 426] (by decide +kernel) (by decide +kernel)) (goodIn_sub (fun _ h => List.mem_append_right _ h) (by decide +kernel))
set_option maxRecDepth 20000 in
theorem gL_law_X2_lagOf : GoodIn wsL_law (wsV RL 148 RX2 yX2_lagOf wsX2_lagOf) := goodIn_app (goodIn_of _ (by decide +kernel)) ggL_law_X2_lagOf
set_option maxRecDepth 20000 in
theorem ggL_law_X2_offsetOf : GoodIn wsL_law wsX2_offsetOf := goodIn_ca (goodIn_r _ [332, 88, 89, 90, 2, 91, 92, 93, 79, 20, 422, 423, 424, 425, 426, 405, 406, 407, 408, 409, 410, 411, 412, 413] (by decide +kernel) (by decide +kernel)) (goodIn_sub (fun _ h => List.mem_append_right _ h) (by decide +kernel))
set_option maxRecDepth 20000 in
theorem gL_law_X2_offsetOf : GoodIn wsL_law (wsV RL 151 RX2 yX2_offsetOf wsX2_offsetOf) := goodIn_app (goodIn_of _ (by decide +kernel)) ggL_law_X2_offsetOf
