set_option maxRecDepth 20000 in
theorem ggL_law_X2_hours : GoodIn wsL_law wsX2_hours := goodIn_r _ [296, 267, 722, 723, 724, 725, 726, 727, 728, 729, 730] (by decide +kernel) (by decide +kernel)
set_option maxRecDepth 20000 in
theorem gL_law_X2_hours : GoodIn wsL_law (wsV RL 136 RX2 yX2_hours wsX2_hours) := goodIn_app (goodIn_of _ (by decide +kernel)) ggL_law_X2_hours
set_option maxRecDepth 20000 in
theorem ggL_law_X3_hours : GoodIn wsL_law wsX3_hours := goodIn_r _ [300, 288, 301, 302, 303, 5, 304, 101, 731, 732, 733, 734, 735, 736, 737, 738, 739, 740, 741, 742, 743, 744, 745, 746, 747, 748, 749] (by decide +kernel) (by decide +kernel)
set_option maxRecDepth 20000 in
theorem gL_law_X3_hours : GoodIn wsL_law (wsV RL 139 RX3 yX3_hours wsX3_hours) := goodIn_app (goodIn_of _ (by decide +kernel)) ggL_law_X3_hours
set_option maxRecDepth 20000 in
theorem ggL_law_X2_phrases : GoodIn wsL_law wsX2_phrases := goodIn_r _ [308, 16, 722, 723, 724, 725, 726, 727, 728, 729, 730, 750, 751, 752, 753, 754, 755, 756, 757] (by decide +kernel) (by decide +kernel)
set_option maxRecDepth 20000 in
theorem gL_law_X2_phrases : GoodIn wsL_law (wsV RL 140 RX2 yX2_phrases wsX2_phrases) := goodIn_app (goodIn_of _ (by decide +kernel)) ggL_law_X2_phrases
set_option maxRecDepth 20000 in
theorem ggL_law_X3_phrases : GoodIn wsL_law wsX3_phrases := goodIn_r _ [312, 117, 301, 302, 303, 5, 304, 101, 731, 732, 733, 734, 735, 736, 737, 738, 739, 740, 741, 742, 743, 744, 745, 746, 747, 748, 749] (by decide +kernel) (by decide +kernel)
set_option maxRecDepth 20000 in
theorem gL_law_X3_phrases : GoodIn wsL_law (wsV RL 143 RX3 yX3_phrases wsX3_phrases) := goodIn_app (goodIn_of _ (by decide +kernel)) ggL_law_X3_phrases
set_option maxRecDepth 20000 in
theorem ggL_law_X2_nextOffset : GoodIn wsL_law wsX2_nextOffset := goodIn_r _ [316, 16, 722, 723, 724, 725, 726, 727, 728, 729, 730, 750, 751, 752, 753, 754, 755, 756, 757] (by decide +kernel) (by decide +kernel)
set_option maxRecDepth 20000 in
theorem gL_law_X2_nextOffset : GoodIn wsL_law (wsV RL 144 RX2 yX2_nextOffset wsX2_nextOffset) := goodIn_app (goodIn_of _ (by decide +kernel)) ggL_law_X2_nextOffset
set_option maxRecDepth 20000 in
theorem ggL_law_X3_nextOffset : GoodIn wsL_law wsX3_nextOffset := goodIn_r _ [320, 102, 301, 302, 303, 5, 304, 101, 731, 732, 733, 734, 735, 736, 737, 738, 739, 740, 741, 742, 743, 744, 745, 746, 747, 748, 749] (by decide +kernel) (by decide +kernel)
set_option maxRecDepth 20000 in
theorem gL_law_X3_nextOffset : GoodIn wsL_law (wsV RL 147 RX3 yX3_nextOffset wsX3_nextOffset) := goodIn_app (goodIn_of _ (by decide +kernel)) ggL_law_X3_nextOffset
set_option maxRecDepth 20000 in
theorem ggL_law_X2_firstOffset : GoodIn wsL_law wsX2_firstOffset := goodIn_r _ [324, 16, 722, 723, 724, 725, 726, 727, 728, 729, 730, 750, 751, 752, 753, 754, 755, 756, 757] (by decide +kernel) (by decide +kernel)
set_option maxRecDepth 20000 in
theorem gL_law_X2_firstOffset : GoodIn wsL_law (wsV RL 148 RX2 yX2_firstOffset wsX2_firstOffset) := goodIn_app (goodIn_of _ (by decide +kernel)) ggL_law_X2_firstOffset
set_option maxRecDepth 20000 in
theorem ggL_law_X3_firstOffset : GoodIn wsL_law wsX3_firstOffset := goodIn_r _ [328, 329, 330, 331, 5, 332, 117, 42, 301, 302, 303, 304, 101, 731, 732, 733, 734, 735, 736, 737, 738, 739, 740, 741, 742, 743, 744, 745, 746, 747, 748, 749] (by decide +kernel) (by decide +kernel)
set_option maxRecDepth 20000 in
theorem gL_law_X3_firstOffset : GoodIn wsL_law (wsV RL 151 RX3 yX3_firstOffset wsX3_firstOffset) := goodIn_app (goodIn_of _ (by decide +kernel)) ggL_law_X3_firstOffset
set_option maxRecDepth 20000 in
theorem ggL_law_X2_dropped : GoodIn wsL_law wsX2_dropped := goodIn_r _ [336, 16, 722, 723, 724, 725, 726, 727, 728, 729, 730, 750, 751, 752, 753, 754, 755, 756, 757] (by decide +kernel) (by decide +kernel)
set_option maxRecDepth 20000 in
theorem gL_law_X2_dropped : GoodIn wsL_law (wsV RL 152 RX2 yX2_dropped wsX2_dropped) := goodIn_app (goodIn_of _ (by decide +kernel)) ggL_law_X2_dropped
set_option maxRecDepth 20000 in
theorem ggL_law_X3_dropped : GoodIn wsL_law wsX3_dropped := goodIn_r _ [340, 125, 301, 302, 303, 5, 304, 101, 731, 732, 733, 734, 735, 736, 737, 738, 739, 740, 741, 742, 743, 744, 745, 746, 747, 748, 749] (by decide +kernel) (by decide +kernel)
set_option maxRecDepth 20000 in
theorem gL_law_X3_dropped : GoodIn wsL_law (wsV RL 155 RX3 yX3_dropped wsX3_dropped) := goodIn_app (goodIn_of _ (by decide +kernel)) ggL_law_X3_dropped
set_option maxRecDepth 20000 in
theorem ggL_law_X2_isKept : GoodIn wsL_law wsX2_isKept := goodIn_r _ [344, 16, 345, 15, 346, 347, 76, 28, 85, 86, 87, 88, 722, 723, 724, 725, 726, 727, 728, 729, 730, 750, 751, 752, 753, 754, 755, 756, 757] (by decide +kernel) (by decide +kernel)
set_option maxRecDepth 20000 in
theorem gL_law_X2_isKept : GoodIn wsL_law (wsV RL 156 RX2 yX2_isKept wsX2_isKept) := goodIn_app (goodIn_of _ (by decide +kernel)) ggL_law_X2_isKept
set_option maxRecDepth 20000 in
theorem ggL_law_X3_isKept : GoodIn wsL_law wsX3_isKept := goodIn_r _ [351, 101, 352, 353, 354, 5, 355, 117, 42, 289, 290, 291, 292, 731, 732, 733, 734, 735, 736, 737, 738, 739, 740, 741, 742, 743, 744, 745, 746, 747, 748, 749] (by decide +kernel) (by decide +kernel)
set_option maxRecDepth 20000 in
theorem gL_law_X3_isKept : GoodIn wsL_law (wsV RL 160 RX3 yX3_isKept wsX3_isKept) := goodIn_app (goodIn_of _ (by decide +kernel)) ggL_law_X3_isKept
set_option maxRecDepth 20000 in
theorem ggL_law_L_keyAt : GoodIn wsL_law wsL_keyAt := goodIn_ca (goodIn_r _ [358, 158, 359, 360, 361, 2, 362, 16, 363, 364, 365, 366, 167, 168, 345, 15, 346, 347, 76, 28, 85, 86, 87, 88, 722, 723, 724, 725, 726, 727, 728, 729, 730, 750, 751, 752, 753, 754, 755, 756, 757] (by decide +kernel) (by decide +kernel)) (goodIn_sub (fun _ h => List.mem_append_right _ h) (by decide +kernel))
set_option maxRecDepth 20000 in
theorem gL_law_L_keyAt : GoodIn wsL_law (va_wsS RL 161 yL_keyAt wsL_keyAt) := goodIn_app (goodIn_of _ (by decide +kernel)) ggL_law_L_keyAt
set_option maxRecDepth 20000 in
theorem ggL_law_X3_keyAt : GoodIn wsL_law wsX3_keyAt := goodIn_r _ [370, 43, 371, 372, 373, 5, 374, 101, 352, 353, 354, 355, 117, 42, 289, 290, 291, 292, 109, 110, 111, 112, 731, 732, 733, 734, 735, 736, 737, 738, 739, 740, 741, 742, 743, 744, 745, 746, 747, 748, 749] (by decide +kernel) (by decide +kernel)
set_option maxRecDepth 20000 in
theorem gL_law_X3_keyAt : GoodIn wsL_law (wsV RL 163 RX3 yX3_keyAt wsX3_keyAt) := goodIn_app (goodIn_of _ (by decide +kernel)) ggL_law_X3_keyAt
set_option maxRecDepth 20000 in
theorem ggL_law_L_valueAt : GoodIn wsL_law wsL_valueAt := goodIn_ca (goodIn_r _ [377, 158, 378, 379, 380, 2, 381, 16, 363, 364, 365, 366, 167, 168, 345, 15, 346, 347, 76, 28, 85, 86, 87, 88, 722, 723, 724, 725, 726, 727, 728, 729, 730, 750, 751, 752, 753, 754, 755, 756, 757] (by decide +kernel) (by decide +kernel)) (goodIn_sub (fun _ h => List.mem_append_right _ h) (by decide +kernel))
set_option maxRecDepth 20000 in
theorem gL_law_L_valueAt : GoodIn wsL_law (va_wsS RL 164 yL_valueAt wsL_valueAt) := goodIn_app (goodIn_of _ (by decide +kernel)) ggL_law_L_valueAt
set_option maxRecDepth 20000 in
theorem ggL_law_X3_valueAt : GoodIn wsL_law wsX3_valueAt := goodIn_r _ [385, 44, 371, 372, 373, 5, 374, 101, 352, 353, 354, 355, 117, 42, 289, 290, 291, 292, 109, 110, 111, 112, 731, 732, 733, 734, 735, 736, 737, 738, 739, 740, 741, 742, 743, 744, 745, 746, 747, 748, 749] (by decide +kernel) (by decide +kernel)
set_option maxRecDepth 20000 in
theorem gL_law_X3_valueAt : GoodIn wsL_law (wsV RL 166 RX3 yX3_valueAt wsX3_valueAt) := goodIn_app (goodIn_of _ (by decide +kernel)) ggL_law_X3_valueAt
set_option maxRecDepth 20000 in
theorem ggL_law_L_stormAt : GoodIn wsL_law wsL_stormAt := goodIn_ca (goodIn_r _ [388, 158, 389, 390, 391, 2, 392, 16, 363, 364, 365, 366, 167, 168, 345, 15, 346, 347, 76, 28, 85, 86, 87, 88, 722, 723, 724, 725, 726, 727, 728, 729, 730, 750, 751, 752, 753, 754, 755, 756, 757] (by decide +kernel) (by decide +kernel)) (goodIn_sub (fun _ h => List.mem_append_right _ h) (by decide +kernel))
set_option maxRecDepth 20000 in
theorem gL_law_L_stormAt : GoodIn wsL_law (va_wsS RL 167 yL_stormAt wsL_stormAt) := goodIn_app (goodIn_of _ (by decide +kernel)) ggL_law_L_stormAt
set_option maxRecDepth 20000 in
theorem ggL_law_X3_stormAt : GoodIn wsL_law wsX3_stormAt := goodIn_r _ [396, 45, 371, 372, 373, 5, 374, 101, 352, 353, 354, 355, 117, 42, 289, 290, 291, 292, 109, 110, 111, 112, 731, 732, 733, 734, 735, 736, 737, 738, 739, 740, 741, 742, 743, 744, 745, 746, 747, 748, 749] (by decide +kernel) (by decide +kernel)
set_option maxRecDepth 20000 in
theorem gL_law_X3_stormAt : GoodIn wsL_law (wsV RL 169 RX3 yX3_stormAt wsX3_stormAt) := goodIn_app (goodIn_of _ (by decide +kernel)) ggL_law_X3_stormAt
set_option maxRecDepth 20000 in
theorem ggL_law_L_latestOf : GoodIn wsL_law wsL_latestOf := goodIn_ca (goodIn_r _ [399, 158, 400, 401, 402, 2, 403, 16, 404, 405, 406, 167, 168, 64, 65, 66, 407, 15, 408, 409, 76, 28, 199, 200, 201, 202, 29, 722, 723, 724, 725, 726, 727, 728, 729, 730, 750, 751, 752, 753, 754, 755, 756, 757] (by decide +kernel) (by decide +kernel)) (goodIn_sub (fun _ h => List.mem_append_right _ h) (by decide +kernel))
set_option maxRecDepth 20000 in
theorem gL_law_L_latestOf : GoodIn wsL_law (va_wsS RL 170 yL_latestOf wsL_latestOf) := goodIn_app (goodIn_of _ (by decide +kernel)) ggL_law_L_latestOf
set_option maxRecDepth 20000 in
theorem ggL_law_X3_latestOf : GoodIn wsL_law wsX3_latestOf := goodIn_r _ [413, 101, 103, 104, 5, 105, 106, 107, 108, 414, 415, 416, 417, 42, 418, 419, 420, 421, 117, 43, 109, 110, 111, 112, 731, 732, 733, 734, 735, 736, 737, 738, 739, 740, 741, 742, 743, 744, 745, 746, 747, 748, 749] (by decide +kernel) (by decide +kernel)
set_option maxRecDepth 20000 in
theorem gL_law_X3_latestOf : GoodIn wsL_law (wsV RL 172 RX3 yX3_latestOf wsX3_latestOf) := goodIn_app (goodIn_of _ (by decide +kernel)) ggL_law_X3_latestOf
set_option maxRecDepth 20000 in
theorem ggL_law_L_valueOf : GoodIn wsL_law wsL_valueOf := goodIn_ca (goodIn_r _ [424, 158, 425, 426, 427, 2, 428, 16, 404, 405, 406, 167, 168, 64, 65, 66, 429, 15, 430, 431, 76, 30, 199, 200, 201, 202, 29, 722, 723, 724, 725, 726, 727, 728, 729, 730, 750, 751, 752, 753, 754, 755, 756, 757] (by decide +kernel) (by decide +kernel)) (goodIn_sub (fun _ h => List.mem_append_right _ h) (by decide +kernel))
set_option maxRecDepth 20000 in
theorem gL_law_L_valueOf : GoodIn wsL_law (va_wsS RL 173 yL_valueOf wsL_valueOf) := goodIn_app (goodIn_of _ (by decide +kernel)) ggL_law_L_valueOf
