set_option maxRecDepth 20000 in
theorem ggL_law_X3_valueOf : GoodIn wsL_law wsX3_valueOf := goodIn_r _ [435, 101, 103, 104, 5, 105, 106, 107, 108, 436, 437, 438, 439, 44, 418, 419, 420, 421, 117, 43, 109, 110, 111, 112, 731, 732, 733, 734, 735, 736, 737, 738, 739, 740, 741, 742, 743, 744, 745, 746, 747, 748, 749] (by decide +kernel) (by decide +kernel)
set_option maxRecDepth 20000 in
theorem gL_law_X3_valueOf : GoodIn wsL_law (wsV RL 175 RX3 yX3_valueOf wsX3_valueOf) := goodIn_app (goodIn_of _ (by decide +kernel)) ggL_law_X3_valueOf
set_option maxRecDepth 20000 in
theorem ggL_law_L_countOf : GoodIn wsL_law wsL_countOf := goodIn_ca (goodIn_r _ [442, 158, 443, 444, 445, 2, 446, 16, 404, 405, 406, 167, 168, 64, 65, 66, 447, 15, 448, 449, 29, 450, 451, 452, 453, 76, 722, 723, 724, 725, 726, 727, 728, 729, 730, 750, 751, 752, 753, 754, 755, 756, 757] (by decide +kernel) (by decide +kernel)) (goodIn_sub (fun _ h => List.mem_append_right _ h) (by decide +kernel))
set_option maxRecDepth 20000 in
theorem gL_law_L_countOf : GoodIn wsL_law (va_wsS RL 176 yL_countOf wsL_countOf) := goodIn_app (goodIn_of _ (by decide +kernel)) ggL_law_L_countOf
set_option maxRecDepth 20000 in
theorem ggL_law_X3_countOf : GoodIn wsL_law wsX3_countOf := goodIn_r _ [457, 101, 103, 104, 5, 105, 106, 107, 108, 458, 459, 460, 461, 117, 43, 109, 110, 111, 112, 731, 732, 733, 734, 735, 736, 737, 738, 739, 740, 741, 742, 743, 744, 745, 746, 747, 748, 749] (by decide +kernel) (by decide +kernel)
set_option maxRecDepth 20000 in
theorem gL_law_X3_countOf : GoodIn wsL_law (wsV RL 178 RX3 yX3_countOf wsX3_countOf) := goodIn_app (goodIn_of _ (by decide +kernel)) ggL_law_X3_countOf
set_option maxRecDepth 20000 in
theorem ggL_law_X2_storms : GoodIn wsL_law wsX2_storms := goodIn_r _ [465, 72, 722, 723, 724, 725, 726, 727, 728, 729, 730] (by decide +kernel) (by decide +kernel)
set_option maxRecDepth 20000 in
theorem gL_law_X2_storms : GoodIn wsL_law (wsV RL 179 RX2 yX2_storms wsX2_storms) := goodIn_app (goodIn_of _ (by decide +kernel)) ggL_law_X2_storms
set_option maxRecDepth 20000 in
theorem ggL_law_X3_storms : GoodIn wsL_law wsX3_storms := goodIn_r _ [469, 119, 301, 302, 303, 5, 304, 101, 731, 732, 733, 734, 735, 736, 737, 738, 739, 740, 741, 742, 743, 744, 745, 746, 747, 748, 749] (by decide +kernel) (by decide +kernel)
set_option maxRecDepth 20000 in
theorem gL_law_X3_storms : GoodIn wsL_law (wsV RL 182 RX3 yX3_storms wsX3_storms) := goodIn_app (goodIn_of _ (by decide +kernel)) ggL_law_X3_storms
set_option maxRecDepth 20000 in
theorem ggL_law_X2_isStormy : GoodIn wsL_law wsX2_isStormy := goodIn_r _ [473, 71, 722, 723, 724, 725, 726, 727, 728, 729, 730] (by decide +kernel) (by decide +kernel)
set_option maxRecDepth 20000 in
theorem gL_law_X2_isStormy : GoodIn wsL_law (wsV RL 183 RX2 yX2_isStormy wsX2_isStormy) := goodIn_app (goodIn_of _ (by decide +kernel)) ggL_law_X2_isStormy
set_option maxRecDepth 20000 in
theorem ggL_law_X3_isStormy : GoodIn wsL_law wsX3_isStormy := goodIn_r _ [477, 101, 118, 731, 732, 733, 734, 735, 736, 737, 738, 739, 740, 741, 742, 743, 744, 745, 746, 747, 748, 749] (by decide +kernel) (by decide +kernel)
set_option maxRecDepth 20000 in
theorem gL_law_X3_isStormy : GoodIn wsL_law (wsV RL 187 RX3 yX3_isStormy wsX3_isStormy) := goodIn_app (goodIn_of _ (by decide +kernel)) ggL_law_X3_isStormy
set_option maxRecDepth 20000 in
theorem ggL_law_L_saidIn : GoodIn wsL_law wsL_saidIn := goodIn_ca (goodIn_r _ [480, 158, 481, 482, 483, 2, 484, 18, 163, 164, 165, 166, 167, 168, 72, 722, 723, 724, 725, 726, 727, 728, 729, 730] (by decide +kernel) (by decide +kernel)) (goodIn_sub (fun _ h => List.mem_append_right _ h) (by decide +kernel))
set_option maxRecDepth 20000 in
theorem gL_law_L_saidIn : GoodIn wsL_law (va_wsS RL 188 yL_saidIn wsL_saidIn) := goodIn_app (goodIn_of _ (by decide +kernel)) ggL_law_L_saidIn
set_option maxRecDepth 20000 in
theorem ggL_law_X3_saidIn : GoodIn wsL_law wsX3_saidIn := goodIn_r _ [488, 101, 47, 176, 177, 178, 5, 179, 119, 106, 107, 108, 109, 110, 111, 112, 731, 732, 733, 734, 735, 736, 737, 738, 739, 740, 741, 742, 743, 744, 745, 746, 747, 748, 749] (by decide +kernel) (by decide +kernel)
set_option maxRecDepth 20000 in
theorem gL_law_X3_saidIn : GoodIn wsL_law (wsV RL 190 RX3 yX3_saidIn wsX3_saidIn) := goodIn_app (goodIn_of _ (by decide +kernel)) ggL_law_X3_saidIn
set_option maxRecDepth 20000 in
theorem ggL_law_L_keptOf : GoodIn wsL_law wsL_keptOf := goodIn_ca (goodIn_r _ [491, 158, 492, 493, 494, 2, 495, 16, 163, 164, 165, 166, 167, 168, 72, 496, 15, 497, 498, 31, 450, 451, 452, 453, 76, 722, 723, 724, 725, 726, 727, 728, 729, 730, 750, 751, 752, 753, 754, 755, 756, 757] (by decide +kernel) (by decide +kernel)) (goodIn_sub (fun _ h => List.mem_append_right _ h) (by decide +kernel))
set_option maxRecDepth 20000 in
theorem gL_law_L_keptOf : GoodIn wsL_law (va_wsS RL 191 yL_keptOf wsL_keptOf) := goodIn_app (goodIn_of _ (by decide +kernel)) ggL_law_L_keptOf
set_option maxRecDepth 20000 in
theorem ggL_law_X3_keptOf : GoodIn wsL_law wsX3_keptOf := goodIn_r _ [502, 101, 176, 177, 178, 5, 179, 119, 106, 107, 108, 503, 504, 505, 506, 117, 45, 109, 110, 111, 112, 731, 732, 733, 734, 735, 736, 737, 738, 739, 740, 741, 742, 743, 744, 745, 746, 747, 748, 749] (by decide +kernel) (by decide +kernel)
set_option maxRecDepth 20000 in
theorem gL_law_X3_keptOf : GoodIn wsL_law (wsV RL 193 RX3 yX3_keptOf wsX3_keptOf) := goodIn_app (goodIn_of _ (by decide +kernel)) ggL_law_X3_keptOf
set_option maxRecDepth 20000 in
theorem ggL_law_X2_ships : GoodIn wsL_law wsX2_ships := goodIn_r _ [510, 81, 722, 723, 724, 725, 726, 727, 728, 729, 730] (by decide +kernel) (by decide +kernel)
set_option maxRecDepth 20000 in
theorem gL_law_X2_ships : GoodIn wsL_law (wsV RL 194 RX2 yX2_ships wsX2_ships) := goodIn_app (goodIn_of _ (by decide +kernel)) ggL_law_X2_ships
set_option maxRecDepth 20000 in
theorem ggL_law_X3_ships : GoodIn wsL_law wsX3_ships := goodIn_r _ [514, 124, 301, 302, 303, 5, 304, 101, 731, 732, 733, 734, 735, 736, 737, 738, 739, 740, 741, 742, 743, 744, 745, 746, 747, 748, 749] (by decide +kernel) (by decide +kernel)
set_option maxRecDepth 20000 in
theorem gL_law_X3_ships : GoodIn wsL_law (wsV RL 197 RX3 yX3_ships wsX3_ships) := goodIn_app (goodIn_of _ (by decide +kernel)) ggL_law_X3_ships
set_option maxRecDepth 20000 in
theorem ggL_law_L_offsetOf : GoodIn wsL_law wsL_offsetOf := goodIn_ca (goodIn_r _ [517, 158, 518, 519, 520, 2, 521, 248, 249, 250, 251, 167, 168, 81, 20, 758, 759, 760, 761, 762, 722, 723, 724, 725, 726, 727, 728, 729, 730] (by decide +kernel) (by decide +kernel)) (goodIn_sub (fun _ h => List.mem_append_right _ h) (by decide +kernel))
set_option maxRecDepth 20000 in
theorem gL_law_L_offsetOf : GoodIn wsL_law (va_wsS RL 198 yL_offsetOf wsL_offsetOf) := goodIn_app (goodIn_of _ (by decide +kernel)) ggL_law_L_offsetOf
set_option maxRecDepth 20000 in
theorem ggL_law_X3_offsetOf : GoodIn wsL_law wsX3_offsetOf := goodIn_r _ [525, 49, 526, 527, 528, 5, 529, 101, 256, 257, 258, 259, 124, 106, 107, 108, 109, 110, 111, 112, 731, 732, 733, 734, 735, 736, 737, 738, 739, 740, 741, 742, 743, 744, 745, 746, 747, 748, 749] (by decide +kernel) (by decide +kernel)
set_option maxRecDepth 20000 in
theorem gL_law_X3_offsetOf : GoodIn wsL_law (wsV RL 200 RX3 yX3_offsetOf wsX3_offsetOf) := goodIn_app (goodIn_of _ (by decide +kernel)) ggL_law_X3_offsetOf
set_option maxRecDepth 20000 in
theorem ggL_law_L_lagOf : GoodIn wsL_law wsL_lagOf := goodIn_ca (goodIn_r _ [532, 158, 533, 534, 535, 2, 536, 248, 249, 250, 251, 167, 168, 81, 20, 537, 538, 539, 540, 16, 86, 15, 87, 88, 76, 28, 722, 723, 724, 725, 726, 727, 728, 729, 730, 750, 751, 752, 753, 754, 755, 756, 757, 758, 759, 760, 761, 762] (by decide +kernel) (by decide +kernel)) (goodIn_sub (fun _ h => List.mem_append_right _ h) (by decide +kernel))
set_option maxRecDepth 20000 in
theorem gL_law_L_lagOf : GoodIn wsL_law (va_wsS RL 201 yL_lagOf wsL_lagOf) := goodIn_app (goodIn_of _ (by decide +kernel)) ggL_law_L_lagOf
set_option maxRecDepth 20000 in
theorem ggL_law_X3_lagOf : GoodIn wsL_law wsX3_lagOf := goodIn_r _ [544, 101, 256, 257, 258, 5, 259, 124, 106, 107, 108, 545, 546, 547, 548, 117, 49, 289, 290, 291, 292, 42, 109, 110, 111, 112, 731, 732, 733, 734, 735, 736, 737, 738, 739, 740, 741, 742, 743, 744, 745, 746, 747, 748, 749] (by decide +kernel) (by decide +kernel)
set_option maxRecDepth 20000 in
theorem gL_law_X3_lagOf : GoodIn wsL_law (wsV RL 203 RX3 yX3_lagOf wsX3_lagOf) := goodIn_app (goodIn_of _ (by decide +kernel)) ggL_law_X3_lagOf
set_option maxRecDepth 20000 in
theorem ggL_law_L_heardBy : GoodIn wsL_law wsL_heardBy := goodIn_ca (goodIn_r _ [551, 158, 552, 553, 554, 2, 555, 248, 249, 250, 251, 167, 168, 81, 20, 758, 759, 760, 761, 762, 722, 723, 724, 725, 726, 727, 728, 729, 730] (by decide +kernel) (by decide +kernel)) (goodIn_sub (fun _ h => List.mem_append_right _ h) (by decide +kernel))
set_option maxRecDepth 20000 in
theorem gL_law_L_heardBy : GoodIn wsL_law (va_wsS RL 204 yL_heardBy wsL_heardBy) := goodIn_app (goodIn_of _ (by decide +kernel)) ggL_law_L_heardBy
set_option maxRecDepth 20000 in
theorem ggL_law_X3_heardBy : GoodIn wsL_law wsX3_heardBy := goodIn_r _ [559, 50, 526, 527, 528, 5, 529, 101, 256, 257, 258, 259, 124, 106, 107, 108, 109, 110, 111, 112, 731, 732, 733, 734, 735, 736, 737, 738, 739, 740, 741, 742, 743, 744, 745, 746, 747, 748, 749] (by decide +kernel) (by decide +kernel)
set_option maxRecDepth 20000 in
theorem gL_law_X3_heardBy : GoodIn wsL_law (wsV RL 206 RX3 yX3_heardBy wsX3_heardBy) := goodIn_app (goodIn_of _ (by decide +kernel)) ggL_law_X3_heardBy
set_option maxRecDepth 20000 in
theorem ggL_law_L_missedBy : GoodIn wsL_law wsL_missedBy := goodIn_ca (goodIn_r _ [562, 158, 563, 564, 565, 2, 566, 248, 249, 250, 251, 167, 168, 81, 20, 758, 759, 760, 761, 762, 722, 723, 724, 725, 726, 727, 728, 729, 730] (by decide +kernel) (by decide +kernel)) (goodIn_sub (fun _ h => List.mem_append_right _ h) (by decide +kernel))
set_option maxRecDepth 20000 in
theorem gL_law_L_missedBy : GoodIn wsL_law (va_wsS RL 207 yL_missedBy wsL_missedBy) := goodIn_app (goodIn_of _ (by decide +kernel)) ggL_law_L_missedBy
set_option maxRecDepth 20000 in
theorem ggL_law_X3_missedBy : GoodIn wsL_law wsX3_missedBy := goodIn_r _ [570, 51, 526, 527, 528, 5, 529, 101, 256, 257, 258, 259, 124, 106, 107, 108, 109, 110, 111, 112, 731, 732, 733, 734, 735, 736, 737, 738, 739, 740, 741, 742, 743, 744, 745, 746, 747, 748, 749] (by decide +kernel) (by decide +kernel)
set_option maxRecDepth 20000 in
theorem gL_law_X3_missedBy : GoodIn wsL_law (wsV RL 209 RX3 yX3_missedBy wsX3_missedBy) := goodIn_app (goodIn_of _ (by decide +kernel)) ggL_law_X3_missedBy
