set_option maxRecDepth 20000 in
theorem ggL_law_X2_init : GoodIn wsL_law wsX2_init := goodIn_r _ [9, 10, 11, 12, 13, 14, 15, 16, 17, 18, 19, 20, 21, 22, 23, 24, 25, 26, 27, 28, 29, 30, 31, 32, 33, 34, 35, 36, 37, 750, 751, 752, 753, 754, 755, 756, 757, 722, 723, 724, 725, 726, 727, 728, 729, 730, 758, 759, 760, 761, 762] (by decide +kernel) (by decide +kernel)
set_option maxRecDepth 20000 in
theorem gL_law_X2_init : GoodIn wsL_law (wsX2_init) := ggL_law_X2_init
set_option maxRecDepth 20000 in
theorem ggL_law_X3_init : GoodIn wsL_law wsX3_init := goodIn_r _ [40, 41, 11, 12, 17, 42, 43, 44, 45, 32, 46, 47, 48, 49, 50, 51, 52, 731, 732, 733, 734, 735, 736, 737, 738, 739, 740, 741, 742, 743, 744, 745, 746, 747, 748, 749] (by decide +kernel) (by decide +kernel)
set_option maxRecDepth 20000 in
theorem gL_law_X3_init : GoodIn wsL_law (wsX3_init) := ggL_law_X3_init
set_option maxRecDepth 20000 in
theorem ggL_law_L_say : GoodIn wsL_law wsL_say := goodIn_ca (goodIn_r _ [56, 57, 58, 59, 60, 2, 61, 62, 63, 64, 65, 66, 67, 68, 69, 70, 16, 71, 72, 18, 73, 15, 74, 75, 76, 33, 77, 78, 79, 80, 81, 20, 82, 83, 84, 85, 86, 87, 88, 28, 89, 90, 91, 29, 30, 31, 92, 93, 94, 95, 96, 722, 723, 724, 725, 726, 727, 728, 729, 730, 750, 751, 752, 753, 754, 755, 756, 757, 758, 759, 760, 761, 762] (by decide +kernel) (by decide +kernel)) (goodIn_sub (fun _ h => List.mem_append_left _ (List.mem_append_left _ (List.mem_append_right _ h))) (by decide +kernel))
set_option maxRecDepth 20000 in
theorem gL_law_L_say : GoodIn wsL_law (va_wsS RL 100 yL_say wsL_say) := goodIn_app (goodIn_of _ (by decide +kernel)) ggL_law_L_say
set_option maxRecDepth 20000 in
theorem ggL_law_X3_say : GoodIn wsL_law wsX3_say := goodIn_r _ [100, 101, 102, 103, 104, 5, 105, 106, 107, 108, 109, 110, 111, 112, 113, 114, 115, 116, 117, 46, 42, 43, 44, 45, 118, 119, 47, 120, 121, 122, 123, 124, 51, 49, 125, 731, 732, 733, 734, 735, 736, 737, 738, 739, 740, 741, 742, 743, 744, 745, 746, 747, 748, 749] (by decide +kernel) (by decide +kernel)
set_option maxRecDepth 20000 in
theorem gL_law_X3_say : GoodIn wsL_law (wsV RL 105 RX3 yX3_say wsX3_say) := goodIn_app (goodIn_of _ (by decide +kernel)) ggL_law_X3_say
set_option maxRecDepth 20000 in
theorem ggL_law_X3_thrown : GoodIn wsL_law wsX3_thrown := goodIn_r _ [129, 101, 731, 732, 733, 734, 735, 736, 737, 738, 739, 740, 741, 742, 743, 744, 745, 746, 747, 748, 749] (by decide +kernel) (by decide +kernel)
set_option maxRecDepth 20000 in
theorem gL_law_X3_thrown : GoodIn wsL_law (wsV RL 106 RX3 yX3_thrown wsX3_thrown) := goodIn_app (goodIn_of _ (by decide +kernel)) ggL_law_X3_thrown
set_option maxRecDepth 20000 in
theorem ggL_law_L_startStorm : GoodIn wsL_law wsL_startStorm := goodIn_ca (goodIn_r _ [132, 133, 134, 135, 136, 2, 137, 138, 139, 71, 72, 722, 723, 724, 725, 726, 727, 728, 729, 730] (by decide +kernel) (by decide +kernel)) (goodIn_sub (fun _ h => List.mem_append_left _ (List.mem_append_right _ h)) (by decide +kernel))
set_option maxRecDepth 20000 in
theorem gL_law_L_startStorm : GoodIn wsL_law (va_wsS RL 109 yL_startStorm wsL_startStorm) := goodIn_app (goodIn_of _ (by decide +kernel)) ggL_law_L_startStorm
set_option maxRecDepth 20000 in
theorem ggL_law_X3_startStorm : GoodIn wsL_law wsX3_startStorm := goodIn_r _ [143, 101, 118, 119, 109, 110, 111, 5, 112, 731, 732, 733, 734, 735, 736, 737, 738, 739, 740, 741, 742, 743, 744, 745, 746, 747, 748, 749] (by decide +kernel) (by decide +kernel)
set_option maxRecDepth 20000 in
theorem gL_law_X3_startStorm : GoodIn wsL_law (wsV RL 112 RX3 yX3_startStorm wsX3_startStorm) := goodIn_app (goodIn_of _ (by decide +kernel)) ggL_law_X3_startStorm
set_option maxRecDepth 20000 in
theorem ggL_law_L_endStorm : GoodIn wsL_law wsL_endStorm := goodIn_ca (goodIn_r _ [146, 133, 147, 148, 149, 2, 150, 138, 139, 71, 18, 72, 722, 723, 724, 725, 726, 727, 728, 729, 730] (by decide +kernel) (by decide +kernel)) (goodIn_sub (fun _ h => List.mem_append_left _ (List.mem_append_right _ h)) (by decide +kernel))
set_option maxRecDepth 20000 in
theorem gL_law_L_endStorm : GoodIn wsL_law (va_wsS RL 113 yL_endStorm wsL_endStorm) := goodIn_app (goodIn_of _ (by decide +kernel)) ggL_law_L_endStorm
set_option maxRecDepth 20000 in
theorem ggL_law_X3_endStorm : GoodIn wsL_law wsX3_endStorm := goodIn_r _ [154, 101, 118, 47, 119, 109, 110, 111, 5, 112, 731, 732, 733, 734, 735, 736, 737, 738, 739, 740, 741, 742, 743, 744, 745, 746, 747, 748, 749] (by decide +kernel) (by decide +kernel)
set_option maxRecDepth 20000 in
theorem gL_law_X3_endStorm : GoodIn wsL_law (wsV RL 115 RX3 yX3_endStorm wsX3_endStorm) := goodIn_app (goodIn_of _ (by decide +kernel)) ggL_law_X3_endStorm
set_option maxRecDepth 20000 in
theorem ggL_law_L_replay : GoodIn wsL_law wsL_replay := goodIn_ca (goodIn_ca (goodIn_r _ [157, 158, 133, 159, 160, 161, 2, 162, 138, 139, 71, 16, 23, 24, 163, 164, 165, 166, 167, 168, 72, 169, 15, 170, 171, 76, 31, 29, 30, 67, 68, 69, 70, 18, 73, 74, 75, 33, 77, 78, 79, 80, 81, 20, 82, 83, 84, 85, 86, 87, 88, 28, 89, 90, 91, 92, 93, 94, 95, 96, 722, 723, 724, 725, 726, 727, 728, 729, 730, 750, 751, 752, 753, 754, 755, 756, 757, 758, 759, 760, 761, 762] (by decide +kernel) (by decide +kernel)) (goodIn_sub (fun _ h => List.mem_append_left _ (List.mem_append_right _ h)) (by decide +kernel))) (goodIn_sub (fun _ h => List.mem_append_right _ h) (by decide +kernel))
set_option maxRecDepth 20000 in
theorem gL_law_L_replay : GoodIn wsL_law (va_wsS RL 116 yL_replay wsL_replay) := goodIn_app (goodIn_of _ (by decide +kernel)) ggL_law_L_replay
set_option maxRecDepth 20000 in
theorem ggL_law_X3_replay : GoodIn wsL_law wsX3_replay := goodIn_r _ [175, 101, 118, 17, 117, 45, 43, 44, 176, 177, 178, 5, 179, 119, 106, 107, 108, 109, 110, 111, 112, 113, 114, 115, 116, 46, 42, 102, 47, 120, 121, 122, 123, 124, 51, 49, 125, 731, 732, 733, 734, 735, 736, 737, 738, 739, 740, 741, 742, 743, 744, 745, 746, 747, 748, 749] (by decide +kernel) (by decide +kernel)
set_option maxRecDepth 20000 in
theorem gL_law_X3_replay : GoodIn wsL_law (wsV RL 119 RX3 yX3_replay wsX3_replay) := goodIn_app (goodIn_of _ (by decide +kernel)) ggL_law_X3_replay
set_option maxRecDepth 20000 in
theorem ggL_law_X2_compact : GoodIn wsL_law wsX2_compact := goodIn_r _ [183, 184, 185, 186, 2, 187, 16, 188, 189, 190, 191, 81, 20, 192, 193, 194, 195, 196, 15, 197, 198, 76, 29, 30, 28, 33, 199, 200, 201, 202, 77, 78, 79, 80, 82, 83, 84, 85, 86, 87, 88, 89, 90, 91, 31, 92, 722, 723, 724, 725, 726, 727, 728, 729, 730, 750, 751, 752, 753, 754, 755, 756, 757, 758, 759, 760, 761, 762] (by decide +kernel) (by decide +kernel)
set_option maxRecDepth 20000 in
theorem gL_law_X2_compact : GoodIn wsL_law (wsV RL 120 RX2 yX2_compact wsX2_compact) := goodIn_app (goodIn_of _ (by decide +kernel)) ggL_law_X2_compact
set_option maxRecDepth 20000 in
theorem ggL_law_X3_compact : GoodIn wsL_law wsX3_compact := goodIn_r _ [206, 101, 207, 208, 209, 5, 210, 102, 124, 49, 211, 193, 194, 195, 32, 117, 46, 43, 44, 42, 120, 121, 122, 123, 51, 45, 125, 731, 732, 733, 734, 735, 736, 737, 738, 739, 740, 741, 742, 743, 744, 745, 746, 747, 748, 749] (by decide +kernel) (by decide +kernel)
set_option maxRecDepth 20000 in
theorem gL_law_X3_compact : GoodIn wsL_law (wsV RL 123 RX3 yX3_compact wsX3_compact) := goodIn_app (goodIn_of _ (by decide +kernel)) ggL_law_X3_compact
set_option maxRecDepth 20000 in
theorem ggL_law_L_trimTo : GoodIn wsL_law wsL_trimTo := goodIn_ca (goodIn_r _ [214, 57, 215, 216, 217, 2, 218, 16, 219, 220, 221, 222, 62, 63, 223, 15, 224, 225, 76, 33, 28, 77, 78, 79, 80, 81, 20, 82, 83, 84, 85, 86, 87, 88, 89, 90, 91, 29, 30, 31, 92, 722, 723, 724, 725, 726, 727, 728, 729, 730, 750, 751, 752, 753, 754, 755, 756, 757, 758, 759, 760, 761, 762] (by decide +kernel) (by decide +kernel)) (goodIn_sub (fun _ h => List.mem_append_left _ (List.mem_append_left _ (List.mem_append_right _ h))) (by decide +kernel))
set_option maxRecDepth 20000 in
theorem gL_law_L_trimTo : GoodIn wsL_law (va_wsS RL 124 yL_trimTo wsL_trimTo) := goodIn_app (goodIn_of _ (by decide +kernel)) ggL_law_L_trimTo
set_option maxRecDepth 20000 in
theorem ggL_law_X3_trimTo : GoodIn wsL_law wsX3_trimTo := goodIn_r _ [229, 101, 102, 117, 46, 42, 106, 107, 5, 108, 109, 110, 111, 112, 120, 121, 122, 123, 124, 51, 49, 43, 44, 45, 125, 731, 732, 733, 734, 735, 736, 737, 738, 739, 740, 741, 742, 743, 744, 745, 746, 747, 748, 749] (by decide +kernel) (by decide +kernel)
set_option maxRecDepth 20000 in
theorem gL_law_X3_trimTo : GoodIn wsL_law (wsV RL 126 RX3 yX3_trimTo wsX3_trimTo) := goodIn_app (goodIn_of _ (by decide +kernel)) ggL_law_X3_trimTo
set_option maxRecDepth 20000 in
theorem ggL_law_L_addShip : GoodIn wsL_law wsL_addShip := goodIn_ca (goodIn_ca (goodIn_r _ [232, 57, 133, 233, 234, 235, 2, 236, 62, 63, 138, 139, 81, 20, 219, 220, 221, 222, 16, 722, 723, 724, 725, 726, 727, 728, 729, 730, 758, 759, 760, 761, 762, 750, 751, 752, 753, 754, 755, 756, 757] (by decide +kernel) (by decide +kernel)) (goodIn_sub (fun _ h => List.mem_append_left _ (List.mem_append_left _ (List.mem_append_right _ h))) (by decide +kernel))) (goodIn_sub (fun _ h => List.mem_append_left _ (List.mem_append_right _ h)) (by decide +kernel))
set_option maxRecDepth 20000 in
theorem gL_law_L_addShip : GoodIn wsL_law (va_wsS RL 127 yL_addShip wsL_addShip) := goodIn_app (goodIn_of _ (by decide +kernel)) ggL_law_L_addShip
set_option maxRecDepth 20000 in
theorem ggL_law_X3_addShip : GoodIn wsL_law wsX3_addShip := goodIn_r _ [240, 101, 102, 124, 48, 49, 106, 107, 5, 108, 109, 110, 111, 112, 731, 732, 733, 734, 735, 736, 737, 738, 739, 740, 741, 742, 743, 744, 745, 746, 747, 748, 749] (by decide +kernel) (by decide +kernel)
set_option maxRecDepth 20000 in
theorem gL_law_X3_addShip : GoodIn wsL_law (wsV RL 129 RX3 yX3_addShip wsX3_addShip) := goodIn_app (goodIn_of _ (by decide +kernel)) ggL_law_X3_addShip
set_option maxRecDepth 20000 in
theorem ggL_law_L_seek : GoodIn wsL_law wsL_seek := goodIn_ca (goodIn_ca (goodIn_r _ [243, 158, 57, 244, 245, 246, 2, 247, 248, 249, 250, 251, 167, 168, 81, 20, 219, 220, 221, 222, 62, 63, 16, 758, 759, 760, 761, 762, 722, 723, 724, 725, 726, 727, 728, 729, 730, 750, 751, 752, 753, 754, 755, 756, 757] (by decide +kernel) (by decide +kernel)) (goodIn_sub (fun _ h => List.mem_append_right _ h) (by decide +kernel))) (goodIn_sub (fun _ h => List.mem_append_left _ (List.mem_append_left _ (List.mem_append_right _ h))) (by decide +kernel))
set_option maxRecDepth 20000 in
theorem gL_law_L_seek : GoodIn wsL_law (va_wsS RL 130 yL_seek wsL_seek) := goodIn_app (goodIn_of _ (by decide +kernel)) ggL_law_L_seek
set_option maxRecDepth 20000 in
theorem ggL_law_X3_seek : GoodIn wsL_law wsX3_seek := goodIn_r _ [255, 101, 102, 49, 256, 257, 258, 5, 259, 124, 106, 107, 108, 109, 110, 111, 112, 731, 732, 733, 734, 735, 736, 737, 738, 739, 740, 741, 742, 743, 744, 745, 746, 747, 748, 749] (by decide +kernel) (by decide +kernel)
set_option maxRecDepth 20000 in
theorem gL_law_X3_seek : GoodIn wsL_law (wsV RL 132 RX3 yX3_seek wsX3_seek) := goodIn_app (goodIn_of _ (by decide +kernel)) ggL_law_X3_seek
set_option maxRecDepth 20000 in
theorem ggL_law_L_passHours : GoodIn wsL_law wsL_passHours := goodIn_ca (goodIn_r _ [262, 57, 263, 264, 265, 2, 266, 81, 20, 267, 268, 269, 270, 62, 63, 271, 272, 273, 274, 71, 275, 276, 277, 278, 16, 192, 193, 194, 195, 86, 15, 87, 88, 76, 28, 279, 22, 280, 281, 37, 282, 283, 722, 723, 724, 725, 726, 727, 728, 729, 730, 758, 759, 760, 761, 762, 750, 751, 752, 753, 754, 755, 756, 757] (by decide +kernel) (by decide +kernel)) (goodIn_sub (fun _ h => List.mem_append_left _ (List.mem_append_left _ (List.mem_append_right _ h))) (by decide +kernel))
set_option maxRecDepth 20000 in
theorem gL_law_L_passHours : GoodIn wsL_law (va_wsS RL 133 yL_passHours wsL_passHours) := goodIn_app (goodIn_of _ (by decide +kernel)) ggL_law_L_passHours
set_option maxRecDepth 20000 in
theorem ggL_law_X3_passHours : GoodIn wsL_law wsX3_passHours := goodIn_r _ [287, 101, 288, 124, 118, 49, 117, 48, 211, 193, 194, 195, 52, 43, 44, 42, 50, 106, 107, 5, 108, 109, 110, 111, 112, 289, 290, 291, 292, 731, 732, 733, 734, 735, 736, 737, 738, 739, 740, 741, 742, 743, 744, 745, 746, 747, 748, 749] (by decide +kernel) (by decide +kernel)
set_option maxRecDepth 20000 in
theorem gL_law_X3_passHours : GoodIn wsL_law (wsV RL 135 RX3 yX3_passHours wsX3_passHours) := goodIn_app (goodIn_of _ (by decide +kernel)) ggL_law_X3_passHours
