set_option maxRecDepth 20000 in
theorem ggL_law_L_knownBy : GoodIn wsL_law wsL_knownBy := goodIn_ca (goodIn_r _ [573, 158, 574, 575, 576, 2, 577, 248, 249, 250, 251, 167, 168, 81, 20, 404, 405, 406, 64, 65, 66, 758, 759, 760, 761, 762, 722, 723, 724, 725, 726, 727, 728, 729, 730] (by decide +kernel) (by decide +kernel)) (goodIn_sub (fun _ h => List.mem_append_right _ h) (by decide +kernel))
set_option maxRecDepth 20000 in
theorem gL_law_L_knownBy : GoodIn wsL_law (va_wsS RL 210 yL_knownBy wsL_knownBy) := goodIn_app (goodIn_of _ (by decide +kernel)) ggL_law_L_knownBy
set_option maxRecDepth 20000 in
theorem ggL_law_X3_knownBy : GoodIn wsL_law wsX3_knownBy := goodIn_r _ [581, 101, 52, 256, 257, 258, 5, 259, 124, 106, 107, 108, 103, 104, 105, 109, 110, 111, 112, 731, 732, 733, 734, 735, 736, 737, 738, 739, 740, 741, 742, 743, 744, 745, 746, 747, 748, 749] (by decide +kernel) (by decide +kernel)
set_option maxRecDepth 20000 in
theorem gL_law_X3_knownBy : GoodIn wsL_law (wsV RL 212 RX3 yX3_knownBy wsX3_knownBy) := goodIn_app (goodIn_of _ (by decide +kernel)) ggL_law_X3_knownBy
set_option maxRecDepth 20000 in
theorem ggL_law_L_errorsOf : GoodIn wsL_law wsL_errorsOf := goodIn_ca (goodIn_r _ [584, 158, 585, 586, 587, 2, 588, 248, 249, 250, 251, 167, 168, 81, 20, 589, 590, 591, 592, 16, 192, 193, 194, 195, 86, 15, 87, 88, 76, 28, 200, 201, 202, 29, 429, 430, 431, 30, 199, 722, 723, 724, 725, 726, 727, 728, 729, 730, 758, 759, 760, 761, 762, 750, 751, 752, 753, 754, 755, 756, 757] (by decide +kernel) (by decide +kernel)) (goodIn_sub (fun _ h => List.mem_append_right _ h) (by decide +kernel))
set_option maxRecDepth 20000 in
theorem gL_law_L_errorsOf : GoodIn wsL_law (va_wsS RL 213 yL_errorsOf wsL_errorsOf) := goodIn_app (goodIn_of _ (by decide +kernel)) ggL_law_L_errorsOf
set_option maxRecDepth 20000 in
theorem ggL_law_X3_errorsOf : GoodIn wsL_law wsX3_errorsOf := goodIn_r _ [596, 101, 256, 257, 258, 5, 259, 124, 106, 107, 108, 597, 598, 599, 600, 17, 52, 49, 117, 43, 44, 289, 290, 291, 292, 42, 436, 437, 438, 439, 418, 419, 420, 421, 109, 110, 111, 112, 731, 732, 733, 734, 735, 736, 737, 738, 739, 740, 741, 742, 743, 744, 745, 746, 747, 748, 749] (by decide +kernel) (by decide +kernel)
set_option maxRecDepth 20000 in
theorem gL_law_X3_errorsOf : GoodIn wsL_law (wsV RL 215 RX3 yX3_errorsOf wsX3_errorsOf) := goodIn_app (goodIn_of _ (by decide +kernel)) ggL_law_X3_errorsOf
set_option maxRecDepth 20000 in
theorem ggL_law_X2_farthestBehind : GoodIn wsL_law wsX2_farthestBehind := goodIn_r _ [604, 81, 20, 537, 538, 539, 2, 540, 16, 86, 15, 87, 88, 76, 28, 722, 723, 724, 725, 726, 727, 728, 729, 730, 750, 751, 752, 753, 754, 755, 756, 757, 758, 759, 760, 761, 762] (by decide +kernel) (by decide +kernel)
set_option maxRecDepth 20000 in
theorem gL_law_X2_farthestBehind : GoodIn wsL_law (wsV RL 216 RX2 yX2_farthestBehind wsX2_farthestBehind) := goodIn_app (goodIn_of _ (by decide +kernel)) ggL_law_X2_farthestBehind
set_option maxRecDepth 20000 in
theorem ggL_law_X3_farthestBehind : GoodIn wsL_law wsX3_farthestBehind := goodIn_r _ [608, 609, 610, 611, 5, 612, 124, 545, 546, 547, 548, 117, 49, 289, 290, 291, 292, 42, 301, 302, 303, 304, 101, 731, 732, 733, 734, 735, 736, 737, 738, 739, 740, 741, 742, 743, 744, 745, 746, 747, 748, 749] (by decide +kernel) (by decide +kernel)
set_option maxRecDepth 20000 in
theorem gL_law_X3_farthestBehind : GoodIn wsL_law (wsV RL 219 RX3 yX3_farthestBehind wsX3_farthestBehind) := goodIn_app (goodIn_of _ (by decide +kernel)) ggL_law_X3_farthestBehind
set_option maxRecDepth 20000 in
theorem ggL_law_L_hoursUntilCaughtUp : GoodIn wsL_law wsL_hoursUntilCaughtUp := goodIn_ca (goodIn_r _ [615, 158, 616, 617, 618, 2, 619, 248, 249, 250, 251, 167, 168, 81, 20, 620, 621, 622, 623, 537, 538, 539, 540, 16, 86, 15, 87, 88, 76, 28, 271, 272, 273, 274, 71, 722, 723, 724, 725, 726, 727, 728, 729, 730, 758, 759, 760, 761, 762, 750, 751, 752, 753, 754, 755, 756, 757] (by decide +kernel) (by decide +kernel)) (goodIn_sub (fun _ h => List.mem_append_right _ h) (by decide +kernel))
set_option maxRecDepth 20000 in
theorem gL_law_L_hoursUntilCaughtUp : GoodIn wsL_law (va_wsS RL 220 yL_hoursUntilCaughtUp wsL_hoursUntilCaughtUp) := goodIn_app (goodIn_of _ (by decide +kernel)) ggL_law_L_hoursUntilCaughtUp
set_option maxRecDepth 20000 in
theorem ggL_law_X3_hoursUntilCaughtUp : GoodIn wsL_law wsX3_hoursUntilCaughtUp := goodIn_r _ [627, 101, 256, 257, 258, 5, 259, 124, 106, 107, 108, 628, 629, 630, 631, 118, 48, 545, 546, 547, 548, 117, 49, 289, 290, 291, 292, 42, 109, 110, 111, 112, 731, 732, 733, 734, 735, 736, 737, 738, 739, 740, 741, 742, 743, 744, 745, 746, 747, 748, 749] (by decide +kernel) (by decide +kernel)
set_option maxRecDepth 20000 in
theorem gL_law_X3_hoursUntilCaughtUp : GoodIn wsL_law (wsV RL 222 RX3 yX3_hoursUntilCaughtUp wsX3_hoursUntilCaughtUp) := goodIn_app (goodIn_of _ (by decide +kernel)) ggL_law_X3_hoursUntilCaughtUp
set_option maxRecDepth 20000 in
theorem ggL_law_L_errorsIn : GoodIn wsL_law wsL_errorsIn := goodIn_ca (goodIn_ca (goodIn_r _ [634, 158, 57, 635, 636, 637, 2, 638, 248, 249, 250, 251, 167, 168, 81, 20, 268, 269, 270, 62, 63, 271, 272, 273, 274, 71, 589, 590, 591, 592, 16, 192, 193, 194, 195, 86, 15, 87, 88, 76, 28, 200, 201, 202, 29, 429, 430, 431, 30, 199, 758, 759, 760, 761, 762, 722, 723, 724, 725, 726, 727, 728, 729, 730, 750, 751, 752, 753, 754, 755, 756, 757] (by decide +kernel) (by decide +kernel)) (goodIn_sub (fun _ h => List.mem_append_right _ h) (by decide +kernel))) (goodIn_sub (fun _ h => List.mem_append_left _ (List.mem_append_left _ (List.mem_append_right _ h))) (by decide +kernel))
set_option maxRecDepth 20000 in
theorem gL_law_L_errorsIn : GoodIn wsL_law (va_wsS RL 223 yL_errorsIn wsL_errorsIn) := goodIn_app (goodIn_of _ (by decide +kernel)) ggL_law_L_errorsIn
set_option maxRecDepth 20000 in
theorem ggL_law_X3_errorsIn : GoodIn wsL_law wsX3_errorsIn := goodIn_r _ [642, 101, 118, 48, 256, 257, 258, 5, 259, 124, 106, 107, 108, 109, 110, 111, 112, 597, 598, 599, 600, 17, 52, 49, 117, 43, 44, 289, 290, 291, 292, 42, 436, 437, 438, 439, 418, 419, 420, 421, 731, 732, 733, 734, 735, 736, 737, 738, 739, 740, 741, 742, 743, 744, 745, 746, 747, 748, 749] (by decide +kernel) (by decide +kernel)
set_option maxRecDepth 20000 in
theorem gL_law_X3_errorsIn : GoodIn wsL_law (wsV RL 225 RX3 yX3_errorsIn wsX3_errorsIn) := goodIn_app (goodIn_of _ (by decide +kernel)) ggL_law_X3_errorsIn
set_option maxRecDepth 20000 in
theorem ggL_law_L_paceWanted : GoodIn wsL_law wsL_paceWanted := goodIn_ca (goodIn_ca (goodIn_r _ [645, 158, 57, 646, 647, 648, 2, 649, 248, 249, 250, 251, 167, 168, 81, 20, 537, 538, 539, 540, 16, 86, 15, 87, 88, 76, 28, 268, 269, 270, 62, 63, 271, 272, 273, 274, 71, 722, 723, 724, 725, 726, 727, 728, 729, 730, 750, 751, 752, 753, 754, 755, 756, 757, 758, 759, 760, 761, 762] (by decide +kernel) (by decide +kernel)) (goodIn_sub (fun _ h => List.mem_append_right _ h) (by decide +kernel))) (goodIn_sub (fun _ h => List.mem_append_left _ (List.mem_append_left _ (List.mem_append_right _ h))) (by decide +kernel))
set_option maxRecDepth 20000 in
theorem gL_law_L_paceWanted : GoodIn wsL_law (va_wsS RL 226 yL_paceWanted wsL_paceWanted) := goodIn_app (goodIn_of _ (by decide +kernel)) ggL_law_L_paceWanted
set_option maxRecDepth 20000 in
theorem ggL_law_X3_paceWanted : GoodIn wsL_law wsX3_paceWanted := goodIn_r _ [653, 101, 654, 655, 194, 656, 118, 256, 257, 258, 5, 259, 124, 106, 107, 108, 109, 110, 111, 112, 545, 546, 547, 548, 117, 49, 289, 290, 291, 292, 42, 731, 732, 733, 734, 735, 736, 737, 738, 739, 740, 741, 742, 743, 744, 745, 746, 747, 748, 749] (by decide +kernel) (by decide +kernel)
set_option maxRecDepth 20000 in
theorem gL_law_X3_paceWanted : GoodIn wsL_law (wsV RL 228 RX3 yX3_paceWanted wsX3_paceWanted) := goodIn_app (goodIn_of _ (by decide +kernel)) ggL_law_X3_paceWanted
set_option maxRecDepth 20000 in
theorem ggL_law_X2_wouldCompact : GoodIn wsL_law wsX2_wouldCompact := goodIn_r _ [660, 16, 184, 185, 186, 2, 187, 188, 189, 190, 191, 81, 20, 192, 193, 194, 195, 196, 15, 197, 198, 76, 29, 30, 28, 33, 199, 200, 201, 202, 661, 662, 663, 664, 82, 83, 84, 85, 86, 87, 88, 722, 723, 724, 725, 726, 727, 728, 729, 730, 750, 751, 752, 753, 754, 755, 756, 757, 758, 759, 760, 761, 762] (by decide +kernel) (by decide +kernel)
set_option maxRecDepth 20000 in
theorem gL_law_X2_wouldCompact : GoodIn wsL_law (wsV RL 229 RX2 yX2_wouldCompact wsX2_wouldCompact) := goodIn_app (goodIn_of _ (by decide +kernel)) ggL_law_X2_wouldCompact
set_option maxRecDepth 20000 in
theorem ggL_law_X3_wouldCompact : GoodIn wsL_law wsX3_wouldCompact := goodIn_r _ [668, 101, 207, 208, 209, 5, 210, 102, 124, 49, 211, 193, 194, 195, 32, 117, 46, 43, 44, 42, 731, 732, 733, 734, 735, 736, 737, 738, 739, 740, 741, 742, 743, 744, 745, 746, 747, 748, 749] (by decide +kernel) (by decide +kernel)
set_option maxRecDepth 20000 in
theorem gL_law_X3_wouldCompact : GoodIn wsL_law (wsV RL 232 RX3 yX3_wouldCompact wsX3_wouldCompact) := goodIn_app (goodIn_of _ (by decide +kernel)) ggL_law_X3_wouldCompact
set_option maxRecDepth 20000 in
theorem ggL_law_L_wouldMiss : GoodIn wsL_law wsL_wouldMiss := goodIn_ca (goodIn_r _ [671, 158, 672, 673, 674, 2, 675, 16, 248, 249, 250, 251, 167, 168, 81, 20, 184, 185, 186, 187, 188, 189, 190, 191, 192, 193, 194, 195, 196, 15, 197, 198, 76, 29, 30, 28, 33, 199, 200, 201, 202, 82, 83, 84, 85, 86, 87, 88, 722, 723, 724, 725, 726, 727, 728, 729, 730, 758, 759, 760, 761, 762, 750, 751, 752, 753, 754, 755, 756, 757] (by decide +kernel) (by decide +kernel)) (goodIn_sub (fun _ h => List.mem_append_right _ h) (by decide +kernel))
set_option maxRecDepth 20000 in
theorem gL_law_L_wouldMiss : GoodIn wsL_law (va_wsS RL 233 yL_wouldMiss wsL_wouldMiss) := goodIn_app (goodIn_of _ (by decide +kernel)) ggL_law_L_wouldMiss
set_option maxRecDepth 20000 in
theorem ggL_law_X3_wouldMiss : GoodIn wsL_law wsX3_wouldMiss := goodIn_r _ [679, 101, 256, 257, 258, 5, 259, 124, 106, 107, 108, 680, 681, 682, 683, 49, 117, 46, 207, 208, 209, 210, 102, 211, 193, 194, 195, 32, 43, 44, 42, 289, 290, 291, 292, 109, 110, 111, 112, 731, 732, 733, 734, 735, 736, 737, 738, 739, 740, 741, 742, 743, 744, 745, 746, 747, 748, 749] (by decide +kernel) (by decide +kernel)
set_option maxRecDepth 20000 in
theorem gL_law_X3_wouldMiss : GoodIn wsL_law (wsV RL 235 RX3 yX3_wouldMiss wsX3_wouldMiss) := goodIn_app (goodIn_of _ (by decide +kernel)) ggL_law_X3_wouldMiss
set_option maxRecDepth 20000 in
theorem ggL_law_X2_meanLag : GoodIn wsL_law wsX2_meanLag := goodIn_r _ [687, 81, 20, 537, 538, 539, 2, 540, 16, 86, 15, 87, 88, 76, 28, 722, 723, 724, 725, 726, 727, 728, 729, 730, 750, 751, 752, 753, 754, 755, 756, 757, 758, 759, 760, 761, 762] (by decide +kernel) (by decide +kernel)
set_option maxRecDepth 20000 in
theorem gL_law_X2_meanLag : GoodIn wsL_law (wsV RL 236 RX2 yX2_meanLag wsX2_meanLag) := goodIn_app (goodIn_of _ (by decide +kernel)) ggL_law_X2_meanLag
set_option maxRecDepth 20000 in
theorem ggL_law_X3_meanLag : GoodIn wsL_law wsX3_meanLag := goodIn_r _ [691, 101, 124, 545, 546, 547, 5, 548, 117, 49, 289, 290, 291, 292, 42, 731, 732, 733, 734, 735, 736, 737, 738, 739, 740, 741, 742, 743, 744, 745, 746, 747, 748, 749] (by decide +kernel) (by decide +kernel)
set_option maxRecDepth 20000 in
theorem gL_law_X3_meanLag : GoodIn wsL_law (wsV RL 240 RX3 yX3_meanLag wsX3_meanLag) := goodIn_app (goodIn_of _ (by decide +kernel)) ggL_law_X3_meanLag
set_option maxRecDepth 20000 in
theorem ggL_law_X2_digest : GoodIn wsL_law wsX2_digest := goodIn_r _ [695, 696, 267, 16, 72, 71, 81, 697, 698, 2, 699, 700, 701, 322, 323, 324, 702, 602, 603, 604, 20, 537, 538, 539, 540, 86, 15, 87, 88, 76, 28, 703, 658, 659, 660, 184, 185, 186, 187, 188, 189, 190, 191, 192, 193, 194, 195, 196, 197, 198, 29, 30, 33, 199, 200, 201, 202, 661, 662, 663, 664, 82, 83, 84, 85, 704, 705, 706, 707, 407, 408, 409, 429, 430, 431, 447, 448, 449, 450, 451, 452, 453, 708, 709, 710, 711, 18, 496, 497, 498, 31, 712, 713, 714, 715, 589, 590, 591, 592, 620, 621, 622, 623, 271, 272, 273, 274, 722, 723, 724, 725, 726, 727, 728, 729, 730, 750, 751, 752, 753, 754, 755, 756, 757, 758, 759, 760, 761, 762] (by decide +kernel) (by decide +kernel)
set_option maxRecDepth 20000 in
theorem gL_law_X2_digest : GoodIn wsL_law (wsV RL 241 RX2 yX2_digest wsX2_digest) := goodIn_app (goodIn_of _ (by decide +kernel)) ggL_law_X2_digest
set_option maxRecDepth 20000 in
theorem ggL_law_X3_digest : GoodIn wsL_law wsX3_digest := goodIn_r _ [719, 101, 17, 288, 117, 102, 125, 119, 118, 124, 720, 721, 47, 49, 50, 51, 329, 330, 331, 5, 332, 42, 609, 610, 611, 612, 545, 546, 547, 548, 289, 290, 291, 292, 207, 208, 209, 210, 211, 193, 194, 195, 32, 46, 43, 44, 414, 415, 416, 417, 418, 419, 420, 421, 436, 437, 438, 439, 458, 459, 460, 461, 503, 504, 505, 506, 45, 597, 598, 599, 600, 52, 628, 629, 630, 631, 48, 680, 681, 682, 683, 731, 732, 733, 734, 735, 736, 737, 738, 739, 740, 741, 742, 743, 744, 745, 746, 747, 748, 749] (by decide +kernel) (by decide +kernel)
set_option maxRecDepth 20000 in
theorem gL_law_X3_digest : GoodIn wsL_law (wsV RL 245 RX3 yX3_digest wsX3_digest) := goodIn_app (goodIn_of _ (by decide +kernel)) ggL_law_X3_digest
