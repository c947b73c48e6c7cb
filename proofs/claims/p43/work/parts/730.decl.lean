theorem dJ9_min_7cf53_0 : decode cJ9_min_7cf53 0 = .ok (.iload_n 0, 1) := by decide +kernel
theorem dJ9_min_7cf53_1 : decode cJ9_min_7cf53 1 = .ok (.iload_n 1, 1) := by decide +kernel
theorem dJ9_min_7cf53_2 : decode cJ9_min_7cf53 2 = .ok (.if_icmp .gt 7, 3) := by decide +kernel
theorem dJ9_min_7cf53_5 : decode cJ9_min_7cf53 5 = .ok (.iload_n 0, 1) := by decide +kernel
theorem dJ9_min_7cf53_6 : decode cJ9_min_7cf53 6 = .ok (.goto 4, 3) := by decide +kernel
theorem dJ9_min_7cf53_9 : decode cJ9_min_7cf53 9 = .ok (.iload_n 1, 1) := by decide +kernel
theorem dJ9_min_7cf53_10 : decode cJ9_min_7cf53 10 = .ok (.ireturn, 1) := by decide +kernel
theorem dL_below_0 : decode cL_below 0 = .ok (.iload_n 0, 1) := by decide +kernel
theorem dL_below_1 : decode cL_below 1 = .ok (.ldc 7, 2) := by decide +kernel
theorem dL_below_3 : decode cL_below 3 = .ok (.iand, 1) := by decide +kernel
theorem dL_below_4 : decode cL_below 4 = .ok (.iload_n 1, 1) := by decide +kernel
theorem dL_below_5 : decode cL_below 5 = .ok (.irem, 1) := by decide +kernel
theorem dL_below_6 : decode cL_below 6 = .ok (.ireturn, 1) := by decide +kernel
theorem dL_cell_0 : decode cL_cell 0 = .ok (.iload_n 1, 1) := by decide +kernel
theorem dL_cell_1 : decode cL_cell 1 = .ok (.aload_n 0, 1) := by decide +kernel
theorem dL_cell_2 : decode cL_cell 2 = .ok (.arraylength, 1) := by decide +kernel
theorem dL_cell_3 : decode cL_cell 3 = .ok (.if_icmp .ge 9, 3) := by decide +kernel
theorem dL_cell_6 : decode cL_cell 6 = .ok (.aload_n 0, 1) := by decide +kernel
theorem dL_cell_7 : decode cL_cell 7 = .ok (.iload_n 1, 1) := by decide +kernel
theorem dL_cell_8 : decode cL_cell 8 = .ok (.iaload, 1) := by decide +kernel
theorem dL_cell_9 : decode cL_cell 9 = .ok (.goto 9, 3) := by decide +kernel
theorem dL_cell_12 : decode cL_cell 12 = .ok (.ldc 8, 2) := by decide +kernel
theorem dL_cell_14 : decode cL_cell 14 = .ok (.iload_n 1, 1) := by decide +kernel
theorem dL_cell_15 : decode cL_cell 15 = .ok (.iconst 3, 1) := by decide +kernel
theorem dL_cell_16 : decode cL_cell 16 = .ok (.iadd, 1) := by decide +kernel
theorem dL_cell_17 : decode cL_cell 17 = .ok (.imul, 1) := by decide +kernel
theorem dL_cell_18 : decode cL_cell 18 = .ok (.ireturn, 1) := by decide +kernel
set_option maxRecDepth 20000 in
theorem ggL_act_L_below : GoodIn wsL_act wsL_below := goodIn_r _ [10, 11] (by decide +kernel) (by decide +kernel)
set_option maxRecDepth 20000 in
theorem gL_act_L_below : GoodIn wsL_act (va_wsS RL 19 yL_below wsL_below) := goodIn_app (goodIn_of _ (by decide +kernel)) ggL_act_L_below
set_option maxRecDepth 20000 in
theorem ggL_act_X3_with : GoodIn wsL_act wsX3_with := goodIn_r _ [15, 16] (by decide +kernel) (by decide +kernel)
set_option maxRecDepth 20000 in
theorem gL_act_X3_with : GoodIn wsL_act (va_wsS RL 29 yX3_with wsX3_with) := goodIn_app (goodIn_of _ (by decide +kernel)) ggL_act_X3_with
set_option maxRecDepth 20000 in
theorem ggL_act_X2_addShip : GoodIn wsL_act wsX2_addShip := goodIn_ca (goodIn_ca (goodIn_r _ [21, 22, 23, 24, 25, 26, 27, 28, 29, 30, 20, 31, 32, 192, 193, 194, 195, 196, 197, 198, 199, 200, 201, 202, 203, 204, 205, 206, 207, 208, 209, 210, 211, 212, 213] (by decide +kernel) (by decide +kernel)) (goodIn_sub (fun _ h => List.mem_cons_of_mem _ (List.mem_append_left _ (List.mem_append_left _ (List.mem_append_right _ h)))) (by decide +kernel))) (goodIn_sub (fun _ h => List.mem_cons_of_mem _ (List.mem_append_left _ (List.mem_append_right _ h))) (by decide +kernel))
set_option maxRecDepth 20000 in
theorem gL_act_X2_addShip : GoodIn wsL_act (wsV RL 33 RX2 yX2_addShip wsX2_addShip) := goodIn_app (goodIn_of _ (by decide +kernel)) ggL_act_X2_addShip
set_option maxRecDepth 20000 in
theorem ggL_act_X2_seek : GoodIn wsL_act wsX2_seek := goodIn_ca (goodIn_ca (goodIn_r _ [36, 37, 38, 39, 20, 40, 41, 42, 26, 27, 28, 29, 30, 31, 22, 23, 32, 201, 202, 203, 204, 205, 192, 193, 194, 195, 196, 197, 198, 199, 200, 206, 207, 208, 209, 210, 211, 212, 213] (by decide +kernel) (by decide +kernel)) (goodIn_sub (fun _ h => List.mem_cons_of_mem _ (List.mem_append_right _ h)) (by decide +kernel))) (goodIn_sub (fun _ h => List.mem_cons_of_mem _ (List.mem_append_left _ (List.mem_append_left _ (List.mem_append_right _ h)))) (by decide +kernel))
set_option maxRecDepth 20000 in
theorem gL_act_X2_seek : GoodIn wsL_act (wsV RL 38 RX2 yX2_seek wsX2_seek) := goodIn_app (goodIn_of _ (by decide +kernel)) ggL_act_X2_seek
set_option maxRecDepth 20000 in
theorem ggL_act_X2_startStorm : GoodIn wsL_act wsX2_startStorm := goodIn_ca (goodIn_r _ [46, 24, 25, 47, 48, 192, 193, 194, 195, 196, 197, 198, 199, 200] (by decide +kernel) (by decide +kernel)) (goodIn_sub (fun _ h => List.mem_cons_of_mem _ (List.mem_append_left _ (List.mem_append_right _ h))) (by decide +kernel))
set_option maxRecDepth 20000 in
theorem gL_act_X2_startStorm : GoodIn wsL_act (wsV RL 45 RX2 yX2_startStorm wsX2_startStorm) := goodIn_app (goodIn_of _ (by decide +kernel)) ggL_act_X2_startStorm
set_option maxRecDepth 20000 in
theorem ggL_act_X2_endStorm : GoodIn wsL_act wsX2_endStorm := goodIn_ca (goodIn_r _ [52, 24, 25, 47, 53, 48, 192, 193, 194, 195, 196, 197, 198, 199, 200] (by decide +kernel) (by decide +kernel)) (goodIn_sub (fun _ h => List.mem_cons_of_mem _ (List.mem_append_left _ (List.mem_append_right _ h))) (by decide +kernel))
set_option maxRecDepth 20000 in
theorem gL_act_X2_endStorm : GoodIn wsL_act (wsV RL 49 RX2 yX2_endStorm wsX2_endStorm) := goodIn_app (goodIn_of _ (by decide +kernel)) ggL_act_X2_endStorm
set_option maxRecDepth 20000 in
theorem ggL_act_X3_say : GoodIn wsL_act wsX3_say := goodIn_r _ [57, 58, 3, 59, 60, 61, 62, 63, 64, 14, 65, 16, 66, 67, 68, 13, 15, 185, 186, 187, 188, 189, 190, 191] (by decide +kernel) (by decide +kernel)
set_option maxRecDepth 20000 in
theorem gL_act_X3_say : GoodIn wsL_act (wsV RL 55 RX3 yX3_say wsX3_say) := goodIn_app (goodIn_of _ (by decide +kernel)) ggL_act_X3_say
set_option maxRecDepth 20000 in
theorem ggL_act_X2_replay : GoodIn wsL_act wsX2_replay := goodIn_ca (goodIn_ca (goodIn_r _ [72, 24, 25, 47, 32, 73, 74, 75, 76, 77, 20, 78, 41, 42, 48, 79, 80, 81, 82, 83, 84, 85, 86, 87, 88, 89, 90, 53, 91, 92, 93, 94, 95, 96, 97, 98, 26, 27, 99, 100, 101, 102, 103, 104, 105, 106, 107, 108, 109, 110, 111, 112, 113, 114, 192, 193, 194, 195, 196, 197, 198, 199, 200, 206, 207, 208, 209, 210, 211, 212, 213, 201, 202, 203, 204, 205] (by decide +kernel) (by decide +kernel)) (goodIn_sub (fun _ h => List.mem_cons_of_mem _ (List.mem_append_left _ (List.mem_append_right _ h))) (by decide +kernel))) (goodIn_sub (fun _ h => List.mem_cons_of_mem _ (List.mem_append_right _ h)) (by decide +kernel))
set_option maxRecDepth 20000 in
theorem gL_act_X2_replay : GoodIn wsL_act (wsV RL 58 RX2 yX2_replay wsX2_replay) := goodIn_app (goodIn_of _ (by decide +kernel)) ggL_act_X2_replay
set_option maxRecDepth 20000 in
theorem ggL_act_X2_compact : GoodIn wsL_act wsX2_compact := goodIn_r _ [118, 119, 120, 121, 20, 122, 32, 123, 124, 125, 126, 26, 27, 127, 128, 129, 130, 131, 80, 132, 133, 83, 85, 86, 106, 94, 134, 135, 136, 137, 95, 96, 97, 98, 99, 100, 101, 102, 103, 104, 105, 107, 108, 109, 84, 110, 192, 193, 194, 195, 196, 197, 198, 199, 200, 206, 207, 208, 209, 210, 211, 212, 213, 201, 202, 203, 204, 205] (by decide +kernel) (by decide +kernel)
set_option maxRecDepth 20000 in
theorem gL_act_X2_compact : GoodIn wsL_act (wsV RL 62 RX2 yX2_compact wsX2_compact) := goodIn_app (goodIn_of _ (by decide +kernel)) ggL_act_X2_compact
set_option maxRecDepth 20000 in
theorem ggL_act_X3_compact : GoodIn wsL_act wsX3_compact := goodIn_r _ [141, 58, 66, 62, 63, 64, 14, 65, 16, 67, 185, 186, 187, 188, 189, 190, 191] (by decide +kernel) (by decide +kernel)
set_option maxRecDepth 20000 in
theorem gL_act_X3_compact : GoodIn wsL_act (wsV RL 65 RX3 yX3_compact wsX3_compact) := goodIn_app (goodIn_of _ (by decide +kernel)) ggL_act_X3_compact
set_option maxRecDepth 20000 in
theorem ggL_act_X3_dropAt : GoodIn wsL_act wsX3_dropAt := goodIn_r _ [65, 58, 16, 66, 67, 185, 186, 187, 188, 189, 190, 191] (by decide +kernel) (by decide +kernel)
set_option maxRecDepth 20000 in
theorem gL_act_X3_dropAt : GoodIn wsL_act (wsV RL 66 RX3 yX3_dropAt wsX3_dropAt) := goodIn_app (goodIn_of _ (by decide +kernel)) ggL_act_X3_dropAt
set_option maxRecDepth 20000 in
theorem ggL_act_X2_trimTo : GoodIn wsL_act wsX2_trimTo := goodIn_ca (goodIn_r _ [146, 32, 28, 29, 30, 20, 31, 22, 23, 147, 80, 148, 149, 83, 94, 106, 95, 96, 97, 98, 26, 27, 99, 100, 101, 102, 103, 104, 105, 107, 108, 109, 85, 86, 84, 110, 192, 193, 194, 195, 196, 197, 198, 199, 200, 206, 207, 208, 209, 210, 211, 212, 213, 201, 202, 203, 204, 205] (by decide +kernel) (by decide +kernel)) (goodIn_sub (fun _ h => List.mem_cons_of_mem _ (List.mem_append_left _ (List.mem_append_left _ (List.mem_append_right _ h)))) (by decide +kernel))
set_option maxRecDepth 20000 in
theorem gL_act_X2_trimTo : GoodIn wsL_act (wsV RL 70 RX2 yX2_trimTo wsX2_trimTo) := goodIn_app (goodIn_of _ (by decide +kernel)) ggL_act_X2_trimTo
set_option maxRecDepth 20000 in
theorem ggL_act_X2_passHours : GoodIn wsL_act wsX2_passHours := goodIn_ca (goodIn_r _ [153, 26, 27, 154, 155, 156, 20, 157, 22, 23, 158, 159, 160, 161, 47, 162, 163, 164, 165, 32, 127, 128, 129, 130, 103, 80, 104, 105, 83, 106, 166, 167, 168, 169, 170, 171, 172, 192, 193, 194, 195, 196, 197, 198, 199, 200, 201, 202, 203, 204, 205, 206, 207, 208, 209, 210, 211, 212, 213] (by decide +kernel) (by decide +kernel)) (goodIn_sub (fun _ h => List.mem_cons_of_mem _ (List.mem_append_left _ (List.mem_append_left _ (List.mem_append_right _ h)))) (by decide +kernel))
set_option maxRecDepth 20000 in
theorem gL_act_X2_passHours : GoodIn wsL_act (wsV RL 73 RX2 yX2_passHours wsX2_passHours) := goodIn_app (goodIn_of _ (by decide +kernel)) ggL_act_X2_passHours
set_option maxRecDepth 20000 in
theorem ggL_act_X3_pass : GoodIn wsL_act wsX3_pass := goodIn_r _ [176, 177, 60, 66, 58, 185, 186, 187, 188, 189, 190, 191] (by decide +kernel) (by decide +kernel)
set_option maxRecDepth 20000 in
theorem gL_act_X3_pass : GoodIn wsL_act (wsV RL 76 RX3 yX3_pass wsX3_pass) := goodIn_app (goodIn_of _ (by decide +kernel)) ggL_act_X3_pass
set_option maxRecDepth 20000 in
theorem ggL_act_X2_say : GoodIn wsL_act wsX2_say := goodIn_ca (goodIn_r _ [181, 22, 23, 182, 183, 20, 184, 87, 88, 89, 90, 32, 47, 48, 53, 91, 80, 92, 93, 83, 94, 95, 96, 97, 98, 26, 27, 99, 100, 101, 102, 103, 104, 105, 106, 107, 108, 109, 85, 86, 84, 110, 111, 112, 113, 114, 192, 193, 194, 195, 196, 197, 198, 199, 200, 206, 207, 208, 209, 210, 211, 212, 213, 201, 202, 203, 204, 205] (by decide +kernel) (by decide +kernel)) (goodIn_sub (fun _ h => List.mem_cons_of_mem _ (List.mem_append_left _ (List.mem_append_left _ (List.mem_append_right _ h)))) (by decide +kernel))
set_option maxRecDepth 20000 in
theorem gL_act_X2_say : GoodIn wsL_act (wsV RL 79 RX2 yX2_say wsX2_say) := goodIn_app (goodIn_of _ (by decide +kernel)) ggL_act_X2_say
theorem dL_act_0 : decode cL_act 0 = .ok (.aload_n 1, 1) := by decide +kernel
theorem dL_act_1 : decode cL_act 1 = .ok (.getfield 9, 3) := by decide +kernel
theorem dL_act_4 : decode cL_act 4 = .ok (.arraylength, 1) := by decide +kernel
theorem dL_act_5 : decode cL_act 5 = .ok (.istore_n 3, 1) := by decide +kernel
theorem dL_act_6 : decode cL_act 6 = .ok (.aload_n 1, 1) := by decide +kernel
theorem dL_act_7 : decode cL_act 7 = .ok (.getfield 15, 3) := by decide +kernel
theorem dL_act_10 : decode cL_act 10 = .ok (.arraylength, 1) := by decide +kernel
theorem dL_act_11 : decode cL_act 11 = .ok (.istore 4, 2) := by decide +kernel
theorem dL_act_13 : decode cL_act 13 = .ok (.iload_n 2, 1) := by decide +kernel
theorem dL_act_14 : decode cL_act 14 = .ok (.bipush 9, 2) := by decide +kernel
theorem dL_act_16 : decode cL_act 16 = .ok (.ishr, 1) := by decide +kernel
theorem dL_act_17 : decode cL_act 17 = .ok (.bipush 22, 2) := by decide +kernel
theorem dL_act_19 : decode cL_act 19 = .ok (.invokestatic 19, 3) := by decide +kernel
theorem dL_act_22 : decode cL_act 22 = .ok (.tableswitch 581 0 11 #[62, 62, 140, 208, 286, 286, 322, 432, 459, 535, 535, 535], 62) := by decide +kernel
theorem dL_act_84 : decode cL_act 84 = .ok (.iload_n 3, 1) := by decide +kernel
theorem dL_act_85 : decode cL_act 85 = .ok (.bipush 6, 2) := by decide +kernel
theorem dL_act_87 : decode cL_act 87 = .ok (.if_icmp .ne 5, 3) := by decide +kernel
theorem dL_act_90 : decode cL_act 90 = .ok (.iconst 1, 1) := by decide +kernel
theorem dL_act_91 : decode cL_act 91 = .ok (.ireturn, 1) := by decide +kernel
theorem dL_act_92 : decode cL_act 92 = .ok (.bipush 14, 2) := by decide +kernel
theorem dL_act_94 : decode cL_act 94 = .ok (.newarray .int, 2) := by decide +kernel
theorem dL_act_96 : decode cL_act 96 = .ok (.astore 5, 2) := by decide +kernel
theorem dL_act_98 : decode cL_act 98 = .ok (.aload 5, 2) := by decide +kernel
theorem dL_act_100 : decode cL_act 100 = .ok (.iconst 0, 1) := by decide +kernel
theorem dL_act_101 : decode cL_act 101 = .ok (.iconst 1, 1) := by decide +kernel
theorem dL_act_102 : decode cL_act 102 = .ok (.iload_n 2, 1) := by decide +kernel
theorem dL_act_103 : decode cL_act 103 = .ok (.iconst 1, 1) := by decide +kernel
theorem dL_act_104 : decode cL_act 104 = .ok (.ishr, 1) := by decide +kernel
theorem dL_act_105 : decode cL_act 105 = .ok (.iconst 5, 1) := by decide +kernel
theorem dL_act_106 : decode cL_act 106 = .ok (.invokestatic 19, 3) := by decide +kernel
theorem dL_act_109 : decode cL_act 109 = .ok (.iadd, 1) := by decide +kernel
theorem dL_act_110 : decode cL_act 110 = .ok (.iastore, 1) := by decide +kernel
theorem dL_act_111 : decode cL_act 111 = .ok (.aload 5, 2) := by decide +kernel
theorem dL_act_113 : decode cL_act 113 = .ok (.iconst 1, 1) := by decide +kernel
theorem dL_act_114 : decode cL_act 114 = .ok (.iload_n 2, 1) := by decide +kernel
theorem dL_act_115 : decode cL_act 115 = .ok (.iconst 3, 1) := by decide +kernel
theorem dL_act_116 : decode cL_act 116 = .ok (.ishr, 1) := by decide +kernel
theorem dL_act_117 : decode cL_act 117 = .ok (.aload_n 1, 1) := by decide +kernel
theorem dL_act_118 : decode cL_act 118 = .ok (.getfield 25, 3) := by decide +kernel
theorem dL_act_121 : decode cL_act 121 = .ok (.iconst 1, 1) := by decide +kernel
theorem dL_act_122 : decode cL_act 122 = .ok (.iadd, 1) := by decide +kernel
theorem dL_act_123 : decode cL_act 123 = .ok (.invokestatic 19, 3) := by decide +kernel
theorem dL_act_126 : decode cL_act 126 = .ok (.iastore, 1) := by decide +kernel
theorem dL_act_127 : decode cL_act 127 = .ok (.aload_n 1, 1) := by decide +kernel
theorem dL_act_128 : decode cL_act 128 = .ok (.aload_n 1, 1) := by decide +kernel
theorem dL_act_129 : decode cL_act 129 = .ok (.getfield 9, 3) := by decide +kernel
theorem dL_act_132 : decode cL_act 132 = .ok (.aload 5, 2) := by decide +kernel
theorem dL_act_134 : decode cL_act 134 = .ok (.invokestatic 29, 3) := by decide +kernel
theorem dL_act_137 : decode cL_act 137 = .ok (.putfield 9, 3) := by decide +kernel
theorem dL_act_140 : decode cL_act 140 = .ok (.aload_n 0, 1) := by decide +kernel
theorem dL_act_141 : decode cL_act 141 = .ok (.aload 5, 2) := by decide +kernel
theorem dL_act_143 : decode cL_act 143 = .ok (.iconst 0, 1) := by decide +kernel
theorem dL_act_144 : decode cL_act 144 = .ok (.iaload, 1) := by decide +kernel
theorem dL_act_145 : decode cL_act 145 = .ok (.aload 5, 2) := by decide +kernel
theorem dL_act_147 : decode cL_act 147 = .ok (.iconst 1, 1) := by decide +kernel
theorem dL_act_148 : decode cL_act 148 = .ok (.iaload, 1) := by decide +kernel
theorem dL_act_149 : decode cL_act 149 = .ok (.invokevirtual 33, 3) := by decide +kernel
theorem dL_act_152 : decode cL_act 152 = .ok (.iload_n 3, 1) := by decide +kernel
theorem dL_act_153 : decode cL_act 153 = .ok (.if_icmp .ne 7, 3) := by decide +kernel
theorem dL_act_156 : decode cL_act 156 = .ok (.iconst 1, 1) := by decide +kernel
theorem dL_act_157 : decode cL_act 157 = .ok (.goto 4, 3) := by decide +kernel
theorem dL_act_160 : decode cL_act 160 = .ok (.iconst 0, 1) := by decide +kernel
theorem dL_act_161 : decode cL_act 161 = .ok (.ireturn, 1) := by decide +kernel
theorem dL_act_162 : decode cL_act 162 = .ok (.iload_n 3, 1) := by decide +kernel
theorem dL_act_163 : decode cL_act 163 = .ok (.ifCond .ne 5, 3) := by decide +kernel
theorem dL_act_166 : decode cL_act 166 = .ok (.iconst 1, 1) := by decide +kernel
theorem dL_act_167 : decode cL_act 167 = .ok (.ireturn, 1) := by decide +kernel
theorem dL_act_168 : decode cL_act 168 = .ok (.aload_n 1, 1) := by decide +kernel
theorem dL_act_169 : decode cL_act 169 = .ok (.getfield 9, 3) := by decide +kernel
theorem dL_act_172 : decode cL_act 172 = .ok (.iload_n 2, 1) := by decide +kernel
theorem dL_act_173 : decode cL_act 173 = .ok (.iconst 1, 1) := by decide +kernel
theorem dL_act_174 : decode cL_act 174 = .ok (.ishr, 1) := by decide +kernel
theorem dL_act_175 : decode cL_act 175 = .ok (.iload_n 3, 1) := by decide +kernel
theorem dL_act_176 : decode cL_act 176 = .ok (.invokestatic 19, 3) := by decide +kernel
theorem dL_act_179 : decode cL_act 179 = .ok (.aaload, 1) := by decide +kernel
theorem dL_act_180 : decode cL_act 180 = .ok (.astore 6, 2) := by decide +kernel
theorem dL_act_182 : decode cL_act 182 = .ok (.aload 6, 2) := by decide +kernel
theorem dL_act_184 : decode cL_act 184 = .ok (.iconst 1, 1) := by decide +kernel
theorem dL_act_185 : decode cL_act 185 = .ok (.iaload, 1) := by decide +kernel
theorem dL_act_186 : decode cL_act 186 = .ok (.istore 7, 2) := by decide +kernel
theorem dL_act_188 : decode cL_act 188 = .ok (.aload 6, 2) := by decide +kernel
theorem dL_act_190 : decode cL_act 190 = .ok (.iconst 1, 1) := by decide +kernel
theorem dL_act_191 : decode cL_act 191 = .ok (.iload_n 2, 1) := by decide +kernel
theorem dL_act_192 : decode cL_act 192 = .ok (.iconst 3, 1) := by decide +kernel
theorem dL_act_193 : decode cL_act 193 = .ok (.ishr, 1) := by decide +kernel
theorem dL_act_194 : decode cL_act 194 = .ok (.aload_n 1, 1) := by decide +kernel
theorem dL_act_195 : decode cL_act 195 = .ok (.getfield 25, 3) := by decide +kernel
theorem dL_act_198 : decode cL_act 198 = .ok (.iconst 1, 1) := by decide +kernel
theorem dL_act_199 : decode cL_act 199 = .ok (.iadd, 1) := by decide +kernel
theorem dL_act_200 : decode cL_act 200 = .ok (.invokestatic 19, 3) := by decide +kernel
theorem dL_act_203 : decode cL_act 203 = .ok (.iastore, 1) := by decide +kernel
theorem dL_act_204 : decode cL_act 204 = .ok (.aload_n 0, 1) := by decide +kernel
theorem dL_act_205 : decode cL_act 205 = .ok (.iload_n 2, 1) := by decide +kernel
theorem dL_act_206 : decode cL_act 206 = .ok (.iconst 1, 1) := by decide +kernel
theorem dL_act_207 : decode cL_act 207 = .ok (.ishr, 1) := by decide +kernel
theorem dL_act_208 : decode cL_act 208 = .ok (.iload_n 3, 1) := by decide +kernel
theorem dL_act_209 : decode cL_act 209 = .ok (.invokestatic 19, 3) := by decide +kernel
theorem dL_act_212 : decode cL_act 212 = .ok (.aload 6, 2) := by decide +kernel
theorem dL_act_214 : decode cL_act 214 = .ok (.iconst 1, 1) := by decide +kernel
theorem dL_act_215 : decode cL_act 215 = .ok (.iaload, 1) := by decide +kernel
theorem dL_act_216 : decode cL_act 216 = .ok (.invokevirtual 38, 3) := by decide +kernel
theorem dL_act_219 : decode cL_act 219 = .ok (.iload 7, 2) := by decide +kernel
theorem dL_act_221 : decode cL_act 221 = .ok (.if_icmp .ne 7, 3) := by decide +kernel
theorem dL_act_224 : decode cL_act 224 = .ok (.iconst 1, 1) := by decide +kernel
theorem dL_act_225 : decode cL_act 225 = .ok (.goto 4, 3) := by decide +kernel
theorem dL_act_228 : decode cL_act 228 = .ok (.iconst 0, 1) := by decide +kernel
theorem dL_act_229 : decode cL_act 229 = .ok (.ireturn, 1) := by decide +kernel
theorem dL_act_230 : decode cL_act 230 = .ok (.aload_n 1, 1) := by decide +kernel
theorem dL_act_231 : decode cL_act 231 = .ok (.getfield 41, 3) := by decide +kernel
theorem dL_act_234 : decode cL_act 234 = .ok (.ifCond .ne 10, 3) := by decide +kernel
theorem dL_act_237 : decode cL_act 237 = .ok (.iload 4, 2) := by decide +kernel
theorem dL_act_239 : decode cL_act 239 = .ok (.bipush 8, 2) := by decide +kernel
theorem dL_act_241 : decode cL_act 241 = .ok (.if_icmp .ne 5, 3) := by decide +kernel
theorem dL_act_244 : decode cL_act 244 = .ok (.iconst 1, 1) := by decide +kernel
theorem dL_act_245 : decode cL_act 245 = .ok (.ireturn, 1) := by decide +kernel
theorem dL_act_246 : decode cL_act 246 = .ok (.aload_n 1, 1) := by decide +kernel
theorem dL_act_247 : decode cL_act 247 = .ok (.iconst 1, 1) := by decide +kernel
theorem dL_act_248 : decode cL_act 248 = .ok (.putfield 41, 3) := by decide +kernel
theorem dL_act_251 : decode cL_act 251 = .ok (.iload 4, 2) := by decide +kernel
theorem dL_act_253 : decode cL_act 253 = .ok (.iconst 1, 1) := by decide +kernel
theorem dL_act_254 : decode cL_act 254 = .ok (.iadd, 1) := by decide +kernel
theorem dL_act_255 : decode cL_act 255 = .ok (.newarray .int, 2) := by decide +kernel
theorem dL_act_257 : decode cL_act 257 = .ok (.astore 8, 2) := by decide +kernel
theorem dL_act_259 : decode cL_act 259 = .ok (.iconst 0, 1) := by decide +kernel
theorem dL_act_260 : decode cL_act 260 = .ok (.istore 9, 2) := by decide +kernel
theorem dL_act_262 : decode cL_act 262 = .ok (.iload 9, 2) := by decide +kernel
theorem dL_act_264 : decode cL_act 264 = .ok (.iload 4, 2) := by decide +kernel
theorem dL_act_266 : decode cL_act 266 = .ok (.if_icmp .ge 21, 3) := by decide +kernel
theorem dL_act_269 : decode cL_act 269 = .ok (.aload 8, 2) := by decide +kernel
theorem dL_act_271 : decode cL_act 271 = .ok (.iload 9, 2) := by decide +kernel
theorem dL_act_273 : decode cL_act 273 = .ok (.aload_n 1, 1) := by decide +kernel
theorem dL_act_274 : decode cL_act 274 = .ok (.getfield 15, 3) := by decide +kernel
theorem dL_act_277 : decode cL_act 277 = .ok (.iload 9, 2) := by decide +kernel
theorem dL_act_279 : decode cL_act 279 = .ok (.iaload, 1) := by decide +kernel
theorem dL_act_280 : decode cL_act 280 = .ok (.iastore, 1) := by decide +kernel
theorem dL_act_281 : decode cL_act 281 = .ok (.iinc 9 1, 3) := by decide +kernel
theorem dL_act_284 : decode cL_act 284 = .ok (.goto (-22), 3) := by decide +kernel
theorem dL_act_287 : decode cL_act 287 = .ok (.aload_n 1, 1) := by decide +kernel
theorem dL_act_288 : decode cL_act 288 = .ok (.aload 8, 2) := by decide +kernel
theorem dL_act_290 : decode cL_act 290 = .ok (.putfield 15, 3) := by decide +kernel
theorem dL_act_293 : decode cL_act 293 = .ok (.aload_n 0, 1) := by decide +kernel
theorem dL_act_294 : decode cL_act 294 = .ok (.invokevirtual 45, 3) := by decide +kernel
theorem dL_act_297 : decode cL_act 297 = .ok (.iload 4, 2) := by decide +kernel
theorem dL_act_299 : decode cL_act 299 = .ok (.if_icmp .ne 7, 3) := by decide +kernel
theorem dL_act_302 : decode cL_act 302 = .ok (.iconst 1, 1) := by decide +kernel
theorem dL_act_303 : decode cL_act 303 = .ok (.goto 4, 3) := by decide +kernel
theorem dL_act_306 : decode cL_act 306 = .ok (.iconst 0, 1) := by decide +kernel
theorem dL_act_307 : decode cL_act 307 = .ok (.ireturn, 1) := by decide +kernel
theorem dL_act_308 : decode cL_act 308 = .ok (.aload_n 1, 1) := by decide +kernel
theorem dL_act_309 : decode cL_act 309 = .ok (.getfield 41, 3) := by decide +kernel
theorem dL_act_312 : decode cL_act 312 = .ok (.ifCond .ne 5, 3) := by decide +kernel
theorem dL_act_315 : decode cL_act 315 = .ok (.iconst 1, 1) := by decide +kernel
theorem dL_act_316 : decode cL_act 316 = .ok (.ireturn, 1) := by decide +kernel
theorem dL_act_317 : decode cL_act 317 = .ok (.aload_n 1, 1) := by decide +kernel
theorem dL_act_318 : decode cL_act 318 = .ok (.iconst 0, 1) := by decide +kernel
theorem dL_act_319 : decode cL_act 319 = .ok (.putfield 41, 3) := by decide +kernel
theorem dL_act_322 : decode cL_act 322 = .ok (.aload_n 0, 1) := by decide +kernel
theorem dL_act_323 : decode cL_act 323 = .ok (.invokevirtual 49, 3) := by decide +kernel
theorem dL_act_326 : decode cL_act 326 = .ok (.aload_n 1, 1) := by decide +kernel
theorem dL_act_327 : decode cL_act 327 = .ok (.getfield 15, 3) := by decide +kernel
theorem dL_act_330 : decode cL_act 330 = .ok (.iload 4, 2) := by decide +kernel
theorem dL_act_332 : decode cL_act 332 = .ok (.iconst 1, 1) := by decide +kernel
theorem dL_act_333 : decode cL_act 333 = .ok (.isub, 1) := by decide +kernel
theorem dL_act_334 : decode cL_act 334 = .ok (.iaload, 1) := by decide +kernel
theorem dL_act_335 : decode cL_act 335 = .ok (.if_icmp .ne 7, 3) := by decide +kernel
theorem dL_act_338 : decode cL_act 338 = .ok (.iconst 1, 1) := by decide +kernel
theorem dL_act_339 : decode cL_act 339 = .ok (.goto 4, 3) := by decide +kernel
theorem dL_act_342 : decode cL_act 342 = .ok (.iconst 0, 1) := by decide +kernel
theorem dL_act_343 : decode cL_act 343 = .ok (.ireturn, 1) := by decide +kernel
theorem dL_act_344 : decode cL_act 344 = .ok (.aload_n 1, 1) := by decide +kernel
theorem dL_act_345 : decode cL_act 345 = .ok (.getfield 41, 3) := by decide +kernel
theorem dL_act_348 : decode cL_act 348 = .ok (.ifCond .ne 8, 3) := by decide +kernel
theorem dL_act_351 : decode cL_act 351 = .ok (.iload 4, 2) := by decide +kernel
theorem dL_act_353 : decode cL_act 353 = .ok (.ifCond .ne 5, 3) := by decide +kernel
theorem dL_act_356 : decode cL_act 356 = .ok (.iconst 1, 1) := by decide +kernel
theorem dL_act_357 : decode cL_act 357 = .ok (.ireturn, 1) := by decide +kernel
theorem dL_act_358 : decode cL_act 358 = .ok (.iload_n 2, 1) := by decide +kernel
theorem dL_act_359 : decode cL_act 359 = .ok (.iconst 2, 1) := by decide +kernel
theorem dL_act_360 : decode cL_act 360 = .ok (.ishr, 1) := by decide +kernel
theorem dL_act_361 : decode cL_act 361 = .ok (.iload 4, 2) := by decide +kernel
theorem dL_act_363 : decode cL_act 363 = .ok (.invokestatic 19, 3) := by decide +kernel
theorem dL_act_366 : decode cL_act 366 = .ok (.istore 9, 2) := by decide +kernel
theorem dL_act_368 : decode cL_act 368 = .ok (.aload_n 1, 1) := by decide +kernel
theorem dL_act_369 : decode cL_act 369 = .ok (.getfield 52, 3) := by decide +kernel
theorem dL_act_372 : decode cL_act 372 = .ok (.astore 10, 2) := by decide +kernel
theorem dL_act_374 : decode cL_act 374 = .ok (.iconst 0, 1) := by decide +kernel
theorem dL_act_375 : decode cL_act 375 = .ok (.istore 11, 2) := by decide +kernel
theorem dL_act_377 : decode cL_act 377 = .ok (.aload 10, 2) := by decide +kernel
theorem dL_act_379 : decode cL_act 379 = .ok (.astore 12, 2) := by decide +kernel
theorem dL_act_381 : decode cL_act 381 = .ok (.aload 12, 2) := by decide +kernel
theorem dL_act_383 : decode cL_act 383 = .ok (.arraylength, 1) := by decide +kernel
theorem dL_act_384 : decode cL_act 384 = .ok (.istore 13, 2) := by decide +kernel
theorem dL_act_386 : decode cL_act 386 = .ok (.iconst 0, 1) := by decide +kernel
theorem dL_act_387 : decode cL_act 387 = .ok (.istore 14, 2) := by decide +kernel
theorem dL_act_389 : decode cL_act 389 = .ok (.iload 14, 2) := by decide +kernel
theorem dL_act_391 : decode cL_act 391 = .ok (.iload 13, 2) := by decide +kernel
theorem dL_act_393 : decode cL_act 393 = .ok (.if_icmp .ge 44, 3) := by decide +kernel
theorem dL_act_396 : decode cL_act 396 = .ok (.aload 12, 2) := by decide +kernel
theorem dL_act_398 : decode cL_act 398 = .ok (.iload 14, 2) := by decide +kernel
theorem dL_act_400 : decode cL_act 400 = .ok (.aaload, 1) := by decide +kernel
theorem dL_act_401 : decode cL_act 401 = .ok (.astore 15, 2) := by decide +kernel
theorem dL_act_403 : decode cL_act 403 = .ok (.aload 15, 2) := by decide +kernel
theorem dL_act_405 : decode cL_act 405 = .ok (.iconst 3, 1) := by decide +kernel
theorem dL_act_406 : decode cL_act 406 = .ok (.iaload, 1) := by decide +kernel
theorem dL_act_407 : decode cL_act 407 = .ok (.iload 9, 2) := by decide +kernel
theorem dL_act_409 : decode cL_act 409 = .ok (.if_icmp .eq 6, 3) := by decide +kernel
theorem dL_act_412 : decode cL_act 412 = .ok (.goto 19, 3) := by decide +kernel
theorem dL_act_415 : decode cL_act 415 = .ok (.aload_n 1, 1) := by decide +kernel
theorem dL_act_416 : decode cL_act 416 = .ok (.aload 15, 2) := by decide +kernel
theorem dL_act_418 : decode cL_act 418 = .ok (.iconst 1, 1) := by decide +kernel
theorem dL_act_419 : decode cL_act 419 = .ok (.iaload, 1) := by decide +kernel
theorem dL_act_420 : decode cL_act 420 = .ok (.aload 15, 2) := by decide +kernel
theorem dL_act_422 : decode cL_act 422 = .ok (.iconst 2, 1) := by decide +kernel
theorem dL_act_423 : decode cL_act 423 = .ok (.iaload, 1) := by decide +kernel
theorem dL_act_424 : decode cL_act 424 = .ok (.invokevirtual 55, 3) := by decide +kernel
theorem dL_act_427 : decode cL_act 427 = .ok (.pop, 1) := by decide +kernel
theorem dL_act_428 : decode cL_act 428 = .ok (.iinc 11 1, 3) := by decide +kernel
theorem dL_act_431 : decode cL_act 431 = .ok (.iinc 14 1, 3) := by decide +kernel
theorem dL_act_434 : decode cL_act 434 = .ok (.goto (-45), 3) := by decide +kernel
theorem dL_act_437 : decode cL_act 437 = .ok (.aload_n 0, 1) := by decide +kernel
theorem dL_act_438 : decode cL_act 438 = .ok (.iload 9, 2) := by decide +kernel
theorem dL_act_440 : decode cL_act 440 = .ok (.invokevirtual 58, 3) := by decide +kernel
theorem dL_act_443 : decode cL_act 443 = .ok (.iload 11, 2) := by decide +kernel
theorem dL_act_445 : decode cL_act 445 = .ok (.if_icmp .ne 7, 3) := by decide +kernel
theorem dL_act_448 : decode cL_act 448 = .ok (.iconst 1, 1) := by decide +kernel
theorem dL_act_449 : decode cL_act 449 = .ok (.goto 4, 3) := by decide +kernel
theorem dL_act_452 : decode cL_act 452 = .ok (.iconst 0, 1) := by decide +kernel
theorem dL_act_453 : decode cL_act 453 = .ok (.ireturn, 1) := by decide +kernel
theorem dL_act_454 : decode cL_act 454 = .ok (.iload_n 2, 1) := by decide +kernel
theorem dL_act_455 : decode cL_act 455 = .ok (.iconst 3, 1) := by decide +kernel
theorem dL_act_456 : decode cL_act 456 = .ok (.invokestatic 19, 3) := by decide +kernel
theorem dL_act_459 : decode cL_act 459 = .ok (.ifCond .le 5, 3) := by decide +kernel
theorem dL_act_462 : decode cL_act 462 = .ok (.iconst 1, 1) := by decide +kernel
theorem dL_act_463 : decode cL_act 463 = .ok (.ireturn, 1) := by decide +kernel
theorem dL_act_464 : decode cL_act 464 = .ok (.aload_n 0, 1) := by decide +kernel
theorem dL_act_465 : decode cL_act 465 = .ok (.invokevirtual 62, 3) := by decide +kernel
theorem dL_act_468 : decode cL_act 468 = .ok (.aload_n 1, 1) := by decide +kernel
theorem dL_act_469 : decode cL_act 469 = .ok (.invokevirtual 65, 3) := by decide +kernel
theorem dL_act_472 : decode cL_act 472 = .ok (.if_icmp .ne 7, 3) := by decide +kernel
theorem dL_act_475 : decode cL_act 475 = .ok (.iconst 1, 1) := by decide +kernel
theorem dL_act_476 : decode cL_act 476 = .ok (.goto 4, 3) := by decide +kernel
theorem dL_act_479 : decode cL_act 479 = .ok (.iconst 0, 1) := by decide +kernel
theorem dL_act_480 : decode cL_act 480 = .ok (.ireturn, 1) := by decide +kernel
theorem dL_act_481 : decode cL_act 481 = .ok (.iload_n 2, 1) := by decide +kernel
theorem dL_act_482 : decode cL_act 482 = .ok (.iconst 2, 1) := by decide +kernel
theorem dL_act_483 : decode cL_act 483 = .ok (.ishr, 1) := by decide +kernel
theorem dL_act_484 : decode cL_act 484 = .ok (.aload_n 1, 1) := by decide +kernel
theorem dL_act_485 : decode cL_act 485 = .ok (.getfield 25, 3) := by decide +kernel
theorem dL_act_488 : decode cL_act 488 = .ok (.iconst 1, 1) := by decide +kernel
theorem dL_act_489 : decode cL_act 489 = .ok (.iadd, 1) := by decide +kernel
theorem dL_act_490 : decode cL_act 490 = .ok (.invokestatic 19, 3) := by decide +kernel
theorem dL_act_493 : decode cL_act 493 = .ok (.istore 12, 2) := by decide +kernel
theorem dL_act_495 : decode cL_act 495 = .ok (.iload_n 2, 1) := by decide +kernel
theorem dL_act_496 : decode cL_act 496 = .ok (.iconst 3, 1) := by decide +kernel
theorem dL_act_497 : decode cL_act 497 = .ok (.invokestatic 19, 3) := by decide +kernel
theorem dL_act_500 : decode cL_act 500 = .ok (.ifCond .le 5, 3) := by decide +kernel
theorem dL_act_503 : decode cL_act 503 = .ok (.iconst 1, 1) := by decide +kernel
theorem dL_act_504 : decode cL_act 504 = .ok (.ireturn, 1) := by decide +kernel
theorem dL_act_505 : decode cL_act 505 = .ok (.iconst 0, 1) := by decide +kernel
theorem dL_act_506 : decode cL_act 506 = .ok (.istore 13, 2) := by decide +kernel
theorem dL_act_508 : decode cL_act 508 = .ok (.aload_n 1, 1) := by decide +kernel
theorem dL_act_509 : decode cL_act 509 = .ok (.getfield 52, 3) := by decide +kernel
theorem dL_act_512 : decode cL_act 512 = .ok (.arraylength, 1) := by decide +kernel
theorem dL_act_513 : decode cL_act 513 = .ok (.ifCond .le 27, 3) := by decide +kernel
theorem dL_act_516 : decode cL_act 516 = .ok (.aload_n 1, 1) := by decide +kernel
theorem dL_act_517 : decode cL_act 517 = .ok (.getfield 52, 3) := by decide +kernel
theorem dL_act_520 : decode cL_act 520 = .ok (.iconst 0, 1) := by decide +kernel
theorem dL_act_521 : decode cL_act 521 = .ok (.aaload, 1) := by decide +kernel
theorem dL_act_522 : decode cL_act 522 = .ok (.iconst 0, 1) := by decide +kernel
theorem dL_act_523 : decode cL_act 523 = .ok (.iaload, 1) := by decide +kernel
theorem dL_act_524 : decode cL_act 524 = .ok (.iload 12, 2) := by decide +kernel
theorem dL_act_526 : decode cL_act 526 = .ok (.if_icmp .ge 14, 3) := by decide +kernel
theorem dL_act_529 : decode cL_act 529 = .ok (.aload_n 1, 1) := by decide +kernel
theorem dL_act_530 : decode cL_act 530 = .ok (.iconst 0, 1) := by decide +kernel
theorem dL_act_531 : decode cL_act 531 = .ok (.invokevirtual 66, 3) := by decide +kernel
theorem dL_act_534 : decode cL_act 534 = .ok (.iinc 13 1, 3) := by decide +kernel
theorem dL_act_537 : decode cL_act 537 = .ok (.goto (-29), 3) := by decide +kernel
theorem dL_act_540 : decode cL_act 540 = .ok (.aload_n 0, 1) := by decide +kernel
theorem dL_act_541 : decode cL_act 541 = .ok (.iload 12, 2) := by decide +kernel
theorem dL_act_543 : decode cL_act 543 = .ok (.invokevirtual 70, 3) := by decide +kernel
theorem dL_act_546 : decode cL_act 546 = .ok (.iload 13, 2) := by decide +kernel
theorem dL_act_548 : decode cL_act 548 = .ok (.if_icmp .ne 7, 3) := by decide +kernel
theorem dL_act_551 : decode cL_act 551 = .ok (.iconst 1, 1) := by decide +kernel
theorem dL_act_552 : decode cL_act 552 = .ok (.goto 4, 3) := by decide +kernel
theorem dL_act_555 : decode cL_act 555 = .ok (.iconst 0, 1) := by decide +kernel
theorem dL_act_556 : decode cL_act 556 = .ok (.ireturn, 1) := by decide +kernel
theorem dL_act_557 : decode cL_act 557 = .ok (.iconst 1, 1) := by decide +kernel
theorem dL_act_558 : decode cL_act 558 = .ok (.iload_n 2, 1) := by decide +kernel
theorem dL_act_559 : decode cL_act 559 = .ok (.iconst 2, 1) := by decide +kernel
theorem dL_act_560 : decode cL_act 560 = .ok (.ishr, 1) := by decide +kernel
theorem dL_act_561 : decode cL_act 561 = .ok (.iload_n 2, 1) := by decide +kernel
theorem dL_act_562 : decode cL_act 562 = .ok (.bipush 6, 2) := by decide +kernel
theorem dL_act_564 : decode cL_act 564 = .ok (.invokestatic 19, 3) := by decide +kernel
theorem dL_act_567 : decode cL_act 567 = .ok (.ifCond .ne 8, 3) := by decide +kernel
theorem dL_act_570 : decode cL_act 570 = .ok (.bipush 60, 2) := by decide +kernel
theorem dL_act_572 : decode cL_act 572 = .ok (.goto 4, 3) := by decide +kernel
theorem dL_act_575 : decode cL_act 575 = .ok (.iconst 3, 1) := by decide +kernel
theorem dL_act_576 : decode cL_act 576 = .ok (.invokestatic 19, 3) := by decide +kernel
theorem dL_act_579 : decode cL_act 579 = .ok (.iadd, 1) := by decide +kernel
theorem dL_act_580 : decode cL_act 580 = .ok (.istore 14, 2) := by decide +kernel
theorem dL_act_582 : decode cL_act 582 = .ok (.aload_n 0, 1) := by decide +kernel
theorem dL_act_583 : decode cL_act 583 = .ok (.iload 14, 2) := by decide +kernel
theorem dL_act_585 : decode cL_act 585 = .ok (.invokevirtual 73, 3) := by decide +kernel
theorem dL_act_588 : decode cL_act 588 = .ok (.aload_n 1, 1) := by decide +kernel
theorem dL_act_589 : decode cL_act 589 = .ok (.iload 14, 2) := by decide +kernel
theorem dL_act_591 : decode cL_act 591 = .ok (.invokevirtual 76, 3) := by decide +kernel
theorem dL_act_594 : decode cL_act 594 = .ok (.if_icmp .ne 7, 3) := by decide +kernel
theorem dL_act_597 : decode cL_act 597 = .ok (.iconst 1, 1) := by decide +kernel
theorem dL_act_598 : decode cL_act 598 = .ok (.goto 4, 3) := by decide +kernel
theorem dL_act_601 : decode cL_act 601 = .ok (.iconst 0, 1) := by decide +kernel
theorem dL_act_602 : decode cL_act 602 = .ok (.ireturn, 1) := by decide +kernel
theorem dL_act_603 : decode cL_act 603 = .ok (.iload_n 2, 1) := by decide +kernel
theorem dL_act_604 : decode cL_act 604 = .ok (.iconst 1, 1) := by decide +kernel
theorem dL_act_605 : decode cL_act 605 = .ok (.ishr, 1) := by decide +kernel
theorem dL_act_606 : decode cL_act 606 = .ok (.iload_n 2, 1) := by decide +kernel
theorem dL_act_607 : decode cL_act 607 = .ok (.iconst 2, 1) := by decide +kernel
theorem dL_act_608 : decode cL_act 608 = .ok (.invokestatic 19, 3) := by decide +kernel
theorem dL_act_611 : decode cL_act 611 = .ok (.ifCond .ne 8, 3) := by decide +kernel
theorem dL_act_614 : decode cL_act 614 = .ok (.bipush 10, 2) := by decide +kernel
theorem dL_act_616 : decode cL_act 616 = .ok (.goto 4, 3) := by decide +kernel
theorem dL_act_619 : decode cL_act 619 = .ok (.iconst 4, 1) := by decide +kernel
theorem dL_act_620 : decode cL_act 620 = .ok (.invokestatic 19, 3) := by decide +kernel
theorem dL_act_623 : decode cL_act 623 = .ok (.istore 15, 2) := by decide +kernel
theorem dL_act_625 : decode cL_act 625 = .ok (.iload_n 2, 1) := by decide +kernel
theorem dL_act_626 : decode cL_act 626 = .ok (.iconst 4, 1) := by decide +kernel
theorem dL_act_627 : decode cL_act 627 = .ok (.invokestatic 19, 3) := by decide +kernel
theorem dL_act_630 : decode cL_act 630 = .ok (.ifCond .ne 7, 3) := by decide +kernel
theorem dL_act_633 : decode cL_act 633 = .ok (.iconst 0, 1) := by decide +kernel
theorem dL_act_634 : decode cL_act 634 = .ok (.goto 16, 3) := by decide +kernel
theorem dL_act_637 : decode cL_act 637 = .ok (.iload_n 2, 1) := by decide +kernel
theorem dL_act_638 : decode cL_act 638 = .ok (.iconst 3, 1) := by decide +kernel
theorem dL_act_639 : decode cL_act 639 = .ok (.ishr, 1) := by decide +kernel
theorem dL_act_640 : decode cL_act 640 = .ok (.sipush 1999, 3) := by decide +kernel
theorem dL_act_643 : decode cL_act 643 = .ok (.invokestatic 19, 3) := by decide +kernel
theorem dL_act_646 : decode cL_act 646 = .ok (.sipush 999, 3) := by decide +kernel
theorem dL_act_649 : decode cL_act 649 = .ok (.isub, 1) := by decide +kernel
theorem dL_act_650 : decode cL_act 650 = .ok (.istore 16, 2) := by decide +kernel
theorem dL_act_652 : decode cL_act 652 = .ok (.aload_n 0, 1) := by decide +kernel
theorem dL_act_653 : decode cL_act 653 = .ok (.iload 15, 2) := by decide +kernel
theorem dL_act_655 : decode cL_act 655 = .ok (.iload 16, 2) := by decide +kernel
theorem dL_act_657 : decode cL_act 657 = .ok (.invokevirtual 79, 3) := by decide +kernel
theorem dL_act_660 : decode cL_act 660 = .ok (.aload_n 1, 1) := by decide +kernel
theorem dL_act_661 : decode cL_act 661 = .ok (.iload 15, 2) := by decide +kernel
theorem dL_act_663 : decode cL_act 663 = .ok (.iload 16, 2) := by decide +kernel
theorem dL_act_665 : decode cL_act 665 = .ok (.invokevirtual 55, 3) := by decide +kernel
theorem dL_act_668 : decode cL_act 668 = .ok (.if_icmp .ne 7, 3) := by decide +kernel
theorem dL_act_671 : decode cL_act 671 = .ok (.iconst 1, 1) := by decide +kernel
theorem dL_act_672 : decode cL_act 672 = .ok (.goto 4, 3) := by decide +kernel
theorem dL_act_675 : decode cL_act 675 = .ok (.iconst 0, 1) := by decide +kernel
theorem dL_act_676 : decode cL_act 676 = .ok (.ireturn, 1) := by decide +kernel
