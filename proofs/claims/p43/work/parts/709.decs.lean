set_option maxRecDepth 20000 in
theorem ggX3_isSame_X2_hours : GoodIn wsX3_isSame wsX2_hours := goodIn_r _ [13, 14, 202, 203, 204, 205, 206, 207, 208, 209, 210] (by decide +kernel) (by decide +kernel)
set_option maxRecDepth 20000 in
theorem gX3_isSame_X2_hours : GoodIn wsX3_isSame (wsV RX3 52 RX2 yX2_hours wsX2_hours) := goodIn_app (goodIn_of _ (by decide +kernel)) ggX3_isSame_X2_hours
set_option maxRecDepth 20000 in
theorem ggX3_isSame_X2_phrases : GoodIn wsX3_isSame wsX2_phrases := goodIn_r _ [18, 19, 202, 203, 204, 205, 206, 207, 208, 209, 210, 211, 212, 213, 214, 215, 216, 217, 218] (by decide +kernel) (by decide +kernel)
set_option maxRecDepth 20000 in
theorem gX3_isSame_X2_phrases : GoodIn wsX3_isSame (wsV RX3 57 RX2 yX2_phrases wsX2_phrases) := goodIn_app (goodIn_of _ (by decide +kernel)) ggX3_isSame_X2_phrases
set_option maxRecDepth 20000 in
theorem ggX3_isSame_X2_nextOffset : GoodIn wsX3_isSame wsX2_nextOffset := goodIn_r _ [23, 19, 202, 203, 204, 205, 206, 207, 208, 209, 210, 211, 212, 213, 214, 215, 216, 217, 218] (by decide +kernel) (by decide +kernel)
set_option maxRecDepth 20000 in
theorem gX3_isSame_X2_nextOffset : GoodIn wsX3_isSame (wsV RX3 60 RX2 yX2_nextOffset wsX2_nextOffset) := goodIn_app (goodIn_of _ (by decide +kernel)) ggX3_isSame_X2_nextOffset
set_option maxRecDepth 20000 in
theorem ggX3_isSame_X2_firstOffset : GoodIn wsX3_isSame wsX2_firstOffset := goodIn_r _ [27, 19, 202, 203, 204, 205, 206, 207, 208, 209, 210, 211, 212, 213, 214, 215, 216, 217, 218] (by decide +kernel) (by decide +kernel)
set_option maxRecDepth 20000 in
theorem gX3_isSame_X2_firstOffset : GoodIn wsX3_isSame (wsV RX3 63 RX2 yX2_firstOffset wsX2_firstOffset) := goodIn_app (goodIn_of _ (by decide +kernel)) ggX3_isSame_X2_firstOffset
set_option maxRecDepth 20000 in
theorem ggX3_isSame_X2_dropped : GoodIn wsX3_isSame wsX2_dropped := goodIn_r _ [31, 19, 202, 203, 204, 205, 206, 207, 208, 209, 210, 211, 212, 213, 214, 215, 216, 217, 218] (by decide +kernel) (by decide +kernel)
set_option maxRecDepth 20000 in
theorem gX3_isSame_X2_dropped : GoodIn wsX3_isSame (wsV RX3 66 RX2 yX2_dropped wsX2_dropped) := goodIn_app (goodIn_of _ (by decide +kernel)) ggX3_isSame_X2_dropped
set_option maxRecDepth 20000 in
theorem ggX3_isSame_X2_isStormy : GoodIn wsX3_isSame wsX2_isStormy := goodIn_r _ [35, 36, 202, 203, 204, 205, 206, 207, 208, 209, 210] (by decide +kernel) (by decide +kernel)
set_option maxRecDepth 20000 in
theorem gX3_isSame_X2_isStormy : GoodIn wsX3_isSame (wsV RX3 68 RX2 yX2_isStormy wsX2_isStormy) := goodIn_app (goodIn_of _ (by decide +kernel)) ggX3_isSame_X2_isStormy
set_option maxRecDepth 20000 in
theorem ggX3_isSame_X2_storms : GoodIn wsX3_isSame wsX2_storms := goodIn_r _ [40, 41, 202, 203, 204, 205, 206, 207, 208, 209, 210] (by decide +kernel) (by decide +kernel)
set_option maxRecDepth 20000 in
theorem gX3_isSame_X2_storms : GoodIn wsX3_isSame (wsV RX3 72 RX2 yX2_storms wsX2_storms) := goodIn_app (goodIn_of _ (by decide +kernel)) ggX3_isSame_X2_storms
set_option maxRecDepth 20000 in
theorem ggX3_isSame_X2_ships : GoodIn wsX3_isSame wsX2_ships := goodIn_r _ [45, 46, 202, 203, 204, 205, 206, 207, 208, 209, 210] (by decide +kernel) (by decide +kernel)
set_option maxRecDepth 20000 in
theorem gX3_isSame_X2_ships : GoodIn wsX3_isSame (wsV RX3 75 RX2 yX2_ships wsX2_ships) := goodIn_app (goodIn_of _ (by decide +kernel)) ggX3_isSame_X2_ships
set_option maxRecDepth 20000 in
theorem ggX3_isSame_X2_isKept : GoodIn wsX3_isSame wsX2_isKept := goodIn_r _ [50, 19, 51, 52, 53, 54, 55, 56, 57, 58, 59, 60, 202, 203, 204, 205, 206, 207, 208, 209, 210, 211, 212, 213, 214, 215, 216, 217, 218] (by decide +kernel) (by decide +kernel)
set_option maxRecDepth 20000 in
theorem gX3_isSame_X2_isKept : GoodIn wsX3_isSame (wsV RX3 77 RX2 yX2_isKept wsX2_isKept) := goodIn_app (goodIn_of _ (by decide +kernel)) ggX3_isSame_X2_isKept
set_option maxRecDepth 20000 in
theorem ggX3_isSame_X2_keyAt : GoodIn wsX3_isSame wsX2_keyAt := goodIn_ca (goodIn_r _ [64, 19, 65, 66, 67, 12, 68, 69, 70, 51, 52, 53, 54, 55, 56, 57, 58, 59, 60, 202, 203, 204, 205, 206, 207, 208, 209, 210, 211, 212, 213, 214, 215, 216, 217, 218] (by decide +kernel) (by decide +kernel)) (goodIn_sub (fun _ h => List.mem_cons_of_mem _ (List.mem_append_right _ h)) (by decide +kernel))
set_option maxRecDepth 20000 in
theorem gX3_isSame_X2_keyAt : GoodIn wsX3_isSame (wsV RX3 81 RX2 yX2_keyAt wsX2_keyAt) := goodIn_app (goodIn_of _ (by decide +kernel)) ggX3_isSame_X2_keyAt
set_option maxRecDepth 20000 in
theorem ggX3_isSame_X2_valueAt : GoodIn wsX3_isSame wsX2_valueAt := goodIn_ca (goodIn_r _ [74, 19, 65, 66, 67, 12, 68, 69, 70, 51, 52, 53, 54, 55, 56, 57, 58, 59, 60, 202, 203, 204, 205, 206, 207, 208, 209, 210, 211, 212, 213, 214, 215, 216, 217, 218] (by decide +kernel) (by decide +kernel)) (goodIn_sub (fun _ h => List.mem_cons_of_mem _ (List.mem_append_right _ h)) (by decide +kernel))
set_option maxRecDepth 20000 in
theorem gX3_isSame_X2_valueAt : GoodIn wsX3_isSame (wsV RX3 84 RX2 yX2_valueAt wsX2_valueAt) := goodIn_app (goodIn_of _ (by decide +kernel)) ggX3_isSame_X2_valueAt
set_option maxRecDepth 20000 in
theorem ggX3_isSame_X2_stormAt : GoodIn wsX3_isSame wsX2_stormAt := goodIn_ca (goodIn_r _ [78, 19, 65, 66, 67, 12, 68, 69, 70, 51, 52, 53, 54, 55, 56, 57, 58, 59, 60, 202, 203, 204, 205, 206, 207, 208, 209, 210, 211, 212, 213, 214, 215, 216, 217, 218] (by decide +kernel) (by decide +kernel)) (goodIn_sub (fun _ h => List.mem_cons_of_mem _ (List.mem_append_right _ h)) (by decide +kernel))
set_option maxRecDepth 20000 in
theorem gX3_isSame_X2_stormAt : GoodIn wsX3_isSame (wsV RX3 87 RX2 yX2_stormAt wsX2_stormAt) := goodIn_app (goodIn_of _ (by decide +kernel)) ggX3_isSame_X2_stormAt
set_option maxRecDepth 20000 in
theorem ggX3_isSame_X2_latestOf : GoodIn wsX3_isSame wsX2_latestOf := goodIn_ca (goodIn_r _ [82, 19, 83, 84, 12, 85, 69, 70, 86, 87, 88, 89, 52, 90, 91, 55, 56, 92, 93, 94, 95, 96, 202, 203, 204, 205, 206, 207, 208, 209, 210, 211, 212, 213, 214, 215, 216, 217, 218] (by decide +kernel) (by decide +kernel)) (goodIn_sub (fun _ h => List.mem_cons_of_mem _ (List.mem_append_right _ h)) (by decide +kernel))
set_option maxRecDepth 20000 in
theorem gX3_isSame_X2_latestOf : GoodIn wsX3_isSame (wsV RX3 90 RX2 yX2_latestOf wsX2_latestOf) := goodIn_app (goodIn_of _ (by decide +kernel)) ggX3_isSame_X2_latestOf
set_option maxRecDepth 20000 in
theorem ggX3_isSame_X2_valueOf : GoodIn wsX3_isSame wsX2_valueOf := goodIn_ca (goodIn_r _ [100, 19, 83, 84, 12, 85, 69, 70, 86, 87, 88, 101, 52, 102, 103, 55, 104, 92, 93, 94, 95, 96, 202, 203, 204, 205, 206, 207, 208, 209, 210, 211, 212, 213, 214, 215, 216, 217, 218] (by decide +kernel) (by decide +kernel)) (goodIn_sub (fun _ h => List.mem_cons_of_mem _ (List.mem_append_right _ h)) (by decide +kernel))
set_option maxRecDepth 20000 in
theorem gX3_isSame_X2_valueOf : GoodIn wsX3_isSame (wsV RX3 93 RX2 yX2_valueOf wsX2_valueOf) := goodIn_app (goodIn_of _ (by decide +kernel)) ggX3_isSame_X2_valueOf
set_option maxRecDepth 20000 in
theorem ggX3_isSame_X3_value : GoodIn wsX3_isSame wsX3_value := goodIn_r _ [109, 1, 195, 196, 197, 198, 199, 200, 201] (by decide +kernel) (by decide +kernel)
set_option maxRecDepth 20000 in
theorem gX3_isSame_X3_value : GoodIn wsX3_isSame (wsV RX3 43 RX3 yX3_value wsX3_value) := goodIn_app (goodIn_of _ (by decide +kernel)) ggX3_isSame_X3_value
set_option maxRecDepth 20000 in
theorem ggX3_isSame_X2_countOf : GoodIn wsX3_isSame wsX2_countOf := goodIn_ca (goodIn_r _ [113, 19, 83, 84, 12, 85, 69, 70, 86, 87, 88, 114, 52, 115, 116, 96, 117, 118, 119, 120, 55, 202, 203, 204, 205, 206, 207, 208, 209, 210, 211, 212, 213, 214, 215, 216, 217, 218] (by decide +kernel) (by decide +kernel)) (goodIn_sub (fun _ h => List.mem_cons_of_mem _ (List.mem_append_right _ h)) (by decide +kernel))
set_option maxRecDepth 20000 in
theorem gX3_isSame_X2_countOf : GoodIn wsX3_isSame (wsV RX3 96 RX2 yX2_countOf wsX2_countOf) := goodIn_app (goodIn_of _ (by decide +kernel)) ggX3_isSame_X2_countOf
set_option maxRecDepth 20000 in
theorem ggX3_isSame_X2_saidIn : GoodIn wsX3_isSame wsX2_saidIn := goodIn_ca (goodIn_r _ [124, 125, 126, 127, 128, 12, 129, 69, 70, 41, 202, 203, 204, 205, 206, 207, 208, 209, 210] (by decide +kernel) (by decide +kernel)) (goodIn_sub (fun _ h => List.mem_cons_of_mem _ (List.mem_append_right _ h)) (by decide +kernel))
set_option maxRecDepth 20000 in
theorem gX3_isSame_X2_saidIn : GoodIn wsX3_isSame (wsV RX3 99 RX2 yX2_saidIn wsX2_saidIn) := goodIn_app (goodIn_of _ (by decide +kernel)) ggX3_isSame_X2_saidIn
set_option maxRecDepth 20000 in
theorem ggX3_isSame_X2_keptOf : GoodIn wsX3_isSame wsX2_keptOf := goodIn_ca (goodIn_r _ [133, 19, 126, 127, 128, 12, 129, 69, 70, 41, 134, 52, 135, 136, 137, 117, 118, 119, 120, 55, 202, 203, 204, 205, 206, 207, 208, 209, 210, 211, 212, 213, 214, 215, 216, 217, 218] (by decide +kernel) (by decide +kernel)) (goodIn_sub (fun _ h => List.mem_cons_of_mem _ (List.mem_append_right _ h)) (by decide +kernel))
set_option maxRecDepth 20000 in
theorem gX3_isSame_X2_keptOf : GoodIn wsX3_isSame (wsV RX3 102 RX2 yX2_keptOf wsX2_keptOf) := goodIn_app (goodIn_of _ (by decide +kernel)) ggX3_isSame_X2_keptOf
set_option maxRecDepth 20000 in
theorem ggX3_isSame_X3_lag : GoodIn wsX3_isSame wsX3_lag := goodIn_r _ [141, 1, 195, 196, 197, 198, 199, 200, 201] (by decide +kernel) (by decide +kernel)
set_option maxRecDepth 20000 in
theorem gX3_isSame_X3_lag : GoodIn wsX3_isSame (wsV RX3 105 RX3 yX3_lag wsX3_lag) := goodIn_app (goodIn_of _ (by decide +kernel)) ggX3_isSame_X3_lag
set_option maxRecDepth 20000 in
theorem ggX3_isSame_X2_offsetOf : GoodIn wsX3_isSame wsX2_offsetOf := goodIn_ca (goodIn_r _ [145, 146, 147, 148, 12, 149, 69, 70, 46, 150, 219, 220, 221, 222, 223, 202, 203, 204, 205, 206, 207, 208, 209, 210] (by decide +kernel) (by decide +kernel)) (goodIn_sub (fun _ h => List.mem_cons_of_mem _ (List.mem_append_right _ h)) (by decide +kernel))
set_option maxRecDepth 20000 in
theorem gX3_isSame_X2_offsetOf : GoodIn wsX3_isSame (wsV RX3 109 RX2 yX2_offsetOf wsX2_offsetOf) := goodIn_app (goodIn_of _ (by decide +kernel)) ggX3_isSame_X2_offsetOf
set_option maxRecDepth 20000 in
theorem ggX3_isSame_X2_lagOf : GoodIn wsX3_isSame wsX2_lagOf := goodIn_ca (goodIn_r _ [154, 146, 147, 148, 12, 149, 69, 70, 46, 150, 155, 156, 157, 158, 19, 58, 52, 59, 60, 55, 56, 202, 203, 204, 205, 206, 207, 208, 209, 210, 211, 212, 213, 214, 215, 216, 217, 218, 219, 220, 221, 222, 223] (by decide +kernel) (by decide +kernel)) (goodIn_sub (fun _ h => List.mem_cons_of_mem _ (List.mem_append_right _ h)) (by decide +kernel))
set_option maxRecDepth 20000 in
theorem gX3_isSame_X2_lagOf : GoodIn wsX3_isSame (wsV RX3 112 RX2 yX2_lagOf wsX2_lagOf) := goodIn_app (goodIn_of _ (by decide +kernel)) ggX3_isSame_X2_lagOf
set_option maxRecDepth 20000 in
theorem ggX3_isSame_X2_heardBy : GoodIn wsX3_isSame wsX2_heardBy := goodIn_ca (goodIn_r _ [162, 146, 147, 148, 12, 149, 69, 70, 46, 150, 219, 220, 221, 222, 223, 202, 203, 204, 205, 206, 207, 208, 209, 210] (by decide +kernel) (by decide +kernel)) (goodIn_sub (fun _ h => List.mem_cons_of_mem _ (List.mem_append_right _ h)) (by decide +kernel))
set_option maxRecDepth 20000 in
theorem gX3_isSame_X2_heardBy : GoodIn wsX3_isSame (wsV RX3 115 RX2 yX2_heardBy wsX2_heardBy) := goodIn_app (goodIn_of _ (by decide +kernel)) ggX3_isSame_X2_heardBy
set_option maxRecDepth 20000 in
theorem ggX3_isSame_X2_missedBy : GoodIn wsX3_isSame wsX2_missedBy := goodIn_ca (goodIn_r _ [166, 146, 147, 148, 12, 149, 69, 70, 46, 150, 219, 220, 221, 222, 223, 202, 203, 204, 205, 206, 207, 208, 209, 210] (by decide +kernel) (by decide +kernel)) (goodIn_sub (fun _ h => List.mem_cons_of_mem _ (List.mem_append_right _ h)) (by decide +kernel))
set_option maxRecDepth 20000 in
theorem gX3_isSame_X2_missedBy : GoodIn wsX3_isSame (wsV RX3 118 RX2 yX2_missedBy wsX2_missedBy) := goodIn_app (goodIn_of _ (by decide +kernel)) ggX3_isSame_X2_missedBy
set_option maxRecDepth 20000 in
theorem ggX3_isSame_X2_errorsOf : GoodIn wsX3_isSame wsX2_errorsOf := goodIn_ca (goodIn_r _ [170, 146, 147, 148, 12, 149, 69, 70, 46, 150, 171, 172, 173, 174, 19, 175, 176, 177, 178, 58, 52, 59, 60, 55, 56, 93, 94, 95, 96, 101, 102, 103, 104, 92, 202, 203, 204, 205, 206, 207, 208, 209, 210, 219, 220, 221, 222, 223, 211, 212, 213, 214, 215, 216, 217, 218] (by decide +kernel) (by decide +kernel)) (goodIn_sub (fun _ h => List.mem_cons_of_mem _ (List.mem_append_right _ h)) (by decide +kernel))
set_option maxRecDepth 20000 in
theorem gX3_isSame_X2_errorsOf : GoodIn wsX3_isSame (wsV RX3 121 RX2 yX2_errorsOf wsX2_errorsOf) := goodIn_app (goodIn_of _ (by decide +kernel)) ggX3_isSame_X2_errorsOf
set_option maxRecDepth 20000 in
theorem ggX3_isSame_X3_errors : GoodIn wsX3_isSame wsX3_errors := goodIn_r _ [182, 105, 106, 107, 108, 109, 1, 195, 196, 197, 198, 199, 200, 201] (by decide +kernel) (by decide +kernel)
set_option maxRecDepth 20000 in
theorem gX3_isSame_X3_errors : GoodIn wsX3_isSame (wsV RX3 124 RX3 yX3_errors wsX3_errors) := goodIn_app (goodIn_of _ (by decide +kernel)) ggX3_isSame_X3_errors
set_option maxRecDepth 20000 in
theorem ggX3_isSame_X2_knownBy : GoodIn wsX3_isSame wsX2_knownBy := goodIn_ca (goodIn_r _ [186, 146, 147, 148, 12, 149, 69, 70, 46, 150, 83, 84, 85, 86, 87, 88, 219, 220, 221, 222, 223, 202, 203, 204, 205, 206, 207, 208, 209, 210] (by decide +kernel) (by decide +kernel)) (goodIn_sub (fun _ h => List.mem_cons_of_mem _ (List.mem_append_right _ h)) (by decide +kernel))
set_option maxRecDepth 20000 in
theorem gX3_isSame_X2_knownBy : GoodIn wsX3_isSame (wsV RX3 127 RX2 yX2_knownBy wsX2_knownBy) := goodIn_app (goodIn_of _ (by decide +kernel)) ggX3_isSame_X2_knownBy
set_option maxRecDepth 20000 in
theorem ggX3_isSame_X2_farthestBehind : GoodIn wsX3_isSame wsX2_farthestBehind := goodIn_r _ [190, 46, 150, 155, 156, 157, 12, 158, 19, 58, 52, 59, 60, 55, 56, 202, 203, 204, 205, 206, 207, 208, 209, 210, 211, 212, 213, 214, 215, 216, 217, 218, 219, 220, 221, 222, 223] (by decide +kernel) (by decide +kernel)
set_option maxRecDepth 20000 in
theorem gX3_isSame_X2_farthestBehind : GoodIn wsX3_isSame (wsV RX3 131 RX2 yX2_farthestBehind wsX2_farthestBehind) := goodIn_app (goodIn_of _ (by decide +kernel)) ggX3_isSame_X2_farthestBehind
set_option maxRecDepth 20000 in
theorem ggX3_isSame_X2_meanLag : GoodIn wsX3_isSame wsX2_meanLag := goodIn_r _ [194, 46, 150, 155, 156, 157, 12, 158, 19, 58, 52, 59, 60, 55, 56, 202, 203, 204, 205, 206, 207, 208, 209, 210, 211, 212, 213, 214, 215, 216, 217, 218, 219, 220, 221, 222, 223] (by decide +kernel) (by decide +kernel)
set_option maxRecDepth 20000 in
theorem gX3_isSame_X2_meanLag : GoodIn wsX3_isSame (wsV RX3 134 RX2 yX2_meanLag wsX2_meanLag) := goodIn_app (goodIn_of _ (by decide +kernel)) ggX3_isSame_X2_meanLag
theorem dX3_isSame_0 : decode cX3_isSame 0 = .ok (.aload_n 0, 1) := by decide +kernel
theorem dX3_isSame_1 : decode cX3_isSame 1 = .ok (.getfield 9, 3) := by decide +kernel
theorem dX3_isSame_4 : decode cX3_isSame 4 = .ok (.arraylength, 1) := by decide +kernel
theorem dX3_isSame_5 : decode cX3_isSame 5 = .ok (.istore_n 2, 1) := by decide +kernel
theorem dX3_isSame_6 : decode cX3_isSame 6 = .ok (.aload_n 1, 1) := by decide +kernel
theorem dX3_isSame_7 : decode cX3_isSame 7 = .ok (.invokevirtual 52, 3) := by decide +kernel
theorem dX3_isSame_10 : decode cX3_isSame 10 = .ok (.aload_n 0, 1) := by decide +kernel
theorem dX3_isSame_11 : decode cX3_isSame 11 = .ok (.getfield 40, 3) := by decide +kernel
theorem dX3_isSame_14 : decode cX3_isSame 14 = .ok (.if_icmp .ne 91, 3) := by decide +kernel
theorem dX3_isSame_17 : decode cX3_isSame 17 = .ok (.aload_n 1, 1) := by decide +kernel
theorem dX3_isSame_18 : decode cX3_isSame 18 = .ok (.invokevirtual 57, 3) := by decide +kernel
theorem dX3_isSame_21 : decode cX3_isSame 21 = .ok (.iload_n 2, 1) := by decide +kernel
theorem dX3_isSame_22 : decode cX3_isSame 22 = .ok (.if_icmp .ne 83, 3) := by decide +kernel
theorem dX3_isSame_25 : decode cX3_isSame 25 = .ok (.aload_n 1, 1) := by decide +kernel
theorem dX3_isSame_26 : decode cX3_isSame 26 = .ok (.invokevirtual 60, 3) := by decide +kernel
theorem dX3_isSame_29 : decode cX3_isSame 29 = .ok (.aload_n 0, 1) := by decide +kernel
theorem dX3_isSame_30 : decode cX3_isSame 30 = .ok (.getfield 29, 3) := by decide +kernel
theorem dX3_isSame_33 : decode cX3_isSame 33 = .ok (.if_icmp .ne 72, 3) := by decide +kernel
theorem dX3_isSame_36 : decode cX3_isSame 36 = .ok (.aload_n 1, 1) := by decide +kernel
theorem dX3_isSame_37 : decode cX3_isSame 37 = .ok (.invokevirtual 63, 3) := by decide +kernel
theorem dX3_isSame_40 : decode cX3_isSame 40 = .ok (.iload_n 2, 1) := by decide +kernel
theorem dX3_isSame_41 : decode cX3_isSame 41 = .ok (.ifCond .ne 7, 3) := by decide +kernel
theorem dX3_isSame_44 : decode cX3_isSame 44 = .ok (.iconst (-1), 1) := by decide +kernel
theorem dX3_isSame_45 : decode cX3_isSame 45 = .ok (.goto 11, 3) := by decide +kernel
theorem dX3_isSame_48 : decode cX3_isSame 48 = .ok (.aload_n 0, 1) := by decide +kernel
theorem dX3_isSame_49 : decode cX3_isSame 49 = .ok (.getfield 9, 3) := by decide +kernel
theorem dX3_isSame_52 : decode cX3_isSame 52 = .ok (.iconst 0, 1) := by decide +kernel
theorem dX3_isSame_53 : decode cX3_isSame 53 = .ok (.aaload, 1) := by decide +kernel
theorem dX3_isSame_54 : decode cX3_isSame 54 = .ok (.iconst 0, 1) := by decide +kernel
theorem dX3_isSame_55 : decode cX3_isSame 55 = .ok (.iaload, 1) := by decide +kernel
theorem dX3_isSame_56 : decode cX3_isSame 56 = .ok (.if_icmp .ne 49, 3) := by decide +kernel
theorem dX3_isSame_59 : decode cX3_isSame 59 = .ok (.aload_n 1, 1) := by decide +kernel
theorem dX3_isSame_60 : decode cX3_isSame 60 = .ok (.invokevirtual 66, 3) := by decide +kernel
theorem dX3_isSame_63 : decode cX3_isSame 63 = .ok (.aload_n 0, 1) := by decide +kernel
theorem dX3_isSame_64 : decode cX3_isSame 64 = .ok (.getfield 21, 3) := by decide +kernel
theorem dX3_isSame_67 : decode cX3_isSame 67 = .ok (.if_icmp .ne 38, 3) := by decide +kernel
theorem dX3_isSame_70 : decode cX3_isSame 70 = .ok (.aload_n 1, 1) := by decide +kernel
theorem dX3_isSame_71 : decode cX3_isSame 71 = .ok (.invokevirtual 68, 3) := by decide +kernel
theorem dX3_isSame_74 : decode cX3_isSame 74 = .ok (.aload_n 0, 1) := by decide +kernel
theorem dX3_isSame_75 : decode cX3_isSame 75 = .ok (.getfield 32, 3) := by decide +kernel
theorem dX3_isSame_78 : decode cX3_isSame 78 = .ok (.if_icmp .ne 27, 3) := by decide +kernel
theorem dX3_isSame_81 : decode cX3_isSame 81 = .ok (.aload_n 1, 1) := by decide +kernel
theorem dX3_isSame_82 : decode cX3_isSame 82 = .ok (.invokevirtual 72, 3) := by decide +kernel
theorem dX3_isSame_85 : decode cX3_isSame 85 = .ok (.aload_n 0, 1) := by decide +kernel
theorem dX3_isSame_86 : decode cX3_isSame 86 = .ok (.getfield 15, 3) := by decide +kernel
theorem dX3_isSame_89 : decode cX3_isSame 89 = .ok (.arraylength, 1) := by decide +kernel
theorem dX3_isSame_90 : decode cX3_isSame 90 = .ok (.if_icmp .ne 15, 3) := by decide +kernel
theorem dX3_isSame_93 : decode cX3_isSame 93 = .ok (.aload_n 1, 1) := by decide +kernel
theorem dX3_isSame_94 : decode cX3_isSame 94 = .ok (.invokevirtual 75, 3) := by decide +kernel
theorem dX3_isSame_97 : decode cX3_isSame 97 = .ok (.aload_n 0, 1) := by decide +kernel
theorem dX3_isSame_98 : decode cX3_isSame 98 = .ok (.getfield 18, 3) := by decide +kernel
theorem dX3_isSame_101 : decode cX3_isSame 101 = .ok (.arraylength, 1) := by decide +kernel
theorem dX3_isSame_102 : decode cX3_isSame 102 = .ok (.if_icmp .eq 5, 3) := by decide +kernel
theorem dX3_isSame_105 : decode cX3_isSame 105 = .ok (.iconst 0, 1) := by decide +kernel
theorem dX3_isSame_106 : decode cX3_isSame 106 = .ok (.ireturn, 1) := by decide +kernel
theorem dX3_isSame_107 : decode cX3_isSame 107 = .ok (.aload_n 0, 1) := by decide +kernel
theorem dX3_isSame_108 : decode cX3_isSame 108 = .ok (.getfield 15, 3) := by decide +kernel
theorem dX3_isSame_111 : decode cX3_isSame 111 = .ok (.arraylength, 1) := by decide +kernel
theorem dX3_isSame_112 : decode cX3_isSame 112 = .ok (.newarray .int, 2) := by decide +kernel
theorem dX3_isSame_114 : decode cX3_isSame 114 = .ok (.astore_n 3, 1) := by decide +kernel
theorem dX3_isSame_115 : decode cX3_isSame 115 = .ok (.bipush 10, 2) := by decide +kernel
theorem dX3_isSame_117 : decode cX3_isSame 117 = .ok (.newarray .int, 2) := by decide +kernel
theorem dX3_isSame_119 : decode cX3_isSame 119 = .ok (.astore 4, 2) := by decide +kernel
theorem dX3_isSame_121 : decode cX3_isSame 121 = .ok (.bipush 10, 2) := by decide +kernel
theorem dX3_isSame_123 : decode cX3_isSame 123 = .ok (.newarray .int, 2) := by decide +kernel
theorem dX3_isSame_125 : decode cX3_isSame 125 = .ok (.astore 5, 2) := by decide +kernel
theorem dX3_isSame_127 : decode cX3_isSame 127 = .ok (.iconst 0, 1) := by decide +kernel
theorem dX3_isSame_128 : decode cX3_isSame 128 = .ok (.istore 6, 2) := by decide +kernel
theorem dX3_isSame_130 : decode cX3_isSame 130 = .ok (.iload 6, 2) := by decide +kernel
theorem dX3_isSame_132 : decode cX3_isSame 132 = .ok (.bipush 10, 2) := by decide +kernel
theorem dX3_isSame_134 : decode cX3_isSame 134 = .ok (.if_icmp .ge 15, 3) := by decide +kernel
theorem dX3_isSame_137 : decode cX3_isSame 137 = .ok (.aload 4, 2) := by decide +kernel
theorem dX3_isSame_139 : decode cX3_isSame 139 = .ok (.iload 6, 2) := by decide +kernel
theorem dX3_isSame_141 : decode cX3_isSame 141 = .ok (.iconst (-1), 1) := by decide +kernel
theorem dX3_isSame_142 : decode cX3_isSame 142 = .ok (.iastore, 1) := by decide +kernel
theorem dX3_isSame_143 : decode cX3_isSame 143 = .ok (.iinc 6 1, 3) := by decide +kernel
theorem dX3_isSame_146 : decode cX3_isSame 146 = .ok (.goto (-16), 3) := by decide +kernel
theorem dX3_isSame_149 : decode cX3_isSame 149 = .ok (.aload_n 0, 1) := by decide +kernel
theorem dX3_isSame_150 : decode cX3_isSame 150 = .ok (.getfield 9, 3) := by decide +kernel
theorem dX3_isSame_153 : decode cX3_isSame 153 = .ok (.astore 6, 2) := by decide +kernel
theorem dX3_isSame_155 : decode cX3_isSame 155 = .ok (.aload 6, 2) := by decide +kernel
theorem dX3_isSame_157 : decode cX3_isSame 157 = .ok (.arraylength, 1) := by decide +kernel
theorem dX3_isSame_158 : decode cX3_isSame 158 = .ok (.istore 7, 2) := by decide +kernel
theorem dX3_isSame_160 : decode cX3_isSame 160 = .ok (.iconst 0, 1) := by decide +kernel
theorem dX3_isSame_161 : decode cX3_isSame 161 = .ok (.istore 8, 2) := by decide +kernel
theorem dX3_isSame_163 : decode cX3_isSame 163 = .ok (.iload 8, 2) := by decide +kernel
theorem dX3_isSame_165 : decode cX3_isSame 165 = .ok (.iload 7, 2) := by decide +kernel
theorem dX3_isSame_167 : decode cX3_isSame 167 = .ok (.if_icmp .ge 113, 3) := by decide +kernel
theorem dX3_isSame_170 : decode cX3_isSame 170 = .ok (.aload 6, 2) := by decide +kernel
theorem dX3_isSame_172 : decode cX3_isSame 172 = .ok (.iload 8, 2) := by decide +kernel
theorem dX3_isSame_174 : decode cX3_isSame 174 = .ok (.aaload, 1) := by decide +kernel
theorem dX3_isSame_175 : decode cX3_isSame 175 = .ok (.astore 9, 2) := by decide +kernel
theorem dX3_isSame_177 : decode cX3_isSame 177 = .ok (.aload_n 1, 1) := by decide +kernel
theorem dX3_isSame_178 : decode cX3_isSame 178 = .ok (.aload 9, 2) := by decide +kernel
theorem dX3_isSame_180 : decode cX3_isSame 180 = .ok (.iconst 0, 1) := by decide +kernel
theorem dX3_isSame_181 : decode cX3_isSame 181 = .ok (.iaload, 1) := by decide +kernel
theorem dX3_isSame_182 : decode cX3_isSame 182 = .ok (.invokevirtual 77, 3) := by decide +kernel
theorem dX3_isSame_185 : decode cX3_isSame 185 = .ok (.ifCond .eq 48, 3) := by decide +kernel
theorem dX3_isSame_188 : decode cX3_isSame 188 = .ok (.aload_n 1, 1) := by decide +kernel
theorem dX3_isSame_189 : decode cX3_isSame 189 = .ok (.aload 9, 2) := by decide +kernel
theorem dX3_isSame_191 : decode cX3_isSame 191 = .ok (.iconst 0, 1) := by decide +kernel
theorem dX3_isSame_192 : decode cX3_isSame 192 = .ok (.iaload, 1) := by decide +kernel
theorem dX3_isSame_193 : decode cX3_isSame 193 = .ok (.invokevirtual 81, 3) := by decide +kernel
theorem dX3_isSame_196 : decode cX3_isSame 196 = .ok (.aload 9, 2) := by decide +kernel
theorem dX3_isSame_198 : decode cX3_isSame 198 = .ok (.iconst 1, 1) := by decide +kernel
theorem dX3_isSame_199 : decode cX3_isSame 199 = .ok (.iaload, 1) := by decide +kernel
theorem dX3_isSame_200 : decode cX3_isSame 200 = .ok (.if_icmp .ne 33, 3) := by decide +kernel
theorem dX3_isSame_203 : decode cX3_isSame 203 = .ok (.aload_n 1, 1) := by decide +kernel
theorem dX3_isSame_204 : decode cX3_isSame 204 = .ok (.aload 9, 2) := by decide +kernel
theorem dX3_isSame_206 : decode cX3_isSame 206 = .ok (.iconst 0, 1) := by decide +kernel
theorem dX3_isSame_207 : decode cX3_isSame 207 = .ok (.iaload, 1) := by decide +kernel
theorem dX3_isSame_208 : decode cX3_isSame 208 = .ok (.invokevirtual 84, 3) := by decide +kernel
theorem dX3_isSame_211 : decode cX3_isSame 211 = .ok (.aload 9, 2) := by decide +kernel
theorem dX3_isSame_213 : decode cX3_isSame 213 = .ok (.iconst 2, 1) := by decide +kernel
theorem dX3_isSame_214 : decode cX3_isSame 214 = .ok (.iaload, 1) := by decide +kernel
theorem dX3_isSame_215 : decode cX3_isSame 215 = .ok (.if_icmp .ne 18, 3) := by decide +kernel
theorem dX3_isSame_218 : decode cX3_isSame 218 = .ok (.aload_n 1, 1) := by decide +kernel
theorem dX3_isSame_219 : decode cX3_isSame 219 = .ok (.aload 9, 2) := by decide +kernel
theorem dX3_isSame_221 : decode cX3_isSame 221 = .ok (.iconst 0, 1) := by decide +kernel
theorem dX3_isSame_222 : decode cX3_isSame 222 = .ok (.iaload, 1) := by decide +kernel
theorem dX3_isSame_223 : decode cX3_isSame 223 = .ok (.invokevirtual 87, 3) := by decide +kernel
theorem dX3_isSame_226 : decode cX3_isSame 226 = .ok (.aload 9, 2) := by decide +kernel
theorem dX3_isSame_228 : decode cX3_isSame 228 = .ok (.iconst 3, 1) := by decide +kernel
theorem dX3_isSame_229 : decode cX3_isSame 229 = .ok (.iaload, 1) := by decide +kernel
theorem dX3_isSame_230 : decode cX3_isSame 230 = .ok (.if_icmp .eq 5, 3) := by decide +kernel
theorem dX3_isSame_233 : decode cX3_isSame 233 = .ok (.iconst 0, 1) := by decide +kernel
theorem dX3_isSame_234 : decode cX3_isSame 234 = .ok (.ireturn, 1) := by decide +kernel
theorem dX3_isSame_235 : decode cX3_isSame 235 = .ok (.aload 4, 2) := by decide +kernel
theorem dX3_isSame_237 : decode cX3_isSame 237 = .ok (.aload 9, 2) := by decide +kernel
theorem dX3_isSame_239 : decode cX3_isSame 239 = .ok (.iconst 1, 1) := by decide +kernel
theorem dX3_isSame_240 : decode cX3_isSame 240 = .ok (.iaload, 1) := by decide +kernel
theorem dX3_isSame_241 : decode cX3_isSame 241 = .ok (.aload 9, 2) := by decide +kernel
theorem dX3_isSame_243 : decode cX3_isSame 243 = .ok (.iconst 0, 1) := by decide +kernel
theorem dX3_isSame_244 : decode cX3_isSame 244 = .ok (.iaload, 1) := by decide +kernel
theorem dX3_isSame_245 : decode cX3_isSame 245 = .ok (.iastore, 1) := by decide +kernel
theorem dX3_isSame_246 : decode cX3_isSame 246 = .ok (.aload 5, 2) := by decide +kernel
theorem dX3_isSame_248 : decode cX3_isSame 248 = .ok (.aload 9, 2) := by decide +kernel
theorem dX3_isSame_250 : decode cX3_isSame 250 = .ok (.iconst 1, 1) := by decide +kernel
theorem dX3_isSame_251 : decode cX3_isSame 251 = .ok (.iaload, 1) := by decide +kernel
theorem dX3_isSame_252 : decode cX3_isSame 252 = .ok (.dup2, 1) := by decide +kernel
theorem dX3_isSame_253 : decode cX3_isSame 253 = .ok (.iaload, 1) := by decide +kernel
theorem dX3_isSame_254 : decode cX3_isSame 254 = .ok (.iconst 1, 1) := by decide +kernel
theorem dX3_isSame_255 : decode cX3_isSame 255 = .ok (.iadd, 1) := by decide +kernel
theorem dX3_isSame_256 : decode cX3_isSame 256 = .ok (.iastore, 1) := by decide +kernel
theorem dX3_isSame_257 : decode cX3_isSame 257 = .ok (.aload 9, 2) := by decide +kernel
theorem dX3_isSame_259 : decode cX3_isSame 259 = .ok (.iconst 3, 1) := by decide +kernel
theorem dX3_isSame_260 : decode cX3_isSame 260 = .ok (.iaload, 1) := by decide +kernel
theorem dX3_isSame_261 : decode cX3_isSame 261 = .ok (.ifCond .lt 13, 3) := by decide +kernel
theorem dX3_isSame_264 : decode cX3_isSame 264 = .ok (.aload_n 3, 1) := by decide +kernel
theorem dX3_isSame_265 : decode cX3_isSame 265 = .ok (.aload 9, 2) := by decide +kernel
theorem dX3_isSame_267 : decode cX3_isSame 267 = .ok (.iconst 3, 1) := by decide +kernel
theorem dX3_isSame_268 : decode cX3_isSame 268 = .ok (.iaload, 1) := by decide +kernel
theorem dX3_isSame_269 : decode cX3_isSame 269 = .ok (.dup2, 1) := by decide +kernel
theorem dX3_isSame_270 : decode cX3_isSame 270 = .ok (.iaload, 1) := by decide +kernel
theorem dX3_isSame_271 : decode cX3_isSame 271 = .ok (.iconst 1, 1) := by decide +kernel
theorem dX3_isSame_272 : decode cX3_isSame 272 = .ok (.iadd, 1) := by decide +kernel
theorem dX3_isSame_273 : decode cX3_isSame 273 = .ok (.iastore, 1) := by decide +kernel
theorem dX3_isSame_274 : decode cX3_isSame 274 = .ok (.iinc 8 1, 3) := by decide +kernel
theorem dX3_isSame_277 : decode cX3_isSame 277 = .ok (.goto (-114), 3) := by decide +kernel
theorem dX3_isSame_280 : decode cX3_isSame 280 = .ok (.iconst 0, 1) := by decide +kernel
theorem dX3_isSame_281 : decode cX3_isSame 281 = .ok (.istore 6, 2) := by decide +kernel
theorem dX3_isSame_283 : decode cX3_isSame 283 = .ok (.iload 6, 2) := by decide +kernel
theorem dX3_isSame_285 : decode cX3_isSame 285 = .ok (.bipush 10, 2) := by decide +kernel
theorem dX3_isSame_287 : decode cX3_isSame 287 = .ok (.if_icmp .ge 54, 3) := by decide +kernel
theorem dX3_isSame_290 : decode cX3_isSame 290 = .ok (.aload_n 1, 1) := by decide +kernel
theorem dX3_isSame_291 : decode cX3_isSame 291 = .ok (.iload 6, 2) := by decide +kernel
theorem dX3_isSame_293 : decode cX3_isSame 293 = .ok (.invokevirtual 90, 3) := by decide +kernel
theorem dX3_isSame_296 : decode cX3_isSame 296 = .ok (.aload 4, 2) := by decide +kernel
theorem dX3_isSame_298 : decode cX3_isSame 298 = .ok (.iload 6, 2) := by decide +kernel
theorem dX3_isSame_300 : decode cX3_isSame 300 = .ok (.iaload, 1) := by decide +kernel
theorem dX3_isSame_301 : decode cX3_isSame 301 = .ok (.if_icmp .ne 32, 3) := by decide +kernel
theorem dX3_isSame_304 : decode cX3_isSame 304 = .ok (.aload_n 1, 1) := by decide +kernel
theorem dX3_isSame_305 : decode cX3_isSame 305 = .ok (.iload 6, 2) := by decide +kernel
theorem dX3_isSame_307 : decode cX3_isSame 307 = .ok (.invokevirtual 93, 3) := by decide +kernel
theorem dX3_isSame_310 : decode cX3_isSame 310 = .ok (.aload_n 0, 1) := by decide +kernel
theorem dX3_isSame_311 : decode cX3_isSame 311 = .ok (.iload 6, 2) := by decide +kernel
theorem dX3_isSame_313 : decode cX3_isSame 313 = .ok (.invokevirtual 43, 3) := by decide +kernel
theorem dX3_isSame_316 : decode cX3_isSame 316 = .ok (.if_icmp .ne 17, 3) := by decide +kernel
theorem dX3_isSame_319 : decode cX3_isSame 319 = .ok (.aload_n 1, 1) := by decide +kernel
theorem dX3_isSame_320 : decode cX3_isSame 320 = .ok (.iload 6, 2) := by decide +kernel
theorem dX3_isSame_322 : decode cX3_isSame 322 = .ok (.invokevirtual 96, 3) := by decide +kernel
theorem dX3_isSame_325 : decode cX3_isSame 325 = .ok (.aload 5, 2) := by decide +kernel
theorem dX3_isSame_327 : decode cX3_isSame 327 = .ok (.iload 6, 2) := by decide +kernel
theorem dX3_isSame_329 : decode cX3_isSame 329 = .ok (.iaload, 1) := by decide +kernel
theorem dX3_isSame_330 : decode cX3_isSame 330 = .ok (.if_icmp .eq 5, 3) := by decide +kernel
theorem dX3_isSame_333 : decode cX3_isSame 333 = .ok (.iconst 0, 1) := by decide +kernel
theorem dX3_isSame_334 : decode cX3_isSame 334 = .ok (.ireturn, 1) := by decide +kernel
theorem dX3_isSame_335 : decode cX3_isSame 335 = .ok (.iinc 6 1, 3) := by decide +kernel
theorem dX3_isSame_338 : decode cX3_isSame 338 = .ok (.goto (-55), 3) := by decide +kernel
theorem dX3_isSame_341 : decode cX3_isSame 341 = .ok (.iconst 0, 1) := by decide +kernel
theorem dX3_isSame_342 : decode cX3_isSame 342 = .ok (.istore 6, 2) := by decide +kernel
theorem dX3_isSame_344 : decode cX3_isSame 344 = .ok (.iload 6, 2) := by decide +kernel
theorem dX3_isSame_346 : decode cX3_isSame 346 = .ok (.aload_n 0, 1) := by decide +kernel
theorem dX3_isSame_347 : decode cX3_isSame 347 = .ok (.getfield 15, 3) := by decide +kernel
theorem dX3_isSame_350 : decode cX3_isSame 350 = .ok (.arraylength, 1) := by decide +kernel
theorem dX3_isSame_351 : decode cX3_isSame 351 = .ok (.if_icmp .ge 40, 3) := by decide +kernel
theorem dX3_isSame_354 : decode cX3_isSame 354 = .ok (.aload_n 1, 1) := by decide +kernel
theorem dX3_isSame_355 : decode cX3_isSame 355 = .ok (.iload 6, 2) := by decide +kernel
theorem dX3_isSame_357 : decode cX3_isSame 357 = .ok (.invokevirtual 99, 3) := by decide +kernel
theorem dX3_isSame_360 : decode cX3_isSame 360 = .ok (.aload_n 0, 1) := by decide +kernel
theorem dX3_isSame_361 : decode cX3_isSame 361 = .ok (.getfield 15, 3) := by decide +kernel
theorem dX3_isSame_364 : decode cX3_isSame 364 = .ok (.iload 6, 2) := by decide +kernel
theorem dX3_isSame_366 : decode cX3_isSame 366 = .ok (.iaload, 1) := by decide +kernel
theorem dX3_isSame_367 : decode cX3_isSame 367 = .ok (.if_icmp .ne 16, 3) := by decide +kernel
theorem dX3_isSame_370 : decode cX3_isSame 370 = .ok (.aload_n 1, 1) := by decide +kernel
theorem dX3_isSame_371 : decode cX3_isSame 371 = .ok (.iload 6, 2) := by decide +kernel
theorem dX3_isSame_373 : decode cX3_isSame 373 = .ok (.invokevirtual 102, 3) := by decide +kernel
theorem dX3_isSame_376 : decode cX3_isSame 376 = .ok (.aload_n 3, 1) := by decide +kernel
theorem dX3_isSame_377 : decode cX3_isSame 377 = .ok (.iload 6, 2) := by decide +kernel
theorem dX3_isSame_379 : decode cX3_isSame 379 = .ok (.iaload, 1) := by decide +kernel
theorem dX3_isSame_380 : decode cX3_isSame 380 = .ok (.if_icmp .eq 5, 3) := by decide +kernel
theorem dX3_isSame_383 : decode cX3_isSame 383 = .ok (.iconst 0, 1) := by decide +kernel
theorem dX3_isSame_384 : decode cX3_isSame 384 = .ok (.ireturn, 1) := by decide +kernel
theorem dX3_isSame_385 : decode cX3_isSame 385 = .ok (.iinc 6 1, 3) := by decide +kernel
theorem dX3_isSame_388 : decode cX3_isSame 388 = .ok (.goto (-44), 3) := by decide +kernel
theorem dX3_isSame_391 : decode cX3_isSame 391 = .ok (.iconst (-1), 1) := by decide +kernel
theorem dX3_isSame_392 : decode cX3_isSame 392 = .ok (.istore 6, 2) := by decide +kernel
theorem dX3_isSame_394 : decode cX3_isSame 394 = .ok (.iconst 0, 1) := by decide +kernel
theorem dX3_isSame_395 : decode cX3_isSame 395 = .ok (.istore 7, 2) := by decide +kernel
theorem dX3_isSame_397 : decode cX3_isSame 397 = .ok (.iconst 0, 1) := by decide +kernel
theorem dX3_isSame_398 : decode cX3_isSame 398 = .ok (.istore 8, 2) := by decide +kernel
theorem dX3_isSame_400 : decode cX3_isSame 400 = .ok (.iload 8, 2) := by decide +kernel
theorem dX3_isSame_402 : decode cX3_isSame 402 = .ok (.aload_n 0, 1) := by decide +kernel
theorem dX3_isSame_403 : decode cX3_isSame 403 = .ok (.getfield 18, 3) := by decide +kernel
theorem dX3_isSame_406 : decode cX3_isSame 406 = .ok (.arraylength, 1) := by decide +kernel
theorem dX3_isSame_407 : decode cX3_isSame 407 = .ok (.if_icmp .ge 165, 3) := by decide +kernel
theorem dX3_isSame_410 : decode cX3_isSame 410 = .ok (.aload_n 0, 1) := by decide +kernel
theorem dX3_isSame_411 : decode cX3_isSame 411 = .ok (.getfield 18, 3) := by decide +kernel
theorem dX3_isSame_414 : decode cX3_isSame 414 = .ok (.iload 8, 2) := by decide +kernel
theorem dX3_isSame_416 : decode cX3_isSame 416 = .ok (.aaload, 1) := by decide +kernel
theorem dX3_isSame_417 : decode cX3_isSame 417 = .ok (.astore 9, 2) := by decide +kernel
theorem dX3_isSame_419 : decode cX3_isSame 419 = .ok (.iload 7, 2) := by decide +kernel
theorem dX3_isSame_421 : decode cX3_isSame 421 = .ok (.aload_n 0, 1) := by decide +kernel
theorem dX3_isSame_422 : decode cX3_isSame 422 = .ok (.aload 9, 2) := by decide +kernel
theorem dX3_isSame_424 : decode cX3_isSame 424 = .ok (.invokevirtual 105, 3) := by decide +kernel
theorem dX3_isSame_427 : decode cX3_isSame 427 = .ok (.iadd, 1) := by decide +kernel
theorem dX3_isSame_428 : decode cX3_isSame 428 = .ok (.istore 7, 2) := by decide +kernel
theorem dX3_isSame_430 : decode cX3_isSame 430 = .ok (.iload 6, 2) := by decide +kernel
theorem dX3_isSame_432 : decode cX3_isSame 432 = .ok (.ifCond .lt 23, 3) := by decide +kernel
theorem dX3_isSame_435 : decode cX3_isSame 435 = .ok (.aload_n 0, 1) := by decide +kernel
theorem dX3_isSame_436 : decode cX3_isSame 436 = .ok (.aload 9, 2) := by decide +kernel
theorem dX3_isSame_438 : decode cX3_isSame 438 = .ok (.invokevirtual 105, 3) := by decide +kernel
theorem dX3_isSame_441 : decode cX3_isSame 441 = .ok (.aload_n 0, 1) := by decide +kernel
theorem dX3_isSame_442 : decode cX3_isSame 442 = .ok (.aload_n 0, 1) := by decide +kernel
theorem dX3_isSame_443 : decode cX3_isSame 443 = .ok (.getfield 18, 3) := by decide +kernel
theorem dX3_isSame_446 : decode cX3_isSame 446 = .ok (.iload 6, 2) := by decide +kernel
theorem dX3_isSame_448 : decode cX3_isSame 448 = .ok (.aaload, 1) := by decide +kernel
theorem dX3_isSame_449 : decode cX3_isSame 449 = .ok (.invokevirtual 105, 3) := by decide +kernel
theorem dX3_isSame_452 : decode cX3_isSame 452 = .ok (.if_icmp .le 7, 3) := by decide +kernel
theorem dX3_isSame_455 : decode cX3_isSame 455 = .ok (.iload 8, 2) := by decide +kernel
theorem dX3_isSame_457 : decode cX3_isSame 457 = .ok (.istore 6, 2) := by decide +kernel
theorem dX3_isSame_459 : decode cX3_isSame 459 = .ok (.aload_n 1, 1) := by decide +kernel
theorem dX3_isSame_460 : decode cX3_isSame 460 = .ok (.iload 8, 2) := by decide +kernel
theorem dX3_isSame_462 : decode cX3_isSame 462 = .ok (.invokevirtual 109, 3) := by decide +kernel
theorem dX3_isSame_465 : decode cX3_isSame 465 = .ok (.aload 9, 2) := by decide +kernel
theorem dX3_isSame_467 : decode cX3_isSame 467 = .ok (.iconst 1, 1) := by decide +kernel
theorem dX3_isSame_468 : decode cX3_isSame 468 = .ok (.iaload, 1) := by decide +kernel
theorem dX3_isSame_469 : decode cX3_isSame 469 = .ok (.if_icmp .ne 59, 3) := by decide +kernel
theorem dX3_isSame_472 : decode cX3_isSame 472 = .ok (.aload_n 1, 1) := by decide +kernel
theorem dX3_isSame_473 : decode cX3_isSame 473 = .ok (.iload 8, 2) := by decide +kernel
theorem dX3_isSame_475 : decode cX3_isSame 475 = .ok (.invokevirtual 112, 3) := by decide +kernel
theorem dX3_isSame_478 : decode cX3_isSame 478 = .ok (.aload_n 0, 1) := by decide +kernel
theorem dX3_isSame_479 : decode cX3_isSame 479 = .ok (.aload 9, 2) := by decide +kernel
theorem dX3_isSame_481 : decode cX3_isSame 481 = .ok (.invokevirtual 105, 3) := by decide +kernel
theorem dX3_isSame_484 : decode cX3_isSame 484 = .ok (.if_icmp .ne 44, 3) := by decide +kernel
theorem dX3_isSame_487 : decode cX3_isSame 487 = .ok (.aload_n 1, 1) := by decide +kernel
theorem dX3_isSame_488 : decode cX3_isSame 488 = .ok (.iload 8, 2) := by decide +kernel
theorem dX3_isSame_490 : decode cX3_isSame 490 = .ok (.invokevirtual 115, 3) := by decide +kernel
theorem dX3_isSame_493 : decode cX3_isSame 493 = .ok (.aload 9, 2) := by decide +kernel
theorem dX3_isSame_495 : decode cX3_isSame 495 = .ok (.iconst 2, 1) := by decide +kernel
theorem dX3_isSame_496 : decode cX3_isSame 496 = .ok (.iaload, 1) := by decide +kernel
theorem dX3_isSame_497 : decode cX3_isSame 497 = .ok (.if_icmp .ne 31, 3) := by decide +kernel
theorem dX3_isSame_500 : decode cX3_isSame 500 = .ok (.aload_n 1, 1) := by decide +kernel
theorem dX3_isSame_501 : decode cX3_isSame 501 = .ok (.iload 8, 2) := by decide +kernel
theorem dX3_isSame_503 : decode cX3_isSame 503 = .ok (.invokevirtual 118, 3) := by decide +kernel
theorem dX3_isSame_506 : decode cX3_isSame 506 = .ok (.aload 9, 2) := by decide +kernel
theorem dX3_isSame_508 : decode cX3_isSame 508 = .ok (.iconst 3, 1) := by decide +kernel
theorem dX3_isSame_509 : decode cX3_isSame 509 = .ok (.iaload, 1) := by decide +kernel
theorem dX3_isSame_510 : decode cX3_isSame 510 = .ok (.if_icmp .ne 18, 3) := by decide +kernel
theorem dX3_isSame_513 : decode cX3_isSame 513 = .ok (.aload_n 1, 1) := by decide +kernel
theorem dX3_isSame_514 : decode cX3_isSame 514 = .ok (.iload 8, 2) := by decide +kernel
theorem dX3_isSame_516 : decode cX3_isSame 516 = .ok (.invokevirtual 121, 3) := by decide +kernel
theorem dX3_isSame_519 : decode cX3_isSame 519 = .ok (.aload_n 0, 1) := by decide +kernel
theorem dX3_isSame_520 : decode cX3_isSame 520 = .ok (.aload 9, 2) := by decide +kernel
theorem dX3_isSame_522 : decode cX3_isSame 522 = .ok (.invokevirtual 124, 3) := by decide +kernel
theorem dX3_isSame_525 : decode cX3_isSame 525 = .ok (.if_icmp .eq 5, 3) := by decide +kernel
theorem dX3_isSame_528 : decode cX3_isSame 528 = .ok (.iconst 0, 1) := by decide +kernel
theorem dX3_isSame_529 : decode cX3_isSame 529 = .ok (.ireturn, 1) := by decide +kernel
theorem dX3_isSame_530 : decode cX3_isSame 530 = .ok (.iconst 0, 1) := by decide +kernel
theorem dX3_isSame_531 : decode cX3_isSame 531 = .ok (.istore 10, 2) := by decide +kernel
theorem dX3_isSame_533 : decode cX3_isSame 533 = .ok (.iload 10, 2) := by decide +kernel
theorem dX3_isSame_535 : decode cX3_isSame 535 = .ok (.bipush 10, 2) := by decide +kernel
theorem dX3_isSame_537 : decode cX3_isSame 537 = .ok (.if_icmp .ge 29, 3) := by decide +kernel
theorem dX3_isSame_540 : decode cX3_isSame 540 = .ok (.aload_n 1, 1) := by decide +kernel
theorem dX3_isSame_541 : decode cX3_isSame 541 = .ok (.iload 8, 2) := by decide +kernel
theorem dX3_isSame_543 : decode cX3_isSame 543 = .ok (.iload 10, 2) := by decide +kernel
theorem dX3_isSame_545 : decode cX3_isSame 545 = .ok (.invokevirtual 127, 3) := by decide +kernel
theorem dX3_isSame_548 : decode cX3_isSame 548 = .ok (.aload 9, 2) := by decide +kernel
theorem dX3_isSame_550 : decode cX3_isSame 550 = .ok (.iconst 4, 1) := by decide +kernel
theorem dX3_isSame_551 : decode cX3_isSame 551 = .ok (.iload 10, 2) := by decide +kernel
theorem dX3_isSame_553 : decode cX3_isSame 553 = .ok (.iadd, 1) := by decide +kernel
theorem dX3_isSame_554 : decode cX3_isSame 554 = .ok (.iaload, 1) := by decide +kernel
theorem dX3_isSame_555 : decode cX3_isSame 555 = .ok (.if_icmp .eq 5, 3) := by decide +kernel
theorem dX3_isSame_558 : decode cX3_isSame 558 = .ok (.iconst 0, 1) := by decide +kernel
theorem dX3_isSame_559 : decode cX3_isSame 559 = .ok (.ireturn, 1) := by decide +kernel
theorem dX3_isSame_560 : decode cX3_isSame 560 = .ok (.iinc 10 1, 3) := by decide +kernel
theorem dX3_isSame_563 : decode cX3_isSame 563 = .ok (.goto (-30), 3) := by decide +kernel
theorem dX3_isSame_566 : decode cX3_isSame 566 = .ok (.iinc 8 1, 3) := by decide +kernel
theorem dX3_isSame_569 : decode cX3_isSame 569 = .ok (.goto (-169), 3) := by decide +kernel
theorem dX3_isSame_572 : decode cX3_isSame 572 = .ok (.aload_n 1, 1) := by decide +kernel
theorem dX3_isSame_573 : decode cX3_isSame 573 = .ok (.invokevirtual 131, 3) := by decide +kernel
theorem dX3_isSame_576 : decode cX3_isSame 576 = .ok (.iload 6, 2) := by decide +kernel
theorem dX3_isSame_578 : decode cX3_isSame 578 = .ok (.if_icmp .ne 37, 3) := by decide +kernel
theorem dX3_isSame_581 : decode cX3_isSame 581 = .ok (.aload_n 1, 1) := by decide +kernel
theorem dX3_isSame_582 : decode cX3_isSame 582 = .ok (.invokevirtual 134, 3) := by decide +kernel
theorem dX3_isSame_585 : decode cX3_isSame 585 = .ok (.aload_n 0, 1) := by decide +kernel
theorem dX3_isSame_586 : decode cX3_isSame 586 = .ok (.getfield 18, 3) := by decide +kernel
theorem dX3_isSame_589 : decode cX3_isSame 589 = .ok (.arraylength, 1) := by decide +kernel
theorem dX3_isSame_590 : decode cX3_isSame 590 = .ok (.ifCond .ne 7, 3) := by decide +kernel
theorem dX3_isSame_593 : decode cX3_isSame 593 = .ok (.dconst 0, 1) := by decide +kernel
theorem dX3_isSame_594 : decode cX3_isSame 594 = .ok (.goto 13, 3) := by decide +kernel
theorem dX3_isSame_597 : decode cX3_isSame 597 = .ok (.iload 7, 2) := by decide +kernel
theorem dX3_isSame_599 : decode cX3_isSame 599 = .ok (.i2d, 1) := by decide +kernel
theorem dX3_isSame_600 : decode cX3_isSame 600 = .ok (.aload_n 0, 1) := by decide +kernel
theorem dX3_isSame_601 : decode cX3_isSame 601 = .ok (.getfield 18, 3) := by decide +kernel
theorem dX3_isSame_604 : decode cX3_isSame 604 = .ok (.arraylength, 1) := by decide +kernel
theorem dX3_isSame_605 : decode cX3_isSame 605 = .ok (.i2d, 1) := by decide +kernel
theorem dX3_isSame_606 : decode cX3_isSame 606 = .ok (.ddiv, 1) := by decide +kernel
theorem dX3_isSame_607 : decode cX3_isSame 607 = .ok (.dcmp .l, 1) := by decide +kernel
theorem dX3_isSame_608 : decode cX3_isSame 608 = .ok (.ifCond .ne 7, 3) := by decide +kernel
theorem dX3_isSame_611 : decode cX3_isSame 611 = .ok (.iconst 1, 1) := by decide +kernel
theorem dX3_isSame_612 : decode cX3_isSame 612 = .ok (.goto 4, 3) := by decide +kernel
theorem dX3_isSame_615 : decode cX3_isSame 615 = .ok (.iconst 0, 1) := by decide +kernel
theorem dX3_isSame_616 : decode cX3_isSame 616 = .ok (.ireturn, 1) := by decide +kernel
