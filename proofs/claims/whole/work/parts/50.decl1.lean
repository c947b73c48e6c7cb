set_option maxRecDepth 20000 in
theorem ggL_say_X2_say : GoodIn wsL_say wsX2_say := goodIn_ca (goodIn_r _ [6, 7, 8, 9, 10, 5, 11, 12, 13, 14, 15, 16, 17, 18, 19, 20, 21, 22, 23, 24, 25, 26, 27, 28, 29, 30, 31, 32, 33, 34, 35, 36, 37, 38, 39, 40, 41, 42, 43, 44, 45, 46, 47, 48, 49, 50, 51, 52, 53, 54, 55, 56, 57, 58, 59, 60, 61, 62, 63, 64, 65, 66, 67, 68, 69, 70, 71, 72] (by decide +kernel) (by decide +kernel)) (goodIn_sub (fun _ h => List.mem_cons_of_mem _ (List.mem_append_right _ h)) (by decide +kernel))
set_option maxRecDepth 20000 in
theorem gL_say_X2_say : GoodIn wsL_say (wsV RL 7 RX2 yX2_say wsX2_say) := goodIn_app (goodIn_of _ (by decide +kernel)) ggL_say_X2_say
set_option maxRecDepth 20000 in
theorem ggL_startStorm_X2_startStorm : GoodIn wsL_startStorm wsX2_startStorm := goodIn_ca (goodIn_r _ [6, 7, 8, 9, 10, 11, 12, 13, 14, 15, 16, 17, 18, 19] (by decide +kernel) (by decide +kernel)) (goodIn_sub (fun _ h => List.mem_cons_of_mem _ (List.mem_append_right _ h)) (by decide +kernel))
set_option maxRecDepth 20000 in
theorem gL_startStorm_X2_startStorm : GoodIn wsL_startStorm (wsV RL 15 RX2 yX2_startStorm wsX2_startStorm) := goodIn_app (goodIn_of _ (by decide +kernel)) ggL_startStorm_X2_startStorm
set_option maxRecDepth 20000 in
theorem ggL_endStorm_X2_endStorm : GoodIn wsL_endStorm wsX2_endStorm := goodIn_ca (goodIn_r _ [6, 7, 8, 9, 10, 11, 12, 13, 14, 15, 16, 17, 18, 19, 20] (by decide +kernel) (by decide +kernel)) (goodIn_sub (fun _ h => List.mem_cons_of_mem _ (List.mem_append_right _ h)) (by decide +kernel))
set_option maxRecDepth 20000 in
theorem gL_endStorm_X2_endStorm : GoodIn wsL_endStorm (wsV RL 21 RX2 yX2_endStorm wsX2_endStorm) := goodIn_app (goodIn_of _ (by decide +kernel)) ggL_endStorm_X2_endStorm
set_option maxRecDepth 20000 in
theorem ggL_replay_X2_replay : GoodIn wsL_replay wsX2_replay := goodIn_ca (goodIn_ca (goodIn_r _ [7, 8, 9, 10, 11, 12, 13, 14, 15, 16, 6, 17, 18, 19, 20, 21, 22, 23, 24, 25, 26, 27, 28, 29, 30, 31, 32, 33, 34, 35, 36, 37, 38, 39, 40, 41, 42, 43, 44, 45, 46, 47, 48, 49, 50, 51, 52, 53, 54, 55, 56, 57, 58, 59, 60, 61, 62, 63, 64, 65, 66, 67, 68, 69, 70, 71, 72, 73, 74, 75, 76, 77, 78, 79, 80, 81] (by decide +kernel) (by decide +kernel)) (goodIn_sub (fun _ h => List.mem_cons_of_mem _ (List.mem_append_left _ (List.mem_append_right _ h))) (by decide +kernel))) (goodIn_sub (fun _ h => List.mem_cons_of_mem _ (List.mem_append_right _ h)) (by decide +kernel))
set_option maxRecDepth 20000 in
theorem gL_replay_X2_replay : GoodIn wsL_replay (wsV RL 24 RX2 yX2_replay wsX2_replay) := goodIn_app (goodIn_of _ (by decide +kernel)) ggL_replay_X2_replay
set_option maxRecDepth 20000 in
theorem ggL_trimTo_X2_trimTo : GoodIn wsL_trimTo wsX2_trimTo := goodIn_ca (goodIn_r _ [6, 7, 8, 9, 10, 5, 11, 12, 13, 14, 15, 16, 17, 18, 19, 20, 21, 22, 23, 24, 25, 26, 27, 28, 29, 30, 31, 32, 33, 34, 35, 36, 37, 38, 39, 40, 41, 42, 43, 44, 45, 46, 47, 48, 49, 50, 51, 52, 53, 54, 55, 56, 57, 58, 59, 60, 61, 62] (by decide +kernel) (by decide +kernel)) (goodIn_sub (fun _ h => List.mem_cons_of_mem _ (List.mem_append_right _ h)) (by decide +kernel))
set_option maxRecDepth 20000 in
theorem gL_trimTo_X2_trimTo : GoodIn wsL_trimTo (wsV RL 30 RX2 yX2_trimTo wsX2_trimTo) := goodIn_app (goodIn_of _ (by decide +kernel)) ggL_trimTo_X2_trimTo
set_option maxRecDepth 20000 in
theorem ggL_addShip_X2_addShip : GoodIn wsL_addShip wsX2_addShip := goodIn_ca (goodIn_ca (goodIn_r _ [7, 8, 9, 10, 11, 12, 13, 14, 15, 16, 6, 17, 18, 19, 20, 21, 22, 23, 24, 25, 26, 27, 28, 29, 30, 31, 32, 33, 34, 35, 36, 37, 38, 39, 40] (by decide +kernel) (by decide +kernel)) (goodIn_sub (fun _ h => List.mem_cons_of_mem _ (List.mem_append_left _ (List.mem_append_right _ h))) (by decide +kernel))) (goodIn_sub (fun _ h => List.mem_cons_of_mem _ (List.mem_append_right _ h)) (by decide +kernel))
set_option maxRecDepth 20000 in
theorem gL_addShip_X2_addShip : GoodIn wsL_addShip (wsV RL 33 RX2 yX2_addShip wsX2_addShip) := goodIn_app (goodIn_of _ (by decide +kernel)) ggL_addShip_X2_addShip
set_option maxRecDepth 20000 in
theorem ggL_seek_X2_seek : GoodIn wsL_seek wsX2_seek := goodIn_ca (goodIn_ca (goodIn_r _ [7, 8, 9, 10, 6, 11, 12, 13, 14, 15, 16, 17, 18, 19, 20, 21, 22, 23, 24, 25, 26, 27, 28, 29, 30, 31, 32, 33, 34, 35, 36, 37, 38, 39, 40, 41, 42, 43, 44] (by decide +kernel) (by decide +kernel)) (goodIn_sub (fun _ h => List.mem_cons_of_mem _ (List.mem_append_left _ (List.mem_append_right _ h))) (by decide +kernel))) (goodIn_sub (fun _ h => List.mem_cons_of_mem _ (List.mem_append_right _ h)) (by decide +kernel))
set_option maxRecDepth 20000 in
theorem gL_seek_X2_seek : GoodIn wsL_seek (wsV RL 36 RX2 yX2_seek wsX2_seek) := goodIn_app (goodIn_of _ (by decide +kernel)) ggL_seek_X2_seek
set_option maxRecDepth 20000 in
theorem ggL_passHours_X2_passHours : GoodIn wsL_passHours wsX2_passHours := goodIn_ca (goodIn_r _ [6, 7, 8, 9, 10, 11, 5, 12, 13, 14, 15, 16, 17, 18, 19, 20, 21, 22, 23, 24, 25, 26, 27, 28, 29, 30, 31, 32, 33, 34, 35, 36, 37, 38, 39, 40, 41, 42, 43, 44, 45, 46, 47, 48, 49, 50, 51, 52, 53, 54, 55, 56, 57, 58, 59, 60, 61, 62, 63] (by decide +kernel) (by decide +kernel)) (goodIn_sub (fun _ h => List.mem_cons_of_mem _ (List.mem_append_right _ h)) (by decide +kernel))
set_option maxRecDepth 20000 in
theorem gL_passHours_X2_passHours : GoodIn wsL_passHours (wsV RL 39 RX2 yX2_passHours wsX2_passHours) := goodIn_app (goodIn_of _ (by decide +kernel)) ggL_passHours_X2_passHours
set_option maxRecDepth 20000 in
theorem ggL_keyAt_X2_keyAt : GoodIn wsL_keyAt wsX2_keyAt := goodIn_ca (goodIn_r _ [6, 7, 8, 9, 10, 5, 11, 12, 13, 14, 15, 16, 17, 18, 19, 20, 21, 22, 23, 24, 25, 26, 27, 28, 29, 30, 31, 32, 33, 34, 35, 36, 37, 38, 39, 40] (by decide +kernel) (by decide +kernel)) (goodIn_sub (fun _ h => List.mem_cons_of_mem _ (List.mem_append_right _ h)) (by decide +kernel))
set_option maxRecDepth 20000 in
theorem gL_keyAt_X2_keyAt : GoodIn wsL_keyAt (wsV RL 42 RX2 yX2_keyAt wsX2_keyAt) := goodIn_app (goodIn_of _ (by decide +kernel)) ggL_keyAt_X2_keyAt
set_option maxRecDepth 20000 in
theorem ggL_valueAt_X2_valueAt : GoodIn wsL_valueAt wsX2_valueAt := goodIn_ca (goodIn_r _ [6, 7, 8, 9, 10, 5, 11, 12, 13, 14, 15, 16, 17, 18, 19, 20, 21, 22, 23, 24, 25, 26, 27, 28, 29, 30, 31, 32, 33, 34, 35, 36, 37, 38, 39, 40] (by decide +kernel) (by decide +kernel)) (goodIn_sub (fun _ h => List.mem_cons_of_mem _ (List.mem_append_right _ h)) (by decide +kernel))
set_option maxRecDepth 20000 in
theorem gL_valueAt_X2_valueAt : GoodIn wsL_valueAt (wsV RL 45 RX2 yX2_valueAt wsX2_valueAt) := goodIn_app (goodIn_of _ (by decide +kernel)) ggL_valueAt_X2_valueAt
set_option maxRecDepth 20000 in
theorem ggL_stormAt_X2_stormAt : GoodIn wsL_stormAt wsX2_stormAt := goodIn_ca (goodIn_r _ [6, 7, 8, 9, 10, 5, 11, 12, 13, 14, 15, 16, 17, 18, 19, 20, 21, 22, 23, 24, 25, 26, 27, 28, 29, 30, 31, 32, 33, 34, 35, 36, 37, 38, 39, 40] (by decide +kernel) (by decide +kernel)) (goodIn_sub (fun _ h => List.mem_cons_of_mem _ (List.mem_append_right _ h)) (by decide +kernel))
set_option maxRecDepth 20000 in
theorem gL_stormAt_X2_stormAt : GoodIn wsL_stormAt (wsV RL 48 RX2 yX2_stormAt wsX2_stormAt) := goodIn_app (goodIn_of _ (by decide +kernel)) ggL_stormAt_X2_stormAt
set_option maxRecDepth 20000 in
theorem ggL_latestOf_X2_latestOf : GoodIn wsL_latestOf wsX2_latestOf := goodIn_ca (goodIn_r _ [6, 7, 8, 9, 5, 10, 11, 12, 13, 14, 15, 16, 17, 18, 19, 20, 21, 22, 23, 24, 25, 26, 27, 28, 29, 30, 31, 32, 33, 34, 35, 36, 37, 38, 39, 40, 41, 42, 43] (by decide +kernel) (by decide +kernel)) (goodIn_sub (fun _ h => List.mem_cons_of_mem _ (List.mem_append_right _ h)) (by decide +kernel))
set_option maxRecDepth 20000 in
theorem gL_latestOf_X2_latestOf : GoodIn wsL_latestOf (wsV RL 51 RX2 yX2_latestOf wsX2_latestOf) := goodIn_app (goodIn_of _ (by decide +kernel)) ggL_latestOf_X2_latestOf
set_option maxRecDepth 20000 in
theorem ggL_valueOf_X2_valueOf : GoodIn wsL_valueOf wsX2_valueOf := goodIn_ca (goodIn_r _ [6, 7, 8, 9, 5, 10, 11, 12, 13, 14, 15, 16, 17, 18, 19, 20, 21, 22, 23, 24, 25, 26, 27, 28, 29, 30, 31, 32, 33, 34, 35, 36, 37, 38, 39, 40, 41, 42, 43] (by decide +kernel) (by decide +kernel)) (goodIn_sub (fun _ h => List.mem_cons_of_mem _ (List.mem_append_right _ h)) (by decide +kernel))
set_option maxRecDepth 20000 in
theorem gL_valueOf_X2_valueOf : GoodIn wsL_valueOf (wsV RL 54 RX2 yX2_valueOf wsX2_valueOf) := goodIn_app (goodIn_of _ (by decide +kernel)) ggL_valueOf_X2_valueOf
set_option maxRecDepth 20000 in
theorem ggL_countOf_X2_countOf : GoodIn wsL_countOf wsX2_countOf := goodIn_ca (goodIn_r _ [6, 7, 8, 9, 5, 10, 11, 12, 13, 14, 15, 16, 17, 18, 19, 20, 21, 22, 23, 24, 25, 26, 27, 28, 29, 30, 31, 32, 33, 34, 35, 36, 37, 38, 39, 40, 41, 42] (by decide +kernel) (by decide +kernel)) (goodIn_sub (fun _ h => List.mem_cons_of_mem _ (List.mem_append_right _ h)) (by decide +kernel))
set_option maxRecDepth 20000 in
theorem gL_countOf_X2_countOf : GoodIn wsL_countOf (wsV RL 57 RX2 yX2_countOf wsX2_countOf) := goodIn_app (goodIn_of _ (by decide +kernel)) ggL_countOf_X2_countOf
set_option maxRecDepth 20000 in
theorem ggL_saidIn_X2_saidIn : GoodIn wsL_saidIn wsX2_saidIn := goodIn_ca (goodIn_r _ [6, 7, 8, 9, 10, 5, 11, 12, 13, 14, 15, 16, 17, 18, 19, 20, 21, 22, 23] (by decide +kernel) (by decide +kernel)) (goodIn_sub (fun _ h => List.mem_cons_of_mem _ (List.mem_append_right _ h)) (by decide +kernel))
set_option maxRecDepth 20000 in
theorem gL_saidIn_X2_saidIn : GoodIn wsL_saidIn (wsV RL 60 RX2 yX2_saidIn wsX2_saidIn) := goodIn_app (goodIn_of _ (by decide +kernel)) ggL_saidIn_X2_saidIn
set_option maxRecDepth 20000 in
theorem ggL_keptOf_X2_keptOf : GoodIn wsL_keptOf wsX2_keptOf := goodIn_ca (goodIn_r _ [6, 7, 8, 9, 10, 5, 11, 12, 13, 14, 15, 16, 17, 18, 19, 20, 21, 22, 23, 24, 25, 26, 27, 28, 29, 30, 31, 32, 33, 34, 35, 36, 37, 38, 39, 40, 41] (by decide +kernel) (by decide +kernel)) (goodIn_sub (fun _ h => List.mem_cons_of_mem _ (List.mem_append_right _ h)) (by decide +kernel))
set_option maxRecDepth 20000 in
theorem gL_keptOf_X2_keptOf : GoodIn wsL_keptOf (wsV RL 63 RX2 yX2_keptOf wsX2_keptOf) := goodIn_app (goodIn_of _ (by decide +kernel)) ggL_keptOf_X2_keptOf
set_option maxRecDepth 20000 in
theorem ggL_offsetOf_X2_offsetOf : GoodIn wsL_offsetOf wsX2_offsetOf := goodIn_ca (goodIn_r _ [6, 7, 8, 9, 5, 10, 11, 12, 13, 14, 15, 16, 17, 18, 19, 20, 21, 22, 23, 24, 25, 26, 27, 28] (by decide +kernel) (by decide +kernel)) (goodIn_sub (fun _ h => List.mem_cons_of_mem _ (List.mem_append_right _ h)) (by decide +kernel))
set_option maxRecDepth 20000 in
theorem gL_offsetOf_X2_offsetOf : GoodIn wsL_offsetOf (wsV RL 66 RX2 yX2_offsetOf wsX2_offsetOf) := goodIn_app (goodIn_of _ (by decide +kernel)) ggL_offsetOf_X2_offsetOf
set_option maxRecDepth 20000 in
theorem ggL_lagOf_X2_lagOf : GoodIn wsL_lagOf wsX2_lagOf := goodIn_ca (goodIn_r _ [6, 7, 8, 9, 5, 10, 11, 12, 13, 14, 15, 16, 17, 18, 19, 20, 21, 22, 23, 24, 25, 26, 27, 28, 29, 30, 31, 32, 33, 34, 35, 36, 37, 38, 39, 40, 41, 42, 43, 44, 45, 46, 47] (by decide +kernel) (by decide +kernel)) (goodIn_sub (fun _ h => List.mem_cons_of_mem _ (List.mem_append_right _ h)) (by decide +kernel))
set_option maxRecDepth 20000 in
theorem gL_lagOf_X2_lagOf : GoodIn wsL_lagOf (wsV RL 69 RX2 yX2_lagOf wsX2_lagOf) := goodIn_app (goodIn_of _ (by decide +kernel)) ggL_lagOf_X2_lagOf
set_option maxRecDepth 20000 in
theorem ggL_heardBy_X2_heardBy : GoodIn wsL_heardBy wsX2_heardBy := goodIn_ca (goodIn_r _ [6, 7, 8, 9, 5, 10, 11, 12, 13, 14, 15, 16, 17, 18, 19, 20, 21, 22, 23, 24, 25, 26, 27, 28] (by decide +kernel) (by decide +kernel)) (goodIn_sub (fun _ h => List.mem_cons_of_mem _ (List.mem_append_right _ h)) (by decide +kernel))
set_option maxRecDepth 20000 in
theorem gL_heardBy_X2_heardBy : GoodIn wsL_heardBy (wsV RL 72 RX2 yX2_heardBy wsX2_heardBy) := goodIn_app (goodIn_of _ (by decide +kernel)) ggL_heardBy_X2_heardBy
set_option maxRecDepth 20000 in
theorem ggL_missedBy_X2_missedBy : GoodIn wsL_missedBy wsX2_missedBy := goodIn_ca (goodIn_r _ [6, 7, 8, 9, 5, 10, 11, 12, 13, 14, 15, 16, 17, 18, 19, 20, 21, 22, 23, 24, 25, 26, 27, 28] (by decide +kernel) (by decide +kernel)) (goodIn_sub (fun _ h => List.mem_cons_of_mem _ (List.mem_append_right _ h)) (by decide +kernel))
set_option maxRecDepth 20000 in
theorem gL_missedBy_X2_missedBy : GoodIn wsL_missedBy (wsV RL 75 RX2 yX2_missedBy wsX2_missedBy) := goodIn_app (goodIn_of _ (by decide +kernel)) ggL_missedBy_X2_missedBy
set_option maxRecDepth 20000 in
theorem ggL_knownBy_X2_knownBy : GoodIn wsL_knownBy wsX2_knownBy := goodIn_ca (goodIn_r _ [6, 7, 8, 9, 5, 10, 11, 12, 13, 14, 15, 16, 17, 18, 19, 20, 21, 22, 23, 24, 25, 26, 27, 28, 29, 30, 31, 32, 33, 34] (by decide +kernel) (by decide +kernel)) (goodIn_sub (fun _ h => List.mem_cons_of_mem _ (List.mem_append_right _ h)) (by decide +kernel))
set_option maxRecDepth 20000 in
theorem gL_knownBy_X2_knownBy : GoodIn wsL_knownBy (wsV RL 78 RX2 yX2_knownBy wsX2_knownBy) := goodIn_app (goodIn_of _ (by decide +kernel)) ggL_knownBy_X2_knownBy
set_option maxRecDepth 20000 in
theorem ggL_errorsOf_X2_errorsOf : GoodIn wsL_errorsOf wsX2_errorsOf := goodIn_ca (goodIn_r _ [6, 7, 8, 9, 5, 10, 11, 12, 13, 14, 15, 16, 17, 18, 19, 20, 21, 22, 23, 24, 25, 26, 27, 28, 29, 30, 31, 32, 33, 34, 35, 36, 37, 38, 39, 40, 41, 42, 43, 44, 45, 46, 47, 48, 49, 50, 51, 52, 53, 54, 55, 56, 57, 58, 59, 60] (by decide +kernel) (by decide +kernel)) (goodIn_sub (fun _ h => List.mem_cons_of_mem _ (List.mem_append_right _ h)) (by decide +kernel))
set_option maxRecDepth 20000 in
theorem gL_errorsOf_X2_errorsOf : GoodIn wsL_errorsOf (wsV RL 81 RX2 yX2_errorsOf wsX2_errorsOf) := goodIn_app (goodIn_of _ (by decide +kernel)) ggL_errorsOf_X2_errorsOf
set_option maxRecDepth 20000 in
theorem ggL_hoursUntilCaughtUp_X2_hoursUntilCaughtUp : GoodIn wsL_hoursUntilCaughtUp wsX2_hoursUntilCaughtUp := goodIn_ca (goodIn_r _ [6, 7, 8, 9, 5, 10, 11, 12, 13, 14, 15, 16, 17, 18, 19, 20, 21, 22, 23, 24, 25, 26, 27, 28, 29, 30, 31, 32, 33, 34, 35, 36, 37, 38, 39, 40, 41, 42, 43, 44, 45, 46, 47, 48, 49, 50, 51, 52, 53, 54, 55, 56] (by decide +kernel) (by decide +kernel)) (goodIn_sub (fun _ h => List.mem_cons_of_mem _ (List.mem_append_right _ h)) (by decide +kernel))
set_option maxRecDepth 20000 in
theorem gL_hoursUntilCaughtUp_X2_hoursUntilCaughtUp : GoodIn wsL_hoursUntilCaughtUp (wsV RL 84 RX2 yX2_hoursUntilCaughtUp wsX2_hoursUntilCaughtUp) := goodIn_app (goodIn_of _ (by decide +kernel)) ggL_hoursUntilCaughtUp_X2_hoursUntilCaughtUp
set_option maxRecDepth 20000 in
theorem ggL_errorsIn_X2_errorsIn : GoodIn wsL_errorsIn wsX2_errorsIn := goodIn_ca (goodIn_ca (goodIn_r _ [7, 8, 9, 10, 6, 11, 12, 13, 14, 15, 16, 17, 18, 19, 20, 21, 22, 23, 24, 25, 26, 27, 28, 29, 30, 31, 32, 33, 34, 35, 36, 37, 38, 39, 40, 41, 42, 43, 44, 45, 46, 47, 48, 49, 50, 51, 52, 53, 54, 55, 56, 57, 58, 59, 60, 61, 62, 63, 64, 65, 66, 67, 68, 69, 70, 71] (by decide +kernel) (by decide +kernel)) (goodIn_sub (fun _ h => List.mem_cons_of_mem _ (List.mem_append_left _ (List.mem_append_right _ h))) (by decide +kernel))) (goodIn_sub (fun _ h => List.mem_cons_of_mem _ (List.mem_append_right _ h)) (by decide +kernel))
set_option maxRecDepth 20000 in
theorem gL_errorsIn_X2_errorsIn : GoodIn wsL_errorsIn (wsV RL 87 RX2 yX2_errorsIn wsX2_errorsIn) := goodIn_app (goodIn_of _ (by decide +kernel)) ggL_errorsIn_X2_errorsIn
set_option maxRecDepth 20000 in
theorem ggL_paceWanted_X2_paceWanted : GoodIn wsL_paceWanted wsX2_paceWanted := goodIn_ca (goodIn_ca (goodIn_r _ [7, 8, 9, 10, 6, 11, 12, 13, 14, 15, 16, 17, 18, 19, 20, 21, 22, 23, 24, 25, 26, 27, 28, 29, 30, 31, 32, 33, 34, 35, 36, 37, 38, 39, 40, 41, 42, 43, 44, 45, 46, 47, 48, 49, 50, 51, 52, 53, 54, 55, 56, 57, 58] (by decide +kernel) (by decide +kernel)) (goodIn_sub (fun _ h => List.mem_cons_of_mem _ (List.mem_append_left _ (List.mem_append_right _ h))) (by decide +kernel))) (goodIn_sub (fun _ h => List.mem_cons_of_mem _ (List.mem_append_right _ h)) (by decide +kernel))
set_option maxRecDepth 20000 in
theorem gL_paceWanted_X2_paceWanted : GoodIn wsL_paceWanted (wsV RL 90 RX2 yX2_paceWanted wsX2_paceWanted) := goodIn_app (goodIn_of _ (by decide +kernel)) ggL_paceWanted_X2_paceWanted
set_option maxRecDepth 20000 in
theorem ggL_wouldMiss_X2_wouldMiss : GoodIn wsL_wouldMiss wsX2_wouldMiss := goodIn_ca (goodIn_r _ [6, 7, 8, 9, 10, 5, 11, 12, 13, 14, 15, 16, 17, 18, 19, 20, 21, 22, 23, 24, 25, 26, 27, 28, 29, 30, 31, 32, 33, 34, 35, 36, 37, 38, 39, 40, 41, 42, 43, 44, 45, 46, 47, 48, 49, 50, 51, 52, 53, 54, 55, 56, 57, 58, 59, 60, 61, 62, 63, 64, 65, 66, 67, 68, 69] (by decide +kernel) (by decide +kernel)) (goodIn_sub (fun _ h => List.mem_cons_of_mem _ (List.mem_append_right _ h)) (by decide +kernel))
set_option maxRecDepth 20000 in
theorem gL_wouldMiss_X2_wouldMiss : GoodIn wsL_wouldMiss (wsV RL 93 RX2 yX2_wouldMiss wsX2_wouldMiss) := goodIn_app (goodIn_of _ (by decide +kernel)) ggL_wouldMiss_X2_wouldMiss
theorem dL_say_0 : decode cL_say 0 = .ok (.aload_n 3, 1) := by decide +kernel
theorem dL_say_1 : decode cL_say 1 = .ok (.iconst 0, 1) := by decide +kernel
theorem dL_say_2 : decode cL_say 2 = .ok (.aload_n 0, 1) := by decide +kernel
theorem dL_say_3 : decode cL_say 3 = .ok (.iload_n 1, 1) := by decide +kernel
theorem dL_say_4 : decode cL_say 4 = .ok (.iload_n 2, 1) := by decide +kernel
theorem dL_say_5 : decode cL_say 5 = .ok (.invokevirtual 7, 3) := by decide +kernel
theorem dL_say_8 : decode cL_say 8 = .ok (.i2l, 1) := by decide +kernel
theorem dL_say_9 : decode cL_say 9 = .ok (.lastore, 1) := by decide +kernel
theorem dL_say_10 : decode cL_say 10 = .ok (.goto 7, 3) := by decide +kernel
theorem dL_say_13 : decode cL_say 13 = .ok (.astore 4, 2) := by decide +kernel
theorem dL_say_15 : decode cL_say 15 = .ok (.iconst 1, 1) := by decide +kernel
theorem dL_say_16 : decode cL_say 16 = .ok (.ireturn, 1) := by decide +kernel
theorem dL_say_17 : decode cL_say 17 = .ok (.iconst 0, 1) := by decide +kernel
theorem dL_say_18 : decode cL_say 18 = .ok (.ireturn, 1) := by decide +kernel
theorem dL_startStorm_0 : decode cL_startStorm 0 = .ok (.aload_n 1, 1) := by decide +kernel
theorem dL_startStorm_1 : decode cL_startStorm 1 = .ok (.iconst 0, 1) := by decide +kernel
theorem dL_startStorm_2 : decode cL_startStorm 2 = .ok (.aload_n 0, 1) := by decide +kernel
theorem dL_startStorm_3 : decode cL_startStorm 3 = .ok (.invokevirtual 15, 3) := by decide +kernel
theorem dL_startStorm_6 : decode cL_startStorm 6 = .ok (.i2l, 1) := by decide +kernel
theorem dL_startStorm_7 : decode cL_startStorm 7 = .ok (.lastore, 1) := by decide +kernel
theorem dL_startStorm_8 : decode cL_startStorm 8 = .ok (.goto 6, 3) := by decide +kernel
theorem dL_startStorm_11 : decode cL_startStorm 11 = .ok (.astore_n 2, 1) := by decide +kernel
theorem dL_startStorm_12 : decode cL_startStorm 12 = .ok (.iconst 1, 1) := by decide +kernel
theorem dL_startStorm_13 : decode cL_startStorm 13 = .ok (.ireturn, 1) := by decide +kernel
theorem dL_startStorm_14 : decode cL_startStorm 14 = .ok (.iconst 0, 1) := by decide +kernel
theorem dL_startStorm_15 : decode cL_startStorm 15 = .ok (.ireturn, 1) := by decide +kernel
theorem dL_endStorm_0 : decode cL_endStorm 0 = .ok (.aload_n 1, 1) := by decide +kernel
theorem dL_endStorm_1 : decode cL_endStorm 1 = .ok (.iconst 0, 1) := by decide +kernel
theorem dL_endStorm_2 : decode cL_endStorm 2 = .ok (.aload_n 0, 1) := by decide +kernel
theorem dL_endStorm_3 : decode cL_endStorm 3 = .ok (.invokevirtual 21, 3) := by decide +kernel
theorem dL_endStorm_6 : decode cL_endStorm 6 = .ok (.i2l, 1) := by decide +kernel
theorem dL_endStorm_7 : decode cL_endStorm 7 = .ok (.lastore, 1) := by decide +kernel
theorem dL_endStorm_8 : decode cL_endStorm 8 = .ok (.goto 6, 3) := by decide +kernel
theorem dL_endStorm_11 : decode cL_endStorm 11 = .ok (.astore_n 2, 1) := by decide +kernel
theorem dL_endStorm_12 : decode cL_endStorm 12 = .ok (.iconst 1, 1) := by decide +kernel
theorem dL_endStorm_13 : decode cL_endStorm 13 = .ok (.ireturn, 1) := by decide +kernel
theorem dL_endStorm_14 : decode cL_endStorm 14 = .ok (.iconst 0, 1) := by decide +kernel
theorem dL_endStorm_15 : decode cL_endStorm 15 = .ok (.ireturn, 1) := by decide +kernel
theorem dL_replay_0 : decode cL_replay 0 = .ok (.aload_n 2, 1) := by decide +kernel
theorem dL_replay_1 : decode cL_replay 1 = .ok (.iconst 0, 1) := by decide +kernel
theorem dL_replay_2 : decode cL_replay 2 = .ok (.aload_n 0, 1) := by decide +kernel
theorem dL_replay_3 : decode cL_replay 3 = .ok (.iload_n 1, 1) := by decide +kernel
theorem dL_replay_4 : decode cL_replay 4 = .ok (.invokevirtual 24, 3) := by decide +kernel
theorem dL_replay_7 : decode cL_replay 7 = .ok (.i2l, 1) := by decide +kernel
theorem dL_replay_8 : decode cL_replay 8 = .ok (.lastore, 1) := by decide +kernel
theorem dL_replay_9 : decode cL_replay 9 = .ok (.goto 9, 3) := by decide +kernel
theorem dL_replay_12 : decode cL_replay 12 = .ok (.astore_n 3, 1) := by decide +kernel
theorem dL_replay_13 : decode cL_replay 13 = .ok (.iconst 1, 1) := by decide +kernel
theorem dL_replay_14 : decode cL_replay 14 = .ok (.ireturn, 1) := by decide +kernel
theorem dL_replay_15 : decode cL_replay 15 = .ok (.astore_n 3, 1) := by decide +kernel
theorem dL_replay_16 : decode cL_replay 16 = .ok (.iconst 2, 1) := by decide +kernel
theorem dL_replay_17 : decode cL_replay 17 = .ok (.ireturn, 1) := by decide +kernel
theorem dL_replay_18 : decode cL_replay 18 = .ok (.iconst 0, 1) := by decide +kernel
theorem dL_replay_19 : decode cL_replay 19 = .ok (.ireturn, 1) := by decide +kernel
theorem dL_trimTo_0 : decode cL_trimTo 0 = .ok (.aload_n 2, 1) := by decide +kernel
theorem dL_trimTo_1 : decode cL_trimTo 1 = .ok (.iconst 0, 1) := by decide +kernel
theorem dL_trimTo_2 : decode cL_trimTo 2 = .ok (.aload_n 0, 1) := by decide +kernel
theorem dL_trimTo_3 : decode cL_trimTo 3 = .ok (.iload_n 1, 1) := by decide +kernel
theorem dL_trimTo_4 : decode cL_trimTo 4 = .ok (.invokevirtual 30, 3) := by decide +kernel
theorem dL_trimTo_7 : decode cL_trimTo 7 = .ok (.i2l, 1) := by decide +kernel
theorem dL_trimTo_8 : decode cL_trimTo 8 = .ok (.lastore, 1) := by decide +kernel
theorem dL_trimTo_9 : decode cL_trimTo 9 = .ok (.goto 6, 3) := by decide +kernel
theorem dL_trimTo_12 : decode cL_trimTo 12 = .ok (.astore_n 3, 1) := by decide +kernel
theorem dL_trimTo_13 : decode cL_trimTo 13 = .ok (.iconst 1, 1) := by decide +kernel
theorem dL_trimTo_14 : decode cL_trimTo 14 = .ok (.ireturn, 1) := by decide +kernel
theorem dL_trimTo_15 : decode cL_trimTo 15 = .ok (.iconst 0, 1) := by decide +kernel
theorem dL_trimTo_16 : decode cL_trimTo 16 = .ok (.ireturn, 1) := by decide +kernel
theorem dL_addShip_0 : decode cL_addShip 0 = .ok (.aload_n 3, 1) := by decide +kernel
theorem dL_addShip_1 : decode cL_addShip 1 = .ok (.iconst 0, 1) := by decide +kernel
theorem dL_addShip_2 : decode cL_addShip 2 = .ok (.aload_n 0, 1) := by decide +kernel
theorem dL_addShip_3 : decode cL_addShip 3 = .ok (.iload_n 1, 1) := by decide +kernel
theorem dL_addShip_4 : decode cL_addShip 4 = .ok (.iload_n 2, 1) := by decide +kernel
theorem dL_addShip_5 : decode cL_addShip 5 = .ok (.invokevirtual 33, 3) := by decide +kernel
theorem dL_addShip_8 : decode cL_addShip 8 = .ok (.i2l, 1) := by decide +kernel
theorem dL_addShip_9 : decode cL_addShip 9 = .ok (.lastore, 1) := by decide +kernel
theorem dL_addShip_10 : decode cL_addShip 10 = .ok (.goto 11, 3) := by decide +kernel
theorem dL_addShip_13 : decode cL_addShip 13 = .ok (.astore 4, 2) := by decide +kernel
theorem dL_addShip_15 : decode cL_addShip 15 = .ok (.iconst 1, 1) := by decide +kernel
theorem dL_addShip_16 : decode cL_addShip 16 = .ok (.ireturn, 1) := by decide +kernel
theorem dL_addShip_17 : decode cL_addShip 17 = .ok (.astore 4, 2) := by decide +kernel
theorem dL_addShip_19 : decode cL_addShip 19 = .ok (.iconst 2, 1) := by decide +kernel
theorem dL_addShip_20 : decode cL_addShip 20 = .ok (.ireturn, 1) := by decide +kernel
theorem dL_addShip_21 : decode cL_addShip 21 = .ok (.iconst 0, 1) := by decide +kernel
theorem dL_addShip_22 : decode cL_addShip 22 = .ok (.ireturn, 1) := by decide +kernel
theorem dL_seek_0 : decode cL_seek 0 = .ok (.aload_n 3, 1) := by decide +kernel
theorem dL_seek_1 : decode cL_seek 1 = .ok (.iconst 0, 1) := by decide +kernel
theorem dL_seek_2 : decode cL_seek 2 = .ok (.aload_n 0, 1) := by decide +kernel
theorem dL_seek_3 : decode cL_seek 3 = .ok (.iload_n 1, 1) := by decide +kernel
theorem dL_seek_4 : decode cL_seek 4 = .ok (.iload_n 2, 1) := by decide +kernel
theorem dL_seek_5 : decode cL_seek 5 = .ok (.invokevirtual 36, 3) := by decide +kernel
theorem dL_seek_8 : decode cL_seek 8 = .ok (.i2l, 1) := by decide +kernel
theorem dL_seek_9 : decode cL_seek 9 = .ok (.lastore, 1) := by decide +kernel
theorem dL_seek_10 : decode cL_seek 10 = .ok (.goto 11, 3) := by decide +kernel
theorem dL_seek_13 : decode cL_seek 13 = .ok (.astore 4, 2) := by decide +kernel
theorem dL_seek_15 : decode cL_seek 15 = .ok (.iconst 1, 1) := by decide +kernel
theorem dL_seek_16 : decode cL_seek 16 = .ok (.ireturn, 1) := by decide +kernel
theorem dL_seek_17 : decode cL_seek 17 = .ok (.astore 4, 2) := by decide +kernel
theorem dL_seek_19 : decode cL_seek 19 = .ok (.iconst 2, 1) := by decide +kernel
theorem dL_seek_20 : decode cL_seek 20 = .ok (.ireturn, 1) := by decide +kernel
theorem dL_seek_21 : decode cL_seek 21 = .ok (.iconst 0, 1) := by decide +kernel
theorem dL_seek_22 : decode cL_seek 22 = .ok (.ireturn, 1) := by decide +kernel
theorem dL_passHours_0 : decode cL_passHours 0 = .ok (.aload_n 2, 1) := by decide +kernel
theorem dL_passHours_1 : decode cL_passHours 1 = .ok (.iconst 0, 1) := by decide +kernel
theorem dL_passHours_2 : decode cL_passHours 2 = .ok (.aload_n 0, 1) := by decide +kernel
theorem dL_passHours_3 : decode cL_passHours 3 = .ok (.iload_n 1, 1) := by decide +kernel
theorem dL_passHours_4 : decode cL_passHours 4 = .ok (.invokevirtual 39, 3) := by decide +kernel
theorem dL_passHours_7 : decode cL_passHours 7 = .ok (.i2l, 1) := by decide +kernel
theorem dL_passHours_8 : decode cL_passHours 8 = .ok (.lastore, 1) := by decide +kernel
theorem dL_passHours_9 : decode cL_passHours 9 = .ok (.goto 6, 3) := by decide +kernel
theorem dL_passHours_12 : decode cL_passHours 12 = .ok (.astore_n 3, 1) := by decide +kernel
theorem dL_passHours_13 : decode cL_passHours 13 = .ok (.iconst 1, 1) := by decide +kernel
theorem dL_passHours_14 : decode cL_passHours 14 = .ok (.ireturn, 1) := by decide +kernel
theorem dL_passHours_15 : decode cL_passHours 15 = .ok (.iconst 0, 1) := by decide +kernel
theorem dL_passHours_16 : decode cL_passHours 16 = .ok (.ireturn, 1) := by decide +kernel
theorem dL_keyAt_0 : decode cL_keyAt 0 = .ok (.aload_n 2, 1) := by decide +kernel
theorem dL_keyAt_1 : decode cL_keyAt 1 = .ok (.iconst 0, 1) := by decide +kernel
theorem dL_keyAt_2 : decode cL_keyAt 2 = .ok (.aload_n 0, 1) := by decide +kernel
theorem dL_keyAt_3 : decode cL_keyAt 3 = .ok (.iload_n 1, 1) := by decide +kernel
theorem dL_keyAt_4 : decode cL_keyAt 4 = .ok (.invokevirtual 42, 3) := by decide +kernel
theorem dL_keyAt_7 : decode cL_keyAt 7 = .ok (.i2l, 1) := by decide +kernel
theorem dL_keyAt_8 : decode cL_keyAt 8 = .ok (.lastore, 1) := by decide +kernel
theorem dL_keyAt_9 : decode cL_keyAt 9 = .ok (.goto 6, 3) := by decide +kernel
theorem dL_keyAt_12 : decode cL_keyAt 12 = .ok (.astore_n 3, 1) := by decide +kernel
theorem dL_keyAt_13 : decode cL_keyAt 13 = .ok (.iconst 1, 1) := by decide +kernel
theorem dL_keyAt_14 : decode cL_keyAt 14 = .ok (.ireturn, 1) := by decide +kernel
theorem dL_keyAt_15 : decode cL_keyAt 15 = .ok (.iconst 0, 1) := by decide +kernel
theorem dL_keyAt_16 : decode cL_keyAt 16 = .ok (.ireturn, 1) := by decide +kernel
theorem dL_valueAt_0 : decode cL_valueAt 0 = .ok (.aload_n 2, 1) := by decide +kernel
theorem dL_valueAt_1 : decode cL_valueAt 1 = .ok (.iconst 0, 1) := by decide +kernel
theorem dL_valueAt_2 : decode cL_valueAt 2 = .ok (.aload_n 0, 1) := by decide +kernel
theorem dL_valueAt_3 : decode cL_valueAt 3 = .ok (.iload_n 1, 1) := by decide +kernel
theorem dL_valueAt_4 : decode cL_valueAt 4 = .ok (.invokevirtual 45, 3) := by decide +kernel
theorem dL_valueAt_7 : decode cL_valueAt 7 = .ok (.i2l, 1) := by decide +kernel
theorem dL_valueAt_8 : decode cL_valueAt 8 = .ok (.lastore, 1) := by decide +kernel
theorem dL_valueAt_9 : decode cL_valueAt 9 = .ok (.goto 6, 3) := by decide +kernel
theorem dL_valueAt_12 : decode cL_valueAt 12 = .ok (.astore_n 3, 1) := by decide +kernel
theorem dL_valueAt_13 : decode cL_valueAt 13 = .ok (.iconst 1, 1) := by decide +kernel
theorem dL_valueAt_14 : decode cL_valueAt 14 = .ok (.ireturn, 1) := by decide +kernel
theorem dL_valueAt_15 : decode cL_valueAt 15 = .ok (.iconst 0, 1) := by decide +kernel
theorem dL_valueAt_16 : decode cL_valueAt 16 = .ok (.ireturn, 1) := by decide +kernel
theorem dL_stormAt_0 : decode cL_stormAt 0 = .ok (.aload_n 2, 1) := by decide +kernel
theorem dL_stormAt_1 : decode cL_stormAt 1 = .ok (.iconst 0, 1) := by decide +kernel
theorem dL_stormAt_2 : decode cL_stormAt 2 = .ok (.aload_n 0, 1) := by decide +kernel
theorem dL_stormAt_3 : decode cL_stormAt 3 = .ok (.iload_n 1, 1) := by decide +kernel
theorem dL_stormAt_4 : decode cL_stormAt 4 = .ok (.invokevirtual 48, 3) := by decide +kernel
theorem dL_stormAt_7 : decode cL_stormAt 7 = .ok (.i2l, 1) := by decide +kernel
theorem dL_stormAt_8 : decode cL_stormAt 8 = .ok (.lastore, 1) := by decide +kernel
theorem dL_stormAt_9 : decode cL_stormAt 9 = .ok (.goto 6, 3) := by decide +kernel
theorem dL_stormAt_12 : decode cL_stormAt 12 = .ok (.astore_n 3, 1) := by decide +kernel
theorem dL_stormAt_13 : decode cL_stormAt 13 = .ok (.iconst 1, 1) := by decide +kernel
theorem dL_stormAt_14 : decode cL_stormAt 14 = .ok (.ireturn, 1) := by decide +kernel
theorem dL_stormAt_15 : decode cL_stormAt 15 = .ok (.iconst 0, 1) := by decide +kernel
theorem dL_stormAt_16 : decode cL_stormAt 16 = .ok (.ireturn, 1) := by decide +kernel
theorem dL_latestOf_0 : decode cL_latestOf 0 = .ok (.aload_n 2, 1) := by decide +kernel
theorem dL_latestOf_1 : decode cL_latestOf 1 = .ok (.iconst 0, 1) := by decide +kernel
theorem dL_latestOf_2 : decode cL_latestOf 2 = .ok (.aload_n 0, 1) := by decide +kernel
theorem dL_latestOf_3 : decode cL_latestOf 3 = .ok (.iload_n 1, 1) := by decide +kernel
theorem dL_latestOf_4 : decode cL_latestOf 4 = .ok (.invokevirtual 51, 3) := by decide +kernel
theorem dL_latestOf_7 : decode cL_latestOf 7 = .ok (.i2l, 1) := by decide +kernel
theorem dL_latestOf_8 : decode cL_latestOf 8 = .ok (.lastore, 1) := by decide +kernel
theorem dL_latestOf_9 : decode cL_latestOf 9 = .ok (.goto 6, 3) := by decide +kernel
theorem dL_latestOf_12 : decode cL_latestOf 12 = .ok (.astore_n 3, 1) := by decide +kernel
theorem dL_latestOf_13 : decode cL_latestOf 13 = .ok (.iconst 1, 1) := by decide +kernel
theorem dL_latestOf_14 : decode cL_latestOf 14 = .ok (.ireturn, 1) := by decide +kernel
theorem dL_latestOf_15 : decode cL_latestOf 15 = .ok (.iconst 0, 1) := by decide +kernel
theorem dL_latestOf_16 : decode cL_latestOf 16 = .ok (.ireturn, 1) := by decide +kernel
theorem dL_valueOf_0 : decode cL_valueOf 0 = .ok (.aload_n 2, 1) := by decide +kernel
theorem dL_valueOf_1 : decode cL_valueOf 1 = .ok (.iconst 0, 1) := by decide +kernel
theorem dL_valueOf_2 : decode cL_valueOf 2 = .ok (.aload_n 0, 1) := by decide +kernel
theorem dL_valueOf_3 : decode cL_valueOf 3 = .ok (.iload_n 1, 1) := by decide +kernel
theorem dL_valueOf_4 : decode cL_valueOf 4 = .ok (.invokevirtual 54, 3) := by decide +kernel
theorem dL_valueOf_7 : decode cL_valueOf 7 = .ok (.i2l, 1) := by decide +kernel
theorem dL_valueOf_8 : decode cL_valueOf 8 = .ok (.lastore, 1) := by decide +kernel
theorem dL_valueOf_9 : decode cL_valueOf 9 = .ok (.goto 6, 3) := by decide +kernel
theorem dL_valueOf_12 : decode cL_valueOf 12 = .ok (.astore_n 3, 1) := by decide +kernel
theorem dL_valueOf_13 : decode cL_valueOf 13 = .ok (.iconst 1, 1) := by decide +kernel
theorem dL_valueOf_14 : decode cL_valueOf 14 = .ok (.ireturn, 1) := by decide +kernel
theorem dL_valueOf_15 : decode cL_valueOf 15 = .ok (.iconst 0, 1) := by decide +kernel
theorem dL_valueOf_16 : decode cL_valueOf 16 = .ok (.ireturn, 1) := by decide +kernel
theorem dL_countOf_0 : decode cL_countOf 0 = .ok (.aload_n 2, 1) := by decide +kernel
theorem dL_countOf_1 : decode cL_countOf 1 = .ok (.iconst 0, 1) := by decide +kernel
theorem dL_countOf_2 : decode cL_countOf 2 = .ok (.aload_n 0, 1) := by decide +kernel
theorem dL_countOf_3 : decode cL_countOf 3 = .ok (.iload_n 1, 1) := by decide +kernel
theorem dL_countOf_4 : decode cL_countOf 4 = .ok (.invokevirtual 57, 3) := by decide +kernel
theorem dL_countOf_7 : decode cL_countOf 7 = .ok (.i2l, 1) := by decide +kernel
theorem dL_countOf_8 : decode cL_countOf 8 = .ok (.lastore, 1) := by decide +kernel
theorem dL_countOf_9 : decode cL_countOf 9 = .ok (.goto 6, 3) := by decide +kernel
theorem dL_countOf_12 : decode cL_countOf 12 = .ok (.astore_n 3, 1) := by decide +kernel
theorem dL_countOf_13 : decode cL_countOf 13 = .ok (.iconst 1, 1) := by decide +kernel
theorem dL_countOf_14 : decode cL_countOf 14 = .ok (.ireturn, 1) := by decide +kernel
theorem dL_countOf_15 : decode cL_countOf 15 = .ok (.iconst 0, 1) := by decide +kernel
theorem dL_countOf_16 : decode cL_countOf 16 = .ok (.ireturn, 1) := by decide +kernel
theorem dL_saidIn_0 : decode cL_saidIn 0 = .ok (.aload_n 2, 1) := by decide +kernel
theorem dL_saidIn_1 : decode cL_saidIn 1 = .ok (.iconst 0, 1) := by decide +kernel
theorem dL_saidIn_2 : decode cL_saidIn 2 = .ok (.aload_n 0, 1) := by decide +kernel
theorem dL_saidIn_3 : decode cL_saidIn 3 = .ok (.iload_n 1, 1) := by decide +kernel
theorem dL_saidIn_4 : decode cL_saidIn 4 = .ok (.invokevirtual 60, 3) := by decide +kernel
theorem dL_saidIn_7 : decode cL_saidIn 7 = .ok (.i2l, 1) := by decide +kernel
theorem dL_saidIn_8 : decode cL_saidIn 8 = .ok (.lastore, 1) := by decide +kernel
theorem dL_saidIn_9 : decode cL_saidIn 9 = .ok (.goto 6, 3) := by decide +kernel
theorem dL_saidIn_12 : decode cL_saidIn 12 = .ok (.astore_n 3, 1) := by decide +kernel
theorem dL_saidIn_13 : decode cL_saidIn 13 = .ok (.iconst 1, 1) := by decide +kernel
theorem dL_saidIn_14 : decode cL_saidIn 14 = .ok (.ireturn, 1) := by decide +kernel
theorem dL_saidIn_15 : decode cL_saidIn 15 = .ok (.iconst 0, 1) := by decide +kernel
theorem dL_saidIn_16 : decode cL_saidIn 16 = .ok (.ireturn, 1) := by decide +kernel
theorem dL_keptOf_0 : decode cL_keptOf 0 = .ok (.aload_n 2, 1) := by decide +kernel
theorem dL_keptOf_1 : decode cL_keptOf 1 = .ok (.iconst 0, 1) := by decide +kernel
theorem dL_keptOf_2 : decode cL_keptOf 2 = .ok (.aload_n 0, 1) := by decide +kernel
theorem dL_keptOf_3 : decode cL_keptOf 3 = .ok (.iload_n 1, 1) := by decide +kernel
theorem dL_keptOf_4 : decode cL_keptOf 4 = .ok (.invokevirtual 63, 3) := by decide +kernel
theorem dL_keptOf_7 : decode cL_keptOf 7 = .ok (.i2l, 1) := by decide +kernel
theorem dL_keptOf_8 : decode cL_keptOf 8 = .ok (.lastore, 1) := by decide +kernel
theorem dL_keptOf_9 : decode cL_keptOf 9 = .ok (.goto 6, 3) := by decide +kernel
theorem dL_keptOf_12 : decode cL_keptOf 12 = .ok (.astore_n 3, 1) := by decide +kernel
theorem dL_keptOf_13 : decode cL_keptOf 13 = .ok (.iconst 1, 1) := by decide +kernel
theorem dL_keptOf_14 : decode cL_keptOf 14 = .ok (.ireturn, 1) := by decide +kernel
theorem dL_keptOf_15 : decode cL_keptOf 15 = .ok (.iconst 0, 1) := by decide +kernel
theorem dL_keptOf_16 : decode cL_keptOf 16 = .ok (.ireturn, 1) := by decide +kernel
theorem dL_offsetOf_0 : decode cL_offsetOf 0 = .ok (.aload_n 2, 1) := by decide +kernel
theorem dL_offsetOf_1 : decode cL_offsetOf 1 = .ok (.iconst 0, 1) := by decide +kernel
theorem dL_offsetOf_2 : decode cL_offsetOf 2 = .ok (.aload_n 0, 1) := by decide +kernel
theorem dL_offsetOf_3 : decode cL_offsetOf 3 = .ok (.iload_n 1, 1) := by decide +kernel
theorem dL_offsetOf_4 : decode cL_offsetOf 4 = .ok (.invokevirtual 66, 3) := by decide +kernel
theorem dL_offsetOf_7 : decode cL_offsetOf 7 = .ok (.i2l, 1) := by decide +kernel
theorem dL_offsetOf_8 : decode cL_offsetOf 8 = .ok (.lastore, 1) := by decide +kernel
theorem dL_offsetOf_9 : decode cL_offsetOf 9 = .ok (.goto 6, 3) := by decide +kernel
theorem dL_offsetOf_12 : decode cL_offsetOf 12 = .ok (.astore_n 3, 1) := by decide +kernel
theorem dL_offsetOf_13 : decode cL_offsetOf 13 = .ok (.iconst 1, 1) := by decide +kernel
theorem dL_offsetOf_14 : decode cL_offsetOf 14 = .ok (.ireturn, 1) := by decide +kernel
theorem dL_offsetOf_15 : decode cL_offsetOf 15 = .ok (.iconst 0, 1) := by decide +kernel
theorem dL_offsetOf_16 : decode cL_offsetOf 16 = .ok (.ireturn, 1) := by decide +kernel
theorem dL_lagOf_0 : decode cL_lagOf 0 = .ok (.aload_n 2, 1) := by decide +kernel
theorem dL_lagOf_1 : decode cL_lagOf 1 = .ok (.iconst 0, 1) := by decide +kernel
theorem dL_lagOf_2 : decode cL_lagOf 2 = .ok (.aload_n 0, 1) := by decide +kernel
theorem dL_lagOf_3 : decode cL_lagOf 3 = .ok (.iload_n 1, 1) := by decide +kernel
theorem dL_lagOf_4 : decode cL_lagOf 4 = .ok (.invokevirtual 69, 3) := by decide +kernel
theorem dL_lagOf_7 : decode cL_lagOf 7 = .ok (.i2l, 1) := by decide +kernel
theorem dL_lagOf_8 : decode cL_lagOf 8 = .ok (.lastore, 1) := by decide +kernel
theorem dL_lagOf_9 : decode cL_lagOf 9 = .ok (.goto 6, 3) := by decide +kernel
theorem dL_lagOf_12 : decode cL_lagOf 12 = .ok (.astore_n 3, 1) := by decide +kernel
theorem dL_lagOf_13 : decode cL_lagOf 13 = .ok (.iconst 1, 1) := by decide +kernel
theorem dL_lagOf_14 : decode cL_lagOf 14 = .ok (.ireturn, 1) := by decide +kernel
theorem dL_lagOf_15 : decode cL_lagOf 15 = .ok (.iconst 0, 1) := by decide +kernel
theorem dL_lagOf_16 : decode cL_lagOf 16 = .ok (.ireturn, 1) := by decide +kernel
theorem dL_heardBy_0 : decode cL_heardBy 0 = .ok (.aload_n 2, 1) := by decide +kernel
theorem dL_heardBy_1 : decode cL_heardBy 1 = .ok (.iconst 0, 1) := by decide +kernel
theorem dL_heardBy_2 : decode cL_heardBy 2 = .ok (.aload_n 0, 1) := by decide +kernel
theorem dL_heardBy_3 : decode cL_heardBy 3 = .ok (.iload_n 1, 1) := by decide +kernel
theorem dL_heardBy_4 : decode cL_heardBy 4 = .ok (.invokevirtual 72, 3) := by decide +kernel
theorem dL_heardBy_7 : decode cL_heardBy 7 = .ok (.i2l, 1) := by decide +kernel
theorem dL_heardBy_8 : decode cL_heardBy 8 = .ok (.lastore, 1) := by decide +kernel
theorem dL_heardBy_9 : decode cL_heardBy 9 = .ok (.goto 6, 3) := by decide +kernel
theorem dL_heardBy_12 : decode cL_heardBy 12 = .ok (.astore_n 3, 1) := by decide +kernel
theorem dL_heardBy_13 : decode cL_heardBy 13 = .ok (.iconst 1, 1) := by decide +kernel
theorem dL_heardBy_14 : decode cL_heardBy 14 = .ok (.ireturn, 1) := by decide +kernel
theorem dL_heardBy_15 : decode cL_heardBy 15 = .ok (.iconst 0, 1) := by decide +kernel
theorem dL_heardBy_16 : decode cL_heardBy 16 = .ok (.ireturn, 1) := by decide +kernel
theorem dL_missedBy_0 : decode cL_missedBy 0 = .ok (.aload_n 2, 1) := by decide +kernel
theorem dL_missedBy_1 : decode cL_missedBy 1 = .ok (.iconst 0, 1) := by decide +kernel
theorem dL_missedBy_2 : decode cL_missedBy 2 = .ok (.aload_n 0, 1) := by decide +kernel
theorem dL_missedBy_3 : decode cL_missedBy 3 = .ok (.iload_n 1, 1) := by decide +kernel
theorem dL_missedBy_4 : decode cL_missedBy 4 = .ok (.invokevirtual 75, 3) := by decide +kernel
theorem dL_missedBy_7 : decode cL_missedBy 7 = .ok (.i2l, 1) := by decide +kernel
theorem dL_missedBy_8 : decode cL_missedBy 8 = .ok (.lastore, 1) := by decide +kernel
theorem dL_missedBy_9 : decode cL_missedBy 9 = .ok (.goto 6, 3) := by decide +kernel
theorem dL_missedBy_12 : decode cL_missedBy 12 = .ok (.astore_n 3, 1) := by decide +kernel
theorem dL_missedBy_13 : decode cL_missedBy 13 = .ok (.iconst 1, 1) := by decide +kernel
theorem dL_missedBy_14 : decode cL_missedBy 14 = .ok (.ireturn, 1) := by decide +kernel
theorem dL_missedBy_15 : decode cL_missedBy 15 = .ok (.iconst 0, 1) := by decide +kernel
theorem dL_missedBy_16 : decode cL_missedBy 16 = .ok (.ireturn, 1) := by decide +kernel
theorem dL_knownBy_0 : decode cL_knownBy 0 = .ok (.aload_n 3, 1) := by decide +kernel
theorem dL_knownBy_1 : decode cL_knownBy 1 = .ok (.iconst 0, 1) := by decide +kernel
theorem dL_knownBy_2 : decode cL_knownBy 2 = .ok (.aload_n 0, 1) := by decide +kernel
theorem dL_knownBy_3 : decode cL_knownBy 3 = .ok (.iload_n 1, 1) := by decide +kernel
theorem dL_knownBy_4 : decode cL_knownBy 4 = .ok (.iload_n 2, 1) := by decide +kernel
theorem dL_knownBy_5 : decode cL_knownBy 5 = .ok (.invokevirtual 78, 3) := by decide +kernel
theorem dL_knownBy_8 : decode cL_knownBy 8 = .ok (.i2l, 1) := by decide +kernel
theorem dL_knownBy_9 : decode cL_knownBy 9 = .ok (.lastore, 1) := by decide +kernel
theorem dL_knownBy_10 : decode cL_knownBy 10 = .ok (.goto 7, 3) := by decide +kernel
theorem dL_knownBy_13 : decode cL_knownBy 13 = .ok (.astore 4, 2) := by decide +kernel
theorem dL_knownBy_15 : decode cL_knownBy 15 = .ok (.iconst 1, 1) := by decide +kernel
theorem dL_knownBy_16 : decode cL_knownBy 16 = .ok (.ireturn, 1) := by decide +kernel
theorem dL_knownBy_17 : decode cL_knownBy 17 = .ok (.iconst 0, 1) := by decide +kernel
theorem dL_knownBy_18 : decode cL_knownBy 18 = .ok (.ireturn, 1) := by decide +kernel
theorem dL_errorsOf_0 : decode cL_errorsOf 0 = .ok (.aload_n 2, 1) := by decide +kernel
theorem dL_errorsOf_1 : decode cL_errorsOf 1 = .ok (.iconst 0, 1) := by decide +kernel
theorem dL_errorsOf_2 : decode cL_errorsOf 2 = .ok (.aload_n 0, 1) := by decide +kernel
theorem dL_errorsOf_3 : decode cL_errorsOf 3 = .ok (.iload_n 1, 1) := by decide +kernel
theorem dL_errorsOf_4 : decode cL_errorsOf 4 = .ok (.invokevirtual 81, 3) := by decide +kernel
theorem dL_errorsOf_7 : decode cL_errorsOf 7 = .ok (.i2l, 1) := by decide +kernel
theorem dL_errorsOf_8 : decode cL_errorsOf 8 = .ok (.lastore, 1) := by decide +kernel
theorem dL_errorsOf_9 : decode cL_errorsOf 9 = .ok (.goto 6, 3) := by decide +kernel
theorem dL_errorsOf_12 : decode cL_errorsOf 12 = .ok (.astore_n 3, 1) := by decide +kernel
theorem dL_errorsOf_13 : decode cL_errorsOf 13 = .ok (.iconst 1, 1) := by decide +kernel
theorem dL_errorsOf_14 : decode cL_errorsOf 14 = .ok (.ireturn, 1) := by decide +kernel
theorem dL_errorsOf_15 : decode cL_errorsOf 15 = .ok (.iconst 0, 1) := by decide +kernel
theorem dL_errorsOf_16 : decode cL_errorsOf 16 = .ok (.ireturn, 1) := by decide +kernel
theorem dL_hoursUntilCaughtUp_0 : decode cL_hoursUntilCaughtUp 0 = .ok (.aload_n 2, 1) := by decide +kernel
theorem dL_hoursUntilCaughtUp_1 : decode cL_hoursUntilCaughtUp 1 = .ok (.iconst 0, 1) := by decide +kernel
theorem dL_hoursUntilCaughtUp_2 : decode cL_hoursUntilCaughtUp 2 = .ok (.aload_n 0, 1) := by decide +kernel
theorem dL_hoursUntilCaughtUp_3 : decode cL_hoursUntilCaughtUp 3 = .ok (.iload_n 1, 1) := by decide +kernel
theorem dL_hoursUntilCaughtUp_4 : decode cL_hoursUntilCaughtUp 4 = .ok (.invokevirtual 84, 3) := by decide +kernel
theorem dL_hoursUntilCaughtUp_7 : decode cL_hoursUntilCaughtUp 7 = .ok (.i2l, 1) := by decide +kernel
theorem dL_hoursUntilCaughtUp_8 : decode cL_hoursUntilCaughtUp 8 = .ok (.lastore, 1) := by decide +kernel
theorem dL_hoursUntilCaughtUp_9 : decode cL_hoursUntilCaughtUp 9 = .ok (.goto 6, 3) := by decide +kernel
theorem dL_hoursUntilCaughtUp_12 : decode cL_hoursUntilCaughtUp 12 = .ok (.astore_n 3, 1) := by decide +kernel
theorem dL_hoursUntilCaughtUp_13 : decode cL_hoursUntilCaughtUp 13 = .ok (.iconst 1, 1) := by decide +kernel
theorem dL_hoursUntilCaughtUp_14 : decode cL_hoursUntilCaughtUp 14 = .ok (.ireturn, 1) := by decide +kernel
theorem dL_hoursUntilCaughtUp_15 : decode cL_hoursUntilCaughtUp 15 = .ok (.iconst 0, 1) := by decide +kernel
theorem dL_hoursUntilCaughtUp_16 : decode cL_hoursUntilCaughtUp 16 = .ok (.ireturn, 1) := by decide +kernel
theorem dL_errorsIn_0 : decode cL_errorsIn 0 = .ok (.aload_n 3, 1) := by decide +kernel
theorem dL_errorsIn_1 : decode cL_errorsIn 1 = .ok (.iconst 0, 1) := by decide +kernel
theorem dL_errorsIn_2 : decode cL_errorsIn 2 = .ok (.aload_n 0, 1) := by decide +kernel
theorem dL_errorsIn_3 : decode cL_errorsIn 3 = .ok (.iload_n 1, 1) := by decide +kernel
theorem dL_errorsIn_4 : decode cL_errorsIn 4 = .ok (.iload_n 2, 1) := by decide +kernel
theorem dL_errorsIn_5 : decode cL_errorsIn 5 = .ok (.invokevirtual 87, 3) := by decide +kernel
theorem dL_errorsIn_8 : decode cL_errorsIn 8 = .ok (.i2l, 1) := by decide +kernel
theorem dL_errorsIn_9 : decode cL_errorsIn 9 = .ok (.lastore, 1) := by decide +kernel
theorem dL_errorsIn_10 : decode cL_errorsIn 10 = .ok (.goto 11, 3) := by decide +kernel
theorem dL_errorsIn_13 : decode cL_errorsIn 13 = .ok (.astore 4, 2) := by decide +kernel
theorem dL_errorsIn_15 : decode cL_errorsIn 15 = .ok (.iconst 1, 1) := by decide +kernel
theorem dL_errorsIn_16 : decode cL_errorsIn 16 = .ok (.ireturn, 1) := by decide +kernel
theorem dL_errorsIn_17 : decode cL_errorsIn 17 = .ok (.astore 4, 2) := by decide +kernel
theorem dL_errorsIn_19 : decode cL_errorsIn 19 = .ok (.iconst 2, 1) := by decide +kernel
theorem dL_errorsIn_20 : decode cL_errorsIn 20 = .ok (.ireturn, 1) := by decide +kernel
theorem dL_errorsIn_21 : decode cL_errorsIn 21 = .ok (.iconst 0, 1) := by decide +kernel
theorem dL_errorsIn_22 : decode cL_errorsIn 22 = .ok (.ireturn, 1) := by decide +kernel
theorem dL_paceWanted_0 : decode cL_paceWanted 0 = .ok (.aload_n 3, 1) := by decide +kernel
theorem dL_paceWanted_1 : decode cL_paceWanted 1 = .ok (.iconst 0, 1) := by decide +kernel
theorem dL_paceWanted_2 : decode cL_paceWanted 2 = .ok (.aload_n 0, 1) := by decide +kernel
theorem dL_paceWanted_3 : decode cL_paceWanted 3 = .ok (.iload_n 1, 1) := by decide +kernel
theorem dL_paceWanted_4 : decode cL_paceWanted 4 = .ok (.iload_n 2, 1) := by decide +kernel
theorem dL_paceWanted_5 : decode cL_paceWanted 5 = .ok (.invokevirtual 90, 3) := by decide +kernel
theorem dL_paceWanted_8 : decode cL_paceWanted 8 = .ok (.i2l, 1) := by decide +kernel
theorem dL_paceWanted_9 : decode cL_paceWanted 9 = .ok (.lastore, 1) := by decide +kernel
theorem dL_paceWanted_10 : decode cL_paceWanted 10 = .ok (.goto 11, 3) := by decide +kernel
theorem dL_paceWanted_13 : decode cL_paceWanted 13 = .ok (.astore 4, 2) := by decide +kernel
theorem dL_paceWanted_15 : decode cL_paceWanted 15 = .ok (.iconst 1, 1) := by decide +kernel
theorem dL_paceWanted_16 : decode cL_paceWanted 16 = .ok (.ireturn, 1) := by decide +kernel
theorem dL_paceWanted_17 : decode cL_paceWanted 17 = .ok (.astore 4, 2) := by decide +kernel
theorem dL_paceWanted_19 : decode cL_paceWanted 19 = .ok (.iconst 2, 1) := by decide +kernel
theorem dL_paceWanted_20 : decode cL_paceWanted 20 = .ok (.ireturn, 1) := by decide +kernel
theorem dL_paceWanted_21 : decode cL_paceWanted 21 = .ok (.iconst 0, 1) := by decide +kernel
theorem dL_paceWanted_22 : decode cL_paceWanted 22 = .ok (.ireturn, 1) := by decide +kernel
theorem dL_wouldMiss_0 : decode cL_wouldMiss 0 = .ok (.aload_n 2, 1) := by decide +kernel
theorem dL_wouldMiss_1 : decode cL_wouldMiss 1 = .ok (.iconst 0, 1) := by decide +kernel
theorem dL_wouldMiss_2 : decode cL_wouldMiss 2 = .ok (.aload_n 0, 1) := by decide +kernel
theorem dL_wouldMiss_3 : decode cL_wouldMiss 3 = .ok (.iload_n 1, 1) := by decide +kernel
theorem dL_wouldMiss_4 : decode cL_wouldMiss 4 = .ok (.invokevirtual 93, 3) := by decide +kernel
theorem dL_wouldMiss_7 : decode cL_wouldMiss 7 = .ok (.i2l, 1) := by decide +kernel
theorem dL_wouldMiss_8 : decode cL_wouldMiss 8 = .ok (.lastore, 1) := by decide +kernel
theorem dL_wouldMiss_9 : decode cL_wouldMiss 9 = .ok (.goto 6, 3) := by decide +kernel
theorem dL_wouldMiss_12 : decode cL_wouldMiss 12 = .ok (.astore_n 3, 1) := by decide +kernel
theorem dL_wouldMiss_13 : decode cL_wouldMiss 13 = .ok (.iconst 1, 1) := by decide +kernel
theorem dL_wouldMiss_14 : decode cL_wouldMiss 14 = .ok (.ireturn, 1) := by decide +kernel
theorem dL_wouldMiss_15 : decode cL_wouldMiss 15 = .ok (.iconst 0, 1) := by decide +kernel
theorem dL_wouldMiss_16 : decode cL_wouldMiss 16 = .ok (.ireturn, 1) := by decide +kernel
