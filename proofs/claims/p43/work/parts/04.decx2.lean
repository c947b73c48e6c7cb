set_option maxRecDepth 20000 in
theorem ggX2_init_X0_init : GoodIn wsX2_init wsX0_init := goodIn_r _ [17, 18, 2, 3, 8, 19, 20, 21, 22, 23, 24, 29, 30, 31, 32, 33, 34, 35, 36] (by decide +kernel) (by decide +kernel)
set_option maxRecDepth 20000 in
theorem gX2_init_X0_init_n9 : GoodIn wsX2_init (wsX0_init) := ggX2_init_X0_init
set_option maxRecDepth 20000 in
theorem ggX2_init_X1_init : GoodIn wsX2_init wsX1_init := goodIn_r _ [26, 27, 2, 3, 8, 28, 46, 47, 48, 49, 50] (by decide +kernel) (by decide +kernel)
set_option maxRecDepth 20000 in
theorem gX2_init_X1_init_n26 : GoodIn wsX2_init (wsX1_init) := ggX2_init_X1_init
theorem dX2_init_0 : decode cX2_init 0 = .ok (.aload_n 0, 1) := by decide +kernel
theorem dX2_init_1 : decode cX2_init 1 = .ok (.invokespecial 1, 3) := by decide +kernel
theorem dX2_init_4 : decode cX2_init 4 = .ok (.aload_n 0, 1) := by decide +kernel
theorem dX2_init_5 : decode cX2_init 5 = .ok (.new 7, 3) := by decide +kernel
theorem dX2_init_8 : decode cX2_init 8 = .ok (.dup, 1) := by decide +kernel
theorem dX2_init_9 : decode cX2_init 9 = .ok (.invokespecial 9, 3) := by decide +kernel
theorem dX2_init_12 : decode cX2_init 12 = .ok (.putfield 10, 3) := by decide +kernel
theorem dX2_init_15 : decode cX2_init 15 = .ok (.aload_n 0, 1) := by decide +kernel
theorem dX2_init_16 : decode cX2_init 16 = .ok (.bipush 8, 2) := by decide +kernel
theorem dX2_init_18 : decode cX2_init 18 = .ok (.newarray .int, 2) := by decide +kernel
theorem dX2_init_20 : decode cX2_init 20 = .ok (.putfield 16, 3) := by decide +kernel
theorem dX2_init_23 : decode cX2_init 23 = .ok (.aload_n 0, 1) := by decide +kernel
theorem dX2_init_24 : decode cX2_init 24 = .ok (.bipush 6, 2) := by decide +kernel
theorem dX2_init_26 : decode cX2_init 26 = .ok (.anewarray 20, 3) := by decide +kernel
theorem dX2_init_29 : decode cX2_init 29 = .ok (.putfield 22, 3) := by decide +kernel
theorem dX2_init_32 : decode cX2_init 32 = .ok (.iconst 0, 1) := by decide +kernel
theorem dX2_init_33 : decode cX2_init 33 = .ok (.istore_n 1, 1) := by decide +kernel
theorem dX2_init_34 : decode cX2_init 34 = .ok (.iload_n 1, 1) := by decide +kernel
theorem dX2_init_35 : decode cX2_init 35 = .ok (.bipush 6, 2) := by decide +kernel
theorem dX2_init_37 : decode cX2_init 37 = .ok (.if_icmp .ge 22, 3) := by decide +kernel
theorem dX2_init_40 : decode cX2_init 40 = .ok (.aload_n 0, 1) := by decide +kernel
theorem dX2_init_41 : decode cX2_init 41 = .ok (.getfield 22, 3) := by decide +kernel
theorem dX2_init_44 : decode cX2_init 44 = .ok (.iload_n 1, 1) := by decide +kernel
theorem dX2_init_45 : decode cX2_init 45 = .ok (.new 20, 3) := by decide +kernel
theorem dX2_init_48 : decode cX2_init 48 = .ok (.dup, 1) := by decide +kernel
theorem dX2_init_49 : decode cX2_init 49 = .ok (.invokespecial 26, 3) := by decide +kernel
theorem dX2_init_52 : decode cX2_init 52 = .ok (.aastore, 1) := by decide +kernel
theorem dX2_init_53 : decode cX2_init 53 = .ok (.iinc 1 1, 3) := by decide +kernel
theorem dX2_init_56 : decode cX2_init 56 = .ok (.goto (-22), 3) := by decide +kernel
theorem dX2_init_59 : decode cX2_init 59 = .ok (.aload_n 0, 1) := by decide +kernel
theorem dX2_init_60 : decode cX2_init 60 = .ok (.bipush 48, 2) := by decide +kernel
theorem dX2_init_62 : decode cX2_init 62 = .ok (.newarray .int, 2) := by decide +kernel
theorem dX2_init_64 : decode cX2_init 64 = .ok (.putfield 27, 3) := by decide +kernel
theorem dX2_init_67 : decode cX2_init 67 = .ok (.aload_n 0, 1) := by decide +kernel
theorem dX2_init_68 : decode cX2_init 68 = .ok (.bipush 48, 2) := by decide +kernel
theorem dX2_init_70 : decode cX2_init 70 = .ok (.newarray .int, 2) := by decide +kernel
theorem dX2_init_72 : decode cX2_init 72 = .ok (.putfield 30, 3) := by decide +kernel
theorem dX2_init_75 : decode cX2_init 75 = .ok (.return_, 1) := by decide +kernel
set_option maxRecDepth 20000 in
theorem ggX2_say_X2_isKey : GoodIn wsX2_say wsX2_isKey := goodIn_r _ [6] (by decide +kernel) (by decide +kernel)
set_option maxRecDepth 20000 in
theorem gX2_say_X2_isKey : GoodIn wsX2_say (va_wsS RX2 33 yX2_isKey wsX2_isKey) := goodIn_app (goodIn_of _ (by decide +kernel)) ggX2_say_X2_isKey
set_option maxRecDepth 20000 in
theorem ggX2_say_X2_speak : GoodIn wsX2_say wsX2_speak := goodIn_r _ [10, 11, 12, 13, 14, 15, 16, 17, 18, 19, 20, 21, 22, 23, 5, 24, 25, 26, 27, 28, 29, 30, 31, 32, 33, 34, 35, 36, 37, 38, 39, 40, 41, 42, 43, 44, 45, 46, 47, 48, 49, 50, 51, 52, 53, 54, 55, 56, 57, 58, 59, 60, 61, 62, 63, 64, 65, 66, 67] (by decide +kernel) (by decide +kernel)
set_option maxRecDepth 20000 in
theorem gX2_say_X2_speak : GoodIn wsX2_say (wsV RX2 46 RX2 yX2_speak wsX2_speak) := goodIn_app (goodIn_of _ (by decide +kernel)) ggX2_say_X2_speak
theorem dX2_say_0 : decode cX2_say 0 = .ok (.iload_n 1, 1) := by decide +kernel
theorem dX2_say_1 : decode cX2_say 1 = .ok (.invokestatic 33, 3) := by decide +kernel
theorem dX2_say_4 : decode cX2_say 4 = .ok (.ifCond .ne 13, 3) := by decide +kernel
theorem dX2_say_7 : decode cX2_say 7 = .ok (.new 37, 3) := by decide +kernel
theorem dX2_say_10 : decode cX2_say 10 = .ok (.dup, 1) := by decide +kernel
theorem dX2_say_11 : decode cX2_say 11 = .ok (.ldc 39, 2) := by decide +kernel
theorem dX2_say_13 : decode cX2_say 13 = .ok (.invokespecial 41, 3) := by decide +kernel
theorem dX2_say_16 : decode cX2_say 16 = .ok (.athrow, 1) := by decide +kernel
theorem dX2_say_17 : decode cX2_say 17 = .ok (.iload_n 2, 1) := by decide +kernel
theorem dX2_say_18 : decode cX2_say 18 = .ok (.sipush (-999), 3) := by decide +kernel
theorem dX2_say_21 : decode cX2_say 21 = .ok (.if_icmp .lt 10, 3) := by decide +kernel
theorem dX2_say_24 : decode cX2_say 24 = .ok (.iload_n 2, 1) := by decide +kernel
theorem dX2_say_25 : decode cX2_say 25 = .ok (.sipush 999, 3) := by decide +kernel
theorem dX2_say_28 : decode cX2_say 28 = .ok (.if_icmp .le 13, 3) := by decide +kernel
theorem dX2_say_31 : decode cX2_say 31 = .ok (.new 37, 3) := by decide +kernel
theorem dX2_say_34 : decode cX2_say 34 = .ok (.dup, 1) := by decide +kernel
theorem dX2_say_35 : decode cX2_say 35 = .ok (.ldc 44, 2) := by decide +kernel
theorem dX2_say_37 : decode cX2_say 37 = .ok (.invokespecial 41, 3) := by decide +kernel
theorem dX2_say_40 : decode cX2_say 40 = .ok (.athrow, 1) := by decide +kernel
theorem dX2_say_41 : decode cX2_say 41 = .ok (.aload_n 0, 1) := by decide +kernel
theorem dX2_say_42 : decode cX2_say 42 = .ok (.iload_n 1, 1) := by decide +kernel
theorem dX2_say_43 : decode cX2_say 43 = .ok (.iload_n 2, 1) := by decide +kernel
theorem dX2_say_44 : decode cX2_say 44 = .ok (.invokevirtual 46, 3) := by decide +kernel
theorem dX2_say_47 : decode cX2_say 47 = .ok (.ireturn, 1) := by decide +kernel
theorem dX2_startStorm_0 : decode cX2_startStorm 0 = .ok (.aload_n 0, 1) := by decide +kernel
theorem dX2_startStorm_1 : decode cX2_startStorm 1 = .ok (.getfield 50, 3) := by decide +kernel
theorem dX2_startStorm_4 : decode cX2_startStorm 4 = .ok (.ifCond .eq 13, 3) := by decide +kernel
theorem dX2_startStorm_7 : decode cX2_startStorm 7 = .ok (.new 54, 3) := by decide +kernel
theorem dX2_startStorm_10 : decode cX2_startStorm 10 = .ok (.dup, 1) := by decide +kernel
theorem dX2_startStorm_11 : decode cX2_startStorm 11 = .ok (.ldc 56, 2) := by decide +kernel
theorem dX2_startStorm_13 : decode cX2_startStorm 13 = .ok (.invokespecial 58, 3) := by decide +kernel
theorem dX2_startStorm_16 : decode cX2_startStorm 16 = .ok (.athrow, 1) := by decide +kernel
theorem dX2_startStorm_17 : decode cX2_startStorm 17 = .ok (.aload_n 0, 1) := by decide +kernel
theorem dX2_startStorm_18 : decode cX2_startStorm 18 = .ok (.getfield 59, 3) := by decide +kernel
theorem dX2_startStorm_21 : decode cX2_startStorm 21 = .ok (.bipush 8, 2) := by decide +kernel
theorem dX2_startStorm_23 : decode cX2_startStorm 23 = .ok (.if_icmp .lt 13, 3) := by decide +kernel
theorem dX2_startStorm_26 : decode cX2_startStorm 26 = .ok (.new 54, 3) := by decide +kernel
theorem dX2_startStorm_29 : decode cX2_startStorm 29 = .ok (.dup, 1) := by decide +kernel
theorem dX2_startStorm_30 : decode cX2_startStorm 30 = .ok (.ldc 63, 2) := by decide +kernel
theorem dX2_startStorm_32 : decode cX2_startStorm 32 = .ok (.invokespecial 58, 3) := by decide +kernel
theorem dX2_startStorm_35 : decode cX2_startStorm 35 = .ok (.athrow, 1) := by decide +kernel
theorem dX2_startStorm_36 : decode cX2_startStorm 36 = .ok (.aload_n 0, 1) := by decide +kernel
theorem dX2_startStorm_37 : decode cX2_startStorm 37 = .ok (.iconst 1, 1) := by decide +kernel
theorem dX2_startStorm_38 : decode cX2_startStorm 38 = .ok (.putfield 50, 3) := by decide +kernel
theorem dX2_startStorm_41 : decode cX2_startStorm 41 = .ok (.aload_n 0, 1) := by decide +kernel
theorem dX2_startStorm_42 : decode cX2_startStorm 42 = .ok (.dup, 1) := by decide +kernel
theorem dX2_startStorm_43 : decode cX2_startStorm 43 = .ok (.getfield 59, 3) := by decide +kernel
theorem dX2_startStorm_46 : decode cX2_startStorm 46 = .ok (.iconst 1, 1) := by decide +kernel
theorem dX2_startStorm_47 : decode cX2_startStorm 47 = .ok (.iadd, 1) := by decide +kernel
theorem dX2_startStorm_48 : decode cX2_startStorm 48 = .ok (.putfield 59, 3) := by decide +kernel
theorem dX2_startStorm_51 : decode cX2_startStorm 51 = .ok (.aload_n 0, 1) := by decide +kernel
theorem dX2_startStorm_52 : decode cX2_startStorm 52 = .ok (.getfield 59, 3) := by decide +kernel
theorem dX2_startStorm_55 : decode cX2_startStorm 55 = .ok (.iconst 1, 1) := by decide +kernel
theorem dX2_startStorm_56 : decode cX2_startStorm 56 = .ok (.isub, 1) := by decide +kernel
theorem dX2_startStorm_57 : decode cX2_startStorm 57 = .ok (.ireturn, 1) := by decide +kernel
theorem dX2_endStorm_0 : decode cX2_endStorm 0 = .ok (.aload_n 0, 1) := by decide +kernel
theorem dX2_endStorm_1 : decode cX2_endStorm 1 = .ok (.getfield 50, 3) := by decide +kernel
theorem dX2_endStorm_4 : decode cX2_endStorm 4 = .ok (.ifCond .ne 13, 3) := by decide +kernel
theorem dX2_endStorm_7 : decode cX2_endStorm 7 = .ok (.new 54, 3) := by decide +kernel
theorem dX2_endStorm_10 : decode cX2_endStorm 10 = .ok (.dup, 1) := by decide +kernel
theorem dX2_endStorm_11 : decode cX2_endStorm 11 = .ok (.ldc 65, 2) := by decide +kernel
theorem dX2_endStorm_13 : decode cX2_endStorm 13 = .ok (.invokespecial 58, 3) := by decide +kernel
theorem dX2_endStorm_16 : decode cX2_endStorm 16 = .ok (.athrow, 1) := by decide +kernel
theorem dX2_endStorm_17 : decode cX2_endStorm 17 = .ok (.aload_n 0, 1) := by decide +kernel
theorem dX2_endStorm_18 : decode cX2_endStorm 18 = .ok (.iconst 0, 1) := by decide +kernel
theorem dX2_endStorm_19 : decode cX2_endStorm 19 = .ok (.putfield 50, 3) := by decide +kernel
theorem dX2_endStorm_22 : decode cX2_endStorm 22 = .ok (.aload_n 0, 1) := by decide +kernel
theorem dX2_endStorm_23 : decode cX2_endStorm 23 = .ok (.getfield 16, 3) := by decide +kernel
theorem dX2_endStorm_26 : decode cX2_endStorm 26 = .ok (.aload_n 0, 1) := by decide +kernel
theorem dX2_endStorm_27 : decode cX2_endStorm 27 = .ok (.getfield 59, 3) := by decide +kernel
theorem dX2_endStorm_30 : decode cX2_endStorm 30 = .ok (.iconst 1, 1) := by decide +kernel
theorem dX2_endStorm_31 : decode cX2_endStorm 31 = .ok (.isub, 1) := by decide +kernel
theorem dX2_endStorm_32 : decode cX2_endStorm 32 = .ok (.iaload, 1) := by decide +kernel
theorem dX2_endStorm_33 : decode cX2_endStorm 33 = .ok (.ireturn, 1) := by decide +kernel
set_option maxRecDepth 20000 in
theorem ggX2_replay_X2_checkStorm : GoodIn wsX2_replay wsX2_checkStorm := goodIn_ca (goodIn_r _ [11, 12, 13, 14, 54, 55, 56, 57, 58, 59, 60, 61, 62] (by decide +kernel) (by decide +kernel)) (goodIn_sub (fun _ h => List.mem_cons_of_mem _ (List.mem_append_right _ h)) (by decide +kernel))
set_option maxRecDepth 20000 in
theorem gX2_replay_X2_checkStorm : GoodIn wsX2_replay (wsV RX2 67 RX2 yX2_checkStorm wsX2_checkStorm) := goodIn_app (goodIn_of _ (by decide +kernel)) ggX2_replay_X2_checkStorm
set_option maxRecDepth 20000 in
theorem ggX2_replay_X0_copyStorm : GoodIn wsX2_replay wsX0_copyStorm := goodIn_r _ [18, 19, 20, 21, 22, 63, 64, 65, 66, 67, 68, 69, 70] (by decide +kernel) (by decide +kernel)
set_option maxRecDepth 20000 in
theorem gX2_replay_X0_copyStorm_n71 : GoodIn wsX2_replay (wsX0_copyStorm) := ggX2_replay_X0_copyStorm
set_option maxRecDepth 20000 in
theorem ggX2_replay_X2_speak : GoodIn wsX2_replay wsX2_speak := goodIn_r _ [26, 4, 3, 14, 27, 28, 16, 29, 30, 19, 31, 32, 33, 34, 10, 35, 36, 37, 38, 39, 40, 41, 42, 43, 44, 45, 46, 47, 48, 21, 22, 20, 49, 50, 51, 52, 53, 54, 55, 56, 57, 58, 59, 60, 61, 62, 63, 64, 65, 66, 67, 68, 69, 70, 71, 72, 73, 74, 75] (by decide +kernel) (by decide +kernel)
set_option maxRecDepth 20000 in
theorem gX2_replay_X2_speak : GoodIn wsX2_replay (wsV RX2 46 RX2 yX2_speak wsX2_speak) := goodIn_app (goodIn_of _ (by decide +kernel)) ggX2_replay_X2_speak
theorem dX2_replay_0 : decode cX2_replay 0 = .ok (.aload_n 0, 1) := by decide +kernel
theorem dX2_replay_1 : decode cX2_replay 1 = .ok (.iload_n 1, 1) := by decide +kernel
theorem dX2_replay_2 : decode cX2_replay 2 = .ok (.invokevirtual 67, 3) := by decide +kernel
theorem dX2_replay_5 : decode cX2_replay 5 = .ok (.aload_n 0, 1) := by decide +kernel
theorem dX2_replay_6 : decode cX2_replay 6 = .ok (.getfield 50, 3) := by decide +kernel
theorem dX2_replay_9 : decode cX2_replay 9 = .ok (.ifCond .eq 13, 3) := by decide +kernel
theorem dX2_replay_12 : decode cX2_replay 12 = .ok (.new 54, 3) := by decide +kernel
theorem dX2_replay_15 : decode cX2_replay 15 = .ok (.dup, 1) := by decide +kernel
theorem dX2_replay_16 : decode cX2_replay 16 = .ok (.ldc 56, 2) := by decide +kernel
theorem dX2_replay_18 : decode cX2_replay 18 = .ok (.invokespecial 58, 3) := by decide +kernel
theorem dX2_replay_21 : decode cX2_replay 21 = .ok (.athrow, 1) := by decide +kernel
theorem dX2_replay_22 : decode cX2_replay 22 = .ok (.aload_n 0, 1) := by decide +kernel
theorem dX2_replay_23 : decode cX2_replay 23 = .ok (.getfield 10, 3) := by decide +kernel
theorem dX2_replay_26 : decode cX2_replay 26 = .ok (.iload_n 1, 1) := by decide +kernel
theorem dX2_replay_27 : decode cX2_replay 27 = .ok (.aload_n 0, 1) := by decide +kernel
theorem dX2_replay_28 : decode cX2_replay 28 = .ok (.getfield 27, 3) := by decide +kernel
theorem dX2_replay_31 : decode cX2_replay 31 = .ok (.aload_n 0, 1) := by decide +kernel
theorem dX2_replay_32 : decode cX2_replay 32 = .ok (.getfield 30, 3) := by decide +kernel
theorem dX2_replay_35 : decode cX2_replay 35 = .ok (.invokevirtual 71, 3) := by decide +kernel
theorem dX2_replay_38 : decode cX2_replay 38 = .ok (.istore_n 2, 1) := by decide +kernel
theorem dX2_replay_39 : decode cX2_replay 39 = .ok (.iconst 0, 1) := by decide +kernel
theorem dX2_replay_40 : decode cX2_replay 40 = .ok (.istore_n 3, 1) := by decide +kernel
theorem dX2_replay_41 : decode cX2_replay 41 = .ok (.iload_n 3, 1) := by decide +kernel
theorem dX2_replay_42 : decode cX2_replay 42 = .ok (.iload_n 2, 1) := by decide +kernel
theorem dX2_replay_43 : decode cX2_replay 43 = .ok (.if_icmp .ge 26, 3) := by decide +kernel
theorem dX2_replay_46 : decode cX2_replay 46 = .ok (.aload_n 0, 1) := by decide +kernel
theorem dX2_replay_47 : decode cX2_replay 47 = .ok (.aload_n 0, 1) := by decide +kernel
theorem dX2_replay_48 : decode cX2_replay 48 = .ok (.getfield 27, 3) := by decide +kernel
theorem dX2_replay_51 : decode cX2_replay 51 = .ok (.iload_n 3, 1) := by decide +kernel
theorem dX2_replay_52 : decode cX2_replay 52 = .ok (.iaload, 1) := by decide +kernel
theorem dX2_replay_53 : decode cX2_replay 53 = .ok (.aload_n 0, 1) := by decide +kernel
theorem dX2_replay_54 : decode cX2_replay 54 = .ok (.getfield 30, 3) := by decide +kernel
theorem dX2_replay_57 : decode cX2_replay 57 = .ok (.iload_n 3, 1) := by decide +kernel
theorem dX2_replay_58 : decode cX2_replay 58 = .ok (.iaload, 1) := by decide +kernel
theorem dX2_replay_59 : decode cX2_replay 59 = .ok (.invokevirtual 46, 3) := by decide +kernel
theorem dX2_replay_62 : decode cX2_replay 62 = .ok (.pop, 1) := by decide +kernel
theorem dX2_replay_63 : decode cX2_replay 63 = .ok (.iinc 3 1, 3) := by decide +kernel
theorem dX2_replay_66 : decode cX2_replay 66 = .ok (.goto (-25), 3) := by decide +kernel
theorem dX2_replay_69 : decode cX2_replay 69 = .ok (.iload_n 2, 1) := by decide +kernel
theorem dX2_replay_70 : decode cX2_replay 70 = .ok (.ireturn, 1) := by decide +kernel
set_option maxRecDepth 20000 in
theorem ggX2_compact_X2_markCompacted : GoodIn wsX2_compact wsX2_markCompacted := goodIn_r _ [5, 6, 7, 8, 9, 4, 10, 11, 12, 13, 14, 15, 16, 17, 18, 19, 20, 21, 22, 23, 24, 25, 26, 27, 28, 29, 46, 47, 48, 49, 50, 51, 52, 53, 54, 55, 56, 57, 58, 59, 60, 61, 62, 63, 64, 65, 66, 67] (by decide +kernel) (by decide +kernel)
set_option maxRecDepth 20000 in
theorem gX2_compact_X2_markCompacted : GoodIn wsX2_compact (wsV RX2 75 RX2 yX2_markCompacted wsX2_markCompacted) := goodIn_app (goodIn_of _ (by decide +kernel)) ggX2_compact_X2_markCompacted
set_option maxRecDepth 20000 in
theorem ggX2_compact_X2_dropMarked : GoodIn wsX2_compact wsX2_dropMarked := goodIn_r _ [33, 11, 12, 6, 34, 18, 35, 36, 21, 25, 37, 38, 39, 40, 24, 41, 42, 43, 22, 23, 44, 45, 46, 47, 48, 49, 50, 51, 52, 53, 54, 63, 64, 65, 66, 67, 55, 56, 57, 58, 59, 60, 61, 62] (by decide +kernel) (by decide +kernel)
set_option maxRecDepth 20000 in
theorem gX2_compact_X2_dropMarked : GoodIn wsX2_compact (wsV RX2 78 RX2 yX2_dropMarked wsX2_dropMarked) := goodIn_app (goodIn_of _ (by decide +kernel)) ggX2_compact_X2_dropMarked
theorem dX2_compact_0 : decode cX2_compact 0 = .ok (.aload_n 0, 1) := by decide +kernel
theorem dX2_compact_1 : decode cX2_compact 1 = .ok (.invokevirtual 75, 3) := by decide +kernel
theorem dX2_compact_4 : decode cX2_compact 4 = .ok (.aload_n 0, 1) := by decide +kernel
theorem dX2_compact_5 : decode cX2_compact 5 = .ok (.invokevirtual 78, 3) := by decide +kernel
theorem dX2_compact_8 : decode cX2_compact 8 = .ok (.ireturn, 1) := by decide +kernel
set_option maxRecDepth 20000 in
theorem ggX2_trimTo_X2_checkReachable : GoodIn wsX2_trimTo wsX2_checkReachable := goodIn_ca (goodIn_r _ [6, 7, 8, 1, 36, 37, 38, 39, 40, 41, 42, 43, 44, 45, 46, 47, 48, 49, 50, 51, 52] (by decide +kernel) (by decide +kernel)) (goodIn_sub (fun _ h => List.mem_cons_of_mem _ (List.mem_append_right _ h)) (by decide +kernel))
set_option maxRecDepth 20000 in
theorem gX2_trimTo_X2_checkReachable : GoodIn wsX2_trimTo (wsV RX2 82 RX2 yX2_checkReachable wsX2_checkReachable) := goodIn_app (goodIn_of _ (by decide +kernel)) ggX2_trimTo_X2_checkReachable
set_option maxRecDepth 20000 in
theorem ggX2_trimTo_X0_markAhead : GoodIn wsX2_trimTo wsX0_markAhead := goodIn_r _ [12, 13, 14, 15, 45, 46, 47, 48, 49, 50, 51, 52] (by decide +kernel) (by decide +kernel)
set_option maxRecDepth 20000 in
theorem gX2_trimTo_X0_markAhead_n85 : GoodIn wsX2_trimTo (wsX0_markAhead) := ggX2_trimTo_X0_markAhead
set_option maxRecDepth 20000 in
theorem ggX2_trimTo_X2_dropMarked : GoodIn wsX2_trimTo wsX2_dropMarked := goodIn_r _ [19, 20, 21, 1, 22, 10, 23, 24, 13, 14, 25, 26, 27, 28, 15, 29, 30, 31, 32, 33, 34, 35, 36, 37, 38, 39, 40, 41, 42, 43, 44, 53, 54, 55, 56, 57, 45, 46, 47, 48, 49, 50, 51, 52] (by decide +kernel) (by decide +kernel)
set_option maxRecDepth 20000 in
theorem gX2_trimTo_X2_dropMarked : GoodIn wsX2_trimTo (wsV RX2 78 RX2 yX2_dropMarked wsX2_dropMarked) := goodIn_app (goodIn_of _ (by decide +kernel)) ggX2_trimTo_X2_dropMarked
theorem dX2_trimTo_0 : decode cX2_trimTo 0 = .ok (.aload_n 0, 1) := by decide +kernel
theorem dX2_trimTo_1 : decode cX2_trimTo 1 = .ok (.iload_n 1, 1) := by decide +kernel
theorem dX2_trimTo_2 : decode cX2_trimTo 2 = .ok (.invokevirtual 82, 3) := by decide +kernel
theorem dX2_trimTo_5 : decode cX2_trimTo 5 = .ok (.aload_n 0, 1) := by decide +kernel
theorem dX2_trimTo_6 : decode cX2_trimTo 6 = .ok (.getfield 10, 3) := by decide +kernel
theorem dX2_trimTo_9 : decode cX2_trimTo 9 = .ok (.iload_n 1, 1) := by decide +kernel
theorem dX2_trimTo_10 : decode cX2_trimTo 10 = .ok (.invokevirtual 85, 3) := by decide +kernel
theorem dX2_trimTo_13 : decode cX2_trimTo 13 = .ok (.aload_n 0, 1) := by decide +kernel
theorem dX2_trimTo_14 : decode cX2_trimTo 14 = .ok (.invokevirtual 78, 3) := by decide +kernel
theorem dX2_trimTo_17 : decode cX2_trimTo 17 = .ok (.ireturn, 1) := by decide +kernel
set_option maxRecDepth 20000 in
theorem ggX2_addShip_X2_checkReachable : GoodIn wsX2_addShip wsX2_checkReachable := goodIn_ca (goodIn_r _ [11, 1, 2, 12, 13, 14, 15, 16, 17, 18, 19, 20, 21, 27, 28, 29, 30, 31, 32, 33, 34] (by decide +kernel) (by decide +kernel)) (goodIn_sub (fun _ h => List.mem_cons_of_mem _ (List.mem_append_left _ (List.mem_append_right _ h))) (by decide +kernel))
set_option maxRecDepth 20000 in
theorem gX2_addShip_X2_checkReachable : GoodIn wsX2_addShip (wsV RX2 82 RX2 yX2_checkReachable wsX2_checkReachable) := goodIn_app (goodIn_of _ (by decide +kernel)) ggX2_addShip_X2_checkReachable
theorem dX2_addShip_0 : decode cX2_addShip 0 = .ok (.iload_n 1, 1) := by decide +kernel
theorem dX2_addShip_1 : decode cX2_addShip 1 = .ok (.iconst 1, 1) := by decide +kernel
theorem dX2_addShip_2 : decode cX2_addShip 2 = .ok (.if_icmp .lt 8, 3) := by decide +kernel
theorem dX2_addShip_5 : decode cX2_addShip 5 = .ok (.iload_n 1, 1) := by decide +kernel
theorem dX2_addShip_6 : decode cX2_addShip 6 = .ok (.iconst 5, 1) := by decide +kernel
theorem dX2_addShip_7 : decode cX2_addShip 7 = .ok (.if_icmp .le 13, 3) := by decide +kernel
theorem dX2_addShip_10 : decode cX2_addShip 10 = .ok (.new 37, 3) := by decide +kernel
theorem dX2_addShip_13 : decode cX2_addShip 13 = .ok (.dup, 1) := by decide +kernel
theorem dX2_addShip_14 : decode cX2_addShip 14 = .ok (.ldc 88, 2) := by decide +kernel
theorem dX2_addShip_16 : decode cX2_addShip 16 = .ok (.invokespecial 41, 3) := by decide +kernel
theorem dX2_addShip_19 : decode cX2_addShip 19 = .ok (.athrow, 1) := by decide +kernel
theorem dX2_addShip_20 : decode cX2_addShip 20 = .ok (.aload_n 0, 1) := by decide +kernel
theorem dX2_addShip_21 : decode cX2_addShip 21 = .ok (.iload_n 2, 1) := by decide +kernel
theorem dX2_addShip_22 : decode cX2_addShip 22 = .ok (.invokevirtual 82, 3) := by decide +kernel
theorem dX2_addShip_25 : decode cX2_addShip 25 = .ok (.aload_n 0, 1) := by decide +kernel
theorem dX2_addShip_26 : decode cX2_addShip 26 = .ok (.getfield 90, 3) := by decide +kernel
theorem dX2_addShip_29 : decode cX2_addShip 29 = .ok (.bipush 6, 2) := by decide +kernel
theorem dX2_addShip_31 : decode cX2_addShip 31 = .ok (.if_icmp .lt 13, 3) := by decide +kernel
theorem dX2_addShip_34 : decode cX2_addShip 34 = .ok (.new 54, 3) := by decide +kernel
theorem dX2_addShip_37 : decode cX2_addShip 37 = .ok (.dup, 1) := by decide +kernel
theorem dX2_addShip_38 : decode cX2_addShip 38 = .ok (.ldc 93, 2) := by decide +kernel
theorem dX2_addShip_40 : decode cX2_addShip 40 = .ok (.invokespecial 58, 3) := by decide +kernel
theorem dX2_addShip_43 : decode cX2_addShip 43 = .ok (.athrow, 1) := by decide +kernel
theorem dX2_addShip_44 : decode cX2_addShip 44 = .ok (.aload_n 0, 1) := by decide +kernel
theorem dX2_addShip_45 : decode cX2_addShip 45 = .ok (.getfield 22, 3) := by decide +kernel
theorem dX2_addShip_48 : decode cX2_addShip 48 = .ok (.aload_n 0, 1) := by decide +kernel
theorem dX2_addShip_49 : decode cX2_addShip 49 = .ok (.getfield 90, 3) := by decide +kernel
theorem dX2_addShip_52 : decode cX2_addShip 52 = .ok (.aaload, 1) := by decide +kernel
theorem dX2_addShip_53 : decode cX2_addShip 53 = .ok (.astore_n 3, 1) := by decide +kernel
theorem dX2_addShip_54 : decode cX2_addShip 54 = .ok (.aload_n 3, 1) := by decide +kernel
theorem dX2_addShip_55 : decode cX2_addShip 55 = .ok (.iload_n 1, 1) := by decide +kernel
theorem dX2_addShip_56 : decode cX2_addShip 56 = .ok (.putfield 95, 3) := by decide +kernel
theorem dX2_addShip_59 : decode cX2_addShip 59 = .ok (.aload_n 3, 1) := by decide +kernel
theorem dX2_addShip_60 : decode cX2_addShip 60 = .ok (.iload_n 2, 1) := by decide +kernel
theorem dX2_addShip_61 : decode cX2_addShip 61 = .ok (.putfield 98, 3) := by decide +kernel
theorem dX2_addShip_64 : decode cX2_addShip 64 = .ok (.aload_n 0, 1) := by decide +kernel
theorem dX2_addShip_65 : decode cX2_addShip 65 = .ok (.dup, 1) := by decide +kernel
theorem dX2_addShip_66 : decode cX2_addShip 66 = .ok (.getfield 90, 3) := by decide +kernel
theorem dX2_addShip_69 : decode cX2_addShip 69 = .ok (.iconst 1, 1) := by decide +kernel
theorem dX2_addShip_70 : decode cX2_addShip 70 = .ok (.iadd, 1) := by decide +kernel
theorem dX2_addShip_71 : decode cX2_addShip 71 = .ok (.putfield 90, 3) := by decide +kernel
theorem dX2_addShip_74 : decode cX2_addShip 74 = .ok (.aload_n 0, 1) := by decide +kernel
theorem dX2_addShip_75 : decode cX2_addShip 75 = .ok (.getfield 90, 3) := by decide +kernel
theorem dX2_addShip_78 : decode cX2_addShip 78 = .ok (.iconst 1, 1) := by decide +kernel
theorem dX2_addShip_79 : decode cX2_addShip 79 = .ok (.isub, 1) := by decide +kernel
theorem dX2_addShip_80 : decode cX2_addShip 80 = .ok (.ireturn, 1) := by decide +kernel
set_option maxRecDepth 20000 in
theorem ggX2_seek_X2_shipNumbered : GoodIn wsX2_seek wsX2_shipNumbered := goodIn_ca (goodIn_r _ [5, 6, 7, 8, 9, 22, 23, 24, 25, 26, 27, 28, 29, 30] (by decide +kernel) (by decide +kernel)) (goodIn_sub (fun _ h => List.mem_cons_of_mem _ (List.mem_append_left _ (List.mem_append_right _ h))) (by decide +kernel))
set_option maxRecDepth 20000 in
theorem gX2_seek_X2_shipNumbered : GoodIn wsX2_seek (wsV RX2 101 RX2 yX2_shipNumbered wsX2_shipNumbered) := goodIn_app (goodIn_of _ (by decide +kernel)) ggX2_seek_X2_shipNumbered
set_option maxRecDepth 20000 in
theorem ggX2_seek_X2_checkReachable : GoodIn wsX2_seek wsX2_checkReachable := goodIn_ca (goodIn_r _ [13, 14, 15, 16, 22, 23, 24, 25, 26, 27, 28, 29, 30, 31, 32, 33, 34, 35, 36, 37, 38] (by decide +kernel) (by decide +kernel)) (goodIn_sub (fun _ h => List.mem_cons_of_mem _ (List.mem_append_right _ h)) (by decide +kernel))
set_option maxRecDepth 20000 in
theorem gX2_seek_X2_checkReachable : GoodIn wsX2_seek (wsV RX2 82 RX2 yX2_checkReachable wsX2_checkReachable) := goodIn_app (goodIn_of _ (by decide +kernel)) ggX2_seek_X2_checkReachable
theorem dX2_seek_0 : decode cX2_seek 0 = .ok (.aload_n 0, 1) := by decide +kernel
theorem dX2_seek_1 : decode cX2_seek 1 = .ok (.iload_n 1, 1) := by decide +kernel
theorem dX2_seek_2 : decode cX2_seek 2 = .ok (.invokevirtual 101, 3) := by decide +kernel
theorem dX2_seek_5 : decode cX2_seek 5 = .ok (.astore_n 3, 1) := by decide +kernel
theorem dX2_seek_6 : decode cX2_seek 6 = .ok (.aload_n 0, 1) := by decide +kernel
theorem dX2_seek_7 : decode cX2_seek 7 = .ok (.iload_n 2, 1) := by decide +kernel
theorem dX2_seek_8 : decode cX2_seek 8 = .ok (.invokevirtual 82, 3) := by decide +kernel
theorem dX2_seek_11 : decode cX2_seek 11 = .ok (.aload_n 3, 1) := by decide +kernel
theorem dX2_seek_12 : decode cX2_seek 12 = .ok (.getfield 98, 3) := by decide +kernel
theorem dX2_seek_15 : decode cX2_seek 15 = .ok (.istore 4, 2) := by decide +kernel
theorem dX2_seek_17 : decode cX2_seek 17 = .ok (.aload_n 3, 1) := by decide +kernel
theorem dX2_seek_18 : decode cX2_seek 18 = .ok (.iload_n 2, 1) := by decide +kernel
theorem dX2_seek_19 : decode cX2_seek 19 = .ok (.putfield 98, 3) := by decide +kernel
theorem dX2_seek_22 : decode cX2_seek 22 = .ok (.iload 4, 2) := by decide +kernel
theorem dX2_seek_24 : decode cX2_seek 24 = .ok (.ireturn, 1) := by decide +kernel
set_option maxRecDepth 20000 in
theorem ggX2_passHours_X2_checkHours : GoodIn wsX2_passHours wsX2_checkHours := goodIn_ca (goodIn_r _ [7, 8, 9] (by decide +kernel) (by decide +kernel)) (goodIn_sub (fun _ h => List.mem_cons_of_mem _ (List.mem_append_right _ h)) (by decide +kernel))
set_option maxRecDepth 20000 in
theorem gX2_passHours_X2_checkHours : GoodIn wsX2_passHours (va_wsS RX2 105 yX2_checkHours wsX2_checkHours) := goodIn_app (goodIn_of _ (by decide +kernel)) ggX2_passHours_X2_checkHours
set_option maxRecDepth 20000 in
theorem ggX2_passHours_X2_mostHeard : GoodIn wsX2_passHours wsX2_mostHeard := goodIn_r _ [13, 14, 37, 38, 39, 40, 41, 42, 43, 44, 45] (by decide +kernel) (by decide +kernel)
set_option maxRecDepth 20000 in
theorem gX2_passHours_X2_mostHeard : GoodIn wsX2_passHours (wsV RX2 108 RX2 yX2_mostHeard wsX2_mostHeard) := goodIn_app (goodIn_of _ (by decide +kernel)) ggX2_passHours_X2_mostHeard
set_option maxRecDepth 20000 in
theorem ggX2_passHours_X2_hearNext : GoodIn wsX2_passHours wsX2_hearNext := goodIn_r _ [18, 19, 20, 21, 22, 23, 24, 25, 26, 27, 28, 29, 30, 31, 32, 33, 34, 35, 36, 37, 38, 39, 40, 41, 42, 43, 44, 45, 46, 47, 48, 49, 50, 51, 52, 53, 54, 55, 56, 57, 58] (by decide +kernel) (by decide +kernel)
set_option maxRecDepth 20000 in
theorem gX2_passHours_X2_hearNext : GoodIn wsX2_passHours (wsV RX2 111 RX2 yX2_hearNext wsX2_hearNext) := goodIn_app (goodIn_of _ (by decide +kernel)) ggX2_passHours_X2_hearNext
theorem dX2_passHours_0 : decode cX2_passHours 0 = .ok (.iload_n 1, 1) := by decide +kernel
theorem dX2_passHours_1 : decode cX2_passHours 1 = .ok (.invokestatic 105, 3) := by decide +kernel
theorem dX2_passHours_4 : decode cX2_passHours 4 = .ok (.iconst 0, 1) := by decide +kernel
theorem dX2_passHours_5 : decode cX2_passHours 5 = .ok (.istore_n 2, 1) := by decide +kernel
theorem dX2_passHours_6 : decode cX2_passHours 6 = .ok (.iconst 0, 1) := by decide +kernel
theorem dX2_passHours_7 : decode cX2_passHours 7 = .ok (.istore_n 3, 1) := by decide +kernel
theorem dX2_passHours_8 : decode cX2_passHours 8 = .ok (.iload_n 3, 1) := by decide +kernel
theorem dX2_passHours_9 : decode cX2_passHours 9 = .ok (.aload_n 0, 1) := by decide +kernel
theorem dX2_passHours_10 : decode cX2_passHours 10 = .ok (.getfield 90, 3) := by decide +kernel
theorem dX2_passHours_13 : decode cX2_passHours 13 = .ok (.if_icmp .ge 36, 3) := by decide +kernel
theorem dX2_passHours_16 : decode cX2_passHours 16 = .ok (.iload_n 2, 1) := by decide +kernel
theorem dX2_passHours_17 : decode cX2_passHours 17 = .ok (.aload_n 0, 1) := by decide +kernel
theorem dX2_passHours_18 : decode cX2_passHours 18 = .ok (.aload_n 0, 1) := by decide +kernel
theorem dX2_passHours_19 : decode cX2_passHours 19 = .ok (.getfield 22, 3) := by decide +kernel
theorem dX2_passHours_22 : decode cX2_passHours 22 = .ok (.iload_n 3, 1) := by decide +kernel
theorem dX2_passHours_23 : decode cX2_passHours 23 = .ok (.aaload, 1) := by decide +kernel
theorem dX2_passHours_24 : decode cX2_passHours 24 = .ok (.aload_n 0, 1) := by decide +kernel
theorem dX2_passHours_25 : decode cX2_passHours 25 = .ok (.iload_n 1, 1) := by decide +kernel
theorem dX2_passHours_26 : decode cX2_passHours 26 = .ok (.aload_n 0, 1) := by decide +kernel
theorem dX2_passHours_27 : decode cX2_passHours 27 = .ok (.getfield 22, 3) := by decide +kernel
theorem dX2_passHours_30 : decode cX2_passHours 30 = .ok (.iload_n 3, 1) := by decide +kernel
theorem dX2_passHours_31 : decode cX2_passHours 31 = .ok (.aaload, 1) := by decide +kernel
theorem dX2_passHours_32 : decode cX2_passHours 32 = .ok (.getfield 95, 3) := by decide +kernel
theorem dX2_passHours_35 : decode cX2_passHours 35 = .ok (.invokevirtual 108, 3) := by decide +kernel
theorem dX2_passHours_38 : decode cX2_passHours 38 = .ok (.invokevirtual 111, 3) := by decide +kernel
theorem dX2_passHours_41 : decode cX2_passHours 41 = .ok (.iadd, 1) := by decide +kernel
theorem dX2_passHours_42 : decode cX2_passHours 42 = .ok (.istore_n 2, 1) := by decide +kernel
theorem dX2_passHours_43 : decode cX2_passHours 43 = .ok (.iinc 3 1, 3) := by decide +kernel
theorem dX2_passHours_46 : decode cX2_passHours 46 = .ok (.goto (-38), 3) := by decide +kernel
theorem dX2_passHours_49 : decode cX2_passHours 49 = .ok (.aload_n 0, 1) := by decide +kernel
theorem dX2_passHours_50 : decode cX2_passHours 50 = .ok (.dup, 1) := by decide +kernel
theorem dX2_passHours_51 : decode cX2_passHours 51 = .ok (.getfield 115, 3) := by decide +kernel
theorem dX2_passHours_54 : decode cX2_passHours 54 = .ok (.iload_n 1, 1) := by decide +kernel
theorem dX2_passHours_55 : decode cX2_passHours 55 = .ok (.iadd, 1) := by decide +kernel
theorem dX2_passHours_56 : decode cX2_passHours 56 = .ok (.putfield 115, 3) := by decide +kernel
theorem dX2_passHours_59 : decode cX2_passHours 59 = .ok (.iload_n 2, 1) := by decide +kernel
theorem dX2_passHours_60 : decode cX2_passHours 60 = .ok (.ireturn, 1) := by decide +kernel
theorem dX2_hours_0 : decode cX2_hours 0 = .ok (.aload_n 0, 1) := by decide +kernel
theorem dX2_hours_1 : decode cX2_hours 1 = .ok (.getfield 115, 3) := by decide +kernel
theorem dX2_hours_4 : decode cX2_hours 4 = .ok (.ireturn, 1) := by decide +kernel
theorem dX2_phrases_0 : decode cX2_phrases 0 = .ok (.aload_n 0, 1) := by decide +kernel
theorem dX2_phrases_1 : decode cX2_phrases 1 = .ok (.getfield 10, 3) := by decide +kernel
theorem dX2_phrases_4 : decode cX2_phrases 4 = .ok (.getfield 118, 3) := by decide +kernel
theorem dX2_phrases_7 : decode cX2_phrases 7 = .ok (.ireturn, 1) := by decide +kernel
theorem dX2_nextOffset_0 : decode cX2_nextOffset 0 = .ok (.aload_n 0, 1) := by decide +kernel
theorem dX2_nextOffset_1 : decode cX2_nextOffset 1 = .ok (.getfield 10, 3) := by decide +kernel
theorem dX2_nextOffset_4 : decode cX2_nextOffset 4 = .ok (.getfield 121, 3) := by decide +kernel
theorem dX2_nextOffset_7 : decode cX2_nextOffset 7 = .ok (.ireturn, 1) := by decide +kernel
theorem dX2_firstOffset_0 : decode cX2_firstOffset 0 = .ok (.aload_n 0, 1) := by decide +kernel
theorem dX2_firstOffset_1 : decode cX2_firstOffset 1 = .ok (.getfield 10, 3) := by decide +kernel
theorem dX2_firstOffset_4 : decode cX2_firstOffset 4 = .ok (.getfield 118, 3) := by decide +kernel
theorem dX2_firstOffset_7 : decode cX2_firstOffset 7 = .ok (.ifCond .ne 7, 3) := by decide +kernel
theorem dX2_firstOffset_10 : decode cX2_firstOffset 10 = .ok (.iconst (-1), 1) := by decide +kernel
theorem dX2_firstOffset_11 : decode cX2_firstOffset 11 = .ok (.goto 12, 3) := by decide +kernel
theorem dX2_firstOffset_14 : decode cX2_firstOffset 14 = .ok (.aload_n 0, 1) := by decide +kernel
theorem dX2_firstOffset_15 : decode cX2_firstOffset 15 = .ok (.getfield 10, 3) := by decide +kernel
theorem dX2_firstOffset_18 : decode cX2_firstOffset 18 = .ok (.getfield 124, 3) := by decide +kernel
theorem dX2_firstOffset_21 : decode cX2_firstOffset 21 = .ok (.iconst 0, 1) := by decide +kernel
theorem dX2_firstOffset_22 : decode cX2_firstOffset 22 = .ok (.iaload, 1) := by decide +kernel
theorem dX2_firstOffset_23 : decode cX2_firstOffset 23 = .ok (.ireturn, 1) := by decide +kernel
theorem dX2_dropped_0 : decode cX2_dropped 0 = .ok (.aload_n 0, 1) := by decide +kernel
theorem dX2_dropped_1 : decode cX2_dropped 1 = .ok (.getfield 10, 3) := by decide +kernel
theorem dX2_dropped_4 : decode cX2_dropped 4 = .ok (.getfield 127, 3) := by decide +kernel
theorem dX2_dropped_7 : decode cX2_dropped 7 = .ok (.ireturn, 1) := by decide +kernel
set_option maxRecDepth 20000 in
theorem ggX2_isKept_X0_positionOf : GoodIn wsX2_isKept wsX0_positionOf := goodIn_r _ [5, 6, 7, 8, 9, 10, 3, 11, 21, 22, 23, 24, 25, 26, 27, 28] (by decide +kernel) (by decide +kernel)
set_option maxRecDepth 20000 in
theorem gX2_isKept_X0_positionOf_n130 : GoodIn wsX2_isKept (wsX0_positionOf) := ggX2_isKept_X0_positionOf
theorem dX2_isKept_0 : decode cX2_isKept 0 = .ok (.aload_n 0, 1) := by decide +kernel
theorem dX2_isKept_1 : decode cX2_isKept 1 = .ok (.getfield 10, 3) := by decide +kernel
theorem dX2_isKept_4 : decode cX2_isKept 4 = .ok (.iload_n 1, 1) := by decide +kernel
theorem dX2_isKept_5 : decode cX2_isKept 5 = .ok (.invokevirtual 130, 3) := by decide +kernel
theorem dX2_isKept_8 : decode cX2_isKept 8 = .ok (.iconst (-1), 1) := by decide +kernel
theorem dX2_isKept_9 : decode cX2_isKept 9 = .ok (.if_icmp .eq 7, 3) := by decide +kernel
theorem dX2_isKept_12 : decode cX2_isKept 12 = .ok (.iconst 1, 1) := by decide +kernel
theorem dX2_isKept_13 : decode cX2_isKept 13 = .ok (.goto 4, 3) := by decide +kernel
theorem dX2_isKept_16 : decode cX2_isKept 16 = .ok (.iconst 0, 1) := by decide +kernel
theorem dX2_isKept_17 : decode cX2_isKept 17 = .ok (.ireturn, 1) := by decide +kernel
set_option maxRecDepth 20000 in
theorem ggX2_keyAt_X2_keptPosition : GoodIn wsX2_keyAt wsX2_keptPosition := goodIn_ca (goodIn_r _ [6, 7, 8, 1, 9, 10, 11, 12, 13, 14, 15, 16, 17, 18, 19, 20, 21, 22, 23, 24, 25, 26, 27, 28, 29, 30, 31, 32, 33, 34, 35] (by decide +kernel) (by decide +kernel)) (goodIn_sub (fun _ h => List.mem_cons_of_mem _ (List.mem_append_right _ h)) (by decide +kernel))
set_option maxRecDepth 20000 in
theorem gX2_keyAt_X2_keptPosition : GoodIn wsX2_keyAt (wsV RX2 137 RX2 yX2_keptPosition wsX2_keptPosition) := goodIn_app (goodIn_of _ (by decide +kernel)) ggX2_keyAt_X2_keptPosition
theorem dX2_keyAt_0 : decode cX2_keyAt 0 = .ok (.aload_n 0, 1) := by decide +kernel
theorem dX2_keyAt_1 : decode cX2_keyAt 1 = .ok (.getfield 10, 3) := by decide +kernel
theorem dX2_keyAt_4 : decode cX2_keyAt 4 = .ok (.getfield 134, 3) := by decide +kernel
theorem dX2_keyAt_7 : decode cX2_keyAt 7 = .ok (.aload_n 0, 1) := by decide +kernel
theorem dX2_keyAt_8 : decode cX2_keyAt 8 = .ok (.iload_n 1, 1) := by decide +kernel
theorem dX2_keyAt_9 : decode cX2_keyAt 9 = .ok (.invokevirtual 137, 3) := by decide +kernel
theorem dX2_keyAt_12 : decode cX2_keyAt 12 = .ok (.iaload, 1) := by decide +kernel
theorem dX2_keyAt_13 : decode cX2_keyAt 13 = .ok (.ireturn, 1) := by decide +kernel
set_option maxRecDepth 20000 in
theorem ggX2_valueAt_X2_keptPosition : GoodIn wsX2_valueAt wsX2_keptPosition := goodIn_ca (goodIn_r _ [6, 7, 8, 1, 9, 10, 11, 12, 13, 14, 15, 16, 17, 18, 19, 20, 21, 22, 23, 24, 25, 26, 27, 28, 29, 30, 31, 32, 33, 34, 35] (by decide +kernel) (by decide +kernel)) (goodIn_sub (fun _ h => List.mem_cons_of_mem _ (List.mem_append_right _ h)) (by decide +kernel))
set_option maxRecDepth 20000 in
theorem gX2_valueAt_X2_keptPosition : GoodIn wsX2_valueAt (wsV RX2 137 RX2 yX2_keptPosition wsX2_keptPosition) := goodIn_app (goodIn_of _ (by decide +kernel)) ggX2_valueAt_X2_keptPosition
theorem dX2_valueAt_0 : decode cX2_valueAt 0 = .ok (.aload_n 0, 1) := by decide +kernel
theorem dX2_valueAt_1 : decode cX2_valueAt 1 = .ok (.getfield 10, 3) := by decide +kernel
theorem dX2_valueAt_4 : decode cX2_valueAt 4 = .ok (.getfield 140, 3) := by decide +kernel
theorem dX2_valueAt_7 : decode cX2_valueAt 7 = .ok (.aload_n 0, 1) := by decide +kernel
theorem dX2_valueAt_8 : decode cX2_valueAt 8 = .ok (.iload_n 1, 1) := by decide +kernel
theorem dX2_valueAt_9 : decode cX2_valueAt 9 = .ok (.invokevirtual 137, 3) := by decide +kernel
theorem dX2_valueAt_12 : decode cX2_valueAt 12 = .ok (.iaload, 1) := by decide +kernel
theorem dX2_valueAt_13 : decode cX2_valueAt 13 = .ok (.ireturn, 1) := by decide +kernel
set_option maxRecDepth 20000 in
theorem ggX2_stormAt_X2_keptPosition : GoodIn wsX2_stormAt wsX2_keptPosition := goodIn_ca (goodIn_r _ [6, 7, 8, 1, 9, 10, 11, 12, 13, 14, 15, 16, 17, 18, 19, 20, 21, 22, 23, 24, 25, 26, 27, 28, 29, 30, 31, 32, 33, 34, 35] (by decide +kernel) (by decide +kernel)) (goodIn_sub (fun _ h => List.mem_cons_of_mem _ (List.mem_append_right _ h)) (by decide +kernel))
set_option maxRecDepth 20000 in
theorem gX2_stormAt_X2_keptPosition : GoodIn wsX2_stormAt (wsV RX2 137 RX2 yX2_keptPosition wsX2_keptPosition) := goodIn_app (goodIn_of _ (by decide +kernel)) ggX2_stormAt_X2_keptPosition
theorem dX2_stormAt_0 : decode cX2_stormAt 0 = .ok (.aload_n 0, 1) := by decide +kernel
theorem dX2_stormAt_1 : decode cX2_stormAt 1 = .ok (.getfield 10, 3) := by decide +kernel
theorem dX2_stormAt_4 : decode cX2_stormAt 4 = .ok (.getfield 143, 3) := by decide +kernel
theorem dX2_stormAt_7 : decode cX2_stormAt 7 = .ok (.aload_n 0, 1) := by decide +kernel
theorem dX2_stormAt_8 : decode cX2_stormAt 8 = .ok (.iload_n 1, 1) := by decide +kernel
theorem dX2_stormAt_9 : decode cX2_stormAt 9 = .ok (.invokevirtual 137, 3) := by decide +kernel
theorem dX2_stormAt_12 : decode cX2_stormAt 12 = .ok (.iaload, 1) := by decide +kernel
theorem dX2_stormAt_13 : decode cX2_stormAt 13 = .ok (.ireturn, 1) := by decide +kernel
set_option maxRecDepth 20000 in
theorem ggX2_latestOf_X2_checkKey : GoodIn wsX2_latestOf wsX2_checkKey := goodIn_ca (goodIn_r _ [5, 6, 7, 8, 9, 4, 10] (by decide +kernel) (by decide +kernel)) (goodIn_sub (fun _ h => List.mem_cons_of_mem _ (List.mem_append_right _ h)) (by decide +kernel))
set_option maxRecDepth 20000 in
theorem gX2_latestOf_X2_checkKey : GoodIn wsX2_latestOf (va_wsS RX2 146 yX2_checkKey wsX2_checkKey) := goodIn_app (goodIn_of _ (by decide +kernel)) ggX2_latestOf_X2_checkKey
set_option maxRecDepth 20000 in
theorem ggX2_latestOf_X0_latestOffset : GoodIn wsX2_latestOf wsX0_latestOffset := goodIn_r _ [14, 15, 16, 17, 18, 19, 12, 20, 21, 31, 32, 33, 34, 35, 36, 37, 38] (by decide +kernel) (by decide +kernel)
set_option maxRecDepth 20000 in
theorem gX2_latestOf_X0_latestOffset_n149 : GoodIn wsX2_latestOf (wsX0_latestOffset) := ggX2_latestOf_X0_latestOffset
theorem dX2_latestOf_0 : decode cX2_latestOf 0 = .ok (.iload_n 1, 1) := by decide +kernel
theorem dX2_latestOf_1 : decode cX2_latestOf 1 = .ok (.invokestatic 146, 3) := by decide +kernel
theorem dX2_latestOf_4 : decode cX2_latestOf 4 = .ok (.aload_n 0, 1) := by decide +kernel
theorem dX2_latestOf_5 : decode cX2_latestOf 5 = .ok (.getfield 10, 3) := by decide +kernel
theorem dX2_latestOf_8 : decode cX2_latestOf 8 = .ok (.iload_n 1, 1) := by decide +kernel
theorem dX2_latestOf_9 : decode cX2_latestOf 9 = .ok (.invokevirtual 149, 3) := by decide +kernel
theorem dX2_latestOf_12 : decode cX2_latestOf 12 = .ok (.ireturn, 1) := by decide +kernel
set_option maxRecDepth 20000 in
theorem ggX2_valueOf_X2_checkKey : GoodIn wsX2_valueOf wsX2_checkKey := goodIn_ca (goodIn_r _ [5, 6, 7, 8, 9, 4, 10] (by decide +kernel) (by decide +kernel)) (goodIn_sub (fun _ h => List.mem_cons_of_mem _ (List.mem_append_right _ h)) (by decide +kernel))
set_option maxRecDepth 20000 in
theorem gX2_valueOf_X2_checkKey : GoodIn wsX2_valueOf (va_wsS RX2 146 yX2_checkKey wsX2_checkKey) := goodIn_app (goodIn_of _ (by decide +kernel)) ggX2_valueOf_X2_checkKey
set_option maxRecDepth 20000 in
theorem ggX2_valueOf_X0_latestValue : GoodIn wsX2_valueOf wsX0_latestValue := goodIn_r _ [14, 15, 16, 17, 18, 19, 12, 20, 21, 31, 32, 33, 34, 35, 36, 37, 38] (by decide +kernel) (by decide +kernel)
set_option maxRecDepth 20000 in
theorem gX2_valueOf_X0_latestValue_n152 : GoodIn wsX2_valueOf (wsX0_latestValue) := ggX2_valueOf_X0_latestValue
theorem dX2_valueOf_0 : decode cX2_valueOf 0 = .ok (.iload_n 1, 1) := by decide +kernel
theorem dX2_valueOf_1 : decode cX2_valueOf 1 = .ok (.invokestatic 146, 3) := by decide +kernel
theorem dX2_valueOf_4 : decode cX2_valueOf 4 = .ok (.aload_n 0, 1) := by decide +kernel
theorem dX2_valueOf_5 : decode cX2_valueOf 5 = .ok (.getfield 10, 3) := by decide +kernel
theorem dX2_valueOf_8 : decode cX2_valueOf 8 = .ok (.iload_n 1, 1) := by decide +kernel
theorem dX2_valueOf_9 : decode cX2_valueOf 9 = .ok (.invokevirtual 152, 3) := by decide +kernel
theorem dX2_valueOf_12 : decode cX2_valueOf 12 = .ok (.ireturn, 1) := by decide +kernel
set_option maxRecDepth 20000 in
theorem ggX2_countOf_X2_checkKey : GoodIn wsX2_countOf wsX2_checkKey := goodIn_ca (goodIn_r _ [5, 6, 7, 8, 9, 4, 10] (by decide +kernel) (by decide +kernel)) (goodIn_sub (fun _ h => List.mem_cons_of_mem _ (List.mem_append_right _ h)) (by decide +kernel))
set_option maxRecDepth 20000 in
theorem gX2_countOf_X2_checkKey : GoodIn wsX2_countOf (va_wsS RX2 146 yX2_checkKey wsX2_checkKey) := goodIn_app (goodIn_of _ (by decide +kernel)) ggX2_countOf_X2_checkKey
set_option maxRecDepth 20000 in
theorem ggX2_countOf_X0_countKey : GoodIn wsX2_countOf wsX0_countKey := goodIn_r _ [14, 15, 16, 17, 18, 12, 19, 20, 30, 31, 32, 33, 34, 35, 36, 37] (by decide +kernel) (by decide +kernel)
set_option maxRecDepth 20000 in
theorem gX2_countOf_X0_countKey_n155 : GoodIn wsX2_countOf (wsX0_countKey) := ggX2_countOf_X0_countKey
theorem dX2_countOf_0 : decode cX2_countOf 0 = .ok (.iload_n 1, 1) := by decide +kernel
theorem dX2_countOf_1 : decode cX2_countOf 1 = .ok (.invokestatic 146, 3) := by decide +kernel
theorem dX2_countOf_4 : decode cX2_countOf 4 = .ok (.aload_n 0, 1) := by decide +kernel
theorem dX2_countOf_5 : decode cX2_countOf 5 = .ok (.getfield 10, 3) := by decide +kernel
theorem dX2_countOf_8 : decode cX2_countOf 8 = .ok (.iload_n 1, 1) := by decide +kernel
theorem dX2_countOf_9 : decode cX2_countOf 9 = .ok (.invokevirtual 155, 3) := by decide +kernel
theorem dX2_countOf_12 : decode cX2_countOf 12 = .ok (.ireturn, 1) := by decide +kernel
theorem dX2_storms_0 : decode cX2_storms 0 = .ok (.aload_n 0, 1) := by decide +kernel
theorem dX2_storms_1 : decode cX2_storms 1 = .ok (.getfield 59, 3) := by decide +kernel
theorem dX2_storms_4 : decode cX2_storms 4 = .ok (.ireturn, 1) := by decide +kernel
theorem dX2_isStormy_0 : decode cX2_isStormy 0 = .ok (.aload_n 0, 1) := by decide +kernel
theorem dX2_isStormy_1 : decode cX2_isStormy 1 = .ok (.getfield 50, 3) := by decide +kernel
theorem dX2_isStormy_4 : decode cX2_isStormy 4 = .ok (.ireturn, 1) := by decide +kernel
set_option maxRecDepth 20000 in
theorem ggX2_saidIn_X2_checkStorm : GoodIn wsX2_saidIn wsX2_checkStorm := goodIn_ca (goodIn_r _ [6, 7, 8, 9, 10, 11, 12, 13, 14, 15, 16, 17, 18] (by decide +kernel) (by decide +kernel)) (goodIn_sub (fun _ h => List.mem_cons_of_mem _ (List.mem_append_right _ h)) (by decide +kernel))
set_option maxRecDepth 20000 in
theorem gX2_saidIn_X2_checkStorm : GoodIn wsX2_saidIn (wsV RX2 67 RX2 yX2_checkStorm wsX2_checkStorm) := goodIn_app (goodIn_of _ (by decide +kernel)) ggX2_saidIn_X2_checkStorm
theorem dX2_saidIn_0 : decode cX2_saidIn 0 = .ok (.aload_n 0, 1) := by decide +kernel
theorem dX2_saidIn_1 : decode cX2_saidIn 1 = .ok (.iload_n 1, 1) := by decide +kernel
theorem dX2_saidIn_2 : decode cX2_saidIn 2 = .ok (.invokevirtual 67, 3) := by decide +kernel
theorem dX2_saidIn_5 : decode cX2_saidIn 5 = .ok (.aload_n 0, 1) := by decide +kernel
theorem dX2_saidIn_6 : decode cX2_saidIn 6 = .ok (.getfield 16, 3) := by decide +kernel
theorem dX2_saidIn_9 : decode cX2_saidIn 9 = .ok (.iload_n 1, 1) := by decide +kernel
theorem dX2_saidIn_10 : decode cX2_saidIn 10 = .ok (.iaload, 1) := by decide +kernel
theorem dX2_saidIn_11 : decode cX2_saidIn 11 = .ok (.ireturn, 1) := by decide +kernel
set_option maxRecDepth 20000 in
theorem ggX2_keptOf_X2_checkStorm : GoodIn wsX2_keptOf wsX2_checkStorm := goodIn_ca (goodIn_r _ [6, 7, 8, 9, 20, 21, 22, 23, 24, 25, 26, 27, 28] (by decide +kernel) (by decide +kernel)) (goodIn_sub (fun _ h => List.mem_cons_of_mem _ (List.mem_append_right _ h)) (by decide +kernel))
set_option maxRecDepth 20000 in
theorem gX2_keptOf_X2_checkStorm : GoodIn wsX2_keptOf (wsV RX2 67 RX2 yX2_checkStorm wsX2_checkStorm) := goodIn_app (goodIn_of _ (by decide +kernel)) ggX2_keptOf_X2_checkStorm
set_option maxRecDepth 20000 in
theorem ggX2_keptOf_X0_countStorm : GoodIn wsX2_keptOf wsX0_countStorm := goodIn_r _ [13, 14, 15, 16, 17, 11, 18, 19, 29, 30, 31, 32, 33, 34, 35, 36] (by decide +kernel) (by decide +kernel)
set_option maxRecDepth 20000 in
theorem gX2_keptOf_X0_countStorm_n158 : GoodIn wsX2_keptOf (wsX0_countStorm) := ggX2_keptOf_X0_countStorm
theorem dX2_keptOf_0 : decode cX2_keptOf 0 = .ok (.aload_n 0, 1) := by decide +kernel
theorem dX2_keptOf_1 : decode cX2_keptOf 1 = .ok (.iload_n 1, 1) := by decide +kernel
theorem dX2_keptOf_2 : decode cX2_keptOf 2 = .ok (.invokevirtual 67, 3) := by decide +kernel
theorem dX2_keptOf_5 : decode cX2_keptOf 5 = .ok (.aload_n 0, 1) := by decide +kernel
theorem dX2_keptOf_6 : decode cX2_keptOf 6 = .ok (.getfield 10, 3) := by decide +kernel
theorem dX2_keptOf_9 : decode cX2_keptOf 9 = .ok (.iload_n 1, 1) := by decide +kernel
theorem dX2_keptOf_10 : decode cX2_keptOf 10 = .ok (.invokevirtual 158, 3) := by decide +kernel
theorem dX2_keptOf_13 : decode cX2_keptOf 13 = .ok (.ireturn, 1) := by decide +kernel
theorem dX2_ships_0 : decode cX2_ships 0 = .ok (.aload_n 0, 1) := by decide +kernel
theorem dX2_ships_1 : decode cX2_ships 1 = .ok (.getfield 90, 3) := by decide +kernel
theorem dX2_ships_4 : decode cX2_ships 4 = .ok (.ireturn, 1) := by decide +kernel
set_option maxRecDepth 20000 in
theorem ggX2_offsetOf_X2_shipNumbered : GoodIn wsX2_offsetOf wsX2_shipNumbered := goodIn_ca (goodIn_r _ [5, 6, 7, 8, 9, 15, 16, 17, 18, 19, 20, 21, 22, 23] (by decide +kernel) (by decide +kernel)) (goodIn_sub (fun _ h => List.mem_cons_of_mem _ (List.mem_append_right _ h)) (by decide +kernel))
set_option maxRecDepth 20000 in
theorem gX2_offsetOf_X2_shipNumbered : GoodIn wsX2_offsetOf (wsV RX2 101 RX2 yX2_shipNumbered wsX2_shipNumbered) := goodIn_app (goodIn_of _ (by decide +kernel)) ggX2_offsetOf_X2_shipNumbered
theorem dX2_offsetOf_0 : decode cX2_offsetOf 0 = .ok (.aload_n 0, 1) := by decide +kernel
theorem dX2_offsetOf_1 : decode cX2_offsetOf 1 = .ok (.iload_n 1, 1) := by decide +kernel
theorem dX2_offsetOf_2 : decode cX2_offsetOf 2 = .ok (.invokevirtual 101, 3) := by decide +kernel
theorem dX2_offsetOf_5 : decode cX2_offsetOf 5 = .ok (.getfield 98, 3) := by decide +kernel
theorem dX2_offsetOf_8 : decode cX2_offsetOf 8 = .ok (.ireturn, 1) := by decide +kernel
set_option maxRecDepth 20000 in
theorem ggX2_lagOf_X2_shipNumbered : GoodIn wsX2_lagOf wsX2_shipNumbered := goodIn_ca (goodIn_r _ [5, 6, 7, 8, 9, 21, 22, 23, 24, 25, 26, 27, 28, 29] (by decide +kernel) (by decide +kernel)) (goodIn_sub (fun _ h => List.mem_cons_of_mem _ (List.mem_append_right _ h)) (by decide +kernel))
set_option maxRecDepth 20000 in
theorem gX2_lagOf_X2_shipNumbered : GoodIn wsX2_lagOf (wsV RX2 101 RX2 yX2_shipNumbered wsX2_shipNumbered) := goodIn_app (goodIn_of _ (by decide +kernel)) ggX2_lagOf_X2_shipNumbered
set_option maxRecDepth 20000 in
theorem ggX2_lagOf_X2_lag : GoodIn wsX2_lagOf wsX2_lag := goodIn_r _ [13, 14, 15, 16, 17, 18, 19, 20, 21, 22, 23, 24, 25, 26, 27, 28, 29, 30, 31, 32, 33, 34, 35, 36, 37, 38, 39, 40, 41, 42] (by decide +kernel) (by decide +kernel)
set_option maxRecDepth 20000 in
theorem gX2_lagOf_X2_lag : GoodIn wsX2_lagOf (wsV RX2 161 RX2 yX2_lag wsX2_lag) := goodIn_app (goodIn_of _ (by decide +kernel)) ggX2_lagOf_X2_lag
theorem dX2_lagOf_0 : decode cX2_lagOf 0 = .ok (.aload_n 0, 1) := by decide +kernel
theorem dX2_lagOf_1 : decode cX2_lagOf 1 = .ok (.aload_n 0, 1) := by decide +kernel
theorem dX2_lagOf_2 : decode cX2_lagOf 2 = .ok (.iload_n 1, 1) := by decide +kernel
theorem dX2_lagOf_3 : decode cX2_lagOf 3 = .ok (.invokevirtual 101, 3) := by decide +kernel
theorem dX2_lagOf_6 : decode cX2_lagOf 6 = .ok (.invokevirtual 161, 3) := by decide +kernel
theorem dX2_lagOf_9 : decode cX2_lagOf 9 = .ok (.ireturn, 1) := by decide +kernel
set_option maxRecDepth 20000 in
theorem ggX2_heardBy_X2_shipNumbered : GoodIn wsX2_heardBy wsX2_shipNumbered := goodIn_ca (goodIn_r _ [5, 6, 7, 8, 9, 15, 16, 17, 18, 19, 20, 21, 22, 23] (by decide +kernel) (by decide +kernel)) (goodIn_sub (fun _ h => List.mem_cons_of_mem _ (List.mem_append_right _ h)) (by decide +kernel))
set_option maxRecDepth 20000 in
theorem gX2_heardBy_X2_shipNumbered : GoodIn wsX2_heardBy (wsV RX2 101 RX2 yX2_shipNumbered wsX2_shipNumbered) := goodIn_app (goodIn_of _ (by decide +kernel)) ggX2_heardBy_X2_shipNumbered
theorem dX2_heardBy_0 : decode cX2_heardBy 0 = .ok (.aload_n 0, 1) := by decide +kernel
theorem dX2_heardBy_1 : decode cX2_heardBy 1 = .ok (.iload_n 1, 1) := by decide +kernel
theorem dX2_heardBy_2 : decode cX2_heardBy 2 = .ok (.invokevirtual 101, 3) := by decide +kernel
theorem dX2_heardBy_5 : decode cX2_heardBy 5 = .ok (.getfield 165, 3) := by decide +kernel
theorem dX2_heardBy_8 : decode cX2_heardBy 8 = .ok (.ireturn, 1) := by decide +kernel
set_option maxRecDepth 20000 in
theorem ggX2_missedBy_X2_shipNumbered : GoodIn wsX2_missedBy wsX2_shipNumbered := goodIn_ca (goodIn_r _ [5, 6, 7, 8, 9, 15, 16, 17, 18, 19, 20, 21, 22, 23] (by decide +kernel) (by decide +kernel)) (goodIn_sub (fun _ h => List.mem_cons_of_mem _ (List.mem_append_right _ h)) (by decide +kernel))
set_option maxRecDepth 20000 in
theorem gX2_missedBy_X2_shipNumbered : GoodIn wsX2_missedBy (wsV RX2 101 RX2 yX2_shipNumbered wsX2_shipNumbered) := goodIn_app (goodIn_of _ (by decide +kernel)) ggX2_missedBy_X2_shipNumbered
theorem dX2_missedBy_0 : decode cX2_missedBy 0 = .ok (.aload_n 0, 1) := by decide +kernel
theorem dX2_missedBy_1 : decode cX2_missedBy 1 = .ok (.iload_n 1, 1) := by decide +kernel
theorem dX2_missedBy_2 : decode cX2_missedBy 2 = .ok (.invokevirtual 101, 3) := by decide +kernel
theorem dX2_missedBy_5 : decode cX2_missedBy 5 = .ok (.getfield 168, 3) := by decide +kernel
theorem dX2_missedBy_8 : decode cX2_missedBy 8 = .ok (.ireturn, 1) := by decide +kernel
set_option maxRecDepth 20000 in
theorem ggX2_knownBy_X2_shipNumbered : GoodIn wsX2_knownBy wsX2_shipNumbered := goodIn_ca (goodIn_r _ [5, 6, 7, 8, 9, 21, 22, 23, 24, 25, 26, 27, 28, 29] (by decide +kernel) (by decide +kernel)) (goodIn_sub (fun _ h => List.mem_cons_of_mem _ (List.mem_append_right _ h)) (by decide +kernel))
set_option maxRecDepth 20000 in
theorem gX2_knownBy_X2_shipNumbered : GoodIn wsX2_knownBy (wsV RX2 101 RX2 yX2_shipNumbered wsX2_shipNumbered) := goodIn_app (goodIn_of _ (by decide +kernel)) ggX2_knownBy_X2_shipNumbered
set_option maxRecDepth 20000 in
theorem ggX2_knownBy_X2_checkKey : GoodIn wsX2_knownBy wsX2_checkKey := goodIn_ca (goodIn_r _ [12, 6, 7, 13, 14, 4, 15] (by decide +kernel) (by decide +kernel)) (goodIn_sub (fun _ h => List.mem_cons_of_mem _ (List.mem_append_right _ h)) (by decide +kernel))
set_option maxRecDepth 20000 in
theorem gX2_knownBy_X2_checkKey : GoodIn wsX2_knownBy (va_wsS RX2 146 yX2_checkKey wsX2_checkKey) := goodIn_app (goodIn_of _ (by decide +kernel)) ggX2_knownBy_X2_checkKey
theorem dX2_knownBy_0 : decode cX2_knownBy 0 = .ok (.aload_n 0, 1) := by decide +kernel
theorem dX2_knownBy_1 : decode cX2_knownBy 1 = .ok (.iload_n 1, 1) := by decide +kernel
theorem dX2_knownBy_2 : decode cX2_knownBy 2 = .ok (.invokevirtual 101, 3) := by decide +kernel
theorem dX2_knownBy_5 : decode cX2_knownBy 5 = .ok (.astore_n 3, 1) := by decide +kernel
theorem dX2_knownBy_6 : decode cX2_knownBy 6 = .ok (.iload_n 2, 1) := by decide +kernel
theorem dX2_knownBy_7 : decode cX2_knownBy 7 = .ok (.invokestatic 146, 3) := by decide +kernel
theorem dX2_knownBy_10 : decode cX2_knownBy 10 = .ok (.aload_n 3, 1) := by decide +kernel
theorem dX2_knownBy_11 : decode cX2_knownBy 11 = .ok (.getfield 171, 3) := by decide +kernel
theorem dX2_knownBy_14 : decode cX2_knownBy 14 = .ok (.iload_n 2, 1) := by decide +kernel
theorem dX2_knownBy_15 : decode cX2_knownBy 15 = .ok (.iaload, 1) := by decide +kernel
theorem dX2_knownBy_16 : decode cX2_knownBy 16 = .ok (.ireturn, 1) := by decide +kernel
set_option maxRecDepth 20000 in
theorem ggX2_errorsOf_X2_shipNumbered : GoodIn wsX2_errorsOf wsX2_shipNumbered := goodIn_ca (goodIn_r _ [5, 6, 7, 8, 9, 34, 35, 36, 37, 38, 39, 40, 41, 42] (by decide +kernel) (by decide +kernel)) (goodIn_sub (fun _ h => List.mem_cons_of_mem _ (List.mem_append_right _ h)) (by decide +kernel))
set_option maxRecDepth 20000 in
theorem gX2_errorsOf_X2_shipNumbered : GoodIn wsX2_errorsOf (wsV RX2 101 RX2 yX2_shipNumbered wsX2_shipNumbered) := goodIn_app (goodIn_of _ (by decide +kernel)) ggX2_errorsOf_X2_shipNumbered
set_option maxRecDepth 20000 in
theorem ggX2_errorsOf_X2_errorsAfter : GoodIn wsX2_errorsOf wsX2_errorsAfter := goodIn_r _ [13, 14, 15, 16, 17, 18, 19, 20, 21, 22, 23, 24, 25, 26, 27, 28, 29, 30, 31, 32, 33, 34, 35, 36, 37, 38, 39, 40, 41, 42, 43, 44, 45, 46, 47, 48, 49, 50, 51, 52, 53, 54, 55] (by decide +kernel) (by decide +kernel)
set_option maxRecDepth 20000 in
theorem gX2_errorsOf_X2_errorsAfter : GoodIn wsX2_errorsOf (wsV RX2 174 RX2 yX2_errorsAfter wsX2_errorsAfter) := goodIn_app (goodIn_of _ (by decide +kernel)) ggX2_errorsOf_X2_errorsAfter
theorem dX2_errorsOf_0 : decode cX2_errorsOf 0 = .ok (.aload_n 0, 1) := by decide +kernel
theorem dX2_errorsOf_1 : decode cX2_errorsOf 1 = .ok (.aload_n 0, 1) := by decide +kernel
theorem dX2_errorsOf_2 : decode cX2_errorsOf 2 = .ok (.iload_n 1, 1) := by decide +kernel
theorem dX2_errorsOf_3 : decode cX2_errorsOf 3 = .ok (.invokevirtual 101, 3) := by decide +kernel
theorem dX2_errorsOf_6 : decode cX2_errorsOf 6 = .ok (.iconst 0, 1) := by decide +kernel
theorem dX2_errorsOf_7 : decode cX2_errorsOf 7 = .ok (.invokevirtual 174, 3) := by decide +kernel
theorem dX2_errorsOf_10 : decode cX2_errorsOf 10 = .ok (.ireturn, 1) := by decide +kernel
set_option maxRecDepth 20000 in
theorem ggX2_farthestBehind_X2_lag : GoodIn wsX2_farthestBehind wsX2_lag := goodIn_r _ [7, 8, 9, 10, 11, 12, 13, 14, 15, 16, 17, 18, 19, 20, 21, 22, 23, 24, 25, 26, 27, 28, 29, 30, 31, 32, 33, 34, 35, 36] (by decide +kernel) (by decide +kernel)
set_option maxRecDepth 20000 in
theorem gX2_farthestBehind_X2_lag : GoodIn wsX2_farthestBehind (wsV RX2 161 RX2 yX2_lag wsX2_lag) := goodIn_app (goodIn_of _ (by decide +kernel)) ggX2_farthestBehind_X2_lag
theorem dX2_farthestBehind_0 : decode cX2_farthestBehind 0 = .ok (.iconst (-1), 1) := by decide +kernel
theorem dX2_farthestBehind_1 : decode cX2_farthestBehind 1 = .ok (.istore_n 1, 1) := by decide +kernel
theorem dX2_farthestBehind_2 : decode cX2_farthestBehind 2 = .ok (.iconst (-1), 1) := by decide +kernel
theorem dX2_farthestBehind_3 : decode cX2_farthestBehind 3 = .ok (.istore_n 2, 1) := by decide +kernel
theorem dX2_farthestBehind_4 : decode cX2_farthestBehind 4 = .ok (.iconst 0, 1) := by decide +kernel
theorem dX2_farthestBehind_5 : decode cX2_farthestBehind 5 = .ok (.istore_n 3, 1) := by decide +kernel
theorem dX2_farthestBehind_6 : decode cX2_farthestBehind 6 = .ok (.iload_n 3, 1) := by decide +kernel
theorem dX2_farthestBehind_7 : decode cX2_farthestBehind 7 = .ok (.aload_n 0, 1) := by decide +kernel
theorem dX2_farthestBehind_8 : decode cX2_farthestBehind 8 = .ok (.getfield 90, 3) := by decide +kernel
theorem dX2_farthestBehind_11 : decode cX2_farthestBehind 11 = .ok (.if_icmp .ge 32, 3) := by decide +kernel
theorem dX2_farthestBehind_14 : decode cX2_farthestBehind 14 = .ok (.aload_n 0, 1) := by decide +kernel
theorem dX2_farthestBehind_15 : decode cX2_farthestBehind 15 = .ok (.aload_n 0, 1) := by decide +kernel
theorem dX2_farthestBehind_16 : decode cX2_farthestBehind 16 = .ok (.getfield 22, 3) := by decide +kernel
theorem dX2_farthestBehind_19 : decode cX2_farthestBehind 19 = .ok (.iload_n 3, 1) := by decide +kernel
theorem dX2_farthestBehind_20 : decode cX2_farthestBehind 20 = .ok (.aaload, 1) := by decide +kernel
theorem dX2_farthestBehind_21 : decode cX2_farthestBehind 21 = .ok (.invokevirtual 161, 3) := by decide +kernel
theorem dX2_farthestBehind_24 : decode cX2_farthestBehind 24 = .ok (.istore 4, 2) := by decide +kernel
theorem dX2_farthestBehind_26 : decode cX2_farthestBehind 26 = .ok (.iload 4, 2) := by decide +kernel
theorem dX2_farthestBehind_28 : decode cX2_farthestBehind 28 = .ok (.iload_n 2, 1) := by decide +kernel
theorem dX2_farthestBehind_29 : decode cX2_farthestBehind 29 = .ok (.if_icmp .le 8, 3) := by decide +kernel
theorem dX2_farthestBehind_32 : decode cX2_farthestBehind 32 = .ok (.iload_n 3, 1) := by decide +kernel
theorem dX2_farthestBehind_33 : decode cX2_farthestBehind 33 = .ok (.istore_n 1, 1) := by decide +kernel
theorem dX2_farthestBehind_34 : decode cX2_farthestBehind 34 = .ok (.iload 4, 2) := by decide +kernel
theorem dX2_farthestBehind_36 : decode cX2_farthestBehind 36 = .ok (.istore_n 2, 1) := by decide +kernel
theorem dX2_farthestBehind_37 : decode cX2_farthestBehind 37 = .ok (.iinc 3 1, 3) := by decide +kernel
theorem dX2_farthestBehind_40 : decode cX2_farthestBehind 40 = .ok (.goto (-34), 3) := by decide +kernel
theorem dX2_farthestBehind_43 : decode cX2_farthestBehind 43 = .ok (.iload_n 1, 1) := by decide +kernel
theorem dX2_farthestBehind_44 : decode cX2_farthestBehind 44 = .ok (.ireturn, 1) := by decide +kernel
set_option maxRecDepth 20000 in
theorem ggX2_wouldCompact_X2_markCompacted : GoodIn wsX2_wouldCompact wsX2_markCompacted := goodIn_r _ [6, 1, 7, 8, 9, 5, 10, 11, 12, 13, 14, 15, 16, 17, 18, 19, 20, 21, 22, 23, 24, 25, 26, 27, 28, 29, 41, 42, 43, 44, 45, 46, 47, 48, 49, 50, 51, 52, 53, 54, 55, 56, 57, 58, 59, 60, 61, 62] (by decide +kernel) (by decide +kernel)
set_option maxRecDepth 20000 in
theorem gX2_wouldCompact_X2_markCompacted : GoodIn wsX2_wouldCompact (wsV RX2 75 RX2 yX2_markCompacted wsX2_markCompacted) := goodIn_app (goodIn_of _ (by decide +kernel)) ggX2_wouldCompact_X2_markCompacted
set_option maxRecDepth 20000 in
theorem ggX2_wouldCompact_X0_countMarked : GoodIn wsX2_wouldCompact wsX0_countMarked := goodIn_r _ [32, 33, 34, 35, 18, 36, 21, 25, 37, 38, 39, 40, 24, 50, 51, 52, 53, 54, 55, 56, 57] (by decide +kernel) (by decide +kernel)
set_option maxRecDepth 20000 in
theorem gX2_wouldCompact_X0_countMarked_n180 : GoodIn wsX2_wouldCompact (wsX0_countMarked) := ggX2_wouldCompact_X0_countMarked
theorem dX2_wouldCompact_0 : decode cX2_wouldCompact 0 = .ok (.aload_n 0, 1) := by decide +kernel
theorem dX2_wouldCompact_1 : decode cX2_wouldCompact 1 = .ok (.invokevirtual 75, 3) := by decide +kernel
theorem dX2_wouldCompact_4 : decode cX2_wouldCompact 4 = .ok (.aload_n 0, 1) := by decide +kernel
theorem dX2_wouldCompact_5 : decode cX2_wouldCompact 5 = .ok (.getfield 10, 3) := by decide +kernel
theorem dX2_wouldCompact_8 : decode cX2_wouldCompact 8 = .ok (.invokevirtual 180, 3) := by decide +kernel
theorem dX2_wouldCompact_11 : decode cX2_wouldCompact 11 = .ok (.ireturn, 1) := by decide +kernel
set_option maxRecDepth 20000 in
theorem ggX2_wouldMiss_X2_shipNumbered : GoodIn wsX2_wouldMiss wsX2_shipNumbered := goodIn_ca (goodIn_r _ [6, 7, 8, 9, 10, 43, 44, 45, 46, 47, 48, 49, 50, 51] (by decide +kernel) (by decide +kernel)) (goodIn_sub (fun _ h => List.mem_cons_of_mem _ (List.mem_append_right _ h)) (by decide +kernel))
set_option maxRecDepth 20000 in
theorem gX2_wouldMiss_X2_shipNumbered : GoodIn wsX2_wouldMiss (wsV RX2 101 RX2 yX2_shipNumbered wsX2_shipNumbered) := goodIn_app (goodIn_of _ (by decide +kernel)) ggX2_wouldMiss_X2_shipNumbered
set_option maxRecDepth 20000 in
theorem ggX2_wouldMiss_X2_markCompacted : GoodIn wsX2_wouldMiss wsX2_markCompacted := goodIn_r _ [14, 1, 15, 16, 17, 5, 18, 9, 10, 19, 20, 21, 22, 23, 24, 25, 26, 27, 28, 29, 30, 31, 32, 33, 34, 35, 43, 44, 45, 46, 47, 48, 49, 50, 51, 57, 58, 59, 60, 61, 62, 63, 64, 52, 53, 54, 55, 56] (by decide +kernel) (by decide +kernel)
set_option maxRecDepth 20000 in
theorem gX2_wouldMiss_X2_markCompacted : GoodIn wsX2_wouldMiss (wsV RX2 75 RX2 yX2_markCompacted wsX2_markCompacted) := goodIn_app (goodIn_of _ (by decide +kernel)) ggX2_wouldMiss_X2_markCompacted
set_option maxRecDepth 20000 in
theorem ggX2_wouldMiss_X0_countMarkedFrom : GoodIn wsX2_wouldMiss wsX0_countMarkedFrom := goodIn_r _ [38, 27, 31, 39, 40, 41, 24, 42, 30, 57, 58, 59, 60, 61, 62, 63, 64] (by decide +kernel) (by decide +kernel)
set_option maxRecDepth 20000 in
theorem gX2_wouldMiss_X0_countMarkedFrom_n183 : GoodIn wsX2_wouldMiss (wsX0_countMarkedFrom) := ggX2_wouldMiss_X0_countMarkedFrom
theorem dX2_wouldMiss_0 : decode cX2_wouldMiss 0 = .ok (.aload_n 0, 1) := by decide +kernel
theorem dX2_wouldMiss_1 : decode cX2_wouldMiss 1 = .ok (.iload_n 1, 1) := by decide +kernel
theorem dX2_wouldMiss_2 : decode cX2_wouldMiss 2 = .ok (.invokevirtual 101, 3) := by decide +kernel
theorem dX2_wouldMiss_5 : decode cX2_wouldMiss 5 = .ok (.astore_n 2, 1) := by decide +kernel
theorem dX2_wouldMiss_6 : decode cX2_wouldMiss 6 = .ok (.aload_n 0, 1) := by decide +kernel
theorem dX2_wouldMiss_7 : decode cX2_wouldMiss 7 = .ok (.invokevirtual 75, 3) := by decide +kernel
theorem dX2_wouldMiss_10 : decode cX2_wouldMiss 10 = .ok (.aload_n 0, 1) := by decide +kernel
theorem dX2_wouldMiss_11 : decode cX2_wouldMiss 11 = .ok (.getfield 10, 3) := by decide +kernel
theorem dX2_wouldMiss_14 : decode cX2_wouldMiss 14 = .ok (.aload_n 2, 1) := by decide +kernel
theorem dX2_wouldMiss_15 : decode cX2_wouldMiss 15 = .ok (.getfield 98, 3) := by decide +kernel
theorem dX2_wouldMiss_18 : decode cX2_wouldMiss 18 = .ok (.invokevirtual 183, 3) := by decide +kernel
theorem dX2_wouldMiss_21 : decode cX2_wouldMiss 21 = .ok (.ireturn, 1) := by decide +kernel
set_option maxRecDepth 20000 in
theorem ggX2_meanLag_X2_lag : GoodIn wsX2_meanLag wsX2_lag := goodIn_r _ [7, 8, 9, 10, 11, 12, 13, 14, 15, 16, 17, 18, 19, 20, 21, 22, 23, 24, 25, 26, 27, 28, 29, 30, 31, 32, 33, 34, 35, 36] (by decide +kernel) (by decide +kernel)
set_option maxRecDepth 20000 in
theorem gX2_meanLag_X2_lag : GoodIn wsX2_meanLag (wsV RX2 161 RX2 yX2_lag wsX2_lag) := goodIn_app (goodIn_of _ (by decide +kernel)) ggX2_meanLag_X2_lag
theorem dX2_meanLag_0 : decode cX2_meanLag 0 = .ok (.aload_n 0, 1) := by decide +kernel
theorem dX2_meanLag_1 : decode cX2_meanLag 1 = .ok (.getfield 90, 3) := by decide +kernel
theorem dX2_meanLag_4 : decode cX2_meanLag 4 = .ok (.ifCond .ne 5, 3) := by decide +kernel
theorem dX2_meanLag_7 : decode cX2_meanLag 7 = .ok (.dconst 0, 1) := by decide +kernel
theorem dX2_meanLag_8 : decode cX2_meanLag 8 = .ok (.dreturn, 1) := by decide +kernel
theorem dX2_meanLag_9 : decode cX2_meanLag 9 = .ok (.iconst 0, 1) := by decide +kernel
theorem dX2_meanLag_10 : decode cX2_meanLag 10 = .ok (.istore_n 1, 1) := by decide +kernel
theorem dX2_meanLag_11 : decode cX2_meanLag 11 = .ok (.iconst 0, 1) := by decide +kernel
theorem dX2_meanLag_12 : decode cX2_meanLag 12 = .ok (.istore_n 2, 1) := by decide +kernel
theorem dX2_meanLag_13 : decode cX2_meanLag 13 = .ok (.iload_n 2, 1) := by decide +kernel
theorem dX2_meanLag_14 : decode cX2_meanLag 14 = .ok (.aload_n 0, 1) := by decide +kernel
theorem dX2_meanLag_15 : decode cX2_meanLag 15 = .ok (.getfield 90, 3) := by decide +kernel
theorem dX2_meanLag_18 : decode cX2_meanLag 18 = .ok (.if_icmp .ge 22, 3) := by decide +kernel
theorem dX2_meanLag_21 : decode cX2_meanLag 21 = .ok (.iload_n 1, 1) := by decide +kernel
theorem dX2_meanLag_22 : decode cX2_meanLag 22 = .ok (.aload_n 0, 1) := by decide +kernel
theorem dX2_meanLag_23 : decode cX2_meanLag 23 = .ok (.aload_n 0, 1) := by decide +kernel
theorem dX2_meanLag_24 : decode cX2_meanLag 24 = .ok (.getfield 22, 3) := by decide +kernel
theorem dX2_meanLag_27 : decode cX2_meanLag 27 = .ok (.iload_n 2, 1) := by decide +kernel
theorem dX2_meanLag_28 : decode cX2_meanLag 28 = .ok (.aaload, 1) := by decide +kernel
theorem dX2_meanLag_29 : decode cX2_meanLag 29 = .ok (.invokevirtual 161, 3) := by decide +kernel
theorem dX2_meanLag_32 : decode cX2_meanLag 32 = .ok (.iadd, 1) := by decide +kernel
theorem dX2_meanLag_33 : decode cX2_meanLag 33 = .ok (.istore_n 1, 1) := by decide +kernel
theorem dX2_meanLag_34 : decode cX2_meanLag 34 = .ok (.iinc 2 1, 3) := by decide +kernel
theorem dX2_meanLag_37 : decode cX2_meanLag 37 = .ok (.goto (-24), 3) := by decide +kernel
theorem dX2_meanLag_40 : decode cX2_meanLag 40 = .ok (.iload_n 1, 1) := by decide +kernel
theorem dX2_meanLag_41 : decode cX2_meanLag 41 = .ok (.i2d, 1) := by decide +kernel
theorem dX2_meanLag_42 : decode cX2_meanLag 42 = .ok (.aload_n 0, 1) := by decide +kernel
theorem dX2_meanLag_43 : decode cX2_meanLag 43 = .ok (.getfield 90, 3) := by decide +kernel
theorem dX2_meanLag_46 : decode cX2_meanLag 46 = .ok (.i2d, 1) := by decide +kernel
theorem dX2_meanLag_47 : decode cX2_meanLag 47 = .ok (.ddiv, 1) := by decide +kernel
theorem dX2_meanLag_48 : decode cX2_meanLag 48 = .ok (.dreturn, 1) := by decide +kernel
set_option maxRecDepth 20000 in
theorem ggX2_speak_X0_markFirst : GoodIn wsX2_speak wsX0_markFirst := goodIn_r _ [8, 9, 10, 46, 47, 48, 49, 50, 51, 52, 53] (by decide +kernel) (by decide +kernel)
set_option maxRecDepth 20000 in
theorem gX2_speak_X0_markFirst_n213 : GoodIn wsX2_speak (wsX0_markFirst) := ggX2_speak_X0_markFirst
set_option maxRecDepth 20000 in
theorem ggX2_speak_X2_dropMarked : GoodIn wsX2_speak wsX2_dropMarked := goodIn_r _ [15, 16, 17, 1, 18, 6, 19, 20, 9, 10, 21, 22, 23, 24, 25, 26, 27, 28, 29, 30, 31, 32, 37, 38, 39, 40, 41, 42, 43, 44, 45, 54, 55, 56, 57, 58, 46, 47, 48, 49, 50, 51, 52, 53] (by decide +kernel) (by decide +kernel)
set_option maxRecDepth 20000 in
theorem gX2_speak_X2_dropMarked : GoodIn wsX2_speak (wsV RX2 78 RX2 yX2_dropMarked wsX2_dropMarked) := goodIn_app (goodIn_of _ (by decide +kernel)) ggX2_speak_X2_dropMarked
set_option maxRecDepth 20000 in
theorem ggX2_speak_X0_append : GoodIn wsX2_speak wsX0_append := goodIn_r _ [35, 25, 9, 36, 29, 30, 31, 46, 47, 48, 49, 50, 51, 52, 53] (by decide +kernel) (by decide +kernel)
set_option maxRecDepth 20000 in
theorem gX2_speak_X0_append_n216 : GoodIn wsX2_speak (wsX0_append) := ggX2_speak_X0_append
theorem dX2_speak_0 : decode cX2_speak 0 = .ok (.aload_n 0, 1) := by decide +kernel
theorem dX2_speak_1 : decode cX2_speak 1 = .ok (.getfield 10, 3) := by decide +kernel
theorem dX2_speak_4 : decode cX2_speak 4 = .ok (.getfield 118, 3) := by decide +kernel
theorem dX2_speak_7 : decode cX2_speak 7 = .ok (.bipush 48, 2) := by decide +kernel
theorem dX2_speak_9 : decode cX2_speak 9 = .ok (.if_icmp .lt 15, 3) := by decide +kernel
theorem dX2_speak_12 : decode cX2_speak 12 = .ok (.aload_n 0, 1) := by decide +kernel
theorem dX2_speak_13 : decode cX2_speak 13 = .ok (.getfield 10, 3) := by decide +kernel
theorem dX2_speak_16 : decode cX2_speak 16 = .ok (.invokevirtual 213, 3) := by decide +kernel
theorem dX2_speak_19 : decode cX2_speak 19 = .ok (.aload_n 0, 1) := by decide +kernel
theorem dX2_speak_20 : decode cX2_speak 20 = .ok (.invokevirtual 78, 3) := by decide +kernel
theorem dX2_speak_23 : decode cX2_speak 23 = .ok (.pop, 1) := by decide +kernel
theorem dX2_speak_24 : decode cX2_speak 24 = .ok (.iconst (-1), 1) := by decide +kernel
theorem dX2_speak_25 : decode cX2_speak 25 = .ok (.istore_n 3, 1) := by decide +kernel
theorem dX2_speak_26 : decode cX2_speak 26 = .ok (.aload_n 0, 1) := by decide +kernel
theorem dX2_speak_27 : decode cX2_speak 27 = .ok (.getfield 50, 3) := by decide +kernel
theorem dX2_speak_30 : decode cX2_speak 30 = .ok (.ifCond .eq 20, 3) := by decide +kernel
theorem dX2_speak_33 : decode cX2_speak 33 = .ok (.aload_n 0, 1) := by decide +kernel
theorem dX2_speak_34 : decode cX2_speak 34 = .ok (.getfield 59, 3) := by decide +kernel
theorem dX2_speak_37 : decode cX2_speak 37 = .ok (.iconst 1, 1) := by decide +kernel
theorem dX2_speak_38 : decode cX2_speak 38 = .ok (.isub, 1) := by decide +kernel
theorem dX2_speak_39 : decode cX2_speak 39 = .ok (.istore_n 3, 1) := by decide +kernel
theorem dX2_speak_40 : decode cX2_speak 40 = .ok (.aload_n 0, 1) := by decide +kernel
theorem dX2_speak_41 : decode cX2_speak 41 = .ok (.getfield 16, 3) := by decide +kernel
theorem dX2_speak_44 : decode cX2_speak 44 = .ok (.iload_n 3, 1) := by decide +kernel
theorem dX2_speak_45 : decode cX2_speak 45 = .ok (.dup2, 1) := by decide +kernel
theorem dX2_speak_46 : decode cX2_speak 46 = .ok (.iaload, 1) := by decide +kernel
theorem dX2_speak_47 : decode cX2_speak 47 = .ok (.iconst 1, 1) := by decide +kernel
theorem dX2_speak_48 : decode cX2_speak 48 = .ok (.iadd, 1) := by decide +kernel
theorem dX2_speak_49 : decode cX2_speak 49 = .ok (.iastore, 1) := by decide +kernel
theorem dX2_speak_50 : decode cX2_speak 50 = .ok (.aload_n 0, 1) := by decide +kernel
theorem dX2_speak_51 : decode cX2_speak 51 = .ok (.getfield 10, 3) := by decide +kernel
theorem dX2_speak_54 : decode cX2_speak 54 = .ok (.iload_n 1, 1) := by decide +kernel
theorem dX2_speak_55 : decode cX2_speak 55 = .ok (.iload_n 2, 1) := by decide +kernel
theorem dX2_speak_56 : decode cX2_speak 56 = .ok (.iload_n 3, 1) := by decide +kernel
theorem dX2_speak_57 : decode cX2_speak 57 = .ok (.invokevirtual 216, 3) := by decide +kernel
theorem dX2_speak_60 : decode cX2_speak 60 = .ok (.ireturn, 1) := by decide +kernel
set_option maxRecDepth 20000 in
theorem ggX2_markCompacted_X2_leastShipOffset : GoodIn wsX2_markCompacted wsX2_leastShipOffset := goodIn_r _ [6, 1, 7, 8, 9, 10, 11, 12, 26, 27, 28, 29, 30, 31, 32, 33, 34, 35, 36, 37, 38, 39, 40, 41, 42, 43, 44, 45, 46, 47] (by decide +kernel) (by decide +kernel)
set_option maxRecDepth 20000 in
theorem gX2_markCompacted_X2_leastShipOffset : GoodIn wsX2_markCompacted (wsV RX2 220 RX2 yX2_leastShipOffset wsX2_leastShipOffset) := goodIn_app (goodIn_of _ (by decide +kernel)) ggX2_markCompacted_X2_leastShipOffset
set_option maxRecDepth 20000 in
theorem ggX2_markCompacted_X0_markCompacted : GoodIn wsX2_markCompacted wsX0_markCompacted := goodIn_r _ [16, 17, 18, 19, 20, 21, 22, 23, 24, 14, 25, 35, 36, 37, 38, 39, 40, 41, 42] (by decide +kernel) (by decide +kernel)
set_option maxRecDepth 20000 in
theorem gX2_markCompacted_X0_markCompacted_n223 : GoodIn wsX2_markCompacted (wsX0_markCompacted) := ggX2_markCompacted_X0_markCompacted
theorem dX2_markCompacted_0 : decode cX2_markCompacted 0 = .ok (.aload_n 0, 1) := by decide +kernel
theorem dX2_markCompacted_1 : decode cX2_markCompacted 1 = .ok (.getfield 10, 3) := by decide +kernel
theorem dX2_markCompacted_4 : decode cX2_markCompacted 4 = .ok (.aload_n 0, 1) := by decide +kernel
theorem dX2_markCompacted_5 : decode cX2_markCompacted 5 = .ok (.invokevirtual 220, 3) := by decide +kernel
theorem dX2_markCompacted_8 : decode cX2_markCompacted 8 = .ok (.invokevirtual 223, 3) := by decide +kernel
theorem dX2_markCompacted_11 : decode cX2_markCompacted 11 = .ok (.return_, 1) := by decide +kernel
theorem dX2_leastShipOffset_0 : decode cX2_leastShipOffset 0 = .ok (.aload_n 0, 1) := by decide +kernel
theorem dX2_leastShipOffset_1 : decode cX2_leastShipOffset 1 = .ok (.getfield 10, 3) := by decide +kernel
theorem dX2_leastShipOffset_4 : decode cX2_leastShipOffset 4 = .ok (.getfield 121, 3) := by decide +kernel
theorem dX2_leastShipOffset_7 : decode cX2_leastShipOffset 7 = .ok (.istore_n 1, 1) := by decide +kernel
theorem dX2_leastShipOffset_8 : decode cX2_leastShipOffset 8 = .ok (.iconst 0, 1) := by decide +kernel
theorem dX2_leastShipOffset_9 : decode cX2_leastShipOffset 9 = .ok (.istore_n 2, 1) := by decide +kernel
theorem dX2_leastShipOffset_10 : decode cX2_leastShipOffset 10 = .ok (.iload_n 2, 1) := by decide +kernel
theorem dX2_leastShipOffset_11 : decode cX2_leastShipOffset 11 = .ok (.aload_n 0, 1) := by decide +kernel
theorem dX2_leastShipOffset_12 : decode cX2_leastShipOffset 12 = .ok (.getfield 90, 3) := by decide +kernel
theorem dX2_leastShipOffset_15 : decode cX2_leastShipOffset 15 = .ok (.if_icmp .ge 23, 3) := by decide +kernel
theorem dX2_leastShipOffset_18 : decode cX2_leastShipOffset 18 = .ok (.iload_n 1, 1) := by decide +kernel
theorem dX2_leastShipOffset_19 : decode cX2_leastShipOffset 19 = .ok (.aload_n 0, 1) := by decide +kernel
theorem dX2_leastShipOffset_20 : decode cX2_leastShipOffset 20 = .ok (.getfield 22, 3) := by decide +kernel
theorem dX2_leastShipOffset_23 : decode cX2_leastShipOffset 23 = .ok (.iload_n 2, 1) := by decide +kernel
theorem dX2_leastShipOffset_24 : decode cX2_leastShipOffset 24 = .ok (.aaload, 1) := by decide +kernel
theorem dX2_leastShipOffset_25 : decode cX2_leastShipOffset 25 = .ok (.getfield 98, 3) := by decide +kernel
theorem dX2_leastShipOffset_28 : decode cX2_leastShipOffset 28 = .ok (.invokestatic 225, 3) := by decide +kernel
theorem dX2_leastShipOffset_31 : decode cX2_leastShipOffset 31 = .ok (.istore_n 1, 1) := by decide +kernel
theorem dX2_leastShipOffset_32 : decode cX2_leastShipOffset 32 = .ok (.iinc 2 1, 3) := by decide +kernel
theorem dX2_leastShipOffset_35 : decode cX2_leastShipOffset 35 = .ok (.goto (-25), 3) := by decide +kernel
theorem dX2_leastShipOffset_38 : decode cX2_leastShipOffset 38 = .ok (.iload_n 1, 1) := by decide +kernel
theorem dX2_leastShipOffset_39 : decode cX2_leastShipOffset 39 = .ok (.ireturn, 1) := by decide +kernel
set_option maxRecDepth 20000 in
theorem ggX2_dropMarked_X0_countMarkedFrom : GoodIn wsX2_dropMarked wsX0_countMarkedFrom := goodIn_r _ [7, 8, 9, 10, 11, 12, 5, 13, 14, 36, 37, 38, 39, 40, 41, 42, 43] (by decide +kernel) (by decide +kernel)
set_option maxRecDepth 20000 in
theorem gX2_dropMarked_X0_countMarkedFrom_n183 : GoodIn wsX2_dropMarked (wsX0_countMarkedFrom) := ggX2_dropMarked_X0_countMarkedFrom
set_option maxRecDepth 20000 in
theorem ggX2_dropMarked_X0_removeMarked : GoodIn wsX2_dropMarked wsX0_removeMarked := goodIn_r _ [17, 8, 9, 14, 18, 19, 20, 21, 36, 37, 38, 39, 40, 41, 42, 43] (by decide +kernel) (by decide +kernel)
set_option maxRecDepth 20000 in
theorem gX2_dropMarked_X0_removeMarked_n230 : GoodIn wsX2_dropMarked (wsX0_removeMarked) := ggX2_dropMarked_X0_removeMarked
theorem dX2_dropMarked_0 : decode cX2_dropMarked 0 = .ok (.iconst 0, 1) := by decide +kernel
theorem dX2_dropMarked_1 : decode cX2_dropMarked 1 = .ok (.istore_n 1, 1) := by decide +kernel
theorem dX2_dropMarked_2 : decode cX2_dropMarked 2 = .ok (.iload_n 1, 1) := by decide +kernel
theorem dX2_dropMarked_3 : decode cX2_dropMarked 3 = .ok (.aload_n 0, 1) := by decide +kernel
theorem dX2_dropMarked_4 : decode cX2_dropMarked 4 = .ok (.getfield 90, 3) := by decide +kernel
theorem dX2_dropMarked_7 : decode cX2_dropMarked 7 = .ok (.if_icmp .ge 39, 3) := by decide +kernel
theorem dX2_dropMarked_10 : decode cX2_dropMarked 10 = .ok (.aload_n 0, 1) := by decide +kernel
theorem dX2_dropMarked_11 : decode cX2_dropMarked 11 = .ok (.getfield 22, 3) := by decide +kernel
theorem dX2_dropMarked_14 : decode cX2_dropMarked 14 = .ok (.iload_n 1, 1) := by decide +kernel
theorem dX2_dropMarked_15 : decode cX2_dropMarked 15 = .ok (.aaload, 1) := by decide +kernel
theorem dX2_dropMarked_16 : decode cX2_dropMarked 16 = .ok (.dup, 1) := by decide +kernel
theorem dX2_dropMarked_17 : decode cX2_dropMarked 17 = .ok (.getfield 168, 3) := by decide +kernel
theorem dX2_dropMarked_20 : decode cX2_dropMarked 20 = .ok (.aload_n 0, 1) := by decide +kernel
theorem dX2_dropMarked_21 : decode cX2_dropMarked 21 = .ok (.getfield 10, 3) := by decide +kernel
theorem dX2_dropMarked_24 : decode cX2_dropMarked 24 = .ok (.aload_n 0, 1) := by decide +kernel
theorem dX2_dropMarked_25 : decode cX2_dropMarked 25 = .ok (.getfield 22, 3) := by decide +kernel
theorem dX2_dropMarked_28 : decode cX2_dropMarked 28 = .ok (.iload_n 1, 1) := by decide +kernel
theorem dX2_dropMarked_29 : decode cX2_dropMarked 29 = .ok (.aaload, 1) := by decide +kernel
theorem dX2_dropMarked_30 : decode cX2_dropMarked 30 = .ok (.getfield 98, 3) := by decide +kernel
theorem dX2_dropMarked_33 : decode cX2_dropMarked 33 = .ok (.invokevirtual 183, 3) := by decide +kernel
theorem dX2_dropMarked_36 : decode cX2_dropMarked 36 = .ok (.iadd, 1) := by decide +kernel
theorem dX2_dropMarked_37 : decode cX2_dropMarked 37 = .ok (.putfield 168, 3) := by decide +kernel
theorem dX2_dropMarked_40 : decode cX2_dropMarked 40 = .ok (.iinc 1 1, 3) := by decide +kernel
theorem dX2_dropMarked_43 : decode cX2_dropMarked 43 = .ok (.goto (-41), 3) := by decide +kernel
theorem dX2_dropMarked_46 : decode cX2_dropMarked 46 = .ok (.aload_n 0, 1) := by decide +kernel
theorem dX2_dropMarked_47 : decode cX2_dropMarked 47 = .ok (.getfield 10, 3) := by decide +kernel
theorem dX2_dropMarked_50 : decode cX2_dropMarked 50 = .ok (.invokevirtual 230, 3) := by decide +kernel
theorem dX2_dropMarked_53 : decode cX2_dropMarked 53 = .ok (.ireturn, 1) := by decide +kernel
set_option maxRecDepth 20000 in
theorem ggX2_lag_X0_positionFrom : GoodIn wsX2_lag wsX0_positionFrom := goodIn_r _ [5, 6, 7, 17, 18, 19, 20, 21, 22, 23, 24] (by decide +kernel) (by decide +kernel)
set_option maxRecDepth 20000 in
theorem gX2_lag_X0_positionFrom_n233 : GoodIn wsX2_lag (wsX0_positionFrom) := ggX2_lag_X0_positionFrom
theorem dX2_lag_0 : decode cX2_lag 0 = .ok (.aload_n 0, 1) := by decide +kernel
theorem dX2_lag_1 : decode cX2_lag 1 = .ok (.getfield 10, 3) := by decide +kernel
theorem dX2_lag_4 : decode cX2_lag 4 = .ok (.getfield 118, 3) := by decide +kernel
theorem dX2_lag_7 : decode cX2_lag 7 = .ok (.aload_n 0, 1) := by decide +kernel
theorem dX2_lag_8 : decode cX2_lag 8 = .ok (.getfield 10, 3) := by decide +kernel
theorem dX2_lag_11 : decode cX2_lag 11 = .ok (.aload_n 1, 1) := by decide +kernel
theorem dX2_lag_12 : decode cX2_lag 12 = .ok (.getfield 98, 3) := by decide +kernel
theorem dX2_lag_15 : decode cX2_lag 15 = .ok (.invokevirtual 233, 3) := by decide +kernel
theorem dX2_lag_18 : decode cX2_lag 18 = .ok (.isub, 1) := by decide +kernel
theorem dX2_lag_19 : decode cX2_lag 19 = .ok (.ireturn, 1) := by decide +kernel
theorem dX2_mostHeard_0 : decode cX2_mostHeard 0 = .ok (.aload_n 0, 1) := by decide +kernel
theorem dX2_mostHeard_1 : decode cX2_mostHeard 1 = .ok (.getfield 50, 3) := by decide +kernel
theorem dX2_mostHeard_4 : decode cX2_mostHeard 4 = .ok (.ifCond .eq 7, 3) := by decide +kernel
theorem dX2_mostHeard_7 : decode cX2_mostHeard 7 = .ok (.iconst 0, 1) := by decide +kernel
theorem dX2_mostHeard_8 : decode cX2_mostHeard 8 = .ok (.goto 6, 3) := by decide +kernel
theorem dX2_mostHeard_11 : decode cX2_mostHeard 11 = .ok (.iload_n 1, 1) := by decide +kernel
theorem dX2_mostHeard_12 : decode cX2_mostHeard 12 = .ok (.iload_n 2, 1) := by decide +kernel
theorem dX2_mostHeard_13 : decode cX2_mostHeard 13 = .ok (.imul, 1) := by decide +kernel
theorem dX2_mostHeard_14 : decode cX2_mostHeard 14 = .ok (.ireturn, 1) := by decide +kernel
set_option maxRecDepth 20000 in
theorem ggX2_hearNext_X0_positionFrom : GoodIn wsX2_hearNext wsX0_positionFrom := goodIn_r _ [9, 10, 11, 33, 34, 35, 36, 37, 38, 39, 40] (by decide +kernel) (by decide +kernel)
set_option maxRecDepth 20000 in
theorem gX2_hearNext_X0_positionFrom_n233 : GoodIn wsX2_hearNext (wsX0_positionFrom) := ggX2_hearNext_X0_positionFrom
set_option maxRecDepth 20000 in
theorem ggX2_hearNext_X1_hear : GoodIn wsX2_hearNext wsX1_hear := goodIn_r _ [15, 16, 17, 18, 28, 29, 30, 31, 32] (by decide +kernel) (by decide +kernel)
set_option maxRecDepth 20000 in
theorem gX2_hearNext_X1_hear_n236 : GoodIn wsX2_hearNext (wsX1_hear) := ggX2_hearNext_X1_hear
theorem dX2_hearNext_0 : decode cX2_hearNext 0 = .ok (.aload_n 0, 1) := by decide +kernel
theorem dX2_hearNext_1 : decode cX2_hearNext 1 = .ok (.getfield 10, 3) := by decide +kernel
theorem dX2_hearNext_4 : decode cX2_hearNext 4 = .ok (.aload_n 1, 1) := by decide +kernel
theorem dX2_hearNext_5 : decode cX2_hearNext 5 = .ok (.getfield 98, 3) := by decide +kernel
theorem dX2_hearNext_8 : decode cX2_hearNext 8 = .ok (.invokevirtual 233, 3) := by decide +kernel
theorem dX2_hearNext_11 : decode cX2_hearNext 11 = .ok (.istore_n 3, 1) := by decide +kernel
theorem dX2_hearNext_12 : decode cX2_hearNext 12 = .ok (.aload_n 0, 1) := by decide +kernel
theorem dX2_hearNext_13 : decode cX2_hearNext 13 = .ok (.getfield 10, 3) := by decide +kernel
theorem dX2_hearNext_16 : decode cX2_hearNext 16 = .ok (.getfield 118, 3) := by decide +kernel
theorem dX2_hearNext_19 : decode cX2_hearNext 19 = .ok (.iload_n 3, 1) := by decide +kernel
theorem dX2_hearNext_20 : decode cX2_hearNext 20 = .ok (.iload_n 2, 1) := by decide +kernel
theorem dX2_hearNext_21 : decode cX2_hearNext 21 = .ok (.iadd, 1) := by decide +kernel
theorem dX2_hearNext_22 : decode cX2_hearNext 22 = .ok (.invokestatic 225, 3) := by decide +kernel
theorem dX2_hearNext_25 : decode cX2_hearNext 25 = .ok (.istore 4, 2) := by decide +kernel
theorem dX2_hearNext_27 : decode cX2_hearNext 27 = .ok (.iload_n 3, 1) := by decide +kernel
theorem dX2_hearNext_28 : decode cX2_hearNext 28 = .ok (.istore 5, 2) := by decide +kernel
theorem dX2_hearNext_30 : decode cX2_hearNext 30 = .ok (.iload 5, 2) := by decide +kernel
theorem dX2_hearNext_32 : decode cX2_hearNext 32 = .ok (.iload 4, 2) := by decide +kernel
theorem dX2_hearNext_34 : decode cX2_hearNext 34 = .ok (.if_icmp .ge 43, 3) := by decide +kernel
theorem dX2_hearNext_37 : decode cX2_hearNext 37 = .ok (.aload_n 1, 1) := by decide +kernel
theorem dX2_hearNext_38 : decode cX2_hearNext 38 = .ok (.aload_n 0, 1) := by decide +kernel
theorem dX2_hearNext_39 : decode cX2_hearNext 39 = .ok (.getfield 10, 3) := by decide +kernel
theorem dX2_hearNext_42 : decode cX2_hearNext 42 = .ok (.getfield 124, 3) := by decide +kernel
theorem dX2_hearNext_45 : decode cX2_hearNext 45 = .ok (.iload 5, 2) := by decide +kernel
theorem dX2_hearNext_47 : decode cX2_hearNext 47 = .ok (.iaload, 1) := by decide +kernel
theorem dX2_hearNext_48 : decode cX2_hearNext 48 = .ok (.aload_n 0, 1) := by decide +kernel
theorem dX2_hearNext_49 : decode cX2_hearNext 49 = .ok (.getfield 10, 3) := by decide +kernel
theorem dX2_hearNext_52 : decode cX2_hearNext 52 = .ok (.getfield 134, 3) := by decide +kernel
theorem dX2_hearNext_55 : decode cX2_hearNext 55 = .ok (.iload 5, 2) := by decide +kernel
theorem dX2_hearNext_57 : decode cX2_hearNext 57 = .ok (.iaload, 1) := by decide +kernel
theorem dX2_hearNext_58 : decode cX2_hearNext 58 = .ok (.aload_n 0, 1) := by decide +kernel
theorem dX2_hearNext_59 : decode cX2_hearNext 59 = .ok (.getfield 10, 3) := by decide +kernel
theorem dX2_hearNext_62 : decode cX2_hearNext 62 = .ok (.getfield 140, 3) := by decide +kernel
theorem dX2_hearNext_65 : decode cX2_hearNext 65 = .ok (.iload 5, 2) := by decide +kernel
theorem dX2_hearNext_67 : decode cX2_hearNext 67 = .ok (.iaload, 1) := by decide +kernel
theorem dX2_hearNext_68 : decode cX2_hearNext 68 = .ok (.invokevirtual 236, 3) := by decide +kernel
theorem dX2_hearNext_71 : decode cX2_hearNext 71 = .ok (.iinc 5 1, 3) := by decide +kernel
theorem dX2_hearNext_74 : decode cX2_hearNext 74 = .ok (.goto (-44), 3) := by decide +kernel
theorem dX2_hearNext_77 : decode cX2_hearNext 77 = .ok (.iload 4, 2) := by decide +kernel
theorem dX2_hearNext_79 : decode cX2_hearNext 79 = .ok (.iload_n 3, 1) := by decide +kernel
theorem dX2_hearNext_80 : decode cX2_hearNext 80 = .ok (.isub, 1) := by decide +kernel
theorem dX2_hearNext_81 : decode cX2_hearNext 81 = .ok (.ireturn, 1) := by decide +kernel
set_option maxRecDepth 20000 in
theorem ggX2_errorsAfter_X0_positionFrom : GoodIn wsX2_errorsAfter wsX0_positionFrom := goodIn_r _ [9, 10, 11, 35, 36, 37, 38, 39, 40, 41, 42] (by decide +kernel) (by decide +kernel)
set_option maxRecDepth 20000 in
theorem gX2_errorsAfter_X0_positionFrom_n233 : GoodIn wsX2_errorsAfter (wsX0_positionFrom) := ggX2_errorsAfter_X0_positionFrom
set_option maxRecDepth 20000 in
theorem ggX2_errorsAfter_X0_latestPosition : GoodIn wsX2_errorsAfter wsX0_latestPosition := goodIn_r _ [14, 15, 35, 36, 37, 38, 39, 40, 41, 42] (by decide +kernel) (by decide +kernel)
set_option maxRecDepth 20000 in
theorem gX2_errorsAfter_X0_latestPosition_n240 : GoodIn wsX2_errorsAfter (wsX0_latestPosition) := ggX2_errorsAfter_X0_latestPosition
set_option maxRecDepth 20000 in
theorem ggX2_errorsAfter_X0_latestValue : GoodIn wsX2_errorsAfter wsX0_latestValue := goodIn_r _ [18, 10, 19, 20, 12, 13, 7, 14, 15, 35, 36, 37, 38, 39, 40, 41, 42] (by decide +kernel) (by decide +kernel)
set_option maxRecDepth 20000 in
theorem gX2_errorsAfter_X0_latestValue_n152 : GoodIn wsX2_errorsAfter (wsX0_latestValue) := ggX2_errorsAfter_X0_latestValue
theorem dX2_errorsAfter_0 : decode cX2_errorsAfter 0 = .ok (.aload_n 0, 1) := by decide +kernel
theorem dX2_errorsAfter_1 : decode cX2_errorsAfter 1 = .ok (.getfield 10, 3) := by decide +kernel
theorem dX2_errorsAfter_4 : decode cX2_errorsAfter 4 = .ok (.aload_n 1, 1) := by decide +kernel
theorem dX2_errorsAfter_5 : decode cX2_errorsAfter 5 = .ok (.getfield 98, 3) := by decide +kernel
theorem dX2_errorsAfter_8 : decode cX2_errorsAfter 8 = .ok (.invokevirtual 233, 3) := by decide +kernel
theorem dX2_errorsAfter_11 : decode cX2_errorsAfter 11 = .ok (.istore_n 3, 1) := by decide +kernel
theorem dX2_errorsAfter_12 : decode cX2_errorsAfter 12 = .ok (.aload_n 0, 1) := by decide +kernel
theorem dX2_errorsAfter_13 : decode cX2_errorsAfter 13 = .ok (.getfield 10, 3) := by decide +kernel
theorem dX2_errorsAfter_16 : decode cX2_errorsAfter 16 = .ok (.getfield 118, 3) := by decide +kernel
theorem dX2_errorsAfter_19 : decode cX2_errorsAfter 19 = .ok (.iload_n 3, 1) := by decide +kernel
theorem dX2_errorsAfter_20 : decode cX2_errorsAfter 20 = .ok (.iload_n 2, 1) := by decide +kernel
theorem dX2_errorsAfter_21 : decode cX2_errorsAfter 21 = .ok (.iadd, 1) := by decide +kernel
theorem dX2_errorsAfter_22 : decode cX2_errorsAfter 22 = .ok (.invokestatic 225, 3) := by decide +kernel
theorem dX2_errorsAfter_25 : decode cX2_errorsAfter 25 = .ok (.istore 4, 2) := by decide +kernel
theorem dX2_errorsAfter_27 : decode cX2_errorsAfter 27 = .ok (.iconst 0, 1) := by decide +kernel
theorem dX2_errorsAfter_28 : decode cX2_errorsAfter 28 = .ok (.istore 5, 2) := by decide +kernel
theorem dX2_errorsAfter_30 : decode cX2_errorsAfter 30 = .ok (.iconst 0, 1) := by decide +kernel
theorem dX2_errorsAfter_31 : decode cX2_errorsAfter 31 = .ok (.istore 6, 2) := by decide +kernel
theorem dX2_errorsAfter_33 : decode cX2_errorsAfter 33 = .ok (.iload 6, 2) := by decide +kernel
theorem dX2_errorsAfter_35 : decode cX2_errorsAfter 35 = .ok (.bipush 10, 2) := by decide +kernel
theorem dX2_errorsAfter_37 : decode cX2_errorsAfter 37 = .ok (.if_icmp .ge 68, 3) := by decide +kernel
theorem dX2_errorsAfter_40 : decode cX2_errorsAfter 40 = .ok (.aload_n 0, 1) := by decide +kernel
theorem dX2_errorsAfter_41 : decode cX2_errorsAfter 41 = .ok (.getfield 10, 3) := by decide +kernel
theorem dX2_errorsAfter_44 : decode cX2_errorsAfter 44 = .ok (.iload 6, 2) := by decide +kernel
theorem dX2_errorsAfter_46 : decode cX2_errorsAfter 46 = .ok (.iload_n 3, 1) := by decide +kernel
theorem dX2_errorsAfter_47 : decode cX2_errorsAfter 47 = .ok (.iload 4, 2) := by decide +kernel
theorem dX2_errorsAfter_49 : decode cX2_errorsAfter 49 = .ok (.invokevirtual 240, 3) := by decide +kernel
theorem dX2_errorsAfter_52 : decode cX2_errorsAfter 52 = .ok (.istore 7, 2) := by decide +kernel
theorem dX2_errorsAfter_54 : decode cX2_errorsAfter 54 = .ok (.iload 7, 2) := by decide +kernel
theorem dX2_errorsAfter_56 : decode cX2_errorsAfter 56 = .ok (.iconst (-1), 1) := by decide +kernel
theorem dX2_errorsAfter_57 : decode cX2_errorsAfter 57 = .ok (.if_icmp .ne 13, 3) := by decide +kernel
theorem dX2_errorsAfter_60 : decode cX2_errorsAfter 60 = .ok (.aload_n 1, 1) := by decide +kernel
theorem dX2_errorsAfter_61 : decode cX2_errorsAfter 61 = .ok (.getfield 171, 3) := by decide +kernel
theorem dX2_errorsAfter_64 : decode cX2_errorsAfter 64 = .ok (.iload 6, 2) := by decide +kernel
theorem dX2_errorsAfter_66 : decode cX2_errorsAfter 66 = .ok (.iaload, 1) := by decide +kernel
theorem dX2_errorsAfter_67 : decode cX2_errorsAfter 67 = .ok (.goto 13, 3) := by decide +kernel
theorem dX2_errorsAfter_70 : decode cX2_errorsAfter 70 = .ok (.aload_n 0, 1) := by decide +kernel
theorem dX2_errorsAfter_71 : decode cX2_errorsAfter 71 = .ok (.getfield 10, 3) := by decide +kernel
theorem dX2_errorsAfter_74 : decode cX2_errorsAfter 74 = .ok (.getfield 140, 3) := by decide +kernel
theorem dX2_errorsAfter_77 : decode cX2_errorsAfter 77 = .ok (.iload 7, 2) := by decide +kernel
theorem dX2_errorsAfter_79 : decode cX2_errorsAfter 79 = .ok (.iaload, 1) := by decide +kernel
theorem dX2_errorsAfter_80 : decode cX2_errorsAfter 80 = .ok (.istore 8, 2) := by decide +kernel
theorem dX2_errorsAfter_82 : decode cX2_errorsAfter 82 = .ok (.iload 8, 2) := by decide +kernel
theorem dX2_errorsAfter_84 : decode cX2_errorsAfter 84 = .ok (.aload_n 0, 1) := by decide +kernel
theorem dX2_errorsAfter_85 : decode cX2_errorsAfter 85 = .ok (.getfield 10, 3) := by decide +kernel
theorem dX2_errorsAfter_88 : decode cX2_errorsAfter 88 = .ok (.iload 6, 2) := by decide +kernel
theorem dX2_errorsAfter_90 : decode cX2_errorsAfter 90 = .ok (.invokevirtual 152, 3) := by decide +kernel
theorem dX2_errorsAfter_93 : decode cX2_errorsAfter 93 = .ok (.if_icmp .eq 6, 3) := by decide +kernel
theorem dX2_errorsAfter_96 : decode cX2_errorsAfter 96 = .ok (.iinc 5 1, 3) := by decide +kernel
theorem dX2_errorsAfter_99 : decode cX2_errorsAfter 99 = .ok (.iinc 6 1, 3) := by decide +kernel
theorem dX2_errorsAfter_102 : decode cX2_errorsAfter 102 = .ok (.goto (-69), 3) := by decide +kernel
theorem dX2_errorsAfter_105 : decode cX2_errorsAfter 105 = .ok (.iload 5, 2) := by decide +kernel
theorem dX2_errorsAfter_107 : decode cX2_errorsAfter 107 = .ok (.ireturn, 1) := by decide +kernel
theorem dX2_isKey_0 : decode cX2_isKey 0 = .ok (.iload_n 0, 1) := by decide +kernel
theorem dX2_isKey_1 : decode cX2_isKey 1 = .ok (.ifCond .lt 13, 3) := by decide +kernel
theorem dX2_isKey_4 : decode cX2_isKey 4 = .ok (.iload_n 0, 1) := by decide +kernel
theorem dX2_isKey_5 : decode cX2_isKey 5 = .ok (.bipush 10, 2) := by decide +kernel
theorem dX2_isKey_7 : decode cX2_isKey 7 = .ok (.if_icmp .ge 7, 3) := by decide +kernel
theorem dX2_isKey_10 : decode cX2_isKey 10 = .ok (.iconst 1, 1) := by decide +kernel
theorem dX2_isKey_11 : decode cX2_isKey 11 = .ok (.goto 4, 3) := by decide +kernel
theorem dX2_isKey_14 : decode cX2_isKey 14 = .ok (.iconst 0, 1) := by decide +kernel
theorem dX2_isKey_15 : decode cX2_isKey 15 = .ok (.ireturn, 1) := by decide +kernel
set_option maxRecDepth 20000 in
theorem ggX2_checkKey_X2_isKey : GoodIn wsX2_checkKey wsX2_isKey := goodIn_r _ [6] (by decide +kernel) (by decide +kernel)
set_option maxRecDepth 20000 in
theorem gX2_checkKey_X2_isKey : GoodIn wsX2_checkKey (va_wsS RX2 33 yX2_isKey wsX2_isKey) := goodIn_app (goodIn_of _ (by decide +kernel)) ggX2_checkKey_X2_isKey
theorem dX2_checkKey_0 : decode cX2_checkKey 0 = .ok (.iload_n 0, 1) := by decide +kernel
theorem dX2_checkKey_1 : decode cX2_checkKey 1 = .ok (.invokestatic 33, 3) := by decide +kernel
theorem dX2_checkKey_4 : decode cX2_checkKey 4 = .ok (.ifCond .ne 13, 3) := by decide +kernel
theorem dX2_checkKey_7 : decode cX2_checkKey 7 = .ok (.new 243, 3) := by decide +kernel
theorem dX2_checkKey_10 : decode cX2_checkKey 10 = .ok (.dup, 1) := by decide +kernel
theorem dX2_checkKey_11 : decode cX2_checkKey 11 = .ok (.ldc 39, 2) := by decide +kernel
theorem dX2_checkKey_13 : decode cX2_checkKey 13 = .ok (.invokespecial 245, 3) := by decide +kernel
theorem dX2_checkKey_16 : decode cX2_checkKey 16 = .ok (.athrow, 1) := by decide +kernel
theorem dX2_checkKey_17 : decode cX2_checkKey 17 = .ok (.return_, 1) := by decide +kernel
theorem dX2_checkHours_0 : decode cX2_checkHours 0 = .ok (.iload_n 0, 1) := by decide +kernel
theorem dX2_checkHours_1 : decode cX2_checkHours 1 = .ok (.iconst 1, 1) := by decide +kernel
theorem dX2_checkHours_2 : decode cX2_checkHours 2 = .ok (.if_icmp .lt 9, 3) := by decide +kernel
theorem dX2_checkHours_5 : decode cX2_checkHours 5 = .ok (.iload_n 0, 1) := by decide +kernel
theorem dX2_checkHours_6 : decode cX2_checkHours 6 = .ok (.bipush 60, 2) := by decide +kernel
theorem dX2_checkHours_8 : decode cX2_checkHours 8 = .ok (.if_icmp .le 13, 3) := by decide +kernel
theorem dX2_checkHours_11 : decode cX2_checkHours 11 = .ok (.new 37, 3) := by decide +kernel
theorem dX2_checkHours_14 : decode cX2_checkHours 14 = .ok (.dup, 1) := by decide +kernel
theorem dX2_checkHours_15 : decode cX2_checkHours 15 = .ok (.ldc 246, 2) := by decide +kernel
theorem dX2_checkHours_17 : decode cX2_checkHours 17 = .ok (.invokespecial 41, 3) := by decide +kernel
theorem dX2_checkHours_20 : decode cX2_checkHours 20 = .ok (.athrow, 1) := by decide +kernel
theorem dX2_checkHours_21 : decode cX2_checkHours 21 = .ok (.return_, 1) := by decide +kernel
theorem dX2_checkReachable_0 : decode cX2_checkReachable 0 = .ok (.iload_n 1, 1) := by decide +kernel
theorem dX2_checkReachable_1 : decode cX2_checkReachable 1 = .ok (.ifCond .lt 14, 3) := by decide +kernel
theorem dX2_checkReachable_4 : decode cX2_checkReachable 4 = .ok (.iload_n 1, 1) := by decide +kernel
theorem dX2_checkReachable_5 : decode cX2_checkReachable 5 = .ok (.aload_n 0, 1) := by decide +kernel
theorem dX2_checkReachable_6 : decode cX2_checkReachable 6 = .ok (.getfield 10, 3) := by decide +kernel
theorem dX2_checkReachable_9 : decode cX2_checkReachable 9 = .ok (.getfield 121, 3) := by decide +kernel
theorem dX2_checkReachable_12 : decode cX2_checkReachable 12 = .ok (.if_icmp .le 13, 3) := by decide +kernel
theorem dX2_checkReachable_15 : decode cX2_checkReachable 15 = .ok (.new 37, 3) := by decide +kernel
theorem dX2_checkReachable_18 : decode cX2_checkReachable 18 = .ok (.dup, 1) := by decide +kernel
theorem dX2_checkReachable_19 : decode cX2_checkReachable 19 = .ok (.ldc 248, 2) := by decide +kernel
theorem dX2_checkReachable_21 : decode cX2_checkReachable 21 = .ok (.invokespecial 41, 3) := by decide +kernel
theorem dX2_checkReachable_24 : decode cX2_checkReachable 24 = .ok (.athrow, 1) := by decide +kernel
theorem dX2_checkReachable_25 : decode cX2_checkReachable 25 = .ok (.return_, 1) := by decide +kernel
theorem dX2_checkStorm_0 : decode cX2_checkStorm 0 = .ok (.iload_n 1, 1) := by decide +kernel
theorem dX2_checkStorm_1 : decode cX2_checkStorm 1 = .ok (.ifCond .lt 11, 3) := by decide +kernel
theorem dX2_checkStorm_4 : decode cX2_checkStorm 4 = .ok (.iload_n 1, 1) := by decide +kernel
theorem dX2_checkStorm_5 : decode cX2_checkStorm 5 = .ok (.aload_n 0, 1) := by decide +kernel
theorem dX2_checkStorm_6 : decode cX2_checkStorm 6 = .ok (.getfield 59, 3) := by decide +kernel
theorem dX2_checkStorm_9 : decode cX2_checkStorm 9 = .ok (.if_icmp .lt 13, 3) := by decide +kernel
theorem dX2_checkStorm_12 : decode cX2_checkStorm 12 = .ok (.new 243, 3) := by decide +kernel
theorem dX2_checkStorm_15 : decode cX2_checkStorm 15 = .ok (.dup, 1) := by decide +kernel
theorem dX2_checkStorm_16 : decode cX2_checkStorm 16 = .ok (.ldc 250, 2) := by decide +kernel
theorem dX2_checkStorm_18 : decode cX2_checkStorm 18 = .ok (.invokespecial 245, 3) := by decide +kernel
theorem dX2_checkStorm_21 : decode cX2_checkStorm 21 = .ok (.athrow, 1) := by decide +kernel
theorem dX2_checkStorm_22 : decode cX2_checkStorm 22 = .ok (.return_, 1) := by decide +kernel
theorem dX2_shipNumbered_0 : decode cX2_shipNumbered 0 = .ok (.iload_n 1, 1) := by decide +kernel
theorem dX2_shipNumbered_1 : decode cX2_shipNumbered 1 = .ok (.ifCond .lt 11, 3) := by decide +kernel
theorem dX2_shipNumbered_4 : decode cX2_shipNumbered 4 = .ok (.iload_n 1, 1) := by decide +kernel
theorem dX2_shipNumbered_5 : decode cX2_shipNumbered 5 = .ok (.aload_n 0, 1) := by decide +kernel
theorem dX2_shipNumbered_6 : decode cX2_shipNumbered 6 = .ok (.getfield 90, 3) := by decide +kernel
theorem dX2_shipNumbered_9 : decode cX2_shipNumbered 9 = .ok (.if_icmp .lt 13, 3) := by decide +kernel
theorem dX2_shipNumbered_12 : decode cX2_shipNumbered 12 = .ok (.new 243, 3) := by decide +kernel
theorem dX2_shipNumbered_15 : decode cX2_shipNumbered 15 = .ok (.dup, 1) := by decide +kernel
theorem dX2_shipNumbered_16 : decode cX2_shipNumbered 16 = .ok (.ldc 252, 2) := by decide +kernel
theorem dX2_shipNumbered_18 : decode cX2_shipNumbered 18 = .ok (.invokespecial 245, 3) := by decide +kernel
theorem dX2_shipNumbered_21 : decode cX2_shipNumbered 21 = .ok (.athrow, 1) := by decide +kernel
theorem dX2_shipNumbered_22 : decode cX2_shipNumbered 22 = .ok (.aload_n 0, 1) := by decide +kernel
theorem dX2_shipNumbered_23 : decode cX2_shipNumbered 23 = .ok (.getfield 22, 3) := by decide +kernel
theorem dX2_shipNumbered_26 : decode cX2_shipNumbered 26 = .ok (.iload_n 1, 1) := by decide +kernel
theorem dX2_shipNumbered_27 : decode cX2_shipNumbered 27 = .ok (.aaload, 1) := by decide +kernel
theorem dX2_shipNumbered_28 : decode cX2_shipNumbered 28 = .ok (.areturn, 1) := by decide +kernel
set_option maxRecDepth 20000 in
theorem ggX2_keptPosition_X0_positionOf : GoodIn wsX2_keptPosition wsX0_positionOf := goodIn_r _ [7, 8, 9, 10, 11, 12, 5, 13, 23, 24, 25, 26, 27, 28, 29, 30] (by decide +kernel) (by decide +kernel)
set_option maxRecDepth 20000 in
theorem gX2_keptPosition_X0_positionOf_n130 : GoodIn wsX2_keptPosition (wsX0_positionOf) := ggX2_keptPosition_X0_positionOf
theorem dX2_keptPosition_0 : decode cX2_keptPosition 0 = .ok (.aload_n 0, 1) := by decide +kernel
theorem dX2_keptPosition_1 : decode cX2_keptPosition 1 = .ok (.getfield 10, 3) := by decide +kernel
theorem dX2_keptPosition_4 : decode cX2_keptPosition 4 = .ok (.iload_n 1, 1) := by decide +kernel
theorem dX2_keptPosition_5 : decode cX2_keptPosition 5 = .ok (.invokevirtual 130, 3) := by decide +kernel
theorem dX2_keptPosition_8 : decode cX2_keptPosition 8 = .ok (.istore_n 2, 1) := by decide +kernel
theorem dX2_keptPosition_9 : decode cX2_keptPosition 9 = .ok (.iload_n 2, 1) := by decide +kernel
theorem dX2_keptPosition_10 : decode cX2_keptPosition 10 = .ok (.iconst (-1), 1) := by decide +kernel
theorem dX2_keptPosition_11 : decode cX2_keptPosition 11 = .ok (.if_icmp .ne 13, 3) := by decide +kernel
theorem dX2_keptPosition_14 : decode cX2_keptPosition 14 = .ok (.new 243, 3) := by decide +kernel
theorem dX2_keptPosition_17 : decode cX2_keptPosition 17 = .ok (.dup, 1) := by decide +kernel
theorem dX2_keptPosition_18 : decode cX2_keptPosition 18 = .ok (.ldc 254, 2) := by decide +kernel
theorem dX2_keptPosition_20 : decode cX2_keptPosition 20 = .ok (.invokespecial 245, 3) := by decide +kernel
theorem dX2_keptPosition_23 : decode cX2_keptPosition 23 = .ok (.athrow, 1) := by decide +kernel
theorem dX2_keptPosition_24 : decode cX2_keptPosition 24 = .ok (.iload_n 2, 1) := by decide +kernel
theorem dX2_keptPosition_25 : decode cX2_keptPosition 25 = .ok (.ireturn, 1) := by decide +kernel
