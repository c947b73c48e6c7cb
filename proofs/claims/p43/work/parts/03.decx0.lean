theorem dX0_init_0 : decode cX0_init 0 = .ok (.aload_n 0, 1) := by decide +kernel
theorem dX0_init_1 : decode cX0_init 1 = .ok (.invokespecial 3, 3) := by decide +kernel
theorem dX0_init_4 : decode cX0_init 4 = .ok (.aload_n 0, 1) := by decide +kernel
theorem dX0_init_5 : decode cX0_init 5 = .ok (.bipush 48, 2) := by decide +kernel
theorem dX0_init_7 : decode cX0_init 7 = .ok (.newarray .int, 2) := by decide +kernel
theorem dX0_init_9 : decode cX0_init 9 = .ok (.putfield 9, 3) := by decide +kernel
theorem dX0_init_12 : decode cX0_init 12 = .ok (.aload_n 0, 1) := by decide +kernel
theorem dX0_init_13 : decode cX0_init 13 = .ok (.bipush 48, 2) := by decide +kernel
theorem dX0_init_15 : decode cX0_init 15 = .ok (.newarray .int, 2) := by decide +kernel
theorem dX0_init_17 : decode cX0_init 17 = .ok (.putfield 15, 3) := by decide +kernel
theorem dX0_init_20 : decode cX0_init 20 = .ok (.aload_n 0, 1) := by decide +kernel
theorem dX0_init_21 : decode cX0_init 21 = .ok (.bipush 48, 2) := by decide +kernel
theorem dX0_init_23 : decode cX0_init 23 = .ok (.newarray .int, 2) := by decide +kernel
theorem dX0_init_25 : decode cX0_init 25 = .ok (.putfield 18, 3) := by decide +kernel
theorem dX0_init_28 : decode cX0_init 28 = .ok (.aload_n 0, 1) := by decide +kernel
theorem dX0_init_29 : decode cX0_init 29 = .ok (.bipush 48, 2) := by decide +kernel
theorem dX0_init_31 : decode cX0_init 31 = .ok (.newarray .int, 2) := by decide +kernel
theorem dX0_init_33 : decode cX0_init 33 = .ok (.putfield 21, 3) := by decide +kernel
theorem dX0_init_36 : decode cX0_init 36 = .ok (.aload_n 0, 1) := by decide +kernel
theorem dX0_init_37 : decode cX0_init 37 = .ok (.bipush 48, 2) := by decide +kernel
theorem dX0_init_39 : decode cX0_init 39 = .ok (.newarray .boolean, 2) := by decide +kernel
theorem dX0_init_41 : decode cX0_init 41 = .ok (.putfield 24, 3) := by decide +kernel
theorem dX0_init_44 : decode cX0_init 44 = .ok (.return_, 1) := by decide +kernel
theorem dX0_append_0 : decode cX0_append 0 = .ok (.aload_n 0, 1) := by decide +kernel
theorem dX0_append_1 : decode cX0_append 1 = .ok (.getfield 9, 3) := by decide +kernel
theorem dX0_append_4 : decode cX0_append 4 = .ok (.aload_n 0, 1) := by decide +kernel
theorem dX0_append_5 : decode cX0_append 5 = .ok (.getfield 28, 3) := by decide +kernel
theorem dX0_append_8 : decode cX0_append 8 = .ok (.aload_n 0, 1) := by decide +kernel
theorem dX0_append_9 : decode cX0_append 9 = .ok (.getfield 32, 3) := by decide +kernel
theorem dX0_append_12 : decode cX0_append 12 = .ok (.iastore, 1) := by decide +kernel
theorem dX0_append_13 : decode cX0_append 13 = .ok (.aload_n 0, 1) := by decide +kernel
theorem dX0_append_14 : decode cX0_append 14 = .ok (.getfield 15, 3) := by decide +kernel
theorem dX0_append_17 : decode cX0_append 17 = .ok (.aload_n 0, 1) := by decide +kernel
theorem dX0_append_18 : decode cX0_append 18 = .ok (.getfield 28, 3) := by decide +kernel
theorem dX0_append_21 : decode cX0_append 21 = .ok (.iload_n 1, 1) := by decide +kernel
theorem dX0_append_22 : decode cX0_append 22 = .ok (.iastore, 1) := by decide +kernel
theorem dX0_append_23 : decode cX0_append 23 = .ok (.aload_n 0, 1) := by decide +kernel
theorem dX0_append_24 : decode cX0_append 24 = .ok (.getfield 18, 3) := by decide +kernel
theorem dX0_append_27 : decode cX0_append 27 = .ok (.aload_n 0, 1) := by decide +kernel
theorem dX0_append_28 : decode cX0_append 28 = .ok (.getfield 28, 3) := by decide +kernel
theorem dX0_append_31 : decode cX0_append 31 = .ok (.iload_n 2, 1) := by decide +kernel
theorem dX0_append_32 : decode cX0_append 32 = .ok (.iastore, 1) := by decide +kernel
theorem dX0_append_33 : decode cX0_append 33 = .ok (.aload_n 0, 1) := by decide +kernel
theorem dX0_append_34 : decode cX0_append 34 = .ok (.getfield 21, 3) := by decide +kernel
theorem dX0_append_37 : decode cX0_append 37 = .ok (.aload_n 0, 1) := by decide +kernel
theorem dX0_append_38 : decode cX0_append 38 = .ok (.getfield 28, 3) := by decide +kernel
theorem dX0_append_41 : decode cX0_append 41 = .ok (.iload_n 3, 1) := by decide +kernel
theorem dX0_append_42 : decode cX0_append 42 = .ok (.iastore, 1) := by decide +kernel
theorem dX0_append_43 : decode cX0_append 43 = .ok (.aload_n 0, 1) := by decide +kernel
theorem dX0_append_44 : decode cX0_append 44 = .ok (.dup, 1) := by decide +kernel
theorem dX0_append_45 : decode cX0_append 45 = .ok (.getfield 28, 3) := by decide +kernel
theorem dX0_append_48 : decode cX0_append 48 = .ok (.iconst 1, 1) := by decide +kernel
theorem dX0_append_49 : decode cX0_append 49 = .ok (.iadd, 1) := by decide +kernel
theorem dX0_append_50 : decode cX0_append 50 = .ok (.putfield 28, 3) := by decide +kernel
theorem dX0_append_53 : decode cX0_append 53 = .ok (.aload_n 0, 1) := by decide +kernel
theorem dX0_append_54 : decode cX0_append 54 = .ok (.dup, 1) := by decide +kernel
theorem dX0_append_55 : decode cX0_append 55 = .ok (.getfield 32, 3) := by decide +kernel
theorem dX0_append_58 : decode cX0_append 58 = .ok (.iconst 1, 1) := by decide +kernel
theorem dX0_append_59 : decode cX0_append 59 = .ok (.iadd, 1) := by decide +kernel
theorem dX0_append_60 : decode cX0_append 60 = .ok (.putfield 32, 3) := by decide +kernel
theorem dX0_append_63 : decode cX0_append 63 = .ok (.aload_n 0, 1) := by decide +kernel
theorem dX0_append_64 : decode cX0_append 64 = .ok (.getfield 32, 3) := by decide +kernel
theorem dX0_append_67 : decode cX0_append 67 = .ok (.iconst 1, 1) := by decide +kernel
theorem dX0_append_68 : decode cX0_append 68 = .ok (.isub, 1) := by decide +kernel
theorem dX0_append_69 : decode cX0_append 69 = .ok (.ireturn, 1) := by decide +kernel
theorem dX0_markFirst_0 : decode cX0_markFirst 0 = .ok (.iconst 0, 1) := by decide +kernel
theorem dX0_markFirst_1 : decode cX0_markFirst 1 = .ok (.istore_n 1, 1) := by decide +kernel
theorem dX0_markFirst_2 : decode cX0_markFirst 2 = .ok (.iload_n 1, 1) := by decide +kernel
theorem dX0_markFirst_3 : decode cX0_markFirst 3 = .ok (.aload_n 0, 1) := by decide +kernel
theorem dX0_markFirst_4 : decode cX0_markFirst 4 = .ok (.getfield 28, 3) := by decide +kernel
theorem dX0_markFirst_7 : decode cX0_markFirst 7 = .ok (.if_icmp .ge 24, 3) := by decide +kernel
theorem dX0_markFirst_10 : decode cX0_markFirst 10 = .ok (.aload_n 0, 1) := by decide +kernel
theorem dX0_markFirst_11 : decode cX0_markFirst 11 = .ok (.getfield 24, 3) := by decide +kernel
theorem dX0_markFirst_14 : decode cX0_markFirst 14 = .ok (.iload_n 1, 1) := by decide +kernel
theorem dX0_markFirst_15 : decode cX0_markFirst 15 = .ok (.iload_n 1, 1) := by decide +kernel
theorem dX0_markFirst_16 : decode cX0_markFirst 16 = .ok (.ifCond .ne 7, 3) := by decide +kernel
theorem dX0_markFirst_19 : decode cX0_markFirst 19 = .ok (.iconst 1, 1) := by decide +kernel
theorem dX0_markFirst_20 : decode cX0_markFirst 20 = .ok (.goto 4, 3) := by decide +kernel
theorem dX0_markFirst_23 : decode cX0_markFirst 23 = .ok (.iconst 0, 1) := by decide +kernel
theorem dX0_markFirst_24 : decode cX0_markFirst 24 = .ok (.bastore, 1) := by decide +kernel
theorem dX0_markFirst_25 : decode cX0_markFirst 25 = .ok (.iinc 1 1, 3) := by decide +kernel
theorem dX0_markFirst_28 : decode cX0_markFirst 28 = .ok (.goto (-26), 3) := by decide +kernel
theorem dX0_markFirst_31 : decode cX0_markFirst 31 = .ok (.return_, 1) := by decide +kernel
theorem dX0_markAhead_0 : decode cX0_markAhead 0 = .ok (.iconst 0, 1) := by decide +kernel
theorem dX0_markAhead_1 : decode cX0_markAhead 1 = .ok (.istore_n 2, 1) := by decide +kernel
theorem dX0_markAhead_2 : decode cX0_markAhead 2 = .ok (.iload_n 2, 1) := by decide +kernel
theorem dX0_markAhead_3 : decode cX0_markAhead 3 = .ok (.aload_n 0, 1) := by decide +kernel
theorem dX0_markAhead_4 : decode cX0_markAhead 4 = .ok (.getfield 28, 3) := by decide +kernel
theorem dX0_markAhead_7 : decode cX0_markAhead 7 = .ok (.if_icmp .ge 30, 3) := by decide +kernel
theorem dX0_markAhead_10 : decode cX0_markAhead 10 = .ok (.aload_n 0, 1) := by decide +kernel
theorem dX0_markAhead_11 : decode cX0_markAhead 11 = .ok (.getfield 24, 3) := by decide +kernel
theorem dX0_markAhead_14 : decode cX0_markAhead 14 = .ok (.iload_n 2, 1) := by decide +kernel
theorem dX0_markAhead_15 : decode cX0_markAhead 15 = .ok (.aload_n 0, 1) := by decide +kernel
theorem dX0_markAhead_16 : decode cX0_markAhead 16 = .ok (.getfield 9, 3) := by decide +kernel
theorem dX0_markAhead_19 : decode cX0_markAhead 19 = .ok (.iload_n 2, 1) := by decide +kernel
theorem dX0_markAhead_20 : decode cX0_markAhead 20 = .ok (.iaload, 1) := by decide +kernel
theorem dX0_markAhead_21 : decode cX0_markAhead 21 = .ok (.iload_n 1, 1) := by decide +kernel
theorem dX0_markAhead_22 : decode cX0_markAhead 22 = .ok (.if_icmp .ge 7, 3) := by decide +kernel
theorem dX0_markAhead_25 : decode cX0_markAhead 25 = .ok (.iconst 1, 1) := by decide +kernel
theorem dX0_markAhead_26 : decode cX0_markAhead 26 = .ok (.goto 4, 3) := by decide +kernel
theorem dX0_markAhead_29 : decode cX0_markAhead 29 = .ok (.iconst 0, 1) := by decide +kernel
theorem dX0_markAhead_30 : decode cX0_markAhead 30 = .ok (.bastore, 1) := by decide +kernel
theorem dX0_markAhead_31 : decode cX0_markAhead 31 = .ok (.iinc 2 1, 3) := by decide +kernel
theorem dX0_markAhead_34 : decode cX0_markAhead 34 = .ok (.goto (-32), 3) := by decide +kernel
theorem dX0_markAhead_37 : decode cX0_markAhead 37 = .ok (.return_, 1) := by decide +kernel
set_option maxRecDepth 20000 in
theorem ggX0_markCompacted_X0_latestPosition : GoodIn wsX0_markCompacted wsX0_latestPosition := goodIn_r _ [10, 2, 11, 12, 13, 14, 15, 16, 17, 18] (by decide +kernel) (by decide +kernel)
set_option maxRecDepth 20000 in
theorem gX0_markCompacted_X0_latestPosition : GoodIn wsX0_markCompacted (wsV RX0 35 RX0 yX0_latestPosition wsX0_latestPosition) := goodIn_app (goodIn_of _ (by decide +kernel)) ggX0_markCompacted_X0_latestPosition
theorem dX0_markCompacted_0 : decode cX0_markCompacted 0 = .ok (.iconst 0, 1) := by decide +kernel
theorem dX0_markCompacted_1 : decode cX0_markCompacted 1 = .ok (.istore_n 2, 1) := by decide +kernel
theorem dX0_markCompacted_2 : decode cX0_markCompacted 2 = .ok (.iload_n 2, 1) := by decide +kernel
theorem dX0_markCompacted_3 : decode cX0_markCompacted 3 = .ok (.aload_n 0, 1) := by decide +kernel
theorem dX0_markCompacted_4 : decode cX0_markCompacted 4 = .ok (.getfield 28, 3) := by decide +kernel
theorem dX0_markCompacted_7 : decode cX0_markCompacted 7 = .ok (.if_icmp .ge 82, 3) := by decide +kernel
theorem dX0_markCompacted_10 : decode cX0_markCompacted 10 = .ok (.aload_n 0, 1) := by decide +kernel
theorem dX0_markCompacted_11 : decode cX0_markCompacted 11 = .ok (.aload_n 0, 1) := by decide +kernel
theorem dX0_markCompacted_12 : decode cX0_markCompacted 12 = .ok (.getfield 15, 3) := by decide +kernel
theorem dX0_markCompacted_15 : decode cX0_markCompacted 15 = .ok (.iload_n 2, 1) := by decide +kernel
theorem dX0_markCompacted_16 : decode cX0_markCompacted 16 = .ok (.iaload, 1) := by decide +kernel
theorem dX0_markCompacted_17 : decode cX0_markCompacted 17 = .ok (.iload_n 2, 1) := by decide +kernel
theorem dX0_markCompacted_18 : decode cX0_markCompacted 18 = .ok (.iconst 1, 1) := by decide +kernel
theorem dX0_markCompacted_19 : decode cX0_markCompacted 19 = .ok (.iadd, 1) := by decide +kernel
theorem dX0_markCompacted_20 : decode cX0_markCompacted 20 = .ok (.aload_n 0, 1) := by decide +kernel
theorem dX0_markCompacted_21 : decode cX0_markCompacted 21 = .ok (.getfield 28, 3) := by decide +kernel
theorem dX0_markCompacted_24 : decode cX0_markCompacted 24 = .ok (.invokevirtual 35, 3) := by decide +kernel
theorem dX0_markCompacted_27 : decode cX0_markCompacted 27 = .ok (.iconst (-1), 1) := by decide +kernel
theorem dX0_markCompacted_28 : decode cX0_markCompacted 28 = .ok (.if_icmp .eq 7, 3) := by decide +kernel
theorem dX0_markCompacted_31 : decode cX0_markCompacted 31 = .ok (.iconst 1, 1) := by decide +kernel
theorem dX0_markCompacted_32 : decode cX0_markCompacted 32 = .ok (.goto 4, 3) := by decide +kernel
theorem dX0_markCompacted_35 : decode cX0_markCompacted 35 = .ok (.iconst 0, 1) := by decide +kernel
theorem dX0_markCompacted_36 : decode cX0_markCompacted 36 = .ok (.istore_n 3, 1) := by decide +kernel
theorem dX0_markCompacted_37 : decode cX0_markCompacted 37 = .ok (.aload_n 0, 1) := by decide +kernel
theorem dX0_markCompacted_38 : decode cX0_markCompacted 38 = .ok (.getfield 18, 3) := by decide +kernel
theorem dX0_markCompacted_41 : decode cX0_markCompacted 41 = .ok (.iload_n 2, 1) := by decide +kernel
theorem dX0_markCompacted_42 : decode cX0_markCompacted 42 = .ok (.iaload, 1) := by decide +kernel
theorem dX0_markCompacted_43 : decode cX0_markCompacted 43 = .ok (.ifCond .ne 17, 3) := by decide +kernel
theorem dX0_markCompacted_46 : decode cX0_markCompacted 46 = .ok (.aload_n 0, 1) := by decide +kernel
theorem dX0_markCompacted_47 : decode cX0_markCompacted 47 = .ok (.getfield 9, 3) := by decide +kernel
theorem dX0_markCompacted_50 : decode cX0_markCompacted 50 = .ok (.iload_n 2, 1) := by decide +kernel
theorem dX0_markCompacted_51 : decode cX0_markCompacted 51 = .ok (.iaload, 1) := by decide +kernel
theorem dX0_markCompacted_52 : decode cX0_markCompacted 52 = .ok (.iload_n 1, 1) := by decide +kernel
theorem dX0_markCompacted_53 : decode cX0_markCompacted 53 = .ok (.if_icmp .ge 7, 3) := by decide +kernel
theorem dX0_markCompacted_56 : decode cX0_markCompacted 56 = .ok (.iconst 1, 1) := by decide +kernel
theorem dX0_markCompacted_57 : decode cX0_markCompacted 57 = .ok (.goto 4, 3) := by decide +kernel
theorem dX0_markCompacted_60 : decode cX0_markCompacted 60 = .ok (.iconst 0, 1) := by decide +kernel
theorem dX0_markCompacted_61 : decode cX0_markCompacted 61 = .ok (.istore 4, 2) := by decide +kernel
theorem dX0_markCompacted_63 : decode cX0_markCompacted 63 = .ok (.aload_n 0, 1) := by decide +kernel
theorem dX0_markCompacted_64 : decode cX0_markCompacted 64 = .ok (.getfield 24, 3) := by decide +kernel
theorem dX0_markCompacted_67 : decode cX0_markCompacted 67 = .ok (.iload_n 2, 1) := by decide +kernel
theorem dX0_markCompacted_68 : decode cX0_markCompacted 68 = .ok (.iload_n 3, 1) := by decide +kernel
theorem dX0_markCompacted_69 : decode cX0_markCompacted 69 = .ok (.ifCond .ne 8, 3) := by decide +kernel
theorem dX0_markCompacted_72 : decode cX0_markCompacted 72 = .ok (.iload 4, 2) := by decide +kernel
theorem dX0_markCompacted_74 : decode cX0_markCompacted 74 = .ok (.ifCond .eq 7, 3) := by decide +kernel
theorem dX0_markCompacted_77 : decode cX0_markCompacted 77 = .ok (.iconst 1, 1) := by decide +kernel
theorem dX0_markCompacted_78 : decode cX0_markCompacted 78 = .ok (.goto 4, 3) := by decide +kernel
theorem dX0_markCompacted_81 : decode cX0_markCompacted 81 = .ok (.iconst 0, 1) := by decide +kernel
theorem dX0_markCompacted_82 : decode cX0_markCompacted 82 = .ok (.bastore, 1) := by decide +kernel
theorem dX0_markCompacted_83 : decode cX0_markCompacted 83 = .ok (.iinc 2 1, 3) := by decide +kernel
theorem dX0_markCompacted_86 : decode cX0_markCompacted 86 = .ok (.goto (-84), 3) := by decide +kernel
theorem dX0_markCompacted_89 : decode cX0_markCompacted 89 = .ok (.return_, 1) := by decide +kernel
set_option maxRecDepth 20000 in
theorem ggX0_countMarked_X0_countMarkedFrom : GoodIn wsX0_countMarked wsX0_countMarkedFrom := goodIn_r _ [5, 6, 7, 8, 9, 10, 4, 11, 12, 13, 14, 15, 16, 17, 18, 19, 20] (by decide +kernel) (by decide +kernel)
set_option maxRecDepth 20000 in
theorem gX0_countMarked_X0_countMarkedFrom : GoodIn wsX0_countMarked (wsV RX0 39 RX0 yX0_countMarkedFrom wsX0_countMarkedFrom) := goodIn_app (goodIn_of _ (by decide +kernel)) ggX0_countMarked_X0_countMarkedFrom
theorem dX0_countMarked_0 : decode cX0_countMarked 0 = .ok (.aload_n 0, 1) := by decide +kernel
theorem dX0_countMarked_1 : decode cX0_countMarked 1 = .ok (.iconst 0, 1) := by decide +kernel
theorem dX0_countMarked_2 : decode cX0_countMarked 2 = .ok (.invokevirtual 39, 3) := by decide +kernel
theorem dX0_countMarked_5 : decode cX0_countMarked 5 = .ok (.ireturn, 1) := by decide +kernel
set_option maxRecDepth 20000 in
theorem ggX0_countMarkedFrom_X0_positionFrom : GoodIn wsX0_countMarkedFrom wsX0_positionFrom := goodIn_r _ [7, 1, 8, 9, 10, 11, 12, 13, 14, 15, 16] (by decide +kernel) (by decide +kernel)
set_option maxRecDepth 20000 in
theorem gX0_countMarkedFrom_X0_positionFrom : GoodIn wsX0_countMarkedFrom (wsV RX0 43 RX0 yX0_positionFrom wsX0_positionFrom) := goodIn_app (goodIn_of _ (by decide +kernel)) ggX0_countMarkedFrom_X0_positionFrom
theorem dX0_countMarkedFrom_0 : decode cX0_countMarkedFrom 0 = .ok (.iconst 0, 1) := by decide +kernel
theorem dX0_countMarkedFrom_1 : decode cX0_countMarkedFrom 1 = .ok (.istore_n 2, 1) := by decide +kernel
theorem dX0_countMarkedFrom_2 : decode cX0_countMarkedFrom 2 = .ok (.aload_n 0, 1) := by decide +kernel
theorem dX0_countMarkedFrom_3 : decode cX0_countMarkedFrom 3 = .ok (.iload_n 1, 1) := by decide +kernel
theorem dX0_countMarkedFrom_4 : decode cX0_countMarkedFrom 4 = .ok (.invokevirtual 43, 3) := by decide +kernel
theorem dX0_countMarkedFrom_7 : decode cX0_countMarkedFrom 7 = .ok (.istore_n 3, 1) := by decide +kernel
theorem dX0_countMarkedFrom_8 : decode cX0_countMarkedFrom 8 = .ok (.iload_n 3, 1) := by decide +kernel
theorem dX0_countMarkedFrom_9 : decode cX0_countMarkedFrom 9 = .ok (.aload_n 0, 1) := by decide +kernel
theorem dX0_countMarkedFrom_10 : decode cX0_countMarkedFrom 10 = .ok (.getfield 28, 3) := by decide +kernel
theorem dX0_countMarkedFrom_13 : decode cX0_countMarkedFrom 13 = .ok (.if_icmp .ge 21, 3) := by decide +kernel
theorem dX0_countMarkedFrom_16 : decode cX0_countMarkedFrom 16 = .ok (.aload_n 0, 1) := by decide +kernel
theorem dX0_countMarkedFrom_17 : decode cX0_countMarkedFrom 17 = .ok (.getfield 24, 3) := by decide +kernel
theorem dX0_countMarkedFrom_20 : decode cX0_countMarkedFrom 20 = .ok (.iload_n 3, 1) := by decide +kernel
theorem dX0_countMarkedFrom_21 : decode cX0_countMarkedFrom 21 = .ok (.baload, 1) := by decide +kernel
theorem dX0_countMarkedFrom_22 : decode cX0_countMarkedFrom 22 = .ok (.ifCond .eq 6, 3) := by decide +kernel
theorem dX0_countMarkedFrom_25 : decode cX0_countMarkedFrom 25 = .ok (.iinc 2 1, 3) := by decide +kernel
theorem dX0_countMarkedFrom_28 : decode cX0_countMarkedFrom 28 = .ok (.iinc 3 1, 3) := by decide +kernel
theorem dX0_countMarkedFrom_31 : decode cX0_countMarkedFrom 31 = .ok (.goto (-23), 3) := by decide +kernel
theorem dX0_countMarkedFrom_34 : decode cX0_countMarkedFrom 34 = .ok (.iload_n 2, 1) := by decide +kernel
theorem dX0_countMarkedFrom_35 : decode cX0_countMarkedFrom 35 = .ok (.ireturn, 1) := by decide +kernel
theorem dX0_removeMarked_0 : decode cX0_removeMarked 0 = .ok (.iconst 0, 1) := by decide +kernel
theorem dX0_removeMarked_1 : decode cX0_removeMarked 1 = .ok (.istore_n 1, 1) := by decide +kernel
theorem dX0_removeMarked_2 : decode cX0_removeMarked 2 = .ok (.iconst 0, 1) := by decide +kernel
theorem dX0_removeMarked_3 : decode cX0_removeMarked 3 = .ok (.istore_n 2, 1) := by decide +kernel
theorem dX0_removeMarked_4 : decode cX0_removeMarked 4 = .ok (.iload_n 2, 1) := by decide +kernel
theorem dX0_removeMarked_5 : decode cX0_removeMarked 5 = .ok (.aload_n 0, 1) := by decide +kernel
theorem dX0_removeMarked_6 : decode cX0_removeMarked 6 = .ok (.getfield 28, 3) := by decide +kernel
theorem dX0_removeMarked_9 : decode cX0_removeMarked 9 = .ok (.if_icmp .ge 69, 3) := by decide +kernel
theorem dX0_removeMarked_12 : decode cX0_removeMarked 12 = .ok (.aload_n 0, 1) := by decide +kernel
theorem dX0_removeMarked_13 : decode cX0_removeMarked 13 = .ok (.getfield 24, 3) := by decide +kernel
theorem dX0_removeMarked_16 : decode cX0_removeMarked 16 = .ok (.iload_n 2, 1) := by decide +kernel
theorem dX0_removeMarked_17 : decode cX0_removeMarked 17 = .ok (.baload, 1) := by decide +kernel
theorem dX0_removeMarked_18 : decode cX0_removeMarked 18 = .ok (.ifCond .ne 54, 3) := by decide +kernel
theorem dX0_removeMarked_21 : decode cX0_removeMarked 21 = .ok (.aload_n 0, 1) := by decide +kernel
theorem dX0_removeMarked_22 : decode cX0_removeMarked 22 = .ok (.getfield 9, 3) := by decide +kernel
theorem dX0_removeMarked_25 : decode cX0_removeMarked 25 = .ok (.iload_n 1, 1) := by decide +kernel
theorem dX0_removeMarked_26 : decode cX0_removeMarked 26 = .ok (.aload_n 0, 1) := by decide +kernel
theorem dX0_removeMarked_27 : decode cX0_removeMarked 27 = .ok (.getfield 9, 3) := by decide +kernel
theorem dX0_removeMarked_30 : decode cX0_removeMarked 30 = .ok (.iload_n 2, 1) := by decide +kernel
theorem dX0_removeMarked_31 : decode cX0_removeMarked 31 = .ok (.iaload, 1) := by decide +kernel
theorem dX0_removeMarked_32 : decode cX0_removeMarked 32 = .ok (.iastore, 1) := by decide +kernel
theorem dX0_removeMarked_33 : decode cX0_removeMarked 33 = .ok (.aload_n 0, 1) := by decide +kernel
theorem dX0_removeMarked_34 : decode cX0_removeMarked 34 = .ok (.getfield 15, 3) := by decide +kernel
theorem dX0_removeMarked_37 : decode cX0_removeMarked 37 = .ok (.iload_n 1, 1) := by decide +kernel
theorem dX0_removeMarked_38 : decode cX0_removeMarked 38 = .ok (.aload_n 0, 1) := by decide +kernel
theorem dX0_removeMarked_39 : decode cX0_removeMarked 39 = .ok (.getfield 15, 3) := by decide +kernel
theorem dX0_removeMarked_42 : decode cX0_removeMarked 42 = .ok (.iload_n 2, 1) := by decide +kernel
theorem dX0_removeMarked_43 : decode cX0_removeMarked 43 = .ok (.iaload, 1) := by decide +kernel
theorem dX0_removeMarked_44 : decode cX0_removeMarked 44 = .ok (.iastore, 1) := by decide +kernel
theorem dX0_removeMarked_45 : decode cX0_removeMarked 45 = .ok (.aload_n 0, 1) := by decide +kernel
theorem dX0_removeMarked_46 : decode cX0_removeMarked 46 = .ok (.getfield 18, 3) := by decide +kernel
theorem dX0_removeMarked_49 : decode cX0_removeMarked 49 = .ok (.iload_n 1, 1) := by decide +kernel
theorem dX0_removeMarked_50 : decode cX0_removeMarked 50 = .ok (.aload_n 0, 1) := by decide +kernel
theorem dX0_removeMarked_51 : decode cX0_removeMarked 51 = .ok (.getfield 18, 3) := by decide +kernel
theorem dX0_removeMarked_54 : decode cX0_removeMarked 54 = .ok (.iload_n 2, 1) := by decide +kernel
theorem dX0_removeMarked_55 : decode cX0_removeMarked 55 = .ok (.iaload, 1) := by decide +kernel
theorem dX0_removeMarked_56 : decode cX0_removeMarked 56 = .ok (.iastore, 1) := by decide +kernel
theorem dX0_removeMarked_57 : decode cX0_removeMarked 57 = .ok (.aload_n 0, 1) := by decide +kernel
theorem dX0_removeMarked_58 : decode cX0_removeMarked 58 = .ok (.getfield 21, 3) := by decide +kernel
theorem dX0_removeMarked_61 : decode cX0_removeMarked 61 = .ok (.iload_n 1, 1) := by decide +kernel
theorem dX0_removeMarked_62 : decode cX0_removeMarked 62 = .ok (.aload_n 0, 1) := by decide +kernel
theorem dX0_removeMarked_63 : decode cX0_removeMarked 63 = .ok (.getfield 21, 3) := by decide +kernel
theorem dX0_removeMarked_66 : decode cX0_removeMarked 66 = .ok (.iload_n 2, 1) := by decide +kernel
theorem dX0_removeMarked_67 : decode cX0_removeMarked 67 = .ok (.iaload, 1) := by decide +kernel
theorem dX0_removeMarked_68 : decode cX0_removeMarked 68 = .ok (.iastore, 1) := by decide +kernel
theorem dX0_removeMarked_69 : decode cX0_removeMarked 69 = .ok (.iinc 1 1, 3) := by decide +kernel
theorem dX0_removeMarked_72 : decode cX0_removeMarked 72 = .ok (.iinc 2 1, 3) := by decide +kernel
theorem dX0_removeMarked_75 : decode cX0_removeMarked 75 = .ok (.goto (-71), 3) := by decide +kernel
theorem dX0_removeMarked_78 : decode cX0_removeMarked 78 = .ok (.aload_n 0, 1) := by decide +kernel
theorem dX0_removeMarked_79 : decode cX0_removeMarked 79 = .ok (.getfield 28, 3) := by decide +kernel
theorem dX0_removeMarked_82 : decode cX0_removeMarked 82 = .ok (.iload_n 1, 1) := by decide +kernel
theorem dX0_removeMarked_83 : decode cX0_removeMarked 83 = .ok (.isub, 1) := by decide +kernel
theorem dX0_removeMarked_84 : decode cX0_removeMarked 84 = .ok (.istore_n 2, 1) := by decide +kernel
theorem dX0_removeMarked_85 : decode cX0_removeMarked 85 = .ok (.aload_n 0, 1) := by decide +kernel
theorem dX0_removeMarked_86 : decode cX0_removeMarked 86 = .ok (.iload_n 1, 1) := by decide +kernel
theorem dX0_removeMarked_87 : decode cX0_removeMarked 87 = .ok (.putfield 28, 3) := by decide +kernel
theorem dX0_removeMarked_90 : decode cX0_removeMarked 90 = .ok (.aload_n 0, 1) := by decide +kernel
theorem dX0_removeMarked_91 : decode cX0_removeMarked 91 = .ok (.dup, 1) := by decide +kernel
theorem dX0_removeMarked_92 : decode cX0_removeMarked 92 = .ok (.getfield 46, 3) := by decide +kernel
theorem dX0_removeMarked_95 : decode cX0_removeMarked 95 = .ok (.iload_n 2, 1) := by decide +kernel
theorem dX0_removeMarked_96 : decode cX0_removeMarked 96 = .ok (.iadd, 1) := by decide +kernel
theorem dX0_removeMarked_97 : decode cX0_removeMarked 97 = .ok (.putfield 46, 3) := by decide +kernel
theorem dX0_removeMarked_100 : decode cX0_removeMarked 100 = .ok (.iload_n 2, 1) := by decide +kernel
theorem dX0_removeMarked_101 : decode cX0_removeMarked 101 = .ok (.ireturn, 1) := by decide +kernel
theorem dX0_positionFrom_0 : decode cX0_positionFrom 0 = .ok (.iconst 0, 1) := by decide +kernel
theorem dX0_positionFrom_1 : decode cX0_positionFrom 1 = .ok (.istore_n 2, 1) := by decide +kernel
theorem dX0_positionFrom_2 : decode cX0_positionFrom 2 = .ok (.iload_n 2, 1) := by decide +kernel
theorem dX0_positionFrom_3 : decode cX0_positionFrom 3 = .ok (.aload_n 0, 1) := by decide +kernel
theorem dX0_positionFrom_4 : decode cX0_positionFrom 4 = .ok (.getfield 28, 3) := by decide +kernel
theorem dX0_positionFrom_7 : decode cX0_positionFrom 7 = .ok (.if_icmp .ge 19, 3) := by decide +kernel
theorem dX0_positionFrom_10 : decode cX0_positionFrom 10 = .ok (.aload_n 0, 1) := by decide +kernel
theorem dX0_positionFrom_11 : decode cX0_positionFrom 11 = .ok (.getfield 9, 3) := by decide +kernel
theorem dX0_positionFrom_14 : decode cX0_positionFrom 14 = .ok (.iload_n 2, 1) := by decide +kernel
theorem dX0_positionFrom_15 : decode cX0_positionFrom 15 = .ok (.iaload, 1) := by decide +kernel
theorem dX0_positionFrom_16 : decode cX0_positionFrom 16 = .ok (.iload_n 1, 1) := by decide +kernel
theorem dX0_positionFrom_17 : decode cX0_positionFrom 17 = .ok (.if_icmp .ge 9, 3) := by decide +kernel
theorem dX0_positionFrom_20 : decode cX0_positionFrom 20 = .ok (.iinc 2 1, 3) := by decide +kernel
theorem dX0_positionFrom_23 : decode cX0_positionFrom 23 = .ok (.goto (-21), 3) := by decide +kernel
theorem dX0_positionFrom_26 : decode cX0_positionFrom 26 = .ok (.iload_n 2, 1) := by decide +kernel
theorem dX0_positionFrom_27 : decode cX0_positionFrom 27 = .ok (.ireturn, 1) := by decide +kernel
set_option maxRecDepth 20000 in
theorem ggX0_positionOf_X0_positionFrom : GoodIn wsX0_positionOf wsX0_positionFrom := goodIn_r _ [7, 1, 2, 8, 9, 10, 11, 12, 13, 14, 15] (by decide +kernel) (by decide +kernel)
set_option maxRecDepth 20000 in
theorem gX0_positionOf_X0_positionFrom : GoodIn wsX0_positionOf (wsV RX0 43 RX0 yX0_positionFrom wsX0_positionFrom) := goodIn_app (goodIn_of _ (by decide +kernel)) ggX0_positionOf_X0_positionFrom
theorem dX0_positionOf_0 : decode cX0_positionOf 0 = .ok (.aload_n 0, 1) := by decide +kernel
theorem dX0_positionOf_1 : decode cX0_positionOf 1 = .ok (.iload_n 1, 1) := by decide +kernel
theorem dX0_positionOf_2 : decode cX0_positionOf 2 = .ok (.invokevirtual 43, 3) := by decide +kernel
theorem dX0_positionOf_5 : decode cX0_positionOf 5 = .ok (.istore_n 2, 1) := by decide +kernel
theorem dX0_positionOf_6 : decode cX0_positionOf 6 = .ok (.iload_n 2, 1) := by decide +kernel
theorem dX0_positionOf_7 : decode cX0_positionOf 7 = .ok (.aload_n 0, 1) := by decide +kernel
theorem dX0_positionOf_8 : decode cX0_positionOf 8 = .ok (.getfield 28, 3) := by decide +kernel
theorem dX0_positionOf_11 : decode cX0_positionOf 11 = .ok (.if_icmp .ge 17, 3) := by decide +kernel
theorem dX0_positionOf_14 : decode cX0_positionOf 14 = .ok (.aload_n 0, 1) := by decide +kernel
theorem dX0_positionOf_15 : decode cX0_positionOf 15 = .ok (.getfield 9, 3) := by decide +kernel
theorem dX0_positionOf_18 : decode cX0_positionOf 18 = .ok (.iload_n 2, 1) := by decide +kernel
theorem dX0_positionOf_19 : decode cX0_positionOf 19 = .ok (.iaload, 1) := by decide +kernel
theorem dX0_positionOf_20 : decode cX0_positionOf 20 = .ok (.iload_n 1, 1) := by decide +kernel
theorem dX0_positionOf_21 : decode cX0_positionOf 21 = .ok (.if_icmp .ne 7, 3) := by decide +kernel
theorem dX0_positionOf_24 : decode cX0_positionOf 24 = .ok (.iload_n 2, 1) := by decide +kernel
theorem dX0_positionOf_25 : decode cX0_positionOf 25 = .ok (.goto 4, 3) := by decide +kernel
theorem dX0_positionOf_28 : decode cX0_positionOf 28 = .ok (.iconst (-1), 1) := by decide +kernel
theorem dX0_positionOf_29 : decode cX0_positionOf 29 = .ok (.ireturn, 1) := by decide +kernel
theorem dX0_latestPosition_0 : decode cX0_latestPosition 0 = .ok (.iload_n 3, 1) := by decide +kernel
theorem dX0_latestPosition_1 : decode cX0_latestPosition 1 = .ok (.iconst 1, 1) := by decide +kernel
theorem dX0_latestPosition_2 : decode cX0_latestPosition 2 = .ok (.isub, 1) := by decide +kernel
theorem dX0_latestPosition_3 : decode cX0_latestPosition 3 = .ok (.istore 4, 2) := by decide +kernel
theorem dX0_latestPosition_5 : decode cX0_latestPosition 5 = .ok (.iload 4, 2) := by decide +kernel
theorem dX0_latestPosition_7 : decode cX0_latestPosition 7 = .ok (.iload_n 2, 1) := by decide +kernel
theorem dX0_latestPosition_8 : decode cX0_latestPosition 8 = .ok (.if_icmp .lt 23, 3) := by decide +kernel
theorem dX0_latestPosition_11 : decode cX0_latestPosition 11 = .ok (.aload_n 0, 1) := by decide +kernel
theorem dX0_latestPosition_12 : decode cX0_latestPosition 12 = .ok (.getfield 15, 3) := by decide +kernel
theorem dX0_latestPosition_15 : decode cX0_latestPosition 15 = .ok (.iload 4, 2) := by decide +kernel
theorem dX0_latestPosition_17 : decode cX0_latestPosition 17 = .ok (.iaload, 1) := by decide +kernel
theorem dX0_latestPosition_18 : decode cX0_latestPosition 18 = .ok (.iload_n 1, 1) := by decide +kernel
theorem dX0_latestPosition_19 : decode cX0_latestPosition 19 = .ok (.if_icmp .ne 6, 3) := by decide +kernel
theorem dX0_latestPosition_22 : decode cX0_latestPosition 22 = .ok (.iload 4, 2) := by decide +kernel
theorem dX0_latestPosition_24 : decode cX0_latestPosition 24 = .ok (.ireturn, 1) := by decide +kernel
theorem dX0_latestPosition_25 : decode cX0_latestPosition 25 = .ok (.iinc 4 (-1), 3) := by decide +kernel
theorem dX0_latestPosition_28 : decode cX0_latestPosition 28 = .ok (.goto (-23), 3) := by decide +kernel
theorem dX0_latestPosition_31 : decode cX0_latestPosition 31 = .ok (.iconst (-1), 1) := by decide +kernel
theorem dX0_latestPosition_32 : decode cX0_latestPosition 32 = .ok (.ireturn, 1) := by decide +kernel
set_option maxRecDepth 20000 in
theorem ggX0_latestOffset_X0_latestPosition : GoodIn wsX0_latestOffset wsX0_latestPosition := goodIn_r _ [7, 8, 9, 10, 11, 12, 13, 14, 15, 16] (by decide +kernel) (by decide +kernel)
set_option maxRecDepth 20000 in
theorem gX0_latestOffset_X0_latestPosition : GoodIn wsX0_latestOffset (wsV RX0 35 RX0 yX0_latestPosition wsX0_latestPosition) := goodIn_app (goodIn_of _ (by decide +kernel)) ggX0_latestOffset_X0_latestPosition
theorem dX0_latestOffset_0 : decode cX0_latestOffset 0 = .ok (.aload_n 0, 1) := by decide +kernel
theorem dX0_latestOffset_1 : decode cX0_latestOffset 1 = .ok (.iload_n 1, 1) := by decide +kernel
theorem dX0_latestOffset_2 : decode cX0_latestOffset 2 = .ok (.iconst 0, 1) := by decide +kernel
theorem dX0_latestOffset_3 : decode cX0_latestOffset 3 = .ok (.aload_n 0, 1) := by decide +kernel
theorem dX0_latestOffset_4 : decode cX0_latestOffset 4 = .ok (.getfield 28, 3) := by decide +kernel
theorem dX0_latestOffset_7 : decode cX0_latestOffset 7 = .ok (.invokevirtual 35, 3) := by decide +kernel
theorem dX0_latestOffset_10 : decode cX0_latestOffset 10 = .ok (.istore_n 2, 1) := by decide +kernel
theorem dX0_latestOffset_11 : decode cX0_latestOffset 11 = .ok (.iload_n 2, 1) := by decide +kernel
theorem dX0_latestOffset_12 : decode cX0_latestOffset 12 = .ok (.iconst (-1), 1) := by decide +kernel
theorem dX0_latestOffset_13 : decode cX0_latestOffset 13 = .ok (.if_icmp .ne 7, 3) := by decide +kernel
theorem dX0_latestOffset_16 : decode cX0_latestOffset 16 = .ok (.iconst (-1), 1) := by decide +kernel
theorem dX0_latestOffset_17 : decode cX0_latestOffset 17 = .ok (.goto 9, 3) := by decide +kernel
theorem dX0_latestOffset_20 : decode cX0_latestOffset 20 = .ok (.aload_n 0, 1) := by decide +kernel
theorem dX0_latestOffset_21 : decode cX0_latestOffset 21 = .ok (.getfield 9, 3) := by decide +kernel
theorem dX0_latestOffset_24 : decode cX0_latestOffset 24 = .ok (.iload_n 2, 1) := by decide +kernel
theorem dX0_latestOffset_25 : decode cX0_latestOffset 25 = .ok (.iaload, 1) := by decide +kernel
theorem dX0_latestOffset_26 : decode cX0_latestOffset 26 = .ok (.ireturn, 1) := by decide +kernel
set_option maxRecDepth 20000 in
theorem ggX0_latestValue_X0_latestPosition : GoodIn wsX0_latestValue wsX0_latestPosition := goodIn_r _ [7, 8, 9, 10, 11, 12, 13, 14, 15, 16] (by decide +kernel) (by decide +kernel)
set_option maxRecDepth 20000 in
theorem gX0_latestValue_X0_latestPosition : GoodIn wsX0_latestValue (wsV RX0 35 RX0 yX0_latestPosition wsX0_latestPosition) := goodIn_app (goodIn_of _ (by decide +kernel)) ggX0_latestValue_X0_latestPosition
theorem dX0_latestValue_0 : decode cX0_latestValue 0 = .ok (.aload_n 0, 1) := by decide +kernel
theorem dX0_latestValue_1 : decode cX0_latestValue 1 = .ok (.iload_n 1, 1) := by decide +kernel
theorem dX0_latestValue_2 : decode cX0_latestValue 2 = .ok (.iconst 0, 1) := by decide +kernel
theorem dX0_latestValue_3 : decode cX0_latestValue 3 = .ok (.aload_n 0, 1) := by decide +kernel
theorem dX0_latestValue_4 : decode cX0_latestValue 4 = .ok (.getfield 28, 3) := by decide +kernel
theorem dX0_latestValue_7 : decode cX0_latestValue 7 = .ok (.invokevirtual 35, 3) := by decide +kernel
theorem dX0_latestValue_10 : decode cX0_latestValue 10 = .ok (.istore_n 2, 1) := by decide +kernel
theorem dX0_latestValue_11 : decode cX0_latestValue 11 = .ok (.iload_n 2, 1) := by decide +kernel
theorem dX0_latestValue_12 : decode cX0_latestValue 12 = .ok (.iconst (-1), 1) := by decide +kernel
theorem dX0_latestValue_13 : decode cX0_latestValue 13 = .ok (.if_icmp .ne 7, 3) := by decide +kernel
theorem dX0_latestValue_16 : decode cX0_latestValue 16 = .ok (.iconst 0, 1) := by decide +kernel
theorem dX0_latestValue_17 : decode cX0_latestValue 17 = .ok (.goto 9, 3) := by decide +kernel
theorem dX0_latestValue_20 : decode cX0_latestValue 20 = .ok (.aload_n 0, 1) := by decide +kernel
theorem dX0_latestValue_21 : decode cX0_latestValue 21 = .ok (.getfield 18, 3) := by decide +kernel
theorem dX0_latestValue_24 : decode cX0_latestValue 24 = .ok (.iload_n 2, 1) := by decide +kernel
theorem dX0_latestValue_25 : decode cX0_latestValue 25 = .ok (.iaload, 1) := by decide +kernel
theorem dX0_latestValue_26 : decode cX0_latestValue 26 = .ok (.ireturn, 1) := by decide +kernel
set_option maxRecDepth 20000 in
theorem ggX0_countKey_X0_countEqual : GoodIn wsX0_countKey wsX0_countEqual := goodIn_r _ [6, 7, 8, 9, 10, 11, 12, 13, 14, 15] (by decide +kernel) (by decide +kernel)
set_option maxRecDepth 20000 in
theorem gX0_countKey_X0_countEqual : GoodIn wsX0_countKey (wsV RX0 49 RX0 yX0_countEqual wsX0_countEqual) := goodIn_app (goodIn_of _ (by decide +kernel)) ggX0_countKey_X0_countEqual
theorem dX0_countKey_0 : decode cX0_countKey 0 = .ok (.aload_n 0, 1) := by decide +kernel
theorem dX0_countKey_1 : decode cX0_countKey 1 = .ok (.aload_n 0, 1) := by decide +kernel
theorem dX0_countKey_2 : decode cX0_countKey 2 = .ok (.getfield 15, 3) := by decide +kernel
theorem dX0_countKey_5 : decode cX0_countKey 5 = .ok (.iload_n 1, 1) := by decide +kernel
theorem dX0_countKey_6 : decode cX0_countKey 6 = .ok (.invokevirtual 49, 3) := by decide +kernel
theorem dX0_countKey_9 : decode cX0_countKey 9 = .ok (.ireturn, 1) := by decide +kernel
set_option maxRecDepth 20000 in
theorem ggX0_countStorm_X0_countEqual : GoodIn wsX0_countStorm wsX0_countEqual := goodIn_r _ [6, 7, 8, 9, 10, 11, 12, 13, 14, 15] (by decide +kernel) (by decide +kernel)
set_option maxRecDepth 20000 in
theorem gX0_countStorm_X0_countEqual : GoodIn wsX0_countStorm (wsV RX0 49 RX0 yX0_countEqual wsX0_countEqual) := goodIn_app (goodIn_of _ (by decide +kernel)) ggX0_countStorm_X0_countEqual
theorem dX0_countStorm_0 : decode cX0_countStorm 0 = .ok (.aload_n 0, 1) := by decide +kernel
theorem dX0_countStorm_1 : decode cX0_countStorm 1 = .ok (.aload_n 0, 1) := by decide +kernel
theorem dX0_countStorm_2 : decode cX0_countStorm 2 = .ok (.getfield 21, 3) := by decide +kernel
theorem dX0_countStorm_5 : decode cX0_countStorm 5 = .ok (.iload_n 1, 1) := by decide +kernel
theorem dX0_countStorm_6 : decode cX0_countStorm 6 = .ok (.invokevirtual 49, 3) := by decide +kernel
theorem dX0_countStorm_9 : decode cX0_countStorm 9 = .ok (.ireturn, 1) := by decide +kernel
theorem dX0_countEqual_0 : decode cX0_countEqual 0 = .ok (.iconst 0, 1) := by decide +kernel
theorem dX0_countEqual_1 : decode cX0_countEqual 1 = .ok (.istore_n 3, 1) := by decide +kernel
theorem dX0_countEqual_2 : decode cX0_countEqual 2 = .ok (.iconst 0, 1) := by decide +kernel
theorem dX0_countEqual_3 : decode cX0_countEqual 3 = .ok (.istore 4, 2) := by decide +kernel
theorem dX0_countEqual_5 : decode cX0_countEqual 5 = .ok (.iload 4, 2) := by decide +kernel
theorem dX0_countEqual_7 : decode cX0_countEqual 7 = .ok (.aload_n 0, 1) := by decide +kernel
theorem dX0_countEqual_8 : decode cX0_countEqual 8 = .ok (.getfield 28, 3) := by decide +kernel
theorem dX0_countEqual_11 : decode cX0_countEqual 11 = .ok (.if_icmp .ge 20, 3) := by decide +kernel
theorem dX0_countEqual_14 : decode cX0_countEqual 14 = .ok (.aload_n 1, 1) := by decide +kernel
theorem dX0_countEqual_15 : decode cX0_countEqual 15 = .ok (.iload 4, 2) := by decide +kernel
theorem dX0_countEqual_17 : decode cX0_countEqual 17 = .ok (.iaload, 1) := by decide +kernel
theorem dX0_countEqual_18 : decode cX0_countEqual 18 = .ok (.iload_n 2, 1) := by decide +kernel
theorem dX0_countEqual_19 : decode cX0_countEqual 19 = .ok (.if_icmp .ne 6, 3) := by decide +kernel
theorem dX0_countEqual_22 : decode cX0_countEqual 22 = .ok (.iinc 3 1, 3) := by decide +kernel
theorem dX0_countEqual_25 : decode cX0_countEqual 25 = .ok (.iinc 4 1, 3) := by decide +kernel
theorem dX0_countEqual_28 : decode cX0_countEqual 28 = .ok (.goto (-23), 3) := by decide +kernel
theorem dX0_countEqual_31 : decode cX0_countEqual 31 = .ok (.iload_n 3, 1) := by decide +kernel
theorem dX0_countEqual_32 : decode cX0_countEqual 32 = .ok (.ireturn, 1) := by decide +kernel
theorem dX0_copyStorm_0 : decode cX0_copyStorm 0 = .ok (.iconst 0, 1) := by decide +kernel
theorem dX0_copyStorm_1 : decode cX0_copyStorm 1 = .ok (.istore 4, 2) := by decide +kernel
theorem dX0_copyStorm_3 : decode cX0_copyStorm 3 = .ok (.iconst 0, 1) := by decide +kernel
theorem dX0_copyStorm_4 : decode cX0_copyStorm 4 = .ok (.istore 5, 2) := by decide +kernel
theorem dX0_copyStorm_6 : decode cX0_copyStorm 6 = .ok (.iload 5, 2) := by decide +kernel
theorem dX0_copyStorm_8 : decode cX0_copyStorm 8 = .ok (.aload_n 0, 1) := by decide +kernel
theorem dX0_copyStorm_9 : decode cX0_copyStorm 9 = .ok (.getfield 28, 3) := by decide +kernel
theorem dX0_copyStorm_12 : decode cX0_copyStorm 12 = .ok (.if_icmp .ge 45, 3) := by decide +kernel
theorem dX0_copyStorm_15 : decode cX0_copyStorm 15 = .ok (.aload_n 0, 1) := by decide +kernel
theorem dX0_copyStorm_16 : decode cX0_copyStorm 16 = .ok (.getfield 21, 3) := by decide +kernel
theorem dX0_copyStorm_19 : decode cX0_copyStorm 19 = .ok (.iload 5, 2) := by decide +kernel
theorem dX0_copyStorm_21 : decode cX0_copyStorm 21 = .ok (.iaload, 1) := by decide +kernel
theorem dX0_copyStorm_22 : decode cX0_copyStorm 22 = .ok (.iload_n 1, 1) := by decide +kernel
theorem dX0_copyStorm_23 : decode cX0_copyStorm 23 = .ok (.if_icmp .ne 28, 3) := by decide +kernel
theorem dX0_copyStorm_26 : decode cX0_copyStorm 26 = .ok (.aload_n 2, 1) := by decide +kernel
theorem dX0_copyStorm_27 : decode cX0_copyStorm 27 = .ok (.iload 4, 2) := by decide +kernel
theorem dX0_copyStorm_29 : decode cX0_copyStorm 29 = .ok (.aload_n 0, 1) := by decide +kernel
theorem dX0_copyStorm_30 : decode cX0_copyStorm 30 = .ok (.getfield 15, 3) := by decide +kernel
theorem dX0_copyStorm_33 : decode cX0_copyStorm 33 = .ok (.iload 5, 2) := by decide +kernel
theorem dX0_copyStorm_35 : decode cX0_copyStorm 35 = .ok (.iaload, 1) := by decide +kernel
theorem dX0_copyStorm_36 : decode cX0_copyStorm 36 = .ok (.iastore, 1) := by decide +kernel
theorem dX0_copyStorm_37 : decode cX0_copyStorm 37 = .ok (.aload_n 3, 1) := by decide +kernel
theorem dX0_copyStorm_38 : decode cX0_copyStorm 38 = .ok (.iload 4, 2) := by decide +kernel
theorem dX0_copyStorm_40 : decode cX0_copyStorm 40 = .ok (.aload_n 0, 1) := by decide +kernel
theorem dX0_copyStorm_41 : decode cX0_copyStorm 41 = .ok (.getfield 18, 3) := by decide +kernel
theorem dX0_copyStorm_44 : decode cX0_copyStorm 44 = .ok (.iload 5, 2) := by decide +kernel
theorem dX0_copyStorm_46 : decode cX0_copyStorm 46 = .ok (.iaload, 1) := by decide +kernel
theorem dX0_copyStorm_47 : decode cX0_copyStorm 47 = .ok (.iastore, 1) := by decide +kernel
theorem dX0_copyStorm_48 : decode cX0_copyStorm 48 = .ok (.iinc 4 1, 3) := by decide +kernel
theorem dX0_copyStorm_51 : decode cX0_copyStorm 51 = .ok (.iinc 5 1, 3) := by decide +kernel
theorem dX0_copyStorm_54 : decode cX0_copyStorm 54 = .ok (.goto (-48), 3) := by decide +kernel
theorem dX0_copyStorm_57 : decode cX0_copyStorm 57 = .ok (.iload 4, 2) := by decide +kernel
theorem dX0_copyStorm_59 : decode cX0_copyStorm 59 = .ok (.ireturn, 1) := by decide +kernel
theorem dX1_init_0 : decode cX1_init 0 = .ok (.aload_n 0, 1) := by decide +kernel
theorem dX1_init_1 : decode cX1_init 1 = .ok (.invokespecial 3, 3) := by decide +kernel
theorem dX1_init_4 : decode cX1_init 4 = .ok (.aload_n 0, 1) := by decide +kernel
theorem dX1_init_5 : decode cX1_init 5 = .ok (.bipush 10, 2) := by decide +kernel
theorem dX1_init_7 : decode cX1_init 7 = .ok (.newarray .int, 2) := by decide +kernel
theorem dX1_init_9 : decode cX1_init 9 = .ok (.putfield 9, 3) := by decide +kernel
theorem dX1_init_12 : decode cX1_init 12 = .ok (.return_, 1) := by decide +kernel
theorem dX1_hear_0 : decode cX1_hear 0 = .ok (.aload_n 0, 1) := by decide +kernel
theorem dX1_hear_1 : decode cX1_hear 1 = .ok (.getfield 9, 3) := by decide +kernel
theorem dX1_hear_4 : decode cX1_hear 4 = .ok (.iload_n 2, 1) := by decide +kernel
theorem dX1_hear_5 : decode cX1_hear 5 = .ok (.iload_n 3, 1) := by decide +kernel
theorem dX1_hear_6 : decode cX1_hear 6 = .ok (.iastore, 1) := by decide +kernel
theorem dX1_hear_7 : decode cX1_hear 7 = .ok (.aload_n 0, 1) := by decide +kernel
theorem dX1_hear_8 : decode cX1_hear 8 = .ok (.iload_n 1, 1) := by decide +kernel
theorem dX1_hear_9 : decode cX1_hear 9 = .ok (.iconst 1, 1) := by decide +kernel
theorem dX1_hear_10 : decode cX1_hear 10 = .ok (.iadd, 1) := by decide +kernel
theorem dX1_hear_11 : decode cX1_hear 11 = .ok (.putfield 15, 3) := by decide +kernel
theorem dX1_hear_14 : decode cX1_hear 14 = .ok (.aload_n 0, 1) := by decide +kernel
theorem dX1_hear_15 : decode cX1_hear 15 = .ok (.dup, 1) := by decide +kernel
theorem dX1_hear_16 : decode cX1_hear 16 = .ok (.getfield 19, 3) := by decide +kernel
theorem dX1_hear_19 : decode cX1_hear 19 = .ok (.iconst 1, 1) := by decide +kernel
theorem dX1_hear_20 : decode cX1_hear 20 = .ok (.iadd, 1) := by decide +kernel
theorem dX1_hear_21 : decode cX1_hear 21 = .ok (.putfield 19, 3) := by decide +kernel
theorem dX1_hear_24 : decode cX1_hear 24 = .ok (.return_, 1) := by decide +kernel
