theorem dX3_init_0 : decode cX3_init 0 = .ok (.aload_n 0, 1) := by decide +kernel
theorem dX3_init_1 : decode cX3_init 1 = .ok (.invokespecial 1, 3) := by decide +kernel
theorem dX3_init_4 : decode cX3_init 4 = .ok (.aload_n 0, 1) := by decide +kernel
theorem dX3_init_5 : decode cX3_init 5 = .ok (.iconst 0, 1) := by decide +kernel
theorem dX3_init_6 : decode cX3_init 6 = .ok (.anewarray 7, 3) := by decide +kernel
theorem dX3_init_9 : decode cX3_init 9 = .ok (.putfield 9, 3) := by decide +kernel
theorem dX3_init_12 : decode cX3_init 12 = .ok (.aload_n 0, 1) := by decide +kernel
theorem dX3_init_13 : decode cX3_init 13 = .ok (.iconst 0, 1) := by decide +kernel
theorem dX3_init_14 : decode cX3_init 14 = .ok (.newarray .int, 2) := by decide +kernel
theorem dX3_init_16 : decode cX3_init 16 = .ok (.putfield 15, 3) := by decide +kernel
theorem dX3_init_19 : decode cX3_init 19 = .ok (.aload_n 0, 1) := by decide +kernel
theorem dX3_init_20 : decode cX3_init 20 = .ok (.iconst 0, 1) := by decide +kernel
theorem dX3_init_21 : decode cX3_init 21 = .ok (.anewarray 7, 3) := by decide +kernel
theorem dX3_init_24 : decode cX3_init 24 = .ok (.putfield 18, 3) := by decide +kernel
theorem dX3_init_27 : decode cX3_init 27 = .ok (.return_, 1) := by decide +kernel
theorem dX3_with_0 : decode cX3_with 0 = .ok (.aload_n 0, 1) := by decide +kernel
theorem dX3_with_1 : decode cX3_with 1 = .ok (.arraylength, 1) := by decide +kernel
theorem dX3_with_2 : decode cX3_with 2 = .ok (.iconst 1, 1) := by decide +kernel
theorem dX3_with_3 : decode cX3_with 3 = .ok (.iadd, 1) := by decide +kernel
theorem dX3_with_4 : decode cX3_with 4 = .ok (.anewarray 7, 3) := by decide +kernel
theorem dX3_with_7 : decode cX3_with 7 = .ok (.astore_n 2, 1) := by decide +kernel
theorem dX3_with_8 : decode cX3_with 8 = .ok (.iconst 0, 1) := by decide +kernel
theorem dX3_with_9 : decode cX3_with 9 = .ok (.istore_n 3, 1) := by decide +kernel
theorem dX3_with_10 : decode cX3_with 10 = .ok (.iload_n 3, 1) := by decide +kernel
theorem dX3_with_11 : decode cX3_with 11 = .ok (.aload_n 0, 1) := by decide +kernel
theorem dX3_with_12 : decode cX3_with 12 = .ok (.arraylength, 1) := by decide +kernel
theorem dX3_with_13 : decode cX3_with 13 = .ok (.if_icmp .ge 15, 3) := by decide +kernel
theorem dX3_with_16 : decode cX3_with 16 = .ok (.aload_n 2, 1) := by decide +kernel
theorem dX3_with_17 : decode cX3_with 17 = .ok (.iload_n 3, 1) := by decide +kernel
theorem dX3_with_18 : decode cX3_with 18 = .ok (.aload_n 0, 1) := by decide +kernel
theorem dX3_with_19 : decode cX3_with 19 = .ok (.iload_n 3, 1) := by decide +kernel
theorem dX3_with_20 : decode cX3_with 20 = .ok (.aaload, 1) := by decide +kernel
theorem dX3_with_21 : decode cX3_with 21 = .ok (.aastore, 1) := by decide +kernel
theorem dX3_with_22 : decode cX3_with 22 = .ok (.iinc 3 1, 3) := by decide +kernel
theorem dX3_with_25 : decode cX3_with 25 = .ok (.goto (-15), 3) := by decide +kernel
theorem dX3_with_28 : decode cX3_with 28 = .ok (.aload_n 2, 1) := by decide +kernel
theorem dX3_with_29 : decode cX3_with 29 = .ok (.aload_n 0, 1) := by decide +kernel
theorem dX3_with_30 : decode cX3_with 30 = .ok (.arraylength, 1) := by decide +kernel
theorem dX3_with_31 : decode cX3_with 31 = .ok (.aload_n 1, 1) := by decide +kernel
theorem dX3_with_32 : decode cX3_with 32 = .ok (.aastore, 1) := by decide +kernel
theorem dX3_with_33 : decode cX3_with 33 = .ok (.aload_n 2, 1) := by decide +kernel
theorem dX3_with_34 : decode cX3_with 34 = .ok (.areturn, 1) := by decide +kernel
theorem dX3_dropAt_0 : decode cX3_dropAt 0 = .ok (.aload_n 0, 1) := by decide +kernel
theorem dX3_dropAt_1 : decode cX3_dropAt 1 = .ok (.getfield 9, 3) := by decide +kernel
theorem dX3_dropAt_4 : decode cX3_dropAt 4 = .ok (.arraylength, 1) := by decide +kernel
theorem dX3_dropAt_5 : decode cX3_dropAt 5 = .ok (.iconst 1, 1) := by decide +kernel
theorem dX3_dropAt_6 : decode cX3_dropAt 6 = .ok (.isub, 1) := by decide +kernel
theorem dX3_dropAt_7 : decode cX3_dropAt 7 = .ok (.anewarray 7, 3) := by decide +kernel
theorem dX3_dropAt_10 : decode cX3_dropAt 10 = .ok (.astore_n 2, 1) := by decide +kernel
theorem dX3_dropAt_11 : decode cX3_dropAt 11 = .ok (.iconst 0, 1) := by decide +kernel
theorem dX3_dropAt_12 : decode cX3_dropAt 12 = .ok (.istore_n 3, 1) := by decide +kernel
theorem dX3_dropAt_13 : decode cX3_dropAt 13 = .ok (.iload_n 3, 1) := by decide +kernel
theorem dX3_dropAt_14 : decode cX3_dropAt 14 = .ok (.aload_n 2, 1) := by decide +kernel
theorem dX3_dropAt_15 : decode cX3_dropAt 15 = .ok (.arraylength, 1) := by decide +kernel
theorem dX3_dropAt_16 : decode cX3_dropAt 16 = .ok (.if_icmp .ge 29, 3) := by decide +kernel
theorem dX3_dropAt_19 : decode cX3_dropAt 19 = .ok (.aload_n 2, 1) := by decide +kernel
theorem dX3_dropAt_20 : decode cX3_dropAt 20 = .ok (.iload_n 3, 1) := by decide +kernel
theorem dX3_dropAt_21 : decode cX3_dropAt 21 = .ok (.aload_n 0, 1) := by decide +kernel
theorem dX3_dropAt_22 : decode cX3_dropAt 22 = .ok (.getfield 9, 3) := by decide +kernel
theorem dX3_dropAt_25 : decode cX3_dropAt 25 = .ok (.iload_n 3, 1) := by decide +kernel
theorem dX3_dropAt_26 : decode cX3_dropAt 26 = .ok (.iload_n 1, 1) := by decide +kernel
theorem dX3_dropAt_27 : decode cX3_dropAt 27 = .ok (.if_icmp .ge 7, 3) := by decide +kernel
theorem dX3_dropAt_30 : decode cX3_dropAt 30 = .ok (.iload_n 3, 1) := by decide +kernel
theorem dX3_dropAt_31 : decode cX3_dropAt 31 = .ok (.goto 6, 3) := by decide +kernel
theorem dX3_dropAt_34 : decode cX3_dropAt 34 = .ok (.iload_n 3, 1) := by decide +kernel
theorem dX3_dropAt_35 : decode cX3_dropAt 35 = .ok (.iconst 1, 1) := by decide +kernel
theorem dX3_dropAt_36 : decode cX3_dropAt 36 = .ok (.iadd, 1) := by decide +kernel
theorem dX3_dropAt_37 : decode cX3_dropAt 37 = .ok (.aaload, 1) := by decide +kernel
theorem dX3_dropAt_38 : decode cX3_dropAt 38 = .ok (.aastore, 1) := by decide +kernel
theorem dX3_dropAt_39 : decode cX3_dropAt 39 = .ok (.iinc 3 1, 3) := by decide +kernel
theorem dX3_dropAt_42 : decode cX3_dropAt 42 = .ok (.goto (-29), 3) := by decide +kernel
theorem dX3_dropAt_45 : decode cX3_dropAt 45 = .ok (.aload_n 0, 1) := by decide +kernel
theorem dX3_dropAt_46 : decode cX3_dropAt 46 = .ok (.getfield 18, 3) := by decide +kernel
theorem dX3_dropAt_49 : decode cX3_dropAt 49 = .ok (.astore_n 3, 1) := by decide +kernel
theorem dX3_dropAt_50 : decode cX3_dropAt 50 = .ok (.aload_n 3, 1) := by decide +kernel
theorem dX3_dropAt_51 : decode cX3_dropAt 51 = .ok (.arraylength, 1) := by decide +kernel
theorem dX3_dropAt_52 : decode cX3_dropAt 52 = .ok (.istore 4, 2) := by decide +kernel
theorem dX3_dropAt_54 : decode cX3_dropAt 54 = .ok (.iconst 0, 1) := by decide +kernel
theorem dX3_dropAt_55 : decode cX3_dropAt 55 = .ok (.istore 5, 2) := by decide +kernel
theorem dX3_dropAt_57 : decode cX3_dropAt 57 = .ok (.iload 5, 2) := by decide +kernel
theorem dX3_dropAt_59 : decode cX3_dropAt 59 = .ok (.iload 4, 2) := by decide +kernel
theorem dX3_dropAt_61 : decode cX3_dropAt 61 = .ok (.if_icmp .ge 38, 3) := by decide +kernel
theorem dX3_dropAt_64 : decode cX3_dropAt 64 = .ok (.aload_n 3, 1) := by decide +kernel
theorem dX3_dropAt_65 : decode cX3_dropAt 65 = .ok (.iload 5, 2) := by decide +kernel
theorem dX3_dropAt_67 : decode cX3_dropAt 67 = .ok (.aaload, 1) := by decide +kernel
theorem dX3_dropAt_68 : decode cX3_dropAt 68 = .ok (.astore 6, 2) := by decide +kernel
theorem dX3_dropAt_70 : decode cX3_dropAt 70 = .ok (.aload 6, 2) := by decide +kernel
theorem dX3_dropAt_72 : decode cX3_dropAt 72 = .ok (.iconst 1, 1) := by decide +kernel
theorem dX3_dropAt_73 : decode cX3_dropAt 73 = .ok (.iaload, 1) := by decide +kernel
theorem dX3_dropAt_74 : decode cX3_dropAt 74 = .ok (.aload_n 0, 1) := by decide +kernel
theorem dX3_dropAt_75 : decode cX3_dropAt 75 = .ok (.getfield 9, 3) := by decide +kernel
theorem dX3_dropAt_78 : decode cX3_dropAt 78 = .ok (.iload_n 1, 1) := by decide +kernel
theorem dX3_dropAt_79 : decode cX3_dropAt 79 = .ok (.aaload, 1) := by decide +kernel
theorem dX3_dropAt_80 : decode cX3_dropAt 80 = .ok (.iconst 0, 1) := by decide +kernel
theorem dX3_dropAt_81 : decode cX3_dropAt 81 = .ok (.iaload, 1) := by decide +kernel
theorem dX3_dropAt_82 : decode cX3_dropAt 82 = .ok (.if_icmp .gt 11, 3) := by decide +kernel
theorem dX3_dropAt_85 : decode cX3_dropAt 85 = .ok (.aload 6, 2) := by decide +kernel
theorem dX3_dropAt_87 : decode cX3_dropAt 87 = .ok (.iconst 3, 1) := by decide +kernel
theorem dX3_dropAt_88 : decode cX3_dropAt 88 = .ok (.dup2, 1) := by decide +kernel
theorem dX3_dropAt_89 : decode cX3_dropAt 89 = .ok (.iaload, 1) := by decide +kernel
theorem dX3_dropAt_90 : decode cX3_dropAt 90 = .ok (.iconst 1, 1) := by decide +kernel
theorem dX3_dropAt_91 : decode cX3_dropAt 91 = .ok (.iadd, 1) := by decide +kernel
theorem dX3_dropAt_92 : decode cX3_dropAt 92 = .ok (.iastore, 1) := by decide +kernel
theorem dX3_dropAt_93 : decode cX3_dropAt 93 = .ok (.iinc 5 1, 3) := by decide +kernel
theorem dX3_dropAt_96 : decode cX3_dropAt 96 = .ok (.goto (-39), 3) := by decide +kernel
theorem dX3_dropAt_99 : decode cX3_dropAt 99 = .ok (.aload_n 0, 1) := by decide +kernel
theorem dX3_dropAt_100 : decode cX3_dropAt 100 = .ok (.aload_n 2, 1) := by decide +kernel
theorem dX3_dropAt_101 : decode cX3_dropAt 101 = .ok (.putfield 9, 3) := by decide +kernel
theorem dX3_dropAt_104 : decode cX3_dropAt 104 = .ok (.aload_n 0, 1) := by decide +kernel
theorem dX3_dropAt_105 : decode cX3_dropAt 105 = .ok (.dup, 1) := by decide +kernel
theorem dX3_dropAt_106 : decode cX3_dropAt 106 = .ok (.getfield 21, 3) := by decide +kernel
theorem dX3_dropAt_109 : decode cX3_dropAt 109 = .ok (.iconst 1, 1) := by decide +kernel
theorem dX3_dropAt_110 : decode cX3_dropAt 110 = .ok (.iadd, 1) := by decide +kernel
theorem dX3_dropAt_111 : decode cX3_dropAt 111 = .ok (.putfield 21, 3) := by decide +kernel
theorem dX3_dropAt_114 : decode cX3_dropAt 114 = .ok (.return_, 1) := by decide +kernel
set_option maxRecDepth 20000 in
theorem ggX3_say_X3_dropAt : GoodIn wsX3_say wsX3_dropAt := goodIn_r _ [10, 1, 11, 12, 13, 17, 18, 19, 20, 21, 22, 23] (by decide +kernel) (by decide +kernel)
set_option maxRecDepth 20000 in
theorem gX3_say_X3_dropAt : GoodIn wsX3_say (wsV RX3 25 RX3 yX3_dropAt wsX3_dropAt) := goodIn_app (goodIn_of _ (by decide +kernel)) ggX3_say_X3_dropAt
set_option maxRecDepth 20000 in
theorem ggX3_say_X3_with : GoodIn wsX3_say wsX3_with := goodIn_r _ [16, 11] (by decide +kernel) (by decide +kernel)
set_option maxRecDepth 20000 in
theorem gX3_say_X3_with : GoodIn wsX3_say (va_wsS RX3 36 yX3_with wsX3_with) := goodIn_app (goodIn_of _ (by decide +kernel)) ggX3_say_X3_with
theorem dX3_say_0 : decode cX3_say 0 = .ok (.aload_n 0, 1) := by decide +kernel
theorem dX3_say_1 : decode cX3_say 1 = .ok (.getfield 9, 3) := by decide +kernel
theorem dX3_say_4 : decode cX3_say 4 = .ok (.arraylength, 1) := by decide +kernel
theorem dX3_say_5 : decode cX3_say 5 = .ok (.bipush 48, 2) := by decide +kernel
theorem dX3_say_7 : decode cX3_say 7 = .ok (.if_icmp .ne 8, 3) := by decide +kernel
theorem dX3_say_10 : decode cX3_say 10 = .ok (.aload_n 0, 1) := by decide +kernel
theorem dX3_say_11 : decode cX3_say 11 = .ok (.iconst 0, 1) := by decide +kernel
theorem dX3_say_12 : decode cX3_say 12 = .ok (.invokevirtual 25, 3) := by decide +kernel
theorem dX3_say_15 : decode cX3_say 15 = .ok (.aload_n 0, 1) := by decide +kernel
theorem dX3_say_16 : decode cX3_say 16 = .ok (.aload_n 0, 1) := by decide +kernel
theorem dX3_say_17 : decode cX3_say 17 = .ok (.getfield 9, 3) := by decide +kernel
theorem dX3_say_20 : decode cX3_say 20 = .ok (.iconst 4, 1) := by decide +kernel
theorem dX3_say_21 : decode cX3_say 21 = .ok (.newarray .int, 2) := by decide +kernel
theorem dX3_say_23 : decode cX3_say 23 = .ok (.dup, 1) := by decide +kernel
theorem dX3_say_24 : decode cX3_say 24 = .ok (.iconst 0, 1) := by decide +kernel
theorem dX3_say_25 : decode cX3_say 25 = .ok (.aload_n 0, 1) := by decide +kernel
theorem dX3_say_26 : decode cX3_say 26 = .ok (.getfield 29, 3) := by decide +kernel
theorem dX3_say_29 : decode cX3_say 29 = .ok (.iastore, 1) := by decide +kernel
theorem dX3_say_30 : decode cX3_say 30 = .ok (.dup, 1) := by decide +kernel
theorem dX3_say_31 : decode cX3_say 31 = .ok (.iconst 1, 1) := by decide +kernel
theorem dX3_say_32 : decode cX3_say 32 = .ok (.iload_n 1, 1) := by decide +kernel
theorem dX3_say_33 : decode cX3_say 33 = .ok (.iastore, 1) := by decide +kernel
theorem dX3_say_34 : decode cX3_say 34 = .ok (.dup, 1) := by decide +kernel
theorem dX3_say_35 : decode cX3_say 35 = .ok (.iconst 2, 1) := by decide +kernel
theorem dX3_say_36 : decode cX3_say 36 = .ok (.iload_n 2, 1) := by decide +kernel
theorem dX3_say_37 : decode cX3_say 37 = .ok (.iastore, 1) := by decide +kernel
theorem dX3_say_38 : decode cX3_say 38 = .ok (.dup, 1) := by decide +kernel
theorem dX3_say_39 : decode cX3_say 39 = .ok (.iconst 3, 1) := by decide +kernel
theorem dX3_say_40 : decode cX3_say 40 = .ok (.aload_n 0, 1) := by decide +kernel
theorem dX3_say_41 : decode cX3_say 41 = .ok (.getfield 32, 3) := by decide +kernel
theorem dX3_say_44 : decode cX3_say 44 = .ok (.ifCond .eq 13, 3) := by decide +kernel
theorem dX3_say_47 : decode cX3_say 47 = .ok (.aload_n 0, 1) := by decide +kernel
theorem dX3_say_48 : decode cX3_say 48 = .ok (.getfield 15, 3) := by decide +kernel
theorem dX3_say_51 : decode cX3_say 51 = .ok (.arraylength, 1) := by decide +kernel
theorem dX3_say_52 : decode cX3_say 52 = .ok (.iconst 1, 1) := by decide +kernel
theorem dX3_say_53 : decode cX3_say 53 = .ok (.isub, 1) := by decide +kernel
theorem dX3_say_54 : decode cX3_say 54 = .ok (.goto 4, 3) := by decide +kernel
theorem dX3_say_57 : decode cX3_say 57 = .ok (.iconst (-1), 1) := by decide +kernel
theorem dX3_say_58 : decode cX3_say 58 = .ok (.iastore, 1) := by decide +kernel
theorem dX3_say_59 : decode cX3_say 59 = .ok (.invokestatic 36, 3) := by decide +kernel
theorem dX3_say_62 : decode cX3_say 62 = .ok (.putfield 9, 3) := by decide +kernel
theorem dX3_say_65 : decode cX3_say 65 = .ok (.aload_n 0, 1) := by decide +kernel
theorem dX3_say_66 : decode cX3_say 66 = .ok (.getfield 32, 3) := by decide +kernel
theorem dX3_say_69 : decode cX3_say 69 = .ok (.ifCond .eq 19, 3) := by decide +kernel
theorem dX3_say_72 : decode cX3_say 72 = .ok (.aload_n 0, 1) := by decide +kernel
theorem dX3_say_73 : decode cX3_say 73 = .ok (.getfield 15, 3) := by decide +kernel
theorem dX3_say_76 : decode cX3_say 76 = .ok (.aload_n 0, 1) := by decide +kernel
theorem dX3_say_77 : decode cX3_say 77 = .ok (.getfield 15, 3) := by decide +kernel
theorem dX3_say_80 : decode cX3_say 80 = .ok (.arraylength, 1) := by decide +kernel
theorem dX3_say_81 : decode cX3_say 81 = .ok (.iconst 1, 1) := by decide +kernel
theorem dX3_say_82 : decode cX3_say 82 = .ok (.isub, 1) := by decide +kernel
theorem dX3_say_83 : decode cX3_say 83 = .ok (.dup2, 1) := by decide +kernel
theorem dX3_say_84 : decode cX3_say 84 = .ok (.iaload, 1) := by decide +kernel
theorem dX3_say_85 : decode cX3_say 85 = .ok (.iconst 1, 1) := by decide +kernel
theorem dX3_say_86 : decode cX3_say 86 = .ok (.iadd, 1) := by decide +kernel
theorem dX3_say_87 : decode cX3_say 87 = .ok (.iastore, 1) := by decide +kernel
theorem dX3_say_88 : decode cX3_say 88 = .ok (.aload_n 0, 1) := by decide +kernel
theorem dX3_say_89 : decode cX3_say 89 = .ok (.dup, 1) := by decide +kernel
theorem dX3_say_90 : decode cX3_say 90 = .ok (.getfield 29, 3) := by decide +kernel
theorem dX3_say_93 : decode cX3_say 93 = .ok (.iconst 1, 1) := by decide +kernel
theorem dX3_say_94 : decode cX3_say 94 = .ok (.iadd, 1) := by decide +kernel
theorem dX3_say_95 : decode cX3_say 95 = .ok (.putfield 29, 3) := by decide +kernel
theorem dX3_say_98 : decode cX3_say 98 = .ok (.aload_n 0, 1) := by decide +kernel
theorem dX3_say_99 : decode cX3_say 99 = .ok (.getfield 29, 3) := by decide +kernel
theorem dX3_say_102 : decode cX3_say 102 = .ok (.iconst 1, 1) := by decide +kernel
theorem dX3_say_103 : decode cX3_say 103 = .ok (.isub, 1) := by decide +kernel
theorem dX3_say_104 : decode cX3_say 104 = .ok (.ireturn, 1) := by decide +kernel
set_option maxRecDepth 20000 in
theorem ggX3_compact_X3_dropAt : GoodIn wsX3_compact wsX3_dropAt := goodIn_r _ [7, 1, 8, 2, 9, 10, 11, 12, 13, 14, 15, 16] (by decide +kernel) (by decide +kernel)
set_option maxRecDepth 20000 in
theorem gX3_compact_X3_dropAt : GoodIn wsX3_compact (wsV RX3 25 RX3 yX3_dropAt wsX3_dropAt) := goodIn_app (goodIn_of _ (by decide +kernel)) ggX3_compact_X3_dropAt
theorem dX3_compact_0 : decode cX3_compact 0 = .ok (.aload_n 0, 1) := by decide +kernel
theorem dX3_compact_1 : decode cX3_compact 1 = .ok (.getfield 9, 3) := by decide +kernel
theorem dX3_compact_4 : decode cX3_compact 4 = .ok (.arraylength, 1) := by decide +kernel
theorem dX3_compact_5 : decode cX3_compact 5 = .ok (.istore_n 1, 1) := by decide +kernel
theorem dX3_compact_6 : decode cX3_compact 6 = .ok (.aload_n 0, 1) := by decide +kernel
theorem dX3_compact_7 : decode cX3_compact 7 = .ok (.getfield 9, 3) := by decide +kernel
theorem dX3_compact_10 : decode cX3_compact 10 = .ok (.arraylength, 1) := by decide +kernel
theorem dX3_compact_11 : decode cX3_compact 11 = .ok (.iconst 1, 1) := by decide +kernel
theorem dX3_compact_12 : decode cX3_compact 12 = .ok (.isub, 1) := by decide +kernel
theorem dX3_compact_13 : decode cX3_compact 13 = .ok (.istore_n 2, 1) := by decide +kernel
theorem dX3_compact_14 : decode cX3_compact 14 = .ok (.iload_n 2, 1) := by decide +kernel
theorem dX3_compact_15 : decode cX3_compact 15 = .ok (.ifCond .lt 71, 3) := by decide +kernel
theorem dX3_compact_18 : decode cX3_compact 18 = .ok (.iconst 0, 1) := by decide +kernel
theorem dX3_compact_19 : decode cX3_compact 19 = .ok (.istore_n 3, 1) := by decide +kernel
theorem dX3_compact_20 : decode cX3_compact 20 = .ok (.iload_n 2, 1) := by decide +kernel
theorem dX3_compact_21 : decode cX3_compact 21 = .ok (.iconst 1, 1) := by decide +kernel
theorem dX3_compact_22 : decode cX3_compact 22 = .ok (.iadd, 1) := by decide +kernel
theorem dX3_compact_23 : decode cX3_compact 23 = .ok (.istore 4, 2) := by decide +kernel
theorem dX3_compact_25 : decode cX3_compact 25 = .ok (.iload 4, 2) := by decide +kernel
theorem dX3_compact_27 : decode cX3_compact 27 = .ok (.aload_n 0, 1) := by decide +kernel
theorem dX3_compact_28 : decode cX3_compact 28 = .ok (.getfield 9, 3) := by decide +kernel
theorem dX3_compact_31 : decode cX3_compact 31 = .ok (.arraylength, 1) := by decide +kernel
theorem dX3_compact_32 : decode cX3_compact 32 = .ok (.if_icmp .ge 39, 3) := by decide +kernel
theorem dX3_compact_35 : decode cX3_compact 35 = .ok (.iload_n 3, 1) := by decide +kernel
theorem dX3_compact_36 : decode cX3_compact 36 = .ok (.ifCond .ne 23, 3) := by decide +kernel
theorem dX3_compact_39 : decode cX3_compact 39 = .ok (.aload_n 0, 1) := by decide +kernel
theorem dX3_compact_40 : decode cX3_compact 40 = .ok (.getfield 9, 3) := by decide +kernel
theorem dX3_compact_43 : decode cX3_compact 43 = .ok (.iload 4, 2) := by decide +kernel
theorem dX3_compact_45 : decode cX3_compact 45 = .ok (.aaload, 1) := by decide +kernel
theorem dX3_compact_46 : decode cX3_compact 46 = .ok (.iconst 1, 1) := by decide +kernel
theorem dX3_compact_47 : decode cX3_compact 47 = .ok (.iaload, 1) := by decide +kernel
theorem dX3_compact_48 : decode cX3_compact 48 = .ok (.aload_n 0, 1) := by decide +kernel
theorem dX3_compact_49 : decode cX3_compact 49 = .ok (.getfield 9, 3) := by decide +kernel
theorem dX3_compact_52 : decode cX3_compact 52 = .ok (.iload_n 2, 1) := by decide +kernel
theorem dX3_compact_53 : decode cX3_compact 53 = .ok (.aaload, 1) := by decide +kernel
theorem dX3_compact_54 : decode cX3_compact 54 = .ok (.iconst 1, 1) := by decide +kernel
theorem dX3_compact_55 : decode cX3_compact 55 = .ok (.iaload, 1) := by decide +kernel
theorem dX3_compact_56 : decode cX3_compact 56 = .ok (.if_icmp .ne 7, 3) := by decide +kernel
theorem dX3_compact_59 : decode cX3_compact 59 = .ok (.iconst 1, 1) := by decide +kernel
theorem dX3_compact_60 : decode cX3_compact 60 = .ok (.goto 4, 3) := by decide +kernel
theorem dX3_compact_63 : decode cX3_compact 63 = .ok (.iconst 0, 1) := by decide +kernel
theorem dX3_compact_64 : decode cX3_compact 64 = .ok (.istore_n 3, 1) := by decide +kernel
theorem dX3_compact_65 : decode cX3_compact 65 = .ok (.iinc 4 1, 3) := by decide +kernel
theorem dX3_compact_68 : decode cX3_compact 68 = .ok (.goto (-43), 3) := by decide +kernel
theorem dX3_compact_71 : decode cX3_compact 71 = .ok (.iload_n 3, 1) := by decide +kernel
theorem dX3_compact_72 : decode cX3_compact 72 = .ok (.ifCond .eq 8, 3) := by decide +kernel
theorem dX3_compact_75 : decode cX3_compact 75 = .ok (.aload_n 0, 1) := by decide +kernel
theorem dX3_compact_76 : decode cX3_compact 76 = .ok (.iload_n 2, 1) := by decide +kernel
theorem dX3_compact_77 : decode cX3_compact 77 = .ok (.invokevirtual 25, 3) := by decide +kernel
theorem dX3_compact_80 : decode cX3_compact 80 = .ok (.iinc 2 (-1), 3) := by decide +kernel
theorem dX3_compact_83 : decode cX3_compact 83 = .ok (.goto (-69), 3) := by decide +kernel
theorem dX3_compact_86 : decode cX3_compact 86 = .ok (.aload_n 0, 1) := by decide +kernel
theorem dX3_compact_87 : decode cX3_compact 87 = .ok (.getfield 9, 3) := by decide +kernel
theorem dX3_compact_90 : decode cX3_compact 90 = .ok (.arraylength, 1) := by decide +kernel
theorem dX3_compact_91 : decode cX3_compact 91 = .ok (.iconst 1, 1) := by decide +kernel
theorem dX3_compact_92 : decode cX3_compact 92 = .ok (.isub, 1) := by decide +kernel
theorem dX3_compact_93 : decode cX3_compact 93 = .ok (.istore_n 2, 1) := by decide +kernel
theorem dX3_compact_94 : decode cX3_compact 94 = .ok (.iload_n 2, 1) := by decide +kernel
theorem dX3_compact_95 : decode cX3_compact 95 = .ok (.ifCond .lt 94, 3) := by decide +kernel
theorem dX3_compact_98 : decode cX3_compact 98 = .ok (.aload_n 0, 1) := by decide +kernel
theorem dX3_compact_99 : decode cX3_compact 99 = .ok (.getfield 9, 3) := by decide +kernel
theorem dX3_compact_102 : decode cX3_compact 102 = .ok (.iload_n 2, 1) := by decide +kernel
theorem dX3_compact_103 : decode cX3_compact 103 = .ok (.aaload, 1) := by decide +kernel
theorem dX3_compact_104 : decode cX3_compact 104 = .ok (.iconst 2, 1) := by decide +kernel
theorem dX3_compact_105 : decode cX3_compact 105 = .ok (.iaload, 1) := by decide +kernel
theorem dX3_compact_106 : decode cX3_compact 106 = .ok (.ifCond .ne 7, 3) := by decide +kernel
theorem dX3_compact_109 : decode cX3_compact 109 = .ok (.iconst 1, 1) := by decide +kernel
theorem dX3_compact_110 : decode cX3_compact 110 = .ok (.goto 4, 3) := by decide +kernel
theorem dX3_compact_113 : decode cX3_compact 113 = .ok (.iconst 0, 1) := by decide +kernel
theorem dX3_compact_114 : decode cX3_compact 114 = .ok (.istore_n 3, 1) := by decide +kernel
theorem dX3_compact_115 : decode cX3_compact 115 = .ok (.aload_n 0, 1) := by decide +kernel
theorem dX3_compact_116 : decode cX3_compact 116 = .ok (.getfield 18, 3) := by decide +kernel
theorem dX3_compact_119 : decode cX3_compact 119 = .ok (.astore 4, 2) := by decide +kernel
theorem dX3_compact_121 : decode cX3_compact 121 = .ok (.aload 4, 2) := by decide +kernel
theorem dX3_compact_123 : decode cX3_compact 123 = .ok (.arraylength, 1) := by decide +kernel
theorem dX3_compact_124 : decode cX3_compact 124 = .ok (.istore 5, 2) := by decide +kernel
theorem dX3_compact_126 : decode cX3_compact 126 = .ok (.iconst 0, 1) := by decide +kernel
theorem dX3_compact_127 : decode cX3_compact 127 = .ok (.istore 6, 2) := by decide +kernel
theorem dX3_compact_129 : decode cX3_compact 129 = .ok (.iload 6, 2) := by decide +kernel
theorem dX3_compact_131 : decode cX3_compact 131 = .ok (.iload 5, 2) := by decide +kernel
theorem dX3_compact_133 : decode cX3_compact 133 = .ok (.if_icmp .ge 41, 3) := by decide +kernel
theorem dX3_compact_136 : decode cX3_compact 136 = .ok (.aload 4, 2) := by decide +kernel
theorem dX3_compact_138 : decode cX3_compact 138 = .ok (.iload 6, 2) := by decide +kernel
theorem dX3_compact_140 : decode cX3_compact 140 = .ok (.aaload, 1) := by decide +kernel
theorem dX3_compact_141 : decode cX3_compact 141 = .ok (.astore 7, 2) := by decide +kernel
theorem dX3_compact_143 : decode cX3_compact 143 = .ok (.iload_n 3, 1) := by decide +kernel
theorem dX3_compact_144 : decode cX3_compact 144 = .ok (.ifCond .eq 22, 3) := by decide +kernel
theorem dX3_compact_147 : decode cX3_compact 147 = .ok (.aload_n 0, 1) := by decide +kernel
theorem dX3_compact_148 : decode cX3_compact 148 = .ok (.getfield 9, 3) := by decide +kernel
theorem dX3_compact_151 : decode cX3_compact 151 = .ok (.iload_n 2, 1) := by decide +kernel
theorem dX3_compact_152 : decode cX3_compact 152 = .ok (.aaload, 1) := by decide +kernel
theorem dX3_compact_153 : decode cX3_compact 153 = .ok (.iconst 0, 1) := by decide +kernel
theorem dX3_compact_154 : decode cX3_compact 154 = .ok (.iaload, 1) := by decide +kernel
theorem dX3_compact_155 : decode cX3_compact 155 = .ok (.aload 7, 2) := by decide +kernel
theorem dX3_compact_157 : decode cX3_compact 157 = .ok (.iconst 1, 1) := by decide +kernel
theorem dX3_compact_158 : decode cX3_compact 158 = .ok (.iaload, 1) := by decide +kernel
theorem dX3_compact_159 : decode cX3_compact 159 = .ok (.if_icmp .ge 7, 3) := by decide +kernel
theorem dX3_compact_162 : decode cX3_compact 162 = .ok (.iconst 1, 1) := by decide +kernel
theorem dX3_compact_163 : decode cX3_compact 163 = .ok (.goto 4, 3) := by decide +kernel
theorem dX3_compact_166 : decode cX3_compact 166 = .ok (.iconst 0, 1) := by decide +kernel
theorem dX3_compact_167 : decode cX3_compact 167 = .ok (.istore_n 3, 1) := by decide +kernel
theorem dX3_compact_168 : decode cX3_compact 168 = .ok (.iinc 6 1, 3) := by decide +kernel
theorem dX3_compact_171 : decode cX3_compact 171 = .ok (.goto (-42), 3) := by decide +kernel
theorem dX3_compact_174 : decode cX3_compact 174 = .ok (.iload_n 3, 1) := by decide +kernel
theorem dX3_compact_175 : decode cX3_compact 175 = .ok (.ifCond .eq 8, 3) := by decide +kernel
theorem dX3_compact_178 : decode cX3_compact 178 = .ok (.aload_n 0, 1) := by decide +kernel
theorem dX3_compact_179 : decode cX3_compact 179 = .ok (.iload_n 2, 1) := by decide +kernel
theorem dX3_compact_180 : decode cX3_compact 180 = .ok (.invokevirtual 25, 3) := by decide +kernel
theorem dX3_compact_183 : decode cX3_compact 183 = .ok (.iinc 2 (-1), 3) := by decide +kernel
theorem dX3_compact_186 : decode cX3_compact 186 = .ok (.goto (-92), 3) := by decide +kernel
theorem dX3_compact_189 : decode cX3_compact 189 = .ok (.iload_n 1, 1) := by decide +kernel
theorem dX3_compact_190 : decode cX3_compact 190 = .ok (.aload_n 0, 1) := by decide +kernel
theorem dX3_compact_191 : decode cX3_compact 191 = .ok (.getfield 9, 3) := by decide +kernel
theorem dX3_compact_194 : decode cX3_compact 194 = .ok (.arraylength, 1) := by decide +kernel
theorem dX3_compact_195 : decode cX3_compact 195 = .ok (.isub, 1) := by decide +kernel
theorem dX3_compact_196 : decode cX3_compact 196 = .ok (.ireturn, 1) := by decide +kernel
theorem dX3_pass_0 : decode cX3_pass 0 = .ok (.iconst 0, 1) := by decide +kernel
theorem dX3_pass_1 : decode cX3_pass 1 = .ok (.istore_n 2, 1) := by decide +kernel
theorem dX3_pass_2 : decode cX3_pass 2 = .ok (.iconst 0, 1) := by decide +kernel
theorem dX3_pass_3 : decode cX3_pass 3 = .ok (.istore_n 3, 1) := by decide +kernel
theorem dX3_pass_4 : decode cX3_pass 4 = .ok (.iload_n 3, 1) := by decide +kernel
theorem dX3_pass_5 : decode cX3_pass 5 = .ok (.iload_n 1, 1) := by decide +kernel
theorem dX3_pass_6 : decode cX3_pass 6 = .ok (.if_icmp .ge 159, 3) := by decide +kernel
theorem dX3_pass_9 : decode cX3_pass 9 = .ok (.aload_n 0, 1) := by decide +kernel
theorem dX3_pass_10 : decode cX3_pass 10 = .ok (.dup, 1) := by decide +kernel
theorem dX3_pass_11 : decode cX3_pass 11 = .ok (.getfield 40, 3) := by decide +kernel
theorem dX3_pass_14 : decode cX3_pass 14 = .ok (.iconst 1, 1) := by decide +kernel
theorem dX3_pass_15 : decode cX3_pass 15 = .ok (.iadd, 1) := by decide +kernel
theorem dX3_pass_16 : decode cX3_pass 16 = .ok (.putfield 40, 3) := by decide +kernel
theorem dX3_pass_19 : decode cX3_pass 19 = .ok (.aload_n 0, 1) := by decide +kernel
theorem dX3_pass_20 : decode cX3_pass 20 = .ok (.getfield 32, 3) := by decide +kernel
theorem dX3_pass_23 : decode cX3_pass 23 = .ok (.ifCond .eq 6, 3) := by decide +kernel
theorem dX3_pass_26 : decode cX3_pass 26 = .ok (.goto 133, 3) := by decide +kernel
theorem dX3_pass_29 : decode cX3_pass 29 = .ok (.aload_n 0, 1) := by decide +kernel
theorem dX3_pass_30 : decode cX3_pass 30 = .ok (.getfield 18, 3) := by decide +kernel
theorem dX3_pass_33 : decode cX3_pass 33 = .ok (.astore 4, 2) := by decide +kernel
theorem dX3_pass_35 : decode cX3_pass 35 = .ok (.aload 4, 2) := by decide +kernel
theorem dX3_pass_37 : decode cX3_pass 37 = .ok (.arraylength, 1) := by decide +kernel
theorem dX3_pass_38 : decode cX3_pass 38 = .ok (.istore 5, 2) := by decide +kernel
theorem dX3_pass_40 : decode cX3_pass 40 = .ok (.iconst 0, 1) := by decide +kernel
theorem dX3_pass_41 : decode cX3_pass 41 = .ok (.istore 6, 2) := by decide +kernel
theorem dX3_pass_43 : decode cX3_pass 43 = .ok (.iload 6, 2) := by decide +kernel
theorem dX3_pass_45 : decode cX3_pass 45 = .ok (.iload 5, 2) := by decide +kernel
theorem dX3_pass_47 : decode cX3_pass 47 = .ok (.if_icmp .ge 112, 3) := by decide +kernel
theorem dX3_pass_50 : decode cX3_pass 50 = .ok (.aload 4, 2) := by decide +kernel
theorem dX3_pass_52 : decode cX3_pass 52 = .ok (.iload 6, 2) := by decide +kernel
theorem dX3_pass_54 : decode cX3_pass 54 = .ok (.aaload, 1) := by decide +kernel
theorem dX3_pass_55 : decode cX3_pass 55 = .ok (.astore 7, 2) := by decide +kernel
theorem dX3_pass_57 : decode cX3_pass 57 = .ok (.aload 7, 2) := by decide +kernel
theorem dX3_pass_59 : decode cX3_pass 59 = .ok (.iconst 0, 1) := by decide +kernel
theorem dX3_pass_60 : decode cX3_pass 60 = .ok (.iaload, 1) := by decide +kernel
theorem dX3_pass_61 : decode cX3_pass 61 = .ok (.istore 8, 2) := by decide +kernel
theorem dX3_pass_63 : decode cX3_pass 63 = .ok (.aload_n 0, 1) := by decide +kernel
theorem dX3_pass_64 : decode cX3_pass 64 = .ok (.getfield 9, 3) := by decide +kernel
theorem dX3_pass_67 : decode cX3_pass 67 = .ok (.astore 9, 2) := by decide +kernel
theorem dX3_pass_69 : decode cX3_pass 69 = .ok (.aload 9, 2) := by decide +kernel
theorem dX3_pass_71 : decode cX3_pass 71 = .ok (.arraylength, 1) := by decide +kernel
theorem dX3_pass_72 : decode cX3_pass 72 = .ok (.istore 10, 2) := by decide +kernel
theorem dX3_pass_74 : decode cX3_pass 74 = .ok (.iconst 0, 1) := by decide +kernel
theorem dX3_pass_75 : decode cX3_pass 75 = .ok (.istore 11, 2) := by decide +kernel
theorem dX3_pass_77 : decode cX3_pass 77 = .ok (.iload 11, 2) := by decide +kernel
theorem dX3_pass_79 : decode cX3_pass 79 = .ok (.iload 10, 2) := by decide +kernel
theorem dX3_pass_81 : decode cX3_pass 81 = .ok (.if_icmp .ge 72, 3) := by decide +kernel
theorem dX3_pass_84 : decode cX3_pass 84 = .ok (.aload 9, 2) := by decide +kernel
theorem dX3_pass_86 : decode cX3_pass 86 = .ok (.iload 11, 2) := by decide +kernel
theorem dX3_pass_88 : decode cX3_pass 88 = .ok (.aaload, 1) := by decide +kernel
theorem dX3_pass_89 : decode cX3_pass 89 = .ok (.astore 12, 2) := by decide +kernel
theorem dX3_pass_91 : decode cX3_pass 91 = .ok (.aload 12, 2) := by decide +kernel
theorem dX3_pass_93 : decode cX3_pass 93 = .ok (.iconst 0, 1) := by decide +kernel
theorem dX3_pass_94 : decode cX3_pass 94 = .ok (.iaload, 1) := by decide +kernel
theorem dX3_pass_95 : decode cX3_pass 95 = .ok (.aload 7, 2) := by decide +kernel
theorem dX3_pass_97 : decode cX3_pass 97 = .ok (.iconst 1, 1) := by decide +kernel
theorem dX3_pass_98 : decode cX3_pass 98 = .ok (.iaload, 1) := by decide +kernel
theorem dX3_pass_99 : decode cX3_pass 99 = .ok (.if_icmp .lt 48, 3) := by decide +kernel
theorem dX3_pass_102 : decode cX3_pass 102 = .ok (.iload 8, 2) := by decide +kernel
theorem dX3_pass_104 : decode cX3_pass 104 = .ok (.ifCond .ne 6, 3) := by decide +kernel
theorem dX3_pass_107 : decode cX3_pass 107 = .ok (.goto 40, 3) := by decide +kernel
theorem dX3_pass_110 : decode cX3_pass 110 = .ok (.aload 7, 2) := by decide +kernel
theorem dX3_pass_112 : decode cX3_pass 112 = .ok (.iconst 4, 1) := by decide +kernel
theorem dX3_pass_113 : decode cX3_pass 113 = .ok (.aload 12, 2) := by decide +kernel
theorem dX3_pass_115 : decode cX3_pass 115 = .ok (.iconst 1, 1) := by decide +kernel
theorem dX3_pass_116 : decode cX3_pass 116 = .ok (.iaload, 1) := by decide +kernel
theorem dX3_pass_117 : decode cX3_pass 117 = .ok (.iadd, 1) := by decide +kernel
theorem dX3_pass_118 : decode cX3_pass 118 = .ok (.aload 12, 2) := by decide +kernel
theorem dX3_pass_120 : decode cX3_pass 120 = .ok (.iconst 2, 1) := by decide +kernel
theorem dX3_pass_121 : decode cX3_pass 121 = .ok (.iaload, 1) := by decide +kernel
theorem dX3_pass_122 : decode cX3_pass 122 = .ok (.iastore, 1) := by decide +kernel
theorem dX3_pass_123 : decode cX3_pass 123 = .ok (.aload 7, 2) := by decide +kernel
theorem dX3_pass_125 : decode cX3_pass 125 = .ok (.iconst 1, 1) := by decide +kernel
theorem dX3_pass_126 : decode cX3_pass 126 = .ok (.aload 12, 2) := by decide +kernel
theorem dX3_pass_128 : decode cX3_pass 128 = .ok (.iconst 0, 1) := by decide +kernel
theorem dX3_pass_129 : decode cX3_pass 129 = .ok (.iaload, 1) := by decide +kernel
theorem dX3_pass_130 : decode cX3_pass 130 = .ok (.iconst 1, 1) := by decide +kernel
theorem dX3_pass_131 : decode cX3_pass 131 = .ok (.iadd, 1) := by decide +kernel
theorem dX3_pass_132 : decode cX3_pass 132 = .ok (.iastore, 1) := by decide +kernel
theorem dX3_pass_133 : decode cX3_pass 133 = .ok (.aload 7, 2) := by decide +kernel
theorem dX3_pass_135 : decode cX3_pass 135 = .ok (.iconst 2, 1) := by decide +kernel
theorem dX3_pass_136 : decode cX3_pass 136 = .ok (.dup2, 1) := by decide +kernel
theorem dX3_pass_137 : decode cX3_pass 137 = .ok (.iaload, 1) := by decide +kernel
theorem dX3_pass_138 : decode cX3_pass 138 = .ok (.iconst 1, 1) := by decide +kernel
theorem dX3_pass_139 : decode cX3_pass 139 = .ok (.iadd, 1) := by decide +kernel
theorem dX3_pass_140 : decode cX3_pass 140 = .ok (.iastore, 1) := by decide +kernel
theorem dX3_pass_141 : decode cX3_pass 141 = .ok (.iinc 8 (-1), 3) := by decide +kernel
theorem dX3_pass_144 : decode cX3_pass 144 = .ok (.iinc 2 1, 3) := by decide +kernel
theorem dX3_pass_147 : decode cX3_pass 147 = .ok (.iinc 11 1, 3) := by decide +kernel
theorem dX3_pass_150 : decode cX3_pass 150 = .ok (.goto (-73), 3) := by decide +kernel
theorem dX3_pass_153 : decode cX3_pass 153 = .ok (.iinc 6 1, 3) := by decide +kernel
theorem dX3_pass_156 : decode cX3_pass 156 = .ok (.goto (-113), 3) := by decide +kernel
theorem dX3_pass_159 : decode cX3_pass 159 = .ok (.iinc 3 1, 3) := by decide +kernel
theorem dX3_pass_162 : decode cX3_pass 162 = .ok (.goto (-158), 3) := by decide +kernel
theorem dX3_pass_165 : decode cX3_pass 165 = .ok (.iload_n 2, 1) := by decide +kernel
theorem dX3_pass_166 : decode cX3_pass 166 = .ok (.ireturn, 1) := by decide +kernel
theorem dX3_lag_0 : decode cX3_lag 0 = .ok (.iconst 0, 1) := by decide +kernel
theorem dX3_lag_1 : decode cX3_lag 1 = .ok (.istore_n 2, 1) := by decide +kernel
theorem dX3_lag_2 : decode cX3_lag 2 = .ok (.aload_n 0, 1) := by decide +kernel
theorem dX3_lag_3 : decode cX3_lag 3 = .ok (.getfield 9, 3) := by decide +kernel
theorem dX3_lag_6 : decode cX3_lag 6 = .ok (.astore_n 3, 1) := by decide +kernel
theorem dX3_lag_7 : decode cX3_lag 7 = .ok (.aload_n 3, 1) := by decide +kernel
theorem dX3_lag_8 : decode cX3_lag 8 = .ok (.arraylength, 1) := by decide +kernel
theorem dX3_lag_9 : decode cX3_lag 9 = .ok (.istore 4, 2) := by decide +kernel
theorem dX3_lag_11 : decode cX3_lag 11 = .ok (.iconst 0, 1) := by decide +kernel
theorem dX3_lag_12 : decode cX3_lag 12 = .ok (.istore 5, 2) := by decide +kernel
theorem dX3_lag_14 : decode cX3_lag 14 = .ok (.iload 5, 2) := by decide +kernel
theorem dX3_lag_16 : decode cX3_lag 16 = .ok (.iload 4, 2) := by decide +kernel
theorem dX3_lag_18 : decode cX3_lag 18 = .ok (.if_icmp .ge 28, 3) := by decide +kernel
theorem dX3_lag_21 : decode cX3_lag 21 = .ok (.aload_n 3, 1) := by decide +kernel
theorem dX3_lag_22 : decode cX3_lag 22 = .ok (.iload 5, 2) := by decide +kernel
theorem dX3_lag_24 : decode cX3_lag 24 = .ok (.aaload, 1) := by decide +kernel
theorem dX3_lag_25 : decode cX3_lag 25 = .ok (.astore 6, 2) := by decide +kernel
theorem dX3_lag_27 : decode cX3_lag 27 = .ok (.aload 6, 2) := by decide +kernel
theorem dX3_lag_29 : decode cX3_lag 29 = .ok (.iconst 0, 1) := by decide +kernel
theorem dX3_lag_30 : decode cX3_lag 30 = .ok (.iaload, 1) := by decide +kernel
theorem dX3_lag_31 : decode cX3_lag 31 = .ok (.aload_n 1, 1) := by decide +kernel
theorem dX3_lag_32 : decode cX3_lag 32 = .ok (.iconst 1, 1) := by decide +kernel
theorem dX3_lag_33 : decode cX3_lag 33 = .ok (.iaload, 1) := by decide +kernel
theorem dX3_lag_34 : decode cX3_lag 34 = .ok (.if_icmp .lt 6, 3) := by decide +kernel
theorem dX3_lag_37 : decode cX3_lag 37 = .ok (.iinc 2 1, 3) := by decide +kernel
theorem dX3_lag_40 : decode cX3_lag 40 = .ok (.iinc 5 1, 3) := by decide +kernel
theorem dX3_lag_43 : decode cX3_lag 43 = .ok (.goto (-29), 3) := by decide +kernel
theorem dX3_lag_46 : decode cX3_lag 46 = .ok (.iload_n 2, 1) := by decide +kernel
theorem dX3_lag_47 : decode cX3_lag 47 = .ok (.ireturn, 1) := by decide +kernel
theorem dX3_value_0 : decode cX3_value 0 = .ok (.iconst 0, 1) := by decide +kernel
theorem dX3_value_1 : decode cX3_value 1 = .ok (.istore_n 2, 1) := by decide +kernel
theorem dX3_value_2 : decode cX3_value 2 = .ok (.aload_n 0, 1) := by decide +kernel
theorem dX3_value_3 : decode cX3_value 3 = .ok (.getfield 9, 3) := by decide +kernel
theorem dX3_value_6 : decode cX3_value 6 = .ok (.astore_n 3, 1) := by decide +kernel
theorem dX3_value_7 : decode cX3_value 7 = .ok (.aload_n 3, 1) := by decide +kernel
theorem dX3_value_8 : decode cX3_value 8 = .ok (.arraylength, 1) := by decide +kernel
theorem dX3_value_9 : decode cX3_value 9 = .ok (.istore 4, 2) := by decide +kernel
theorem dX3_value_11 : decode cX3_value 11 = .ok (.iconst 0, 1) := by decide +kernel
theorem dX3_value_12 : decode cX3_value 12 = .ok (.istore 5, 2) := by decide +kernel
theorem dX3_value_14 : decode cX3_value 14 = .ok (.iload 5, 2) := by decide +kernel
theorem dX3_value_16 : decode cX3_value 16 = .ok (.iload 4, 2) := by decide +kernel
theorem dX3_value_18 : decode cX3_value 18 = .ok (.if_icmp .ge 28, 3) := by decide +kernel
theorem dX3_value_21 : decode cX3_value 21 = .ok (.aload_n 3, 1) := by decide +kernel
theorem dX3_value_22 : decode cX3_value 22 = .ok (.iload 5, 2) := by decide +kernel
theorem dX3_value_24 : decode cX3_value 24 = .ok (.aaload, 1) := by decide +kernel
theorem dX3_value_25 : decode cX3_value 25 = .ok (.astore 6, 2) := by decide +kernel
theorem dX3_value_27 : decode cX3_value 27 = .ok (.aload 6, 2) := by decide +kernel
theorem dX3_value_29 : decode cX3_value 29 = .ok (.iconst 1, 1) := by decide +kernel
theorem dX3_value_30 : decode cX3_value 30 = .ok (.iaload, 1) := by decide +kernel
theorem dX3_value_31 : decode cX3_value 31 = .ok (.iload_n 1, 1) := by decide +kernel
theorem dX3_value_32 : decode cX3_value 32 = .ok (.if_icmp .ne 8, 3) := by decide +kernel
theorem dX3_value_35 : decode cX3_value 35 = .ok (.aload 6, 2) := by decide +kernel
theorem dX3_value_37 : decode cX3_value 37 = .ok (.iconst 2, 1) := by decide +kernel
theorem dX3_value_38 : decode cX3_value 38 = .ok (.iaload, 1) := by decide +kernel
theorem dX3_value_39 : decode cX3_value 39 = .ok (.istore_n 2, 1) := by decide +kernel
theorem dX3_value_40 : decode cX3_value 40 = .ok (.iinc 5 1, 3) := by decide +kernel
theorem dX3_value_43 : decode cX3_value 43 = .ok (.goto (-29), 3) := by decide +kernel
theorem dX3_value_46 : decode cX3_value 46 = .ok (.iload_n 2, 1) := by decide +kernel
theorem dX3_value_47 : decode cX3_value 47 = .ok (.ireturn, 1) := by decide +kernel
set_option maxRecDepth 20000 in
theorem ggX3_errors_X3_value : GoodIn wsX3_errors wsX3_value := goodIn_r _ [5, 6, 7, 8, 9, 10, 11, 12, 13] (by decide +kernel) (by decide +kernel)
set_option maxRecDepth 20000 in
theorem gX3_errors_X3_value : GoodIn wsX3_errors (wsV RX3 43 RX3 yX3_value wsX3_value) := goodIn_app (goodIn_of _ (by decide +kernel)) ggX3_errors_X3_value
theorem dX3_errors_0 : decode cX3_errors 0 = .ok (.iconst 0, 1) := by decide +kernel
theorem dX3_errors_1 : decode cX3_errors 1 = .ok (.istore_n 2, 1) := by decide +kernel
theorem dX3_errors_2 : decode cX3_errors 2 = .ok (.iconst 0, 1) := by decide +kernel
theorem dX3_errors_3 : decode cX3_errors 3 = .ok (.istore_n 3, 1) := by decide +kernel
theorem dX3_errors_4 : decode cX3_errors 4 = .ok (.iload_n 3, 1) := by decide +kernel
theorem dX3_errors_5 : decode cX3_errors 5 = .ok (.bipush 10, 2) := by decide +kernel
theorem dX3_errors_7 : decode cX3_errors 7 = .ok (.if_icmp .ge 25, 3) := by decide +kernel
theorem dX3_errors_10 : decode cX3_errors 10 = .ok (.aload_n 1, 1) := by decide +kernel
theorem dX3_errors_11 : decode cX3_errors 11 = .ok (.iconst 4, 1) := by decide +kernel
theorem dX3_errors_12 : decode cX3_errors 12 = .ok (.iload_n 3, 1) := by decide +kernel
theorem dX3_errors_13 : decode cX3_errors 13 = .ok (.iadd, 1) := by decide +kernel
theorem dX3_errors_14 : decode cX3_errors 14 = .ok (.iaload, 1) := by decide +kernel
theorem dX3_errors_15 : decode cX3_errors 15 = .ok (.aload_n 0, 1) := by decide +kernel
theorem dX3_errors_16 : decode cX3_errors 16 = .ok (.iload_n 3, 1) := by decide +kernel
theorem dX3_errors_17 : decode cX3_errors 17 = .ok (.invokevirtual 43, 3) := by decide +kernel
theorem dX3_errors_20 : decode cX3_errors 20 = .ok (.if_icmp .eq 6, 3) := by decide +kernel
theorem dX3_errors_23 : decode cX3_errors 23 = .ok (.iinc 2 1, 3) := by decide +kernel
theorem dX3_errors_26 : decode cX3_errors 26 = .ok (.iinc 3 1, 3) := by decide +kernel
theorem dX3_errors_29 : decode cX3_errors 29 = .ok (.goto (-25), 3) := by decide +kernel
theorem dX3_errors_32 : decode cX3_errors 32 = .ok (.iload_n 2, 1) := by decide +kernel
theorem dX3_errors_33 : decode cX3_errors 33 = .ok (.ireturn, 1) := by decide +kernel
