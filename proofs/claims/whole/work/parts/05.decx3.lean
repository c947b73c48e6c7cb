theorem dX3_init_0 : decode cX3_init 0 = .ok (.aload_n 0, 1) := by decide +kernel
theorem dX3_init_1 : decode cX3_init 1 = .ok (.invokespecial 1, 3) := by decide +kernel
theorem dX3_init_4 : decode cX3_init 4 = .ok (.aload_n 0, 1) := by decide +kernel
theorem dX3_init_5 : decode cX3_init 5 = .ok (.bipush 48, 2) := by decide +kernel
theorem dX3_init_7 : decode cX3_init 7 = .ok (.newarray .int, 2) := by decide +kernel
theorem dX3_init_9 : decode cX3_init 9 = .ok (.putfield 9, 3) := by decide +kernel
theorem dX3_init_12 : decode cX3_init 12 = .ok (.aload_n 0, 1) := by decide +kernel
theorem dX3_init_13 : decode cX3_init 13 = .ok (.bipush 48, 2) := by decide +kernel
theorem dX3_init_15 : decode cX3_init 15 = .ok (.newarray .int, 2) := by decide +kernel
theorem dX3_init_17 : decode cX3_init 17 = .ok (.putfield 13, 3) := by decide +kernel
theorem dX3_init_20 : decode cX3_init 20 = .ok (.aload_n 0, 1) := by decide +kernel
theorem dX3_init_21 : decode cX3_init 21 = .ok (.bipush 48, 2) := by decide +kernel
theorem dX3_init_23 : decode cX3_init 23 = .ok (.newarray .int, 2) := by decide +kernel
theorem dX3_init_25 : decode cX3_init 25 = .ok (.putfield 16, 3) := by decide +kernel
theorem dX3_init_28 : decode cX3_init 28 = .ok (.aload_n 0, 1) := by decide +kernel
theorem dX3_init_29 : decode cX3_init 29 = .ok (.bipush 48, 2) := by decide +kernel
theorem dX3_init_31 : decode cX3_init 31 = .ok (.newarray .int, 2) := by decide +kernel
theorem dX3_init_33 : decode cX3_init 33 = .ok (.putfield 19, 3) := by decide +kernel
theorem dX3_init_36 : decode cX3_init 36 = .ok (.aload_n 0, 1) := by decide +kernel
theorem dX3_init_37 : decode cX3_init 37 = .ok (.bipush 48, 2) := by decide +kernel
theorem dX3_init_39 : decode cX3_init 39 = .ok (.newarray .boolean, 2) := by decide +kernel
theorem dX3_init_41 : decode cX3_init 41 = .ok (.putfield 22, 3) := by decide +kernel
theorem dX3_init_44 : decode cX3_init 44 = .ok (.aload_n 0, 1) := by decide +kernel
theorem dX3_init_45 : decode cX3_init 45 = .ok (.bipush 8, 2) := by decide +kernel
theorem dX3_init_47 : decode cX3_init 47 = .ok (.newarray .int, 2) := by decide +kernel
theorem dX3_init_49 : decode cX3_init 49 = .ok (.putfield 26, 3) := by decide +kernel
theorem dX3_init_52 : decode cX3_init 52 = .ok (.aload_n 0, 1) := by decide +kernel
theorem dX3_init_53 : decode cX3_init 53 = .ok (.bipush 6, 2) := by decide +kernel
theorem dX3_init_55 : decode cX3_init 55 = .ok (.newarray .int, 2) := by decide +kernel
theorem dX3_init_57 : decode cX3_init 57 = .ok (.putfield 29, 3) := by decide +kernel
theorem dX3_init_60 : decode cX3_init 60 = .ok (.aload_n 0, 1) := by decide +kernel
theorem dX3_init_61 : decode cX3_init 61 = .ok (.bipush 6, 2) := by decide +kernel
theorem dX3_init_63 : decode cX3_init 63 = .ok (.newarray .int, 2) := by decide +kernel
theorem dX3_init_65 : decode cX3_init 65 = .ok (.putfield 32, 3) := by decide +kernel
theorem dX3_init_68 : decode cX3_init 68 = .ok (.aload_n 0, 1) := by decide +kernel
theorem dX3_init_69 : decode cX3_init 69 = .ok (.bipush 6, 2) := by decide +kernel
theorem dX3_init_71 : decode cX3_init 71 = .ok (.newarray .int, 2) := by decide +kernel
theorem dX3_init_73 : decode cX3_init 73 = .ok (.putfield 35, 3) := by decide +kernel
theorem dX3_init_76 : decode cX3_init 76 = .ok (.aload_n 0, 1) := by decide +kernel
theorem dX3_init_77 : decode cX3_init 77 = .ok (.bipush 6, 2) := by decide +kernel
theorem dX3_init_79 : decode cX3_init 79 = .ok (.newarray .int, 2) := by decide +kernel
theorem dX3_init_81 : decode cX3_init 81 = .ok (.putfield 38, 3) := by decide +kernel
theorem dX3_init_84 : decode cX3_init 84 = .ok (.aload_n 0, 1) := by decide +kernel
theorem dX3_init_85 : decode cX3_init 85 = .ok (.bipush 60, 2) := by decide +kernel
theorem dX3_init_87 : decode cX3_init 87 = .ok (.newarray .int, 2) := by decide +kernel
theorem dX3_init_89 : decode cX3_init 89 = .ok (.putfield 41, 3) := by decide +kernel
theorem dX3_init_92 : decode cX3_init 92 = .ok (.return_, 1) := by decide +kernel
theorem dX3_thrown_0 : decode cX3_thrown 0 = .ok (.aload_n 0, 1) := by decide +kernel
theorem dX3_thrown_1 : decode cX3_thrown 1 = .ok (.getfield 44, 3) := by decide +kernel
theorem dX3_thrown_4 : decode cX3_thrown 4 = .ok (.ireturn, 1) := by decide +kernel
theorem dX3_fail_0 : decode cX3_fail 0 = .ok (.aload_n 0, 1) := by decide +kernel
theorem dX3_fail_1 : decode cX3_fail 1 = .ok (.iload_n 1, 1) := by decide +kernel
theorem dX3_fail_2 : decode cX3_fail 2 = .ok (.putfield 44, 3) := by decide +kernel
theorem dX3_fail_5 : decode cX3_fail 5 = .ok (.iconst 0, 1) := by decide +kernel
theorem dX3_fail_6 : decode cX3_fail 6 = .ok (.ireturn, 1) := by decide +kernel
theorem dX3_told_0 : decode cX3_told 0 = .ok (.aload_n 0, 1) := by decide +kernel
theorem dX3_told_1 : decode cX3_told 1 = .ok (.iconst 0, 1) := by decide +kernel
theorem dX3_told_2 : decode cX3_told 2 = .ok (.putfield 44, 3) := by decide +kernel
theorem dX3_told_5 : decode cX3_told 5 = .ok (.iload_n 1, 1) := by decide +kernel
theorem dX3_told_6 : decode cX3_told 6 = .ok (.ireturn, 1) := by decide +kernel
theorem dX3_isIn_0 : decode cX3_isIn 0 = .ok (.iload_n 0, 1) := by decide +kernel
theorem dX3_isIn_1 : decode cX3_isIn 1 = .ok (.iload_n 1, 1) := by decide +kernel
theorem dX3_isIn_2 : decode cX3_isIn 2 = .ok (.if_icmp .lt 12, 3) := by decide +kernel
theorem dX3_isIn_5 : decode cX3_isIn 5 = .ok (.iload_n 0, 1) := by decide +kernel
theorem dX3_isIn_6 : decode cX3_isIn 6 = .ok (.iload_n 2, 1) := by decide +kernel
theorem dX3_isIn_7 : decode cX3_isIn 7 = .ok (.if_icmp .gt 7, 3) := by decide +kernel
theorem dX3_isIn_10 : decode cX3_isIn 10 = .ok (.iconst 1, 1) := by decide +kernel
theorem dX3_isIn_11 : decode cX3_isIn 11 = .ok (.goto 4, 3) := by decide +kernel
theorem dX3_isIn_14 : decode cX3_isIn 14 = .ok (.iconst 0, 1) := by decide +kernel
theorem dX3_isIn_15 : decode cX3_isIn 15 = .ok (.ireturn, 1) := by decide +kernel
set_option maxRecDepth 20000 in
theorem ggX3_isShip_X3_isIn : GoodIn wsX3_isShip wsX3_isIn := goodIn_r _ [5] (by decide +kernel) (by decide +kernel)
set_option maxRecDepth 20000 in
theorem gX3_isShip_X3_isIn : GoodIn wsX3_isShip (va_wsS RX3 51 yX3_isIn wsX3_isIn) := goodIn_app (goodIn_of _ (by decide +kernel)) ggX3_isShip_X3_isIn
theorem dX3_isShip_0 : decode cX3_isShip 0 = .ok (.iload_n 1, 1) := by decide +kernel
theorem dX3_isShip_1 : decode cX3_isShip 1 = .ok (.iconst 0, 1) := by decide +kernel
theorem dX3_isShip_2 : decode cX3_isShip 2 = .ok (.aload_n 0, 1) := by decide +kernel
theorem dX3_isShip_3 : decode cX3_isShip 3 = .ok (.getfield 48, 3) := by decide +kernel
theorem dX3_isShip_6 : decode cX3_isShip 6 = .ok (.iconst 1, 1) := by decide +kernel
theorem dX3_isShip_7 : decode cX3_isShip 7 = .ok (.isub, 1) := by decide +kernel
theorem dX3_isShip_8 : decode cX3_isShip 8 = .ok (.invokestatic 51, 3) := by decide +kernel
theorem dX3_isShip_11 : decode cX3_isShip 11 = .ok (.ireturn, 1) := by decide +kernel
set_option maxRecDepth 20000 in
theorem ggX3_isStorm_X3_isIn : GoodIn wsX3_isStorm wsX3_isIn := goodIn_r _ [5] (by decide +kernel) (by decide +kernel)
set_option maxRecDepth 20000 in
theorem gX3_isStorm_X3_isIn : GoodIn wsX3_isStorm (va_wsS RX3 51 yX3_isIn wsX3_isIn) := goodIn_app (goodIn_of _ (by decide +kernel)) ggX3_isStorm_X3_isIn
theorem dX3_isStorm_0 : decode cX3_isStorm 0 = .ok (.iload_n 1, 1) := by decide +kernel
theorem dX3_isStorm_1 : decode cX3_isStorm 1 = .ok (.iconst 0, 1) := by decide +kernel
theorem dX3_isStorm_2 : decode cX3_isStorm 2 = .ok (.aload_n 0, 1) := by decide +kernel
theorem dX3_isStorm_3 : decode cX3_isStorm 3 = .ok (.getfield 55, 3) := by decide +kernel
theorem dX3_isStorm_6 : decode cX3_isStorm 6 = .ok (.iconst 1, 1) := by decide +kernel
theorem dX3_isStorm_7 : decode cX3_isStorm 7 = .ok (.isub, 1) := by decide +kernel
theorem dX3_isStorm_8 : decode cX3_isStorm 8 = .ok (.invokestatic 51, 3) := by decide +kernel
theorem dX3_isStorm_11 : decode cX3_isStorm 11 = .ok (.ireturn, 1) := by decide +kernel
set_option maxRecDepth 20000 in
theorem ggX3_isKey_X3_isIn : GoodIn wsX3_isKey wsX3_isIn := goodIn_r _ [4] (by decide +kernel) (by decide +kernel)
set_option maxRecDepth 20000 in
theorem gX3_isKey_X3_isIn : GoodIn wsX3_isKey (va_wsS RX3 51 yX3_isIn wsX3_isIn) := goodIn_app (goodIn_of _ (by decide +kernel)) ggX3_isKey_X3_isIn
theorem dX3_isKey_0 : decode cX3_isKey 0 = .ok (.iload_n 0, 1) := by decide +kernel
theorem dX3_isKey_1 : decode cX3_isKey 1 = .ok (.iconst 0, 1) := by decide +kernel
theorem dX3_isKey_2 : decode cX3_isKey 2 = .ok (.bipush 9, 2) := by decide +kernel
theorem dX3_isKey_4 : decode cX3_isKey 4 = .ok (.invokestatic 51, 3) := by decide +kernel
theorem dX3_isKey_7 : decode cX3_isKey 7 = .ok (.ireturn, 1) := by decide +kernel
theorem dX3_drop_0 : decode cX3_drop 0 = .ok (.iconst 0, 1) := by decide +kernel
theorem dX3_drop_1 : decode cX3_drop 1 = .ok (.istore_n 1, 1) := by decide +kernel
theorem dX3_drop_2 : decode cX3_drop 2 = .ok (.iconst 0, 1) := by decide +kernel
theorem dX3_drop_3 : decode cX3_drop 3 = .ok (.istore_n 2, 1) := by decide +kernel
theorem dX3_drop_4 : decode cX3_drop 4 = .ok (.iload_n 2, 1) := by decide +kernel
theorem dX3_drop_5 : decode cX3_drop 5 = .ok (.aload_n 0, 1) := by decide +kernel
theorem dX3_drop_6 : decode cX3_drop 6 = .ok (.getfield 58, 3) := by decide +kernel
theorem dX3_drop_9 : decode cX3_drop 9 = .ok (.if_icmp .ge 117, 3) := by decide +kernel
theorem dX3_drop_12 : decode cX3_drop 12 = .ok (.aload_n 0, 1) := by decide +kernel
theorem dX3_drop_13 : decode cX3_drop 13 = .ok (.getfield 22, 3) := by decide +kernel
theorem dX3_drop_16 : decode cX3_drop 16 = .ok (.iload_n 2, 1) := by decide +kernel
theorem dX3_drop_17 : decode cX3_drop 17 = .ok (.baload, 1) := by decide +kernel
theorem dX3_drop_18 : decode cX3_drop 18 = .ok (.ifCond .eq 51, 3) := by decide +kernel
theorem dX3_drop_21 : decode cX3_drop 21 = .ok (.iconst 0, 1) := by decide +kernel
theorem dX3_drop_22 : decode cX3_drop 22 = .ok (.istore_n 3, 1) := by decide +kernel
theorem dX3_drop_23 : decode cX3_drop 23 = .ok (.iload_n 3, 1) := by decide +kernel
theorem dX3_drop_24 : decode cX3_drop 24 = .ok (.aload_n 0, 1) := by decide +kernel
theorem dX3_drop_25 : decode cX3_drop 25 = .ok (.getfield 48, 3) := by decide +kernel
theorem dX3_drop_28 : decode cX3_drop 28 = .ok (.if_icmp .ge 38, 3) := by decide +kernel
theorem dX3_drop_31 : decode cX3_drop 31 = .ok (.aload_n 0, 1) := by decide +kernel
theorem dX3_drop_32 : decode cX3_drop 32 = .ok (.getfield 38, 3) := by decide +kernel
theorem dX3_drop_35 : decode cX3_drop 35 = .ok (.iload_n 3, 1) := by decide +kernel
theorem dX3_drop_36 : decode cX3_drop 36 = .ok (.dup2, 1) := by decide +kernel
theorem dX3_drop_37 : decode cX3_drop 37 = .ok (.iaload, 1) := by decide +kernel
theorem dX3_drop_38 : decode cX3_drop 38 = .ok (.aload_n 0, 1) := by decide +kernel
theorem dX3_drop_39 : decode cX3_drop 39 = .ok (.getfield 32, 3) := by decide +kernel
theorem dX3_drop_42 : decode cX3_drop 42 = .ok (.iload_n 3, 1) := by decide +kernel
theorem dX3_drop_43 : decode cX3_drop 43 = .ok (.iaload, 1) := by decide +kernel
theorem dX3_drop_44 : decode cX3_drop 44 = .ok (.aload_n 0, 1) := by decide +kernel
theorem dX3_drop_45 : decode cX3_drop 45 = .ok (.getfield 9, 3) := by decide +kernel
theorem dX3_drop_48 : decode cX3_drop 48 = .ok (.iload_n 2, 1) := by decide +kernel
theorem dX3_drop_49 : decode cX3_drop 49 = .ok (.iaload, 1) := by decide +kernel
theorem dX3_drop_50 : decode cX3_drop 50 = .ok (.if_icmp .gt 7, 3) := by decide +kernel
theorem dX3_drop_53 : decode cX3_drop 53 = .ok (.iconst 1, 1) := by decide +kernel
theorem dX3_drop_54 : decode cX3_drop 54 = .ok (.goto 4, 3) := by decide +kernel
theorem dX3_drop_57 : decode cX3_drop 57 = .ok (.iconst 0, 1) := by decide +kernel
theorem dX3_drop_58 : decode cX3_drop 58 = .ok (.iadd, 1) := by decide +kernel
theorem dX3_drop_59 : decode cX3_drop 59 = .ok (.iastore, 1) := by decide +kernel
theorem dX3_drop_60 : decode cX3_drop 60 = .ok (.iinc 3 1, 3) := by decide +kernel
theorem dX3_drop_63 : decode cX3_drop 63 = .ok (.goto (-40), 3) := by decide +kernel
theorem dX3_drop_66 : decode cX3_drop 66 = .ok (.goto 54, 3) := by decide +kernel
theorem dX3_drop_69 : decode cX3_drop 69 = .ok (.aload_n 0, 1) := by decide +kernel
theorem dX3_drop_70 : decode cX3_drop 70 = .ok (.getfield 9, 3) := by decide +kernel
theorem dX3_drop_73 : decode cX3_drop 73 = .ok (.iload_n 1, 1) := by decide +kernel
theorem dX3_drop_74 : decode cX3_drop 74 = .ok (.aload_n 0, 1) := by decide +kernel
theorem dX3_drop_75 : decode cX3_drop 75 = .ok (.getfield 9, 3) := by decide +kernel
theorem dX3_drop_78 : decode cX3_drop 78 = .ok (.iload_n 2, 1) := by decide +kernel
theorem dX3_drop_79 : decode cX3_drop 79 = .ok (.iaload, 1) := by decide +kernel
theorem dX3_drop_80 : decode cX3_drop 80 = .ok (.iastore, 1) := by decide +kernel
theorem dX3_drop_81 : decode cX3_drop 81 = .ok (.aload_n 0, 1) := by decide +kernel
theorem dX3_drop_82 : decode cX3_drop 82 = .ok (.getfield 13, 3) := by decide +kernel
theorem dX3_drop_85 : decode cX3_drop 85 = .ok (.iload_n 1, 1) := by decide +kernel
theorem dX3_drop_86 : decode cX3_drop 86 = .ok (.aload_n 0, 1) := by decide +kernel
theorem dX3_drop_87 : decode cX3_drop 87 = .ok (.getfield 13, 3) := by decide +kernel
theorem dX3_drop_90 : decode cX3_drop 90 = .ok (.iload_n 2, 1) := by decide +kernel
theorem dX3_drop_91 : decode cX3_drop 91 = .ok (.iaload, 1) := by decide +kernel
theorem dX3_drop_92 : decode cX3_drop 92 = .ok (.iastore, 1) := by decide +kernel
theorem dX3_drop_93 : decode cX3_drop 93 = .ok (.aload_n 0, 1) := by decide +kernel
theorem dX3_drop_94 : decode cX3_drop 94 = .ok (.getfield 16, 3) := by decide +kernel
theorem dX3_drop_97 : decode cX3_drop 97 = .ok (.iload_n 1, 1) := by decide +kernel
theorem dX3_drop_98 : decode cX3_drop 98 = .ok (.aload_n 0, 1) := by decide +kernel
theorem dX3_drop_99 : decode cX3_drop 99 = .ok (.getfield 16, 3) := by decide +kernel
theorem dX3_drop_102 : decode cX3_drop 102 = .ok (.iload_n 2, 1) := by decide +kernel
theorem dX3_drop_103 : decode cX3_drop 103 = .ok (.iaload, 1) := by decide +kernel
theorem dX3_drop_104 : decode cX3_drop 104 = .ok (.iastore, 1) := by decide +kernel
theorem dX3_drop_105 : decode cX3_drop 105 = .ok (.aload_n 0, 1) := by decide +kernel
theorem dX3_drop_106 : decode cX3_drop 106 = .ok (.getfield 19, 3) := by decide +kernel
theorem dX3_drop_109 : decode cX3_drop 109 = .ok (.iload_n 1, 1) := by decide +kernel
theorem dX3_drop_110 : decode cX3_drop 110 = .ok (.aload_n 0, 1) := by decide +kernel
theorem dX3_drop_111 : decode cX3_drop 111 = .ok (.getfield 19, 3) := by decide +kernel
theorem dX3_drop_114 : decode cX3_drop 114 = .ok (.iload_n 2, 1) := by decide +kernel
theorem dX3_drop_115 : decode cX3_drop 115 = .ok (.iaload, 1) := by decide +kernel
theorem dX3_drop_116 : decode cX3_drop 116 = .ok (.iastore, 1) := by decide +kernel
theorem dX3_drop_117 : decode cX3_drop 117 = .ok (.iinc 1 1, 3) := by decide +kernel
theorem dX3_drop_120 : decode cX3_drop 120 = .ok (.iinc 2 1, 3) := by decide +kernel
theorem dX3_drop_123 : decode cX3_drop 123 = .ok (.goto (-119), 3) := by decide +kernel
theorem dX3_drop_126 : decode cX3_drop 126 = .ok (.aload_n 0, 1) := by decide +kernel
theorem dX3_drop_127 : decode cX3_drop 127 = .ok (.getfield 58, 3) := by decide +kernel
theorem dX3_drop_130 : decode cX3_drop 130 = .ok (.iload_n 1, 1) := by decide +kernel
theorem dX3_drop_131 : decode cX3_drop 131 = .ok (.isub, 1) := by decide +kernel
theorem dX3_drop_132 : decode cX3_drop 132 = .ok (.istore_n 2, 1) := by decide +kernel
theorem dX3_drop_133 : decode cX3_drop 133 = .ok (.aload_n 0, 1) := by decide +kernel
theorem dX3_drop_134 : decode cX3_drop 134 = .ok (.iload_n 1, 1) := by decide +kernel
theorem dX3_drop_135 : decode cX3_drop 135 = .ok (.putfield 58, 3) := by decide +kernel
theorem dX3_drop_138 : decode cX3_drop 138 = .ok (.aload_n 0, 1) := by decide +kernel
theorem dX3_drop_139 : decode cX3_drop 139 = .ok (.dup, 1) := by decide +kernel
theorem dX3_drop_140 : decode cX3_drop 140 = .ok (.getfield 61, 3) := by decide +kernel
theorem dX3_drop_143 : decode cX3_drop 143 = .ok (.iload_n 2, 1) := by decide +kernel
theorem dX3_drop_144 : decode cX3_drop 144 = .ok (.iadd, 1) := by decide +kernel
theorem dX3_drop_145 : decode cX3_drop 145 = .ok (.putfield 61, 3) := by decide +kernel
theorem dX3_drop_148 : decode cX3_drop 148 = .ok (.iload_n 2, 1) := by decide +kernel
theorem dX3_drop_149 : decode cX3_drop 149 = .ok (.ireturn, 1) := by decide +kernel
set_option maxRecDepth 20000 in
theorem ggX3_put_X3_drop : GoodIn wsX3_put wsX3_drop := goodIn_r _ [15, 1, 2, 16, 17, 18, 3, 5, 6, 7, 19, 20, 21, 22, 23, 24, 25, 26, 27, 28, 29, 30, 31, 32, 33, 34, 35, 36, 37, 38] (by decide +kernel) (by decide +kernel)
set_option maxRecDepth 20000 in
theorem gX3_put_X3_drop : GoodIn wsX3_put (wsV RX3 64 RX3 yX3_drop wsX3_drop) := goodIn_app (goodIn_of _ (by decide +kernel)) ggX3_put_X3_drop
theorem dX3_put_0 : decode cX3_put 0 = .ok (.aload_n 0, 1) := by decide +kernel
theorem dX3_put_1 : decode cX3_put 1 = .ok (.getfield 58, 3) := by decide +kernel
theorem dX3_put_4 : decode cX3_put 4 = .ok (.bipush 48, 2) := by decide +kernel
theorem dX3_put_6 : decode cX3_put 6 = .ok (.if_icmp .ne 39, 3) := by decide +kernel
theorem dX3_put_9 : decode cX3_put 9 = .ok (.iconst 0, 1) := by decide +kernel
theorem dX3_put_10 : decode cX3_put 10 = .ok (.istore_n 3, 1) := by decide +kernel
theorem dX3_put_11 : decode cX3_put 11 = .ok (.iload_n 3, 1) := by decide +kernel
theorem dX3_put_12 : decode cX3_put 12 = .ok (.aload_n 0, 1) := by decide +kernel
theorem dX3_put_13 : decode cX3_put 13 = .ok (.getfield 58, 3) := by decide +kernel
theorem dX3_put_16 : decode cX3_put 16 = .ok (.if_icmp .ge 24, 3) := by decide +kernel
theorem dX3_put_19 : decode cX3_put 19 = .ok (.aload_n 0, 1) := by decide +kernel
theorem dX3_put_20 : decode cX3_put 20 = .ok (.getfield 22, 3) := by decide +kernel
theorem dX3_put_23 : decode cX3_put 23 = .ok (.iload_n 3, 1) := by decide +kernel
theorem dX3_put_24 : decode cX3_put 24 = .ok (.iload_n 3, 1) := by decide +kernel
theorem dX3_put_25 : decode cX3_put 25 = .ok (.ifCond .ne 7, 3) := by decide +kernel
theorem dX3_put_28 : decode cX3_put 28 = .ok (.iconst 1, 1) := by decide +kernel
theorem dX3_put_29 : decode cX3_put 29 = .ok (.goto 4, 3) := by decide +kernel
theorem dX3_put_32 : decode cX3_put 32 = .ok (.iconst 0, 1) := by decide +kernel
theorem dX3_put_33 : decode cX3_put 33 = .ok (.bastore, 1) := by decide +kernel
theorem dX3_put_34 : decode cX3_put 34 = .ok (.iinc 3 1, 3) := by decide +kernel
theorem dX3_put_37 : decode cX3_put 37 = .ok (.goto (-26), 3) := by decide +kernel
theorem dX3_put_40 : decode cX3_put 40 = .ok (.aload_n 0, 1) := by decide +kernel
theorem dX3_put_41 : decode cX3_put 41 = .ok (.invokevirtual 64, 3) := by decide +kernel
theorem dX3_put_44 : decode cX3_put 44 = .ok (.pop, 1) := by decide +kernel
theorem dX3_put_45 : decode cX3_put 45 = .ok (.aload_n 0, 1) := by decide +kernel
theorem dX3_put_46 : decode cX3_put 46 = .ok (.getfield 9, 3) := by decide +kernel
theorem dX3_put_49 : decode cX3_put 49 = .ok (.aload_n 0, 1) := by decide +kernel
theorem dX3_put_50 : decode cX3_put 50 = .ok (.getfield 58, 3) := by decide +kernel
theorem dX3_put_53 : decode cX3_put 53 = .ok (.aload_n 0, 1) := by decide +kernel
theorem dX3_put_54 : decode cX3_put 54 = .ok (.getfield 68, 3) := by decide +kernel
theorem dX3_put_57 : decode cX3_put 57 = .ok (.iastore, 1) := by decide +kernel
theorem dX3_put_58 : decode cX3_put 58 = .ok (.aload_n 0, 1) := by decide +kernel
theorem dX3_put_59 : decode cX3_put 59 = .ok (.getfield 13, 3) := by decide +kernel
theorem dX3_put_62 : decode cX3_put 62 = .ok (.aload_n 0, 1) := by decide +kernel
theorem dX3_put_63 : decode cX3_put 63 = .ok (.getfield 58, 3) := by decide +kernel
theorem dX3_put_66 : decode cX3_put 66 = .ok (.iload_n 1, 1) := by decide +kernel
theorem dX3_put_67 : decode cX3_put 67 = .ok (.iastore, 1) := by decide +kernel
theorem dX3_put_68 : decode cX3_put 68 = .ok (.aload_n 0, 1) := by decide +kernel
theorem dX3_put_69 : decode cX3_put 69 = .ok (.getfield 16, 3) := by decide +kernel
theorem dX3_put_72 : decode cX3_put 72 = .ok (.aload_n 0, 1) := by decide +kernel
theorem dX3_put_73 : decode cX3_put 73 = .ok (.getfield 58, 3) := by decide +kernel
theorem dX3_put_76 : decode cX3_put 76 = .ok (.iload_n 2, 1) := by decide +kernel
theorem dX3_put_77 : decode cX3_put 77 = .ok (.iastore, 1) := by decide +kernel
theorem dX3_put_78 : decode cX3_put 78 = .ok (.aload_n 0, 1) := by decide +kernel
theorem dX3_put_79 : decode cX3_put 79 = .ok (.getfield 19, 3) := by decide +kernel
theorem dX3_put_82 : decode cX3_put 82 = .ok (.aload_n 0, 1) := by decide +kernel
theorem dX3_put_83 : decode cX3_put 83 = .ok (.getfield 58, 3) := by decide +kernel
theorem dX3_put_86 : decode cX3_put 86 = .ok (.aload_n 0, 1) := by decide +kernel
theorem dX3_put_87 : decode cX3_put 87 = .ok (.getfield 71, 3) := by decide +kernel
theorem dX3_put_90 : decode cX3_put 90 = .ok (.ifCond .eq 12, 3) := by decide +kernel
theorem dX3_put_93 : decode cX3_put 93 = .ok (.aload_n 0, 1) := by decide +kernel
theorem dX3_put_94 : decode cX3_put 94 = .ok (.getfield 55, 3) := by decide +kernel
theorem dX3_put_97 : decode cX3_put 97 = .ok (.iconst 1, 1) := by decide +kernel
theorem dX3_put_98 : decode cX3_put 98 = .ok (.isub, 1) := by decide +kernel
theorem dX3_put_99 : decode cX3_put 99 = .ok (.goto 4, 3) := by decide +kernel
theorem dX3_put_102 : decode cX3_put 102 = .ok (.iconst (-1), 1) := by decide +kernel
theorem dX3_put_103 : decode cX3_put 103 = .ok (.iastore, 1) := by decide +kernel
theorem dX3_put_104 : decode cX3_put 104 = .ok (.aload_n 0, 1) := by decide +kernel
theorem dX3_put_105 : decode cX3_put 105 = .ok (.getfield 71, 3) := by decide +kernel
theorem dX3_put_108 : decode cX3_put 108 = .ok (.ifCond .eq 18, 3) := by decide +kernel
theorem dX3_put_111 : decode cX3_put 111 = .ok (.aload_n 0, 1) := by decide +kernel
theorem dX3_put_112 : decode cX3_put 112 = .ok (.getfield 26, 3) := by decide +kernel
theorem dX3_put_115 : decode cX3_put 115 = .ok (.aload_n 0, 1) := by decide +kernel
theorem dX3_put_116 : decode cX3_put 116 = .ok (.getfield 55, 3) := by decide +kernel
theorem dX3_put_119 : decode cX3_put 119 = .ok (.iconst 1, 1) := by decide +kernel
theorem dX3_put_120 : decode cX3_put 120 = .ok (.isub, 1) := by decide +kernel
theorem dX3_put_121 : decode cX3_put 121 = .ok (.dup2, 1) := by decide +kernel
theorem dX3_put_122 : decode cX3_put 122 = .ok (.iaload, 1) := by decide +kernel
theorem dX3_put_123 : decode cX3_put 123 = .ok (.iconst 1, 1) := by decide +kernel
theorem dX3_put_124 : decode cX3_put 124 = .ok (.iadd, 1) := by decide +kernel
theorem dX3_put_125 : decode cX3_put 125 = .ok (.iastore, 1) := by decide +kernel
theorem dX3_put_126 : decode cX3_put 126 = .ok (.aload_n 0, 1) := by decide +kernel
theorem dX3_put_127 : decode cX3_put 127 = .ok (.dup, 1) := by decide +kernel
theorem dX3_put_128 : decode cX3_put 128 = .ok (.getfield 58, 3) := by decide +kernel
theorem dX3_put_131 : decode cX3_put 131 = .ok (.iconst 1, 1) := by decide +kernel
theorem dX3_put_132 : decode cX3_put 132 = .ok (.iadd, 1) := by decide +kernel
theorem dX3_put_133 : decode cX3_put 133 = .ok (.putfield 58, 3) := by decide +kernel
theorem dX3_put_136 : decode cX3_put 136 = .ok (.aload_n 0, 1) := by decide +kernel
theorem dX3_put_137 : decode cX3_put 137 = .ok (.dup, 1) := by decide +kernel
theorem dX3_put_138 : decode cX3_put 138 = .ok (.getfield 68, 3) := by decide +kernel
theorem dX3_put_141 : decode cX3_put 141 = .ok (.iconst 1, 1) := by decide +kernel
theorem dX3_put_142 : decode cX3_put 142 = .ok (.iadd, 1) := by decide +kernel
theorem dX3_put_143 : decode cX3_put 143 = .ok (.putfield 68, 3) := by decide +kernel
theorem dX3_put_146 : decode cX3_put 146 = .ok (.return_, 1) := by decide +kernel
theorem dX3_mark_0 : decode cX3_mark 0 = .ok (.aload_n 0, 1) := by decide +kernel
theorem dX3_mark_1 : decode cX3_mark 1 = .ok (.getfield 68, 3) := by decide +kernel
theorem dX3_mark_4 : decode cX3_mark 4 = .ok (.istore_n 1, 1) := by decide +kernel
theorem dX3_mark_5 : decode cX3_mark 5 = .ok (.iconst 0, 1) := by decide +kernel
theorem dX3_mark_6 : decode cX3_mark 6 = .ok (.istore_n 2, 1) := by decide +kernel
theorem dX3_mark_7 : decode cX3_mark 7 = .ok (.iload_n 2, 1) := by decide +kernel
theorem dX3_mark_8 : decode cX3_mark 8 = .ok (.aload_n 0, 1) := by decide +kernel
theorem dX3_mark_9 : decode cX3_mark 9 = .ok (.getfield 48, 3) := by decide +kernel
theorem dX3_mark_12 : decode cX3_mark 12 = .ok (.if_icmp .ge 20, 3) := by decide +kernel
theorem dX3_mark_15 : decode cX3_mark 15 = .ok (.iload_n 1, 1) := by decide +kernel
theorem dX3_mark_16 : decode cX3_mark 16 = .ok (.aload_n 0, 1) := by decide +kernel
theorem dX3_mark_17 : decode cX3_mark 17 = .ok (.getfield 32, 3) := by decide +kernel
theorem dX3_mark_20 : decode cX3_mark 20 = .ok (.iload_n 2, 1) := by decide +kernel
theorem dX3_mark_21 : decode cX3_mark 21 = .ok (.iaload, 1) := by decide +kernel
theorem dX3_mark_22 : decode cX3_mark 22 = .ok (.invokestatic 75, 3) := by decide +kernel
theorem dX3_mark_25 : decode cX3_mark 25 = .ok (.istore_n 1, 1) := by decide +kernel
theorem dX3_mark_26 : decode cX3_mark 26 = .ok (.iinc 2 1, 3) := by decide +kernel
theorem dX3_mark_29 : decode cX3_mark 29 = .ok (.goto (-22), 3) := by decide +kernel
theorem dX3_mark_32 : decode cX3_mark 32 = .ok (.bipush 10, 2) := by decide +kernel
theorem dX3_mark_34 : decode cX3_mark 34 = .ok (.newarray .boolean, 2) := by decide +kernel
theorem dX3_mark_36 : decode cX3_mark 36 = .ok (.astore_n 2, 1) := by decide +kernel
theorem dX3_mark_37 : decode cX3_mark 37 = .ok (.iconst 0, 1) := by decide +kernel
theorem dX3_mark_38 : decode cX3_mark 38 = .ok (.istore_n 3, 1) := by decide +kernel
theorem dX3_mark_39 : decode cX3_mark 39 = .ok (.aload_n 0, 1) := by decide +kernel
theorem dX3_mark_40 : decode cX3_mark 40 = .ok (.getfield 58, 3) := by decide +kernel
theorem dX3_mark_43 : decode cX3_mark 43 = .ok (.iconst 1, 1) := by decide +kernel
theorem dX3_mark_44 : decode cX3_mark 44 = .ok (.isub, 1) := by decide +kernel
theorem dX3_mark_45 : decode cX3_mark 45 = .ok (.istore 4, 2) := by decide +kernel
theorem dX3_mark_47 : decode cX3_mark 47 = .ok (.iload 4, 2) := by decide +kernel
theorem dX3_mark_49 : decode cX3_mark 49 = .ok (.ifCond .lt 82, 3) := by decide +kernel
theorem dX3_mark_52 : decode cX3_mark 52 = .ok (.aload_n 0, 1) := by decide +kernel
theorem dX3_mark_53 : decode cX3_mark 53 = .ok (.getfield 22, 3) := by decide +kernel
theorem dX3_mark_56 : decode cX3_mark 56 = .ok (.iload 4, 2) := by decide +kernel
theorem dX3_mark_58 : decode cX3_mark 58 = .ok (.aload_n 2, 1) := by decide +kernel
theorem dX3_mark_59 : decode cX3_mark 59 = .ok (.aload_n 0, 1) := by decide +kernel
theorem dX3_mark_60 : decode cX3_mark 60 = .ok (.getfield 13, 3) := by decide +kernel
theorem dX3_mark_63 : decode cX3_mark 63 = .ok (.iload 4, 2) := by decide +kernel
theorem dX3_mark_65 : decode cX3_mark 65 = .ok (.iaload, 1) := by decide +kernel
theorem dX3_mark_66 : decode cX3_mark 66 = .ok (.baload, 1) := by decide +kernel
theorem dX3_mark_67 : decode cX3_mark 67 = .ok (.ifCond .ne 24, 3) := by decide +kernel
theorem dX3_mark_70 : decode cX3_mark 70 = .ok (.aload_n 0, 1) := by decide +kernel
theorem dX3_mark_71 : decode cX3_mark 71 = .ok (.getfield 16, 3) := by decide +kernel
theorem dX3_mark_74 : decode cX3_mark 74 = .ok (.iload 4, 2) := by decide +kernel
theorem dX3_mark_76 : decode cX3_mark 76 = .ok (.iaload, 1) := by decide +kernel
theorem dX3_mark_77 : decode cX3_mark 77 = .ok (.ifCond .ne 18, 3) := by decide +kernel
theorem dX3_mark_80 : decode cX3_mark 80 = .ok (.aload_n 0, 1) := by decide +kernel
theorem dX3_mark_81 : decode cX3_mark 81 = .ok (.getfield 9, 3) := by decide +kernel
theorem dX3_mark_84 : decode cX3_mark 84 = .ok (.iload 4, 2) := by decide +kernel
theorem dX3_mark_86 : decode cX3_mark 86 = .ok (.iaload, 1) := by decide +kernel
theorem dX3_mark_87 : decode cX3_mark 87 = .ok (.iload_n 1, 1) := by decide +kernel
theorem dX3_mark_88 : decode cX3_mark 88 = .ok (.if_icmp .ge 7, 3) := by decide +kernel
theorem dX3_mark_91 : decode cX3_mark 91 = .ok (.iconst 1, 1) := by decide +kernel
theorem dX3_mark_92 : decode cX3_mark 92 = .ok (.goto 4, 3) := by decide +kernel
theorem dX3_mark_95 : decode cX3_mark 95 = .ok (.iconst 0, 1) := by decide +kernel
theorem dX3_mark_96 : decode cX3_mark 96 = .ok (.bastore, 1) := by decide +kernel
theorem dX3_mark_97 : decode cX3_mark 97 = .ok (.aload_n 2, 1) := by decide +kernel
theorem dX3_mark_98 : decode cX3_mark 98 = .ok (.aload_n 0, 1) := by decide +kernel
theorem dX3_mark_99 : decode cX3_mark 99 = .ok (.getfield 13, 3) := by decide +kernel
theorem dX3_mark_102 : decode cX3_mark 102 = .ok (.iload 4, 2) := by decide +kernel
theorem dX3_mark_104 : decode cX3_mark 104 = .ok (.iaload, 1) := by decide +kernel
theorem dX3_mark_105 : decode cX3_mark 105 = .ok (.iconst 1, 1) := by decide +kernel
theorem dX3_mark_106 : decode cX3_mark 106 = .ok (.bastore, 1) := by decide +kernel
theorem dX3_mark_107 : decode cX3_mark 107 = .ok (.iload_n 3, 1) := by decide +kernel
theorem dX3_mark_108 : decode cX3_mark 108 = .ok (.aload_n 0, 1) := by decide +kernel
theorem dX3_mark_109 : decode cX3_mark 109 = .ok (.getfield 22, 3) := by decide +kernel
theorem dX3_mark_112 : decode cX3_mark 112 = .ok (.iload 4, 2) := by decide +kernel
theorem dX3_mark_114 : decode cX3_mark 114 = .ok (.baload, 1) := by decide +kernel
theorem dX3_mark_115 : decode cX3_mark 115 = .ok (.ifCond .eq 7, 3) := by decide +kernel
theorem dX3_mark_118 : decode cX3_mark 118 = .ok (.iconst 1, 1) := by decide +kernel
theorem dX3_mark_119 : decode cX3_mark 119 = .ok (.goto 4, 3) := by decide +kernel
theorem dX3_mark_122 : decode cX3_mark 122 = .ok (.iconst 0, 1) := by decide +kernel
theorem dX3_mark_123 : decode cX3_mark 123 = .ok (.iadd, 1) := by decide +kernel
theorem dX3_mark_124 : decode cX3_mark 124 = .ok (.istore_n 3, 1) := by decide +kernel
theorem dX3_mark_125 : decode cX3_mark 125 = .ok (.iinc 4 (-1), 3) := by decide +kernel
theorem dX3_mark_128 : decode cX3_mark 128 = .ok (.goto (-81), 3) := by decide +kernel
theorem dX3_mark_131 : decode cX3_mark 131 = .ok (.iload_n 3, 1) := by decide +kernel
theorem dX3_mark_132 : decode cX3_mark 132 = .ok (.ireturn, 1) := by decide +kernel
set_option maxRecDepth 20000 in
theorem ggX3_say_X3_isKey : GoodIn wsX3_say wsX3_isKey := goodIn_r _ [6, 7, 8, 5, 9] (by decide +kernel) (by decide +kernel)
set_option maxRecDepth 20000 in
theorem gX3_say_X3_isKey : GoodIn wsX3_say (va_wsS RX3 81 yX3_isKey wsX3_isKey) := goodIn_app (goodIn_of _ (by decide +kernel)) ggX3_say_X3_isKey
set_option maxRecDepth 20000 in
theorem ggX3_say_X3_isIn : GoodIn wsX3_say wsX3_isIn := goodIn_r _ [9] (by decide +kernel) (by decide +kernel)
set_option maxRecDepth 20000 in
theorem gX3_say_X3_isIn : GoodIn wsX3_say (va_wsS RX3 51 yX3_isIn wsX3_isIn) := goodIn_app (goodIn_of _ (by decide +kernel)) ggX3_say_X3_isIn
set_option maxRecDepth 20000 in
theorem ggX3_say_X3_fail : GoodIn wsX3_say wsX3_fail := goodIn_r _ [13, 1, 35, 36, 37, 38, 39, 40, 41, 42, 43, 44, 45, 46, 47, 48, 49, 50, 51, 52, 53] (by decide +kernel) (by decide +kernel)
set_option maxRecDepth 20000 in
theorem gX3_say_X3_fail : GoodIn wsX3_say (wsV RX3 85 RX3 yX3_fail wsX3_fail) := goodIn_app (goodIn_of _ (by decide +kernel)) ggX3_say_X3_fail
set_option maxRecDepth 20000 in
theorem ggX3_say_X3_put : GoodIn wsX3_say wsX3_put := goodIn_r _ [17, 18, 19, 20, 2, 21, 22, 23, 24, 25, 26, 27, 28, 29, 5, 30, 31, 32, 33, 34, 35, 36, 37, 38, 39, 40, 41, 42, 43, 44, 45, 46, 47, 48, 49, 50, 51, 52, 53] (by decide +kernel) (by decide +kernel)
set_option maxRecDepth 20000 in
theorem gX3_say_X3_put : GoodIn wsX3_say (wsV RX3 89 RX3 yX3_put wsX3_put) := goodIn_app (goodIn_of _ (by decide +kernel)) ggX3_say_X3_put
theorem dX3_say_0 : decode cX3_say 0 = .ok (.aload_n 0, 1) := by decide +kernel
theorem dX3_say_1 : decode cX3_say 1 = .ok (.iconst 0, 1) := by decide +kernel
theorem dX3_say_2 : decode cX3_say 2 = .ok (.putfield 44, 3) := by decide +kernel
theorem dX3_say_5 : decode cX3_say 5 = .ok (.iload_n 1, 1) := by decide +kernel
theorem dX3_say_6 : decode cX3_say 6 = .ok (.invokestatic 81, 3) := by decide +kernel
theorem dX3_say_9 : decode cX3_say 9 = .ok (.ifCond .eq 16, 3) := by decide +kernel
theorem dX3_say_12 : decode cX3_say 12 = .ok (.iload_n 2, 1) := by decide +kernel
theorem dX3_say_13 : decode cX3_say 13 = .ok (.sipush (-999), 3) := by decide +kernel
theorem dX3_say_16 : decode cX3_say 16 = .ok (.sipush 999, 3) := by decide +kernel
theorem dX3_say_19 : decode cX3_say 19 = .ok (.invokestatic 51, 3) := by decide +kernel
theorem dX3_say_22 : decode cX3_say 22 = .ok (.ifCond .ne 9, 3) := by decide +kernel
theorem dX3_say_25 : decode cX3_say 25 = .ok (.aload_n 0, 1) := by decide +kernel
theorem dX3_say_26 : decode cX3_say 26 = .ok (.iconst 1, 1) := by decide +kernel
theorem dX3_say_27 : decode cX3_say 27 = .ok (.invokevirtual 85, 3) := by decide +kernel
theorem dX3_say_30 : decode cX3_say 30 = .ok (.ireturn, 1) := by decide +kernel
theorem dX3_say_31 : decode cX3_say 31 = .ok (.aload_n 0, 1) := by decide +kernel
theorem dX3_say_32 : decode cX3_say 32 = .ok (.iload_n 1, 1) := by decide +kernel
theorem dX3_say_33 : decode cX3_say 33 = .ok (.iload_n 2, 1) := by decide +kernel
theorem dX3_say_34 : decode cX3_say 34 = .ok (.invokevirtual 89, 3) := by decide +kernel
theorem dX3_say_37 : decode cX3_say 37 = .ok (.aload_n 0, 1) := by decide +kernel
theorem dX3_say_38 : decode cX3_say 38 = .ok (.getfield 68, 3) := by decide +kernel
theorem dX3_say_41 : decode cX3_say 41 = .ok (.iconst 1, 1) := by decide +kernel
theorem dX3_say_42 : decode cX3_say 42 = .ok (.isub, 1) := by decide +kernel
theorem dX3_say_43 : decode cX3_say 43 = .ok (.ireturn, 1) := by decide +kernel
set_option maxRecDepth 20000 in
theorem ggX3_startStorm_X3_fail : GoodIn wsX3_startStorm wsX3_fail := goodIn_r _ [8, 1, 9, 10, 11, 12, 13, 14, 15, 16, 17, 18, 19, 20, 21, 22, 23, 24, 25, 26, 27] (by decide +kernel) (by decide +kernel)
set_option maxRecDepth 20000 in
theorem gX3_startStorm_X3_fail : GoodIn wsX3_startStorm (wsV RX3 85 RX3 yX3_fail wsX3_fail) := goodIn_app (goodIn_of _ (by decide +kernel)) ggX3_startStorm_X3_fail
theorem dX3_startStorm_0 : decode cX3_startStorm 0 = .ok (.aload_n 0, 1) := by decide +kernel
theorem dX3_startStorm_1 : decode cX3_startStorm 1 = .ok (.iconst 0, 1) := by decide +kernel
theorem dX3_startStorm_2 : decode cX3_startStorm 2 = .ok (.putfield 44, 3) := by decide +kernel
theorem dX3_startStorm_5 : decode cX3_startStorm 5 = .ok (.aload_n 0, 1) := by decide +kernel
theorem dX3_startStorm_6 : decode cX3_startStorm 6 = .ok (.getfield 71, 3) := by decide +kernel
theorem dX3_startStorm_9 : decode cX3_startStorm 9 = .ok (.ifCond .ne 12, 3) := by decide +kernel
theorem dX3_startStorm_12 : decode cX3_startStorm 12 = .ok (.aload_n 0, 1) := by decide +kernel
theorem dX3_startStorm_13 : decode cX3_startStorm 13 = .ok (.getfield 55, 3) := by decide +kernel
theorem dX3_startStorm_16 : decode cX3_startStorm 16 = .ok (.bipush 8, 2) := by decide +kernel
theorem dX3_startStorm_18 : decode cX3_startStorm 18 = .ok (.if_icmp .ne 9, 3) := by decide +kernel
theorem dX3_startStorm_21 : decode cX3_startStorm 21 = .ok (.aload_n 0, 1) := by decide +kernel
theorem dX3_startStorm_22 : decode cX3_startStorm 22 = .ok (.iconst 1, 1) := by decide +kernel
theorem dX3_startStorm_23 : decode cX3_startStorm 23 = .ok (.invokevirtual 85, 3) := by decide +kernel
theorem dX3_startStorm_26 : decode cX3_startStorm 26 = .ok (.ireturn, 1) := by decide +kernel
theorem dX3_startStorm_27 : decode cX3_startStorm 27 = .ok (.aload_n 0, 1) := by decide +kernel
theorem dX3_startStorm_28 : decode cX3_startStorm 28 = .ok (.iconst 1, 1) := by decide +kernel
theorem dX3_startStorm_29 : decode cX3_startStorm 29 = .ok (.putfield 71, 3) := by decide +kernel
theorem dX3_startStorm_32 : decode cX3_startStorm 32 = .ok (.aload_n 0, 1) := by decide +kernel
theorem dX3_startStorm_33 : decode cX3_startStorm 33 = .ok (.dup, 1) := by decide +kernel
theorem dX3_startStorm_34 : decode cX3_startStorm 34 = .ok (.getfield 55, 3) := by decide +kernel
theorem dX3_startStorm_37 : decode cX3_startStorm 37 = .ok (.iconst 1, 1) := by decide +kernel
theorem dX3_startStorm_38 : decode cX3_startStorm 38 = .ok (.iadd, 1) := by decide +kernel
theorem dX3_startStorm_39 : decode cX3_startStorm 39 = .ok (.putfield 55, 3) := by decide +kernel
theorem dX3_startStorm_42 : decode cX3_startStorm 42 = .ok (.aload_n 0, 1) := by decide +kernel
theorem dX3_startStorm_43 : decode cX3_startStorm 43 = .ok (.getfield 55, 3) := by decide +kernel
theorem dX3_startStorm_46 : decode cX3_startStorm 46 = .ok (.iconst 1, 1) := by decide +kernel
theorem dX3_startStorm_47 : decode cX3_startStorm 47 = .ok (.isub, 1) := by decide +kernel
theorem dX3_startStorm_48 : decode cX3_startStorm 48 = .ok (.ireturn, 1) := by decide +kernel
set_option maxRecDepth 20000 in
theorem ggX3_endStorm_X3_fail : GoodIn wsX3_endStorm wsX3_fail := goodIn_r _ [9, 1, 10, 11, 12, 13, 14, 15, 16, 17, 18, 19, 20, 21, 22, 23, 24, 25, 26, 27, 28] (by decide +kernel) (by decide +kernel)
set_option maxRecDepth 20000 in
theorem gX3_endStorm_X3_fail : GoodIn wsX3_endStorm (wsV RX3 85 RX3 yX3_fail wsX3_fail) := goodIn_app (goodIn_of _ (by decide +kernel)) ggX3_endStorm_X3_fail
theorem dX3_endStorm_0 : decode cX3_endStorm 0 = .ok (.aload_n 0, 1) := by decide +kernel
theorem dX3_endStorm_1 : decode cX3_endStorm 1 = .ok (.iconst 0, 1) := by decide +kernel
theorem dX3_endStorm_2 : decode cX3_endStorm 2 = .ok (.putfield 44, 3) := by decide +kernel
theorem dX3_endStorm_5 : decode cX3_endStorm 5 = .ok (.aload_n 0, 1) := by decide +kernel
theorem dX3_endStorm_6 : decode cX3_endStorm 6 = .ok (.getfield 71, 3) := by decide +kernel
theorem dX3_endStorm_9 : decode cX3_endStorm 9 = .ok (.ifCond .ne 9, 3) := by decide +kernel
theorem dX3_endStorm_12 : decode cX3_endStorm 12 = .ok (.aload_n 0, 1) := by decide +kernel
theorem dX3_endStorm_13 : decode cX3_endStorm 13 = .ok (.iconst 1, 1) := by decide +kernel
theorem dX3_endStorm_14 : decode cX3_endStorm 14 = .ok (.invokevirtual 85, 3) := by decide +kernel
theorem dX3_endStorm_17 : decode cX3_endStorm 17 = .ok (.ireturn, 1) := by decide +kernel
theorem dX3_endStorm_18 : decode cX3_endStorm 18 = .ok (.aload_n 0, 1) := by decide +kernel
theorem dX3_endStorm_19 : decode cX3_endStorm 19 = .ok (.iconst 0, 1) := by decide +kernel
theorem dX3_endStorm_20 : decode cX3_endStorm 20 = .ok (.putfield 71, 3) := by decide +kernel
theorem dX3_endStorm_23 : decode cX3_endStorm 23 = .ok (.aload_n 0, 1) := by decide +kernel
theorem dX3_endStorm_24 : decode cX3_endStorm 24 = .ok (.getfield 26, 3) := by decide +kernel
theorem dX3_endStorm_27 : decode cX3_endStorm 27 = .ok (.aload_n 0, 1) := by decide +kernel
theorem dX3_endStorm_28 : decode cX3_endStorm 28 = .ok (.getfield 55, 3) := by decide +kernel
theorem dX3_endStorm_31 : decode cX3_endStorm 31 = .ok (.iconst 1, 1) := by decide +kernel
theorem dX3_endStorm_32 : decode cX3_endStorm 32 = .ok (.isub, 1) := by decide +kernel
theorem dX3_endStorm_33 : decode cX3_endStorm 33 = .ok (.iaload, 1) := by decide +kernel
theorem dX3_endStorm_34 : decode cX3_endStorm 34 = .ok (.ireturn, 1) := by decide +kernel
set_option maxRecDepth 20000 in
theorem ggX3_replay_X3_isStorm : GoodIn wsX3_replay wsX3_isStorm := goodIn_r _ [12, 13, 14, 15, 11, 16, 37, 38, 39, 40, 41, 42, 43, 44, 45, 46, 47, 48, 49, 50, 51, 52, 53, 54, 55] (by decide +kernel) (by decide +kernel)
set_option maxRecDepth 20000 in
theorem gX3_replay_X3_isStorm : GoodIn wsX3_replay (wsV RX3 93 RX3 yX3_isStorm wsX3_isStorm) := goodIn_app (goodIn_of _ (by decide +kernel)) ggX3_replay_X3_isStorm
set_option maxRecDepth 20000 in
theorem ggX3_replay_X3_fail : GoodIn wsX3_replay wsX3_fail := goodIn_r _ [20, 1, 37, 38, 39, 40, 41, 42, 43, 44, 45, 46, 47, 48, 49, 50, 51, 52, 53, 54, 55] (by decide +kernel) (by decide +kernel)
set_option maxRecDepth 20000 in
theorem gX3_replay_X3_fail : GoodIn wsX3_replay (wsV RX3 85 RX3 yX3_fail wsX3_fail) := goodIn_app (goodIn_of _ (by decide +kernel)) ggX3_replay_X3_fail
set_option maxRecDepth 20000 in
theorem ggX3_replay_X3_put : GoodIn wsX3_replay wsX3_put := goodIn_r _ [24, 4, 25, 26, 27, 6, 7, 5, 2, 13, 28, 29, 30, 31, 11, 32, 33, 34, 35, 36, 37, 38, 39, 40, 41, 42, 43, 44, 45, 46, 47, 48, 49, 50, 51, 52, 53, 54, 55] (by decide +kernel) (by decide +kernel)
set_option maxRecDepth 20000 in
theorem gX3_replay_X3_put : GoodIn wsX3_replay (wsV RX3 89 RX3 yX3_put wsX3_put) := goodIn_app (goodIn_of _ (by decide +kernel)) ggX3_replay_X3_put
theorem dX3_replay_0 : decode cX3_replay 0 = .ok (.aload_n 0, 1) := by decide +kernel
theorem dX3_replay_1 : decode cX3_replay 1 = .ok (.iconst 0, 1) := by decide +kernel
theorem dX3_replay_2 : decode cX3_replay 2 = .ok (.putfield 44, 3) := by decide +kernel
theorem dX3_replay_5 : decode cX3_replay 5 = .ok (.aload_n 0, 1) := by decide +kernel
theorem dX3_replay_6 : decode cX3_replay 6 = .ok (.iload_n 1, 1) := by decide +kernel
theorem dX3_replay_7 : decode cX3_replay 7 = .ok (.invokevirtual 93, 3) := by decide +kernel
theorem dX3_replay_10 : decode cX3_replay 10 = .ok (.ifCond .ne 9, 3) := by decide +kernel
theorem dX3_replay_13 : decode cX3_replay 13 = .ok (.aload_n 0, 1) := by decide +kernel
theorem dX3_replay_14 : decode cX3_replay 14 = .ok (.iconst 1, 1) := by decide +kernel
theorem dX3_replay_15 : decode cX3_replay 15 = .ok (.invokevirtual 85, 3) := by decide +kernel
theorem dX3_replay_18 : decode cX3_replay 18 = .ok (.ireturn, 1) := by decide +kernel
theorem dX3_replay_19 : decode cX3_replay 19 = .ok (.aload_n 0, 1) := by decide +kernel
theorem dX3_replay_20 : decode cX3_replay 20 = .ok (.getfield 71, 3) := by decide +kernel
theorem dX3_replay_23 : decode cX3_replay 23 = .ok (.ifCond .eq 9, 3) := by decide +kernel
theorem dX3_replay_26 : decode cX3_replay 26 = .ok (.aload_n 0, 1) := by decide +kernel
theorem dX3_replay_27 : decode cX3_replay 27 = .ok (.iconst 2, 1) := by decide +kernel
theorem dX3_replay_28 : decode cX3_replay 28 = .ok (.invokevirtual 85, 3) := by decide +kernel
theorem dX3_replay_31 : decode cX3_replay 31 = .ok (.ireturn, 1) := by decide +kernel
theorem dX3_replay_32 : decode cX3_replay 32 = .ok (.bipush 48, 2) := by decide +kernel
theorem dX3_replay_34 : decode cX3_replay 34 = .ok (.newarray .int, 2) := by decide +kernel
theorem dX3_replay_36 : decode cX3_replay 36 = .ok (.astore_n 2, 1) := by decide +kernel
theorem dX3_replay_37 : decode cX3_replay 37 = .ok (.bipush 48, 2) := by decide +kernel
theorem dX3_replay_39 : decode cX3_replay 39 = .ok (.newarray .int, 2) := by decide +kernel
theorem dX3_replay_41 : decode cX3_replay 41 = .ok (.astore_n 3, 1) := by decide +kernel
theorem dX3_replay_42 : decode cX3_replay 42 = .ok (.iconst 0, 1) := by decide +kernel
theorem dX3_replay_43 : decode cX3_replay 43 = .ok (.istore 4, 2) := by decide +kernel
theorem dX3_replay_45 : decode cX3_replay 45 = .ok (.iconst 0, 1) := by decide +kernel
theorem dX3_replay_46 : decode cX3_replay 46 = .ok (.istore 5, 2) := by decide +kernel
theorem dX3_replay_48 : decode cX3_replay 48 = .ok (.iload 5, 2) := by decide +kernel
theorem dX3_replay_50 : decode cX3_replay 50 = .ok (.aload_n 0, 1) := by decide +kernel
theorem dX3_replay_51 : decode cX3_replay 51 = .ok (.getfield 58, 3) := by decide +kernel
theorem dX3_replay_54 : decode cX3_replay 54 = .ok (.if_icmp .ge 48, 3) := by decide +kernel
theorem dX3_replay_57 : decode cX3_replay 57 = .ok (.aload_n 0, 1) := by decide +kernel
theorem dX3_replay_58 : decode cX3_replay 58 = .ok (.getfield 19, 3) := by decide +kernel
theorem dX3_replay_61 : decode cX3_replay 61 = .ok (.iload 5, 2) := by decide +kernel
theorem dX3_replay_63 : decode cX3_replay 63 = .ok (.iaload, 1) := by decide +kernel
theorem dX3_replay_64 : decode cX3_replay 64 = .ok (.iload_n 1, 1) := by decide +kernel
theorem dX3_replay_65 : decode cX3_replay 65 = .ok (.if_icmp .eq 6, 3) := by decide +kernel
theorem dX3_replay_68 : decode cX3_replay 68 = .ok (.goto 28, 3) := by decide +kernel
theorem dX3_replay_71 : decode cX3_replay 71 = .ok (.aload_n 2, 1) := by decide +kernel
theorem dX3_replay_72 : decode cX3_replay 72 = .ok (.iload 4, 2) := by decide +kernel
theorem dX3_replay_74 : decode cX3_replay 74 = .ok (.aload_n 0, 1) := by decide +kernel
theorem dX3_replay_75 : decode cX3_replay 75 = .ok (.getfield 13, 3) := by decide +kernel
theorem dX3_replay_78 : decode cX3_replay 78 = .ok (.iload 5, 2) := by decide +kernel
theorem dX3_replay_80 : decode cX3_replay 80 = .ok (.iaload, 1) := by decide +kernel
theorem dX3_replay_81 : decode cX3_replay 81 = .ok (.iastore, 1) := by decide +kernel
theorem dX3_replay_82 : decode cX3_replay 82 = .ok (.aload_n 3, 1) := by decide +kernel
theorem dX3_replay_83 : decode cX3_replay 83 = .ok (.iload 4, 2) := by decide +kernel
theorem dX3_replay_85 : decode cX3_replay 85 = .ok (.aload_n 0, 1) := by decide +kernel
theorem dX3_replay_86 : decode cX3_replay 86 = .ok (.getfield 16, 3) := by decide +kernel
theorem dX3_replay_89 : decode cX3_replay 89 = .ok (.iload 5, 2) := by decide +kernel
theorem dX3_replay_91 : decode cX3_replay 91 = .ok (.iaload, 1) := by decide +kernel
theorem dX3_replay_92 : decode cX3_replay 92 = .ok (.iastore, 1) := by decide +kernel
theorem dX3_replay_93 : decode cX3_replay 93 = .ok (.iinc 4 1, 3) := by decide +kernel
theorem dX3_replay_96 : decode cX3_replay 96 = .ok (.iinc 5 1, 3) := by decide +kernel
theorem dX3_replay_99 : decode cX3_replay 99 = .ok (.goto (-51), 3) := by decide +kernel
theorem dX3_replay_102 : decode cX3_replay 102 = .ok (.iconst 0, 1) := by decide +kernel
theorem dX3_replay_103 : decode cX3_replay 103 = .ok (.istore 5, 2) := by decide +kernel
theorem dX3_replay_105 : decode cX3_replay 105 = .ok (.iload 5, 2) := by decide +kernel
theorem dX3_replay_107 : decode cX3_replay 107 = .ok (.iload 4, 2) := by decide +kernel
theorem dX3_replay_109 : decode cX3_replay 109 = .ok (.if_icmp .ge 21, 3) := by decide +kernel
theorem dX3_replay_112 : decode cX3_replay 112 = .ok (.aload_n 0, 1) := by decide +kernel
theorem dX3_replay_113 : decode cX3_replay 113 = .ok (.aload_n 2, 1) := by decide +kernel
theorem dX3_replay_114 : decode cX3_replay 114 = .ok (.iload 5, 2) := by decide +kernel
theorem dX3_replay_116 : decode cX3_replay 116 = .ok (.iaload, 1) := by decide +kernel
theorem dX3_replay_117 : decode cX3_replay 117 = .ok (.aload_n 3, 1) := by decide +kernel
theorem dX3_replay_118 : decode cX3_replay 118 = .ok (.iload 5, 2) := by decide +kernel
theorem dX3_replay_120 : decode cX3_replay 120 = .ok (.iaload, 1) := by decide +kernel
theorem dX3_replay_121 : decode cX3_replay 121 = .ok (.invokevirtual 89, 3) := by decide +kernel
theorem dX3_replay_124 : decode cX3_replay 124 = .ok (.iinc 5 1, 3) := by decide +kernel
theorem dX3_replay_127 : decode cX3_replay 127 = .ok (.goto (-22), 3) := by decide +kernel
theorem dX3_replay_130 : decode cX3_replay 130 = .ok (.iload 4, 2) := by decide +kernel
theorem dX3_replay_132 : decode cX3_replay 132 = .ok (.ireturn, 1) := by decide +kernel
set_option maxRecDepth 20000 in
theorem ggX3_compact_X3_mark : GoodIn wsX3_compact wsX3_mark := goodIn_r _ [6, 7, 8, 9, 10, 11, 12, 13, 14, 15, 16, 17, 18, 19, 27, 28, 29, 30, 31, 32, 33, 34, 35, 36, 37, 38, 39, 40, 41, 42, 43, 44, 45] (by decide +kernel) (by decide +kernel)
set_option maxRecDepth 20000 in
theorem gX3_compact_X3_mark : GoodIn wsX3_compact (wsV RX3 96 RX3 yX3_mark wsX3_mark) := goodIn_app (goodIn_of _ (by decide +kernel)) ggX3_compact_X3_mark
set_option maxRecDepth 20000 in
theorem ggX3_compact_X3_drop : GoodIn wsX3_compact wsX3_drop := goodIn_r _ [23, 15, 16, 8, 24, 9, 19, 17, 18, 25, 26, 27, 28, 29, 30, 31, 32, 33, 34, 35, 36, 37, 38, 39, 40, 41, 42, 43, 44, 45] (by decide +kernel) (by decide +kernel)
set_option maxRecDepth 20000 in
theorem gX3_compact_X3_drop : GoodIn wsX3_compact (wsV RX3 64 RX3 yX3_drop wsX3_drop) := goodIn_app (goodIn_of _ (by decide +kernel)) ggX3_compact_X3_drop
theorem dX3_compact_0 : decode cX3_compact 0 = .ok (.aload_n 0, 1) := by decide +kernel
theorem dX3_compact_1 : decode cX3_compact 1 = .ok (.iconst 0, 1) := by decide +kernel
theorem dX3_compact_2 : decode cX3_compact 2 = .ok (.putfield 44, 3) := by decide +kernel
theorem dX3_compact_5 : decode cX3_compact 5 = .ok (.aload_n 0, 1) := by decide +kernel
theorem dX3_compact_6 : decode cX3_compact 6 = .ok (.invokevirtual 96, 3) := by decide +kernel
theorem dX3_compact_9 : decode cX3_compact 9 = .ok (.pop, 1) := by decide +kernel
theorem dX3_compact_10 : decode cX3_compact 10 = .ok (.aload_n 0, 1) := by decide +kernel
theorem dX3_compact_11 : decode cX3_compact 11 = .ok (.invokevirtual 64, 3) := by decide +kernel
theorem dX3_compact_14 : decode cX3_compact 14 = .ok (.ireturn, 1) := by decide +kernel
set_option maxRecDepth 20000 in
theorem ggX3_trimTo_X3_isIn : GoodIn wsX3_trimTo wsX3_isIn := goodIn_r _ [9] (by decide +kernel) (by decide +kernel)
set_option maxRecDepth 20000 in
theorem gX3_trimTo_X3_isIn : GoodIn wsX3_trimTo (va_wsS RX3 51 yX3_isIn wsX3_isIn) := goodIn_app (goodIn_of _ (by decide +kernel)) ggX3_trimTo_X3_isIn
set_option maxRecDepth 20000 in
theorem ggX3_trimTo_X3_fail : GoodIn wsX3_trimTo wsX3_fail := goodIn_r _ [13, 1, 25, 26, 27, 28, 29, 30, 31, 32, 33, 34, 35, 36, 37, 38, 39, 40, 41, 42, 43] (by decide +kernel) (by decide +kernel)
set_option maxRecDepth 20000 in
theorem gX3_trimTo_X3_fail : GoodIn wsX3_trimTo (wsV RX3 85 RX3 yX3_fail wsX3_fail) := goodIn_app (goodIn_of _ (by decide +kernel)) ggX3_trimTo_X3_fail
set_option maxRecDepth 20000 in
theorem ggX3_trimTo_X3_drop : GoodIn wsX3_trimTo wsX3_drop := goodIn_r _ [17, 3, 4, 18, 19, 20, 5, 21, 22, 23, 24, 25, 26, 27, 28, 29, 30, 31, 32, 33, 34, 35, 36, 37, 38, 39, 40, 41, 42, 43] (by decide +kernel) (by decide +kernel)
set_option maxRecDepth 20000 in
theorem gX3_trimTo_X3_drop : GoodIn wsX3_trimTo (wsV RX3 64 RX3 yX3_drop wsX3_drop) := goodIn_app (goodIn_of _ (by decide +kernel)) ggX3_trimTo_X3_drop
theorem dX3_trimTo_0 : decode cX3_trimTo 0 = .ok (.aload_n 0, 1) := by decide +kernel
theorem dX3_trimTo_1 : decode cX3_trimTo 1 = .ok (.iconst 0, 1) := by decide +kernel
theorem dX3_trimTo_2 : decode cX3_trimTo 2 = .ok (.putfield 44, 3) := by decide +kernel
theorem dX3_trimTo_5 : decode cX3_trimTo 5 = .ok (.iload_n 1, 1) := by decide +kernel
theorem dX3_trimTo_6 : decode cX3_trimTo 6 = .ok (.iconst 0, 1) := by decide +kernel
theorem dX3_trimTo_7 : decode cX3_trimTo 7 = .ok (.aload_n 0, 1) := by decide +kernel
theorem dX3_trimTo_8 : decode cX3_trimTo 8 = .ok (.getfield 68, 3) := by decide +kernel
theorem dX3_trimTo_11 : decode cX3_trimTo 11 = .ok (.invokestatic 51, 3) := by decide +kernel
theorem dX3_trimTo_14 : decode cX3_trimTo 14 = .ok (.ifCond .ne 9, 3) := by decide +kernel
theorem dX3_trimTo_17 : decode cX3_trimTo 17 = .ok (.aload_n 0, 1) := by decide +kernel
theorem dX3_trimTo_18 : decode cX3_trimTo 18 = .ok (.iconst 1, 1) := by decide +kernel
theorem dX3_trimTo_19 : decode cX3_trimTo 19 = .ok (.invokevirtual 85, 3) := by decide +kernel
theorem dX3_trimTo_22 : decode cX3_trimTo 22 = .ok (.ireturn, 1) := by decide +kernel
theorem dX3_trimTo_23 : decode cX3_trimTo 23 = .ok (.iconst 0, 1) := by decide +kernel
theorem dX3_trimTo_24 : decode cX3_trimTo 24 = .ok (.istore_n 2, 1) := by decide +kernel
theorem dX3_trimTo_25 : decode cX3_trimTo 25 = .ok (.iload_n 2, 1) := by decide +kernel
theorem dX3_trimTo_26 : decode cX3_trimTo 26 = .ok (.aload_n 0, 1) := by decide +kernel
theorem dX3_trimTo_27 : decode cX3_trimTo 27 = .ok (.getfield 58, 3) := by decide +kernel
theorem dX3_trimTo_30 : decode cX3_trimTo 30 = .ok (.if_icmp .ge 30, 3) := by decide +kernel
theorem dX3_trimTo_33 : decode cX3_trimTo 33 = .ok (.aload_n 0, 1) := by decide +kernel
theorem dX3_trimTo_34 : decode cX3_trimTo 34 = .ok (.getfield 22, 3) := by decide +kernel
theorem dX3_trimTo_37 : decode cX3_trimTo 37 = .ok (.iload_n 2, 1) := by decide +kernel
theorem dX3_trimTo_38 : decode cX3_trimTo 38 = .ok (.aload_n 0, 1) := by decide +kernel
theorem dX3_trimTo_39 : decode cX3_trimTo 39 = .ok (.getfield 9, 3) := by decide +kernel
theorem dX3_trimTo_42 : decode cX3_trimTo 42 = .ok (.iload_n 2, 1) := by decide +kernel
theorem dX3_trimTo_43 : decode cX3_trimTo 43 = .ok (.iaload, 1) := by decide +kernel
theorem dX3_trimTo_44 : decode cX3_trimTo 44 = .ok (.iload_n 1, 1) := by decide +kernel
theorem dX3_trimTo_45 : decode cX3_trimTo 45 = .ok (.if_icmp .ge 7, 3) := by decide +kernel
theorem dX3_trimTo_48 : decode cX3_trimTo 48 = .ok (.iconst 1, 1) := by decide +kernel
theorem dX3_trimTo_49 : decode cX3_trimTo 49 = .ok (.goto 4, 3) := by decide +kernel
theorem dX3_trimTo_52 : decode cX3_trimTo 52 = .ok (.iconst 0, 1) := by decide +kernel
theorem dX3_trimTo_53 : decode cX3_trimTo 53 = .ok (.bastore, 1) := by decide +kernel
theorem dX3_trimTo_54 : decode cX3_trimTo 54 = .ok (.iinc 2 1, 3) := by decide +kernel
theorem dX3_trimTo_57 : decode cX3_trimTo 57 = .ok (.goto (-32), 3) := by decide +kernel
theorem dX3_trimTo_60 : decode cX3_trimTo 60 = .ok (.aload_n 0, 1) := by decide +kernel
theorem dX3_trimTo_61 : decode cX3_trimTo 61 = .ok (.invokevirtual 64, 3) := by decide +kernel
theorem dX3_trimTo_64 : decode cX3_trimTo 64 = .ok (.ireturn, 1) := by decide +kernel
set_option maxRecDepth 20000 in
theorem ggX3_addShip_X3_isIn : GoodIn wsX3_addShip wsX3_isIn := goodIn_r _ [9] (by decide +kernel) (by decide +kernel)
set_option maxRecDepth 20000 in
theorem gX3_addShip_X3_isIn : GoodIn wsX3_addShip (va_wsS RX3 51 yX3_isIn wsX3_isIn) := goodIn_app (goodIn_of _ (by decide +kernel)) ggX3_addShip_X3_isIn
set_option maxRecDepth 20000 in
theorem ggX3_addShip_X3_fail : GoodIn wsX3_addShip wsX3_fail := goodIn_r _ [13, 1, 14, 15, 16, 17, 18, 19, 20, 21, 22, 23, 24, 25, 26, 27, 28, 29, 30, 31, 32] (by decide +kernel) (by decide +kernel)
set_option maxRecDepth 20000 in
theorem gX3_addShip_X3_fail : GoodIn wsX3_addShip (wsV RX3 85 RX3 yX3_fail wsX3_fail) := goodIn_app (goodIn_of _ (by decide +kernel)) ggX3_addShip_X3_fail
theorem dX3_addShip_0 : decode cX3_addShip 0 = .ok (.aload_n 0, 1) := by decide +kernel
theorem dX3_addShip_1 : decode cX3_addShip 1 = .ok (.iconst 0, 1) := by decide +kernel
theorem dX3_addShip_2 : decode cX3_addShip 2 = .ok (.putfield 44, 3) := by decide +kernel
theorem dX3_addShip_5 : decode cX3_addShip 5 = .ok (.iload_n 1, 1) := by decide +kernel
theorem dX3_addShip_6 : decode cX3_addShip 6 = .ok (.iconst 1, 1) := by decide +kernel
theorem dX3_addShip_7 : decode cX3_addShip 7 = .ok (.iconst 5, 1) := by decide +kernel
theorem dX3_addShip_8 : decode cX3_addShip 8 = .ok (.invokestatic 51, 3) := by decide +kernel
theorem dX3_addShip_11 : decode cX3_addShip 11 = .ok (.ifCond .eq 15, 3) := by decide +kernel
theorem dX3_addShip_14 : decode cX3_addShip 14 = .ok (.iload_n 2, 1) := by decide +kernel
theorem dX3_addShip_15 : decode cX3_addShip 15 = .ok (.iconst 0, 1) := by decide +kernel
theorem dX3_addShip_16 : decode cX3_addShip 16 = .ok (.aload_n 0, 1) := by decide +kernel
theorem dX3_addShip_17 : decode cX3_addShip 17 = .ok (.getfield 68, 3) := by decide +kernel
theorem dX3_addShip_20 : decode cX3_addShip 20 = .ok (.invokestatic 51, 3) := by decide +kernel
theorem dX3_addShip_23 : decode cX3_addShip 23 = .ok (.ifCond .ne 9, 3) := by decide +kernel
theorem dX3_addShip_26 : decode cX3_addShip 26 = .ok (.aload_n 0, 1) := by decide +kernel
theorem dX3_addShip_27 : decode cX3_addShip 27 = .ok (.iconst 1, 1) := by decide +kernel
theorem dX3_addShip_28 : decode cX3_addShip 28 = .ok (.invokevirtual 85, 3) := by decide +kernel
theorem dX3_addShip_31 : decode cX3_addShip 31 = .ok (.ireturn, 1) := by decide +kernel
theorem dX3_addShip_32 : decode cX3_addShip 32 = .ok (.aload_n 0, 1) := by decide +kernel
theorem dX3_addShip_33 : decode cX3_addShip 33 = .ok (.getfield 48, 3) := by decide +kernel
theorem dX3_addShip_36 : decode cX3_addShip 36 = .ok (.bipush 6, 2) := by decide +kernel
theorem dX3_addShip_38 : decode cX3_addShip 38 = .ok (.if_icmp .ne 9, 3) := by decide +kernel
theorem dX3_addShip_41 : decode cX3_addShip 41 = .ok (.aload_n 0, 1) := by decide +kernel
theorem dX3_addShip_42 : decode cX3_addShip 42 = .ok (.iconst 2, 1) := by decide +kernel
theorem dX3_addShip_43 : decode cX3_addShip 43 = .ok (.invokevirtual 85, 3) := by decide +kernel
theorem dX3_addShip_46 : decode cX3_addShip 46 = .ok (.ireturn, 1) := by decide +kernel
theorem dX3_addShip_47 : decode cX3_addShip 47 = .ok (.aload_n 0, 1) := by decide +kernel
theorem dX3_addShip_48 : decode cX3_addShip 48 = .ok (.getfield 29, 3) := by decide +kernel
theorem dX3_addShip_51 : decode cX3_addShip 51 = .ok (.aload_n 0, 1) := by decide +kernel
theorem dX3_addShip_52 : decode cX3_addShip 52 = .ok (.getfield 48, 3) := by decide +kernel
theorem dX3_addShip_55 : decode cX3_addShip 55 = .ok (.iload_n 1, 1) := by decide +kernel
theorem dX3_addShip_56 : decode cX3_addShip 56 = .ok (.iastore, 1) := by decide +kernel
theorem dX3_addShip_57 : decode cX3_addShip 57 = .ok (.aload_n 0, 1) := by decide +kernel
theorem dX3_addShip_58 : decode cX3_addShip 58 = .ok (.getfield 32, 3) := by decide +kernel
theorem dX3_addShip_61 : decode cX3_addShip 61 = .ok (.aload_n 0, 1) := by decide +kernel
theorem dX3_addShip_62 : decode cX3_addShip 62 = .ok (.getfield 48, 3) := by decide +kernel
theorem dX3_addShip_65 : decode cX3_addShip 65 = .ok (.iload_n 2, 1) := by decide +kernel
theorem dX3_addShip_66 : decode cX3_addShip 66 = .ok (.iastore, 1) := by decide +kernel
theorem dX3_addShip_67 : decode cX3_addShip 67 = .ok (.aload_n 0, 1) := by decide +kernel
theorem dX3_addShip_68 : decode cX3_addShip 68 = .ok (.dup, 1) := by decide +kernel
theorem dX3_addShip_69 : decode cX3_addShip 69 = .ok (.getfield 48, 3) := by decide +kernel
theorem dX3_addShip_72 : decode cX3_addShip 72 = .ok (.iconst 1, 1) := by decide +kernel
theorem dX3_addShip_73 : decode cX3_addShip 73 = .ok (.iadd, 1) := by decide +kernel
theorem dX3_addShip_74 : decode cX3_addShip 74 = .ok (.putfield 48, 3) := by decide +kernel
theorem dX3_addShip_77 : decode cX3_addShip 77 = .ok (.aload_n 0, 1) := by decide +kernel
theorem dX3_addShip_78 : decode cX3_addShip 78 = .ok (.getfield 48, 3) := by decide +kernel
theorem dX3_addShip_81 : decode cX3_addShip 81 = .ok (.iconst 1, 1) := by decide +kernel
theorem dX3_addShip_82 : decode cX3_addShip 82 = .ok (.isub, 1) := by decide +kernel
theorem dX3_addShip_83 : decode cX3_addShip 83 = .ok (.ireturn, 1) := by decide +kernel
set_option maxRecDepth 20000 in
theorem ggX3_seek_X3_isShip : GoodIn wsX3_seek wsX3_isShip := goodIn_r _ [8, 9, 10, 11, 7, 12, 17, 18, 19, 20, 21, 22, 23, 24, 25, 26, 27, 28, 29, 30, 31, 32, 33, 34, 35] (by decide +kernel) (by decide +kernel)
set_option maxRecDepth 20000 in
theorem gX3_seek_X3_isShip : GoodIn wsX3_seek (wsV RX3 99 RX3 yX3_isShip wsX3_isShip) := goodIn_app (goodIn_of _ (by decide +kernel)) ggX3_seek_X3_isShip
set_option maxRecDepth 20000 in
theorem ggX3_seek_X3_fail : GoodIn wsX3_seek wsX3_fail := goodIn_r _ [16, 1, 17, 18, 19, 20, 21, 22, 23, 24, 25, 26, 27, 28, 29, 30, 31, 32, 33, 34, 35] (by decide +kernel) (by decide +kernel)
set_option maxRecDepth 20000 in
theorem gX3_seek_X3_fail : GoodIn wsX3_seek (wsV RX3 85 RX3 yX3_fail wsX3_fail) := goodIn_app (goodIn_of _ (by decide +kernel)) ggX3_seek_X3_fail
set_option maxRecDepth 20000 in
theorem ggX3_seek_X3_isIn : GoodIn wsX3_seek wsX3_isIn := goodIn_r _ [12] (by decide +kernel) (by decide +kernel)
set_option maxRecDepth 20000 in
theorem gX3_seek_X3_isIn : GoodIn wsX3_seek (va_wsS RX3 51 yX3_isIn wsX3_isIn) := goodIn_app (goodIn_of _ (by decide +kernel)) ggX3_seek_X3_isIn
theorem dX3_seek_0 : decode cX3_seek 0 = .ok (.aload_n 0, 1) := by decide +kernel
theorem dX3_seek_1 : decode cX3_seek 1 = .ok (.iconst 0, 1) := by decide +kernel
theorem dX3_seek_2 : decode cX3_seek 2 = .ok (.putfield 44, 3) := by decide +kernel
theorem dX3_seek_5 : decode cX3_seek 5 = .ok (.aload_n 0, 1) := by decide +kernel
theorem dX3_seek_6 : decode cX3_seek 6 = .ok (.iload_n 1, 1) := by decide +kernel
theorem dX3_seek_7 : decode cX3_seek 7 = .ok (.invokevirtual 99, 3) := by decide +kernel
theorem dX3_seek_10 : decode cX3_seek 10 = .ok (.ifCond .ne 9, 3) := by decide +kernel
theorem dX3_seek_13 : decode cX3_seek 13 = .ok (.aload_n 0, 1) := by decide +kernel
theorem dX3_seek_14 : decode cX3_seek 14 = .ok (.iconst 1, 1) := by decide +kernel
theorem dX3_seek_15 : decode cX3_seek 15 = .ok (.invokevirtual 85, 3) := by decide +kernel
theorem dX3_seek_18 : decode cX3_seek 18 = .ok (.ireturn, 1) := by decide +kernel
theorem dX3_seek_19 : decode cX3_seek 19 = .ok (.iload_n 2, 1) := by decide +kernel
theorem dX3_seek_20 : decode cX3_seek 20 = .ok (.iconst 0, 1) := by decide +kernel
theorem dX3_seek_21 : decode cX3_seek 21 = .ok (.aload_n 0, 1) := by decide +kernel
theorem dX3_seek_22 : decode cX3_seek 22 = .ok (.getfield 68, 3) := by decide +kernel
theorem dX3_seek_25 : decode cX3_seek 25 = .ok (.invokestatic 51, 3) := by decide +kernel
theorem dX3_seek_28 : decode cX3_seek 28 = .ok (.ifCond .ne 9, 3) := by decide +kernel
theorem dX3_seek_31 : decode cX3_seek 31 = .ok (.aload_n 0, 1) := by decide +kernel
theorem dX3_seek_32 : decode cX3_seek 32 = .ok (.iconst 2, 1) := by decide +kernel
theorem dX3_seek_33 : decode cX3_seek 33 = .ok (.invokevirtual 85, 3) := by decide +kernel
theorem dX3_seek_36 : decode cX3_seek 36 = .ok (.ireturn, 1) := by decide +kernel
theorem dX3_seek_37 : decode cX3_seek 37 = .ok (.aload_n 0, 1) := by decide +kernel
theorem dX3_seek_38 : decode cX3_seek 38 = .ok (.getfield 32, 3) := by decide +kernel
theorem dX3_seek_41 : decode cX3_seek 41 = .ok (.iload_n 1, 1) := by decide +kernel
theorem dX3_seek_42 : decode cX3_seek 42 = .ok (.iaload, 1) := by decide +kernel
theorem dX3_seek_43 : decode cX3_seek 43 = .ok (.istore_n 3, 1) := by decide +kernel
theorem dX3_seek_44 : decode cX3_seek 44 = .ok (.aload_n 0, 1) := by decide +kernel
theorem dX3_seek_45 : decode cX3_seek 45 = .ok (.getfield 32, 3) := by decide +kernel
theorem dX3_seek_48 : decode cX3_seek 48 = .ok (.iload_n 1, 1) := by decide +kernel
theorem dX3_seek_49 : decode cX3_seek 49 = .ok (.iload_n 2, 1) := by decide +kernel
theorem dX3_seek_50 : decode cX3_seek 50 = .ok (.iastore, 1) := by decide +kernel
theorem dX3_seek_51 : decode cX3_seek 51 = .ok (.iload_n 3, 1) := by decide +kernel
theorem dX3_seek_52 : decode cX3_seek 52 = .ok (.ireturn, 1) := by decide +kernel
theorem dX3_from_0 : decode cX3_from 0 = .ok (.iconst 0, 1) := by decide +kernel
theorem dX3_from_1 : decode cX3_from 1 = .ok (.istore_n 2, 1) := by decide +kernel
theorem dX3_from_2 : decode cX3_from 2 = .ok (.iload_n 2, 1) := by decide +kernel
theorem dX3_from_3 : decode cX3_from 3 = .ok (.aload_n 0, 1) := by decide +kernel
theorem dX3_from_4 : decode cX3_from 4 = .ok (.getfield 58, 3) := by decide +kernel
theorem dX3_from_7 : decode cX3_from 7 = .ok (.if_icmp .ge 19, 3) := by decide +kernel
theorem dX3_from_10 : decode cX3_from 10 = .ok (.aload_n 0, 1) := by decide +kernel
theorem dX3_from_11 : decode cX3_from 11 = .ok (.getfield 9, 3) := by decide +kernel
theorem dX3_from_14 : decode cX3_from 14 = .ok (.iload_n 2, 1) := by decide +kernel
theorem dX3_from_15 : decode cX3_from 15 = .ok (.iaload, 1) := by decide +kernel
theorem dX3_from_16 : decode cX3_from 16 = .ok (.iload_n 1, 1) := by decide +kernel
theorem dX3_from_17 : decode cX3_from 17 = .ok (.if_icmp .ge 9, 3) := by decide +kernel
theorem dX3_from_20 : decode cX3_from 20 = .ok (.iinc 2 1, 3) := by decide +kernel
theorem dX3_from_23 : decode cX3_from 23 = .ok (.goto (-21), 3) := by decide +kernel
theorem dX3_from_26 : decode cX3_from 26 = .ok (.iload_n 2, 1) := by decide +kernel
theorem dX3_from_27 : decode cX3_from 27 = .ok (.ireturn, 1) := by decide +kernel
set_option maxRecDepth 20000 in
theorem ggX3_lag_X3_from : GoodIn wsX3_lag wsX3_from := goodIn_r _ [7, 1, 8, 9, 10, 11, 12, 13, 14, 15, 16, 17, 18, 19, 20, 21, 22, 23, 24, 25, 26, 27] (by decide +kernel) (by decide +kernel)
set_option maxRecDepth 20000 in
theorem gX3_lag_X3_from : GoodIn wsX3_lag (wsV RX3 102 RX3 yX3_from wsX3_from) := goodIn_app (goodIn_of _ (by decide +kernel)) ggX3_lag_X3_from
theorem dX3_lag_0 : decode cX3_lag 0 = .ok (.aload_n 0, 1) := by decide +kernel
theorem dX3_lag_1 : decode cX3_lag 1 = .ok (.getfield 58, 3) := by decide +kernel
theorem dX3_lag_4 : decode cX3_lag 4 = .ok (.aload_n 0, 1) := by decide +kernel
theorem dX3_lag_5 : decode cX3_lag 5 = .ok (.aload_n 0, 1) := by decide +kernel
theorem dX3_lag_6 : decode cX3_lag 6 = .ok (.getfield 32, 3) := by decide +kernel
theorem dX3_lag_9 : decode cX3_lag 9 = .ok (.iload_n 1, 1) := by decide +kernel
theorem dX3_lag_10 : decode cX3_lag 10 = .ok (.iaload, 1) := by decide +kernel
theorem dX3_lag_11 : decode cX3_lag 11 = .ok (.invokevirtual 102, 3) := by decide +kernel
theorem dX3_lag_14 : decode cX3_lag 14 = .ok (.isub, 1) := by decide +kernel
theorem dX3_lag_15 : decode cX3_lag 15 = .ok (.ireturn, 1) := by decide +kernel
set_option maxRecDepth 20000 in
theorem ggX3_passHours_X3_isIn : GoodIn wsX3_passHours wsX3_isIn := goodIn_r _ [20] (by decide +kernel) (by decide +kernel)
set_option maxRecDepth 20000 in
theorem gX3_passHours_X3_isIn : GoodIn wsX3_passHours (va_wsS RX3 51 yX3_isIn wsX3_isIn) := goodIn_app (goodIn_of _ (by decide +kernel)) ggX3_passHours_X3_isIn
set_option maxRecDepth 20000 in
theorem ggX3_passHours_X3_fail : GoodIn wsX3_passHours wsX3_fail := goodIn_r _ [24, 1, 29, 30, 31, 32, 33, 34, 35, 36, 37, 38, 39, 40, 41, 42, 43, 44, 45, 46, 47] (by decide +kernel) (by decide +kernel)
set_option maxRecDepth 20000 in
theorem gX3_passHours_X3_fail : GoodIn wsX3_passHours (wsV RX3 85 RX3 yX3_fail wsX3_fail) := goodIn_app (goodIn_of _ (by decide +kernel)) ggX3_passHours_X3_fail
set_option maxRecDepth 20000 in
theorem ggX3_passHours_X3_from : GoodIn wsX3_passHours wsX3_from := goodIn_r _ [28, 6, 15, 29, 30, 31, 32, 33, 34, 35, 36, 37, 38, 39, 40, 41, 42, 43, 44, 45, 46, 47] (by decide +kernel) (by decide +kernel)
set_option maxRecDepth 20000 in
theorem gX3_passHours_X3_from : GoodIn wsX3_passHours (wsV RX3 102 RX3 yX3_from wsX3_from) := goodIn_app (goodIn_of _ (by decide +kernel)) ggX3_passHours_X3_from
theorem dX3_passHours_0 : decode cX3_passHours 0 = .ok (.aload_n 0, 1) := by decide +kernel
theorem dX3_passHours_1 : decode cX3_passHours 1 = .ok (.iconst 0, 1) := by decide +kernel
theorem dX3_passHours_2 : decode cX3_passHours 2 = .ok (.putfield 44, 3) := by decide +kernel
theorem dX3_passHours_5 : decode cX3_passHours 5 = .ok (.iload_n 1, 1) := by decide +kernel
theorem dX3_passHours_6 : decode cX3_passHours 6 = .ok (.iconst 1, 1) := by decide +kernel
theorem dX3_passHours_7 : decode cX3_passHours 7 = .ok (.bipush 60, 2) := by decide +kernel
theorem dX3_passHours_9 : decode cX3_passHours 9 = .ok (.invokestatic 51, 3) := by decide +kernel
theorem dX3_passHours_12 : decode cX3_passHours 12 = .ok (.ifCond .ne 9, 3) := by decide +kernel
theorem dX3_passHours_15 : decode cX3_passHours 15 = .ok (.aload_n 0, 1) := by decide +kernel
theorem dX3_passHours_16 : decode cX3_passHours 16 = .ok (.iconst 1, 1) := by decide +kernel
theorem dX3_passHours_17 : decode cX3_passHours 17 = .ok (.invokevirtual 85, 3) := by decide +kernel
theorem dX3_passHours_20 : decode cX3_passHours 20 = .ok (.ireturn, 1) := by decide +kernel
theorem dX3_passHours_21 : decode cX3_passHours 21 = .ok (.aload_n 0, 1) := by decide +kernel
theorem dX3_passHours_22 : decode cX3_passHours 22 = .ok (.dup, 1) := by decide +kernel
theorem dX3_passHours_23 : decode cX3_passHours 23 = .ok (.getfield 105, 3) := by decide +kernel
theorem dX3_passHours_26 : decode cX3_passHours 26 = .ok (.iload_n 1, 1) := by decide +kernel
theorem dX3_passHours_27 : decode cX3_passHours 27 = .ok (.iadd, 1) := by decide +kernel
theorem dX3_passHours_28 : decode cX3_passHours 28 = .ok (.putfield 105, 3) := by decide +kernel
theorem dX3_passHours_31 : decode cX3_passHours 31 = .ok (.iconst 0, 1) := by decide +kernel
theorem dX3_passHours_32 : decode cX3_passHours 32 = .ok (.istore_n 2, 1) := by decide +kernel
theorem dX3_passHours_33 : decode cX3_passHours 33 = .ok (.iconst 0, 1) := by decide +kernel
theorem dX3_passHours_34 : decode cX3_passHours 34 = .ok (.istore_n 3, 1) := by decide +kernel
theorem dX3_passHours_35 : decode cX3_passHours 35 = .ok (.iload_n 3, 1) := by decide +kernel
theorem dX3_passHours_36 : decode cX3_passHours 36 = .ok (.aload_n 0, 1) := by decide +kernel
theorem dX3_passHours_37 : decode cX3_passHours 37 = .ok (.getfield 48, 3) := by decide +kernel
theorem dX3_passHours_40 : decode cX3_passHours 40 = .ok (.if_icmp .ge 135, 3) := by decide +kernel
theorem dX3_passHours_43 : decode cX3_passHours 43 = .ok (.aload_n 0, 1) := by decide +kernel
theorem dX3_passHours_44 : decode cX3_passHours 44 = .ok (.getfield 71, 3) := by decide +kernel
theorem dX3_passHours_47 : decode cX3_passHours 47 = .ok (.ifCond .ne 128, 3) := by decide +kernel
theorem dX3_passHours_50 : decode cX3_passHours 50 = .ok (.aload_n 0, 1) := by decide +kernel
theorem dX3_passHours_51 : decode cX3_passHours 51 = .ok (.aload_n 0, 1) := by decide +kernel
theorem dX3_passHours_52 : decode cX3_passHours 52 = .ok (.getfield 32, 3) := by decide +kernel
theorem dX3_passHours_55 : decode cX3_passHours 55 = .ok (.iload_n 3, 1) := by decide +kernel
theorem dX3_passHours_56 : decode cX3_passHours 56 = .ok (.iaload, 1) := by decide +kernel
theorem dX3_passHours_57 : decode cX3_passHours 57 = .ok (.invokevirtual 102, 3) := by decide +kernel
theorem dX3_passHours_60 : decode cX3_passHours 60 = .ok (.istore 4, 2) := by decide +kernel
theorem dX3_passHours_62 : decode cX3_passHours 62 = .ok (.aload_n 0, 1) := by decide +kernel
theorem dX3_passHours_63 : decode cX3_passHours 63 = .ok (.getfield 58, 3) := by decide +kernel
theorem dX3_passHours_66 : decode cX3_passHours 66 = .ok (.iload 4, 2) := by decide +kernel
theorem dX3_passHours_68 : decode cX3_passHours 68 = .ok (.iload_n 1, 1) := by decide +kernel
theorem dX3_passHours_69 : decode cX3_passHours 69 = .ok (.aload_n 0, 1) := by decide +kernel
theorem dX3_passHours_70 : decode cX3_passHours 70 = .ok (.getfield 29, 3) := by decide +kernel
theorem dX3_passHours_73 : decode cX3_passHours 73 = .ok (.iload_n 3, 1) := by decide +kernel
theorem dX3_passHours_74 : decode cX3_passHours 74 = .ok (.iaload, 1) := by decide +kernel
theorem dX3_passHours_75 : decode cX3_passHours 75 = .ok (.imul, 1) := by decide +kernel
theorem dX3_passHours_76 : decode cX3_passHours 76 = .ok (.iadd, 1) := by decide +kernel
theorem dX3_passHours_77 : decode cX3_passHours 77 = .ok (.invokestatic 75, 3) := by decide +kernel
theorem dX3_passHours_80 : decode cX3_passHours 80 = .ok (.istore 5, 2) := by decide +kernel
theorem dX3_passHours_82 : decode cX3_passHours 82 = .ok (.iload 4, 2) := by decide +kernel
theorem dX3_passHours_84 : decode cX3_passHours 84 = .ok (.istore 6, 2) := by decide +kernel
theorem dX3_passHours_86 : decode cX3_passHours 86 = .ok (.iload 6, 2) := by decide +kernel
theorem dX3_passHours_88 : decode cX3_passHours 88 = .ok (.iload 5, 2) := by decide +kernel
theorem dX3_passHours_90 : decode cX3_passHours 90 = .ok (.if_icmp .ge 33, 3) := by decide +kernel
theorem dX3_passHours_93 : decode cX3_passHours 93 = .ok (.aload_n 0, 1) := by decide +kernel
theorem dX3_passHours_94 : decode cX3_passHours 94 = .ok (.getfield 41, 3) := by decide +kernel
theorem dX3_passHours_97 : decode cX3_passHours 97 = .ok (.bipush 10, 2) := by decide +kernel
theorem dX3_passHours_99 : decode cX3_passHours 99 = .ok (.iload_n 3, 1) := by decide +kernel
theorem dX3_passHours_100 : decode cX3_passHours 100 = .ok (.imul, 1) := by decide +kernel
theorem dX3_passHours_101 : decode cX3_passHours 101 = .ok (.aload_n 0, 1) := by decide +kernel
theorem dX3_passHours_102 : decode cX3_passHours 102 = .ok (.getfield 13, 3) := by decide +kernel
theorem dX3_passHours_105 : decode cX3_passHours 105 = .ok (.iload 6, 2) := by decide +kernel
theorem dX3_passHours_107 : decode cX3_passHours 107 = .ok (.iaload, 1) := by decide +kernel
theorem dX3_passHours_108 : decode cX3_passHours 108 = .ok (.iadd, 1) := by decide +kernel
theorem dX3_passHours_109 : decode cX3_passHours 109 = .ok (.aload_n 0, 1) := by decide +kernel
theorem dX3_passHours_110 : decode cX3_passHours 110 = .ok (.getfield 16, 3) := by decide +kernel
theorem dX3_passHours_113 : decode cX3_passHours 113 = .ok (.iload 6, 2) := by decide +kernel
theorem dX3_passHours_115 : decode cX3_passHours 115 = .ok (.iaload, 1) := by decide +kernel
theorem dX3_passHours_116 : decode cX3_passHours 116 = .ok (.iastore, 1) := by decide +kernel
theorem dX3_passHours_117 : decode cX3_passHours 117 = .ok (.iinc 6 1, 3) := by decide +kernel
theorem dX3_passHours_120 : decode cX3_passHours 120 = .ok (.goto (-34), 3) := by decide +kernel
theorem dX3_passHours_123 : decode cX3_passHours 123 = .ok (.iload 5, 2) := by decide +kernel
theorem dX3_passHours_125 : decode cX3_passHours 125 = .ok (.iload 4, 2) := by decide +kernel
theorem dX3_passHours_127 : decode cX3_passHours 127 = .ok (.if_icmp .le 20, 3) := by decide +kernel
theorem dX3_passHours_130 : decode cX3_passHours 130 = .ok (.aload_n 0, 1) := by decide +kernel
theorem dX3_passHours_131 : decode cX3_passHours 131 = .ok (.getfield 32, 3) := by decide +kernel
theorem dX3_passHours_134 : decode cX3_passHours 134 = .ok (.iload_n 3, 1) := by decide +kernel
theorem dX3_passHours_135 : decode cX3_passHours 135 = .ok (.aload_n 0, 1) := by decide +kernel
theorem dX3_passHours_136 : decode cX3_passHours 136 = .ok (.getfield 9, 3) := by decide +kernel
theorem dX3_passHours_139 : decode cX3_passHours 139 = .ok (.iload 5, 2) := by decide +kernel
theorem dX3_passHours_141 : decode cX3_passHours 141 = .ok (.iconst 1, 1) := by decide +kernel
theorem dX3_passHours_142 : decode cX3_passHours 142 = .ok (.isub, 1) := by decide +kernel
theorem dX3_passHours_143 : decode cX3_passHours 143 = .ok (.iaload, 1) := by decide +kernel
theorem dX3_passHours_144 : decode cX3_passHours 144 = .ok (.iconst 1, 1) := by decide +kernel
theorem dX3_passHours_145 : decode cX3_passHours 145 = .ok (.iadd, 1) := by decide +kernel
theorem dX3_passHours_146 : decode cX3_passHours 146 = .ok (.iastore, 1) := by decide +kernel
theorem dX3_passHours_147 : decode cX3_passHours 147 = .ok (.aload_n 0, 1) := by decide +kernel
theorem dX3_passHours_148 : decode cX3_passHours 148 = .ok (.getfield 35, 3) := by decide +kernel
theorem dX3_passHours_151 : decode cX3_passHours 151 = .ok (.iload_n 3, 1) := by decide +kernel
theorem dX3_passHours_152 : decode cX3_passHours 152 = .ok (.dup2, 1) := by decide +kernel
theorem dX3_passHours_153 : decode cX3_passHours 153 = .ok (.iaload, 1) := by decide +kernel
theorem dX3_passHours_154 : decode cX3_passHours 154 = .ok (.iload 5, 2) := by decide +kernel
theorem dX3_passHours_156 : decode cX3_passHours 156 = .ok (.iload 4, 2) := by decide +kernel
theorem dX3_passHours_158 : decode cX3_passHours 158 = .ok (.isub, 1) := by decide +kernel
theorem dX3_passHours_159 : decode cX3_passHours 159 = .ok (.iadd, 1) := by decide +kernel
theorem dX3_passHours_160 : decode cX3_passHours 160 = .ok (.iastore, 1) := by decide +kernel
theorem dX3_passHours_161 : decode cX3_passHours 161 = .ok (.iload_n 2, 1) := by decide +kernel
theorem dX3_passHours_162 : decode cX3_passHours 162 = .ok (.iload 5, 2) := by decide +kernel
theorem dX3_passHours_164 : decode cX3_passHours 164 = .ok (.iload 4, 2) := by decide +kernel
theorem dX3_passHours_166 : decode cX3_passHours 166 = .ok (.isub, 1) := by decide +kernel
theorem dX3_passHours_167 : decode cX3_passHours 167 = .ok (.iadd, 1) := by decide +kernel
theorem dX3_passHours_168 : decode cX3_passHours 168 = .ok (.istore_n 2, 1) := by decide +kernel
theorem dX3_passHours_169 : decode cX3_passHours 169 = .ok (.iinc 3 1, 3) := by decide +kernel
theorem dX3_passHours_172 : decode cX3_passHours 172 = .ok (.goto (-137), 3) := by decide +kernel
theorem dX3_passHours_175 : decode cX3_passHours 175 = .ok (.iload_n 2, 1) := by decide +kernel
theorem dX3_passHours_176 : decode cX3_passHours 176 = .ok (.ireturn, 1) := by decide +kernel
set_option maxRecDepth 20000 in
theorem ggX3_hours_X3_told : GoodIn wsX3_hours wsX3_told := goodIn_r _ [6, 7, 8, 9, 10, 11, 12, 13, 14, 15, 16, 17, 18, 19, 20, 21, 22, 23, 24, 25, 26] (by decide +kernel) (by decide +kernel)
set_option maxRecDepth 20000 in
theorem gX3_hours_X3_told : GoodIn wsX3_hours (wsV RX3 108 RX3 yX3_told wsX3_told) := goodIn_app (goodIn_of _ (by decide +kernel)) ggX3_hours_X3_told
theorem dX3_hours_0 : decode cX3_hours 0 = .ok (.aload_n 0, 1) := by decide +kernel
theorem dX3_hours_1 : decode cX3_hours 1 = .ok (.aload_n 0, 1) := by decide +kernel
theorem dX3_hours_2 : decode cX3_hours 2 = .ok (.getfield 105, 3) := by decide +kernel
theorem dX3_hours_5 : decode cX3_hours 5 = .ok (.invokevirtual 108, 3) := by decide +kernel
theorem dX3_hours_8 : decode cX3_hours 8 = .ok (.ireturn, 1) := by decide +kernel
set_option maxRecDepth 20000 in
theorem ggX3_phrases_X3_told : GoodIn wsX3_phrases wsX3_told := goodIn_r _ [6, 7, 8, 9, 10, 11, 12, 13, 14, 15, 16, 17, 18, 19, 20, 21, 22, 23, 24, 25, 26] (by decide +kernel) (by decide +kernel)
set_option maxRecDepth 20000 in
theorem gX3_phrases_X3_told : GoodIn wsX3_phrases (wsV RX3 108 RX3 yX3_told wsX3_told) := goodIn_app (goodIn_of _ (by decide +kernel)) ggX3_phrases_X3_told
theorem dX3_phrases_0 : decode cX3_phrases 0 = .ok (.aload_n 0, 1) := by decide +kernel
theorem dX3_phrases_1 : decode cX3_phrases 1 = .ok (.aload_n 0, 1) := by decide +kernel
theorem dX3_phrases_2 : decode cX3_phrases 2 = .ok (.getfield 58, 3) := by decide +kernel
theorem dX3_phrases_5 : decode cX3_phrases 5 = .ok (.invokevirtual 108, 3) := by decide +kernel
theorem dX3_phrases_8 : decode cX3_phrases 8 = .ok (.ireturn, 1) := by decide +kernel
set_option maxRecDepth 20000 in
theorem ggX3_nextOffset_X3_told : GoodIn wsX3_nextOffset wsX3_told := goodIn_r _ [6, 7, 8, 9, 10, 11, 12, 13, 14, 15, 16, 17, 18, 19, 20, 21, 22, 23, 24, 25, 26] (by decide +kernel) (by decide +kernel)
set_option maxRecDepth 20000 in
theorem gX3_nextOffset_X3_told : GoodIn wsX3_nextOffset (wsV RX3 108 RX3 yX3_told wsX3_told) := goodIn_app (goodIn_of _ (by decide +kernel)) ggX3_nextOffset_X3_told
theorem dX3_nextOffset_0 : decode cX3_nextOffset 0 = .ok (.aload_n 0, 1) := by decide +kernel
theorem dX3_nextOffset_1 : decode cX3_nextOffset 1 = .ok (.aload_n 0, 1) := by decide +kernel
theorem dX3_nextOffset_2 : decode cX3_nextOffset 2 = .ok (.getfield 68, 3) := by decide +kernel
theorem dX3_nextOffset_5 : decode cX3_nextOffset 5 = .ok (.invokevirtual 108, 3) := by decide +kernel
theorem dX3_nextOffset_8 : decode cX3_nextOffset 8 = .ok (.ireturn, 1) := by decide +kernel
theorem dX3_first_0 : decode cX3_first 0 = .ok (.aload_n 0, 1) := by decide +kernel
theorem dX3_first_1 : decode cX3_first 1 = .ok (.getfield 58, 3) := by decide +kernel
theorem dX3_first_4 : decode cX3_first 4 = .ok (.ifCond .ne 7, 3) := by decide +kernel
theorem dX3_first_7 : decode cX3_first 7 = .ok (.iconst (-1), 1) := by decide +kernel
theorem dX3_first_8 : decode cX3_first 8 = .ok (.goto 9, 3) := by decide +kernel
theorem dX3_first_11 : decode cX3_first 11 = .ok (.aload_n 0, 1) := by decide +kernel
theorem dX3_first_12 : decode cX3_first 12 = .ok (.getfield 9, 3) := by decide +kernel
theorem dX3_first_15 : decode cX3_first 15 = .ok (.iconst 0, 1) := by decide +kernel
theorem dX3_first_16 : decode cX3_first 16 = .ok (.iaload, 1) := by decide +kernel
theorem dX3_first_17 : decode cX3_first 17 = .ok (.ireturn, 1) := by decide +kernel
set_option maxRecDepth 20000 in
theorem ggX3_firstOffset_X3_first : GoodIn wsX3_firstOffset wsX3_first := goodIn_r _ [5, 6, 7, 13, 14, 15, 16, 17, 18, 19, 20, 21, 22, 23, 24, 25, 26, 27, 28, 29, 30, 31] (by decide +kernel) (by decide +kernel)
set_option maxRecDepth 20000 in
theorem gX3_firstOffset_X3_first : GoodIn wsX3_firstOffset (wsV RX3 111 RX3 yX3_first wsX3_first) := goodIn_app (goodIn_of _ (by decide +kernel)) ggX3_firstOffset_X3_first
set_option maxRecDepth 20000 in
theorem ggX3_firstOffset_X3_told : GoodIn wsX3_firstOffset wsX3_told := goodIn_r _ [11, 12, 13, 14, 15, 16, 17, 18, 19, 20, 21, 22, 23, 24, 25, 26, 27, 28, 29, 30, 31] (by decide +kernel) (by decide +kernel)
set_option maxRecDepth 20000 in
theorem gX3_firstOffset_X3_told : GoodIn wsX3_firstOffset (wsV RX3 108 RX3 yX3_told wsX3_told) := goodIn_app (goodIn_of _ (by decide +kernel)) ggX3_firstOffset_X3_told
theorem dX3_firstOffset_0 : decode cX3_firstOffset 0 = .ok (.aload_n 0, 1) := by decide +kernel
theorem dX3_firstOffset_1 : decode cX3_firstOffset 1 = .ok (.aload_n 0, 1) := by decide +kernel
theorem dX3_firstOffset_2 : decode cX3_firstOffset 2 = .ok (.invokevirtual 111, 3) := by decide +kernel
theorem dX3_firstOffset_5 : decode cX3_firstOffset 5 = .ok (.invokevirtual 108, 3) := by decide +kernel
theorem dX3_firstOffset_8 : decode cX3_firstOffset 8 = .ok (.ireturn, 1) := by decide +kernel
set_option maxRecDepth 20000 in
theorem ggX3_dropped_X3_told : GoodIn wsX3_dropped wsX3_told := goodIn_r _ [6, 7, 8, 9, 10, 11, 12, 13, 14, 15, 16, 17, 18, 19, 20, 21, 22, 23, 24, 25, 26] (by decide +kernel) (by decide +kernel)
set_option maxRecDepth 20000 in
theorem gX3_dropped_X3_told : GoodIn wsX3_dropped (wsV RX3 108 RX3 yX3_told wsX3_told) := goodIn_app (goodIn_of _ (by decide +kernel)) ggX3_dropped_X3_told
theorem dX3_dropped_0 : decode cX3_dropped 0 = .ok (.aload_n 0, 1) := by decide +kernel
theorem dX3_dropped_1 : decode cX3_dropped 1 = .ok (.aload_n 0, 1) := by decide +kernel
theorem dX3_dropped_2 : decode cX3_dropped 2 = .ok (.getfield 61, 3) := by decide +kernel
theorem dX3_dropped_5 : decode cX3_dropped 5 = .ok (.invokevirtual 108, 3) := by decide +kernel
theorem dX3_dropped_8 : decode cX3_dropped 8 = .ok (.ireturn, 1) := by decide +kernel
set_option maxRecDepth 20000 in
theorem ggX3_place_X3_from : GoodIn wsX3_place wsX3_from := goodIn_r _ [7, 1, 2, 8, 9, 10, 11, 12, 13, 14, 15, 16, 17, 18, 19, 20, 21, 22, 23, 24, 25, 26] (by decide +kernel) (by decide +kernel)
set_option maxRecDepth 20000 in
theorem gX3_place_X3_from : GoodIn wsX3_place (wsV RX3 102 RX3 yX3_from wsX3_from) := goodIn_app (goodIn_of _ (by decide +kernel)) ggX3_place_X3_from
theorem dX3_place_0 : decode cX3_place 0 = .ok (.aload_n 0, 1) := by decide +kernel
theorem dX3_place_1 : decode cX3_place 1 = .ok (.iload_n 1, 1) := by decide +kernel
theorem dX3_place_2 : decode cX3_place 2 = .ok (.invokevirtual 102, 3) := by decide +kernel
theorem dX3_place_5 : decode cX3_place 5 = .ok (.istore_n 2, 1) := by decide +kernel
theorem dX3_place_6 : decode cX3_place 6 = .ok (.iload_n 2, 1) := by decide +kernel
theorem dX3_place_7 : decode cX3_place 7 = .ok (.aload_n 0, 1) := by decide +kernel
theorem dX3_place_8 : decode cX3_place 8 = .ok (.getfield 58, 3) := by decide +kernel
theorem dX3_place_11 : decode cX3_place 11 = .ok (.if_icmp .ge 17, 3) := by decide +kernel
theorem dX3_place_14 : decode cX3_place 14 = .ok (.aload_n 0, 1) := by decide +kernel
theorem dX3_place_15 : decode cX3_place 15 = .ok (.getfield 9, 3) := by decide +kernel
theorem dX3_place_18 : decode cX3_place 18 = .ok (.iload_n 2, 1) := by decide +kernel
theorem dX3_place_19 : decode cX3_place 19 = .ok (.iaload, 1) := by decide +kernel
theorem dX3_place_20 : decode cX3_place 20 = .ok (.iload_n 1, 1) := by decide +kernel
theorem dX3_place_21 : decode cX3_place 21 = .ok (.if_icmp .ne 7, 3) := by decide +kernel
theorem dX3_place_24 : decode cX3_place 24 = .ok (.iload_n 2, 1) := by decide +kernel
theorem dX3_place_25 : decode cX3_place 25 = .ok (.goto 4, 3) := by decide +kernel
theorem dX3_place_28 : decode cX3_place 28 = .ok (.iconst (-1), 1) := by decide +kernel
theorem dX3_place_29 : decode cX3_place 29 = .ok (.ireturn, 1) := by decide +kernel
set_option maxRecDepth 20000 in
theorem ggX3_isKept_X3_place : GoodIn wsX3_isKept wsX3_place := goodIn_r _ [6, 7, 8, 9, 10, 11, 5, 12, 13, 14, 15, 16, 17, 18, 19, 20, 21, 22, 23, 24, 25, 26, 27, 28, 29, 30, 31] (by decide +kernel) (by decide +kernel)
set_option maxRecDepth 20000 in
theorem gX3_isKept_X3_place : GoodIn wsX3_isKept (wsV RX3 114 RX3 yX3_place wsX3_place) := goodIn_app (goodIn_of _ (by decide +kernel)) ggX3_isKept_X3_place
theorem dX3_isKept_0 : decode cX3_isKept 0 = .ok (.aload_n 0, 1) := by decide +kernel
theorem dX3_isKept_1 : decode cX3_isKept 1 = .ok (.iconst 0, 1) := by decide +kernel
theorem dX3_isKept_2 : decode cX3_isKept 2 = .ok (.putfield 44, 3) := by decide +kernel
theorem dX3_isKept_5 : decode cX3_isKept 5 = .ok (.aload_n 0, 1) := by decide +kernel
theorem dX3_isKept_6 : decode cX3_isKept 6 = .ok (.iload_n 1, 1) := by decide +kernel
theorem dX3_isKept_7 : decode cX3_isKept 7 = .ok (.invokevirtual 114, 3) := by decide +kernel
theorem dX3_isKept_10 : decode cX3_isKept 10 = .ok (.iconst (-1), 1) := by decide +kernel
theorem dX3_isKept_11 : decode cX3_isKept 11 = .ok (.if_icmp .eq 7, 3) := by decide +kernel
theorem dX3_isKept_14 : decode cX3_isKept 14 = .ok (.iconst 1, 1) := by decide +kernel
theorem dX3_isKept_15 : decode cX3_isKept 15 = .ok (.goto 4, 3) := by decide +kernel
theorem dX3_isKept_18 : decode cX3_isKept 18 = .ok (.iconst 0, 1) := by decide +kernel
theorem dX3_isKept_19 : decode cX3_isKept 19 = .ok (.ireturn, 1) := by decide +kernel
set_option maxRecDepth 20000 in
theorem ggX3_of_X3_place : GoodIn wsX3_of wsX3_place := goodIn_r _ [6, 7, 8, 9, 10, 11, 5, 12, 17, 18, 19, 20, 21, 22, 23, 24, 25, 26, 27, 28, 29, 30, 31, 32, 33, 34, 35] (by decide +kernel) (by decide +kernel)
set_option maxRecDepth 20000 in
theorem gX3_of_X3_place : GoodIn wsX3_of (wsV RX3 114 RX3 yX3_place wsX3_place) := goodIn_app (goodIn_of _ (by decide +kernel)) ggX3_of_X3_place
set_option maxRecDepth 20000 in
theorem ggX3_of_X3_fail : GoodIn wsX3_of wsX3_fail := goodIn_r _ [16, 1, 17, 18, 19, 20, 21, 22, 23, 24, 25, 26, 27, 28, 29, 30, 31, 32, 33, 34, 35] (by decide +kernel) (by decide +kernel)
set_option maxRecDepth 20000 in
theorem gX3_of_X3_fail : GoodIn wsX3_of (wsV RX3 85 RX3 yX3_fail wsX3_fail) := goodIn_app (goodIn_of _ (by decide +kernel)) ggX3_of_X3_fail
theorem dX3_of_0 : decode cX3_of 0 = .ok (.aload_n 0, 1) := by decide +kernel
theorem dX3_of_1 : decode cX3_of 1 = .ok (.iconst 0, 1) := by decide +kernel
theorem dX3_of_2 : decode cX3_of 2 = .ok (.putfield 44, 3) := by decide +kernel
theorem dX3_of_5 : decode cX3_of 5 = .ok (.aload_n 0, 1) := by decide +kernel
theorem dX3_of_6 : decode cX3_of 6 = .ok (.iload_n 1, 1) := by decide +kernel
theorem dX3_of_7 : decode cX3_of 7 = .ok (.invokevirtual 114, 3) := by decide +kernel
theorem dX3_of_10 : decode cX3_of 10 = .ok (.istore_n 3, 1) := by decide +kernel
theorem dX3_of_11 : decode cX3_of 11 = .ok (.iload_n 3, 1) := by decide +kernel
theorem dX3_of_12 : decode cX3_of 12 = .ok (.iconst (-1), 1) := by decide +kernel
theorem dX3_of_13 : decode cX3_of 13 = .ok (.if_icmp .ne 11, 3) := by decide +kernel
theorem dX3_of_16 : decode cX3_of 16 = .ok (.aload_n 0, 1) := by decide +kernel
theorem dX3_of_17 : decode cX3_of 17 = .ok (.iconst 1, 1) := by decide +kernel
theorem dX3_of_18 : decode cX3_of 18 = .ok (.invokevirtual 85, 3) := by decide +kernel
theorem dX3_of_21 : decode cX3_of 21 = .ok (.goto 6, 3) := by decide +kernel
theorem dX3_of_24 : decode cX3_of 24 = .ok (.aload_n 2, 1) := by decide +kernel
theorem dX3_of_25 : decode cX3_of 25 = .ok (.iload_n 3, 1) := by decide +kernel
theorem dX3_of_26 : decode cX3_of 26 = .ok (.iaload, 1) := by decide +kernel
theorem dX3_of_27 : decode cX3_of 27 = .ok (.ireturn, 1) := by decide +kernel
set_option maxRecDepth 20000 in
theorem ggX3_keyAt_X3_of : GoodIn wsX3_keyAt wsX3_of := goodIn_r _ [6, 7, 8, 9, 10, 5, 11, 12, 13, 14, 15, 16, 17, 18, 19, 20, 21, 22, 23, 24, 25, 26, 27, 28, 29, 30, 31, 32, 33, 34, 35, 36, 37, 38, 39, 40] (by decide +kernel) (by decide +kernel)
set_option maxRecDepth 20000 in
theorem gX3_keyAt_X3_of : GoodIn wsX3_keyAt (wsV RX3 117 RX3 yX3_of wsX3_of) := goodIn_app (goodIn_of _ (by decide +kernel)) ggX3_keyAt_X3_of
theorem dX3_keyAt_0 : decode cX3_keyAt 0 = .ok (.aload_n 0, 1) := by decide +kernel
theorem dX3_keyAt_1 : decode cX3_keyAt 1 = .ok (.iload_n 1, 1) := by decide +kernel
theorem dX3_keyAt_2 : decode cX3_keyAt 2 = .ok (.aload_n 0, 1) := by decide +kernel
theorem dX3_keyAt_3 : decode cX3_keyAt 3 = .ok (.getfield 13, 3) := by decide +kernel
theorem dX3_keyAt_6 : decode cX3_keyAt 6 = .ok (.invokevirtual 117, 3) := by decide +kernel
theorem dX3_keyAt_9 : decode cX3_keyAt 9 = .ok (.ireturn, 1) := by decide +kernel
set_option maxRecDepth 20000 in
theorem ggX3_valueAt_X3_of : GoodIn wsX3_valueAt wsX3_of := goodIn_r _ [6, 7, 8, 9, 10, 5, 11, 12, 13, 14, 15, 16, 17, 18, 19, 20, 21, 22, 23, 24, 25, 26, 27, 28, 29, 30, 31, 32, 33, 34, 35, 36, 37, 38, 39, 40] (by decide +kernel) (by decide +kernel)
set_option maxRecDepth 20000 in
theorem gX3_valueAt_X3_of : GoodIn wsX3_valueAt (wsV RX3 117 RX3 yX3_of wsX3_of) := goodIn_app (goodIn_of _ (by decide +kernel)) ggX3_valueAt_X3_of
theorem dX3_valueAt_0 : decode cX3_valueAt 0 = .ok (.aload_n 0, 1) := by decide +kernel
theorem dX3_valueAt_1 : decode cX3_valueAt 1 = .ok (.iload_n 1, 1) := by decide +kernel
theorem dX3_valueAt_2 : decode cX3_valueAt 2 = .ok (.aload_n 0, 1) := by decide +kernel
theorem dX3_valueAt_3 : decode cX3_valueAt 3 = .ok (.getfield 16, 3) := by decide +kernel
theorem dX3_valueAt_6 : decode cX3_valueAt 6 = .ok (.invokevirtual 117, 3) := by decide +kernel
theorem dX3_valueAt_9 : decode cX3_valueAt 9 = .ok (.ireturn, 1) := by decide +kernel
set_option maxRecDepth 20000 in
theorem ggX3_stormAt_X3_of : GoodIn wsX3_stormAt wsX3_of := goodIn_r _ [6, 7, 8, 9, 10, 5, 11, 12, 13, 14, 15, 16, 17, 18, 19, 20, 21, 22, 23, 24, 25, 26, 27, 28, 29, 30, 31, 32, 33, 34, 35, 36, 37, 38, 39, 40] (by decide +kernel) (by decide +kernel)
set_option maxRecDepth 20000 in
theorem gX3_stormAt_X3_of : GoodIn wsX3_stormAt (wsV RX3 117 RX3 yX3_of wsX3_of) := goodIn_app (goodIn_of _ (by decide +kernel)) ggX3_stormAt_X3_of
theorem dX3_stormAt_0 : decode cX3_stormAt 0 = .ok (.aload_n 0, 1) := by decide +kernel
theorem dX3_stormAt_1 : decode cX3_stormAt 1 = .ok (.iload_n 1, 1) := by decide +kernel
theorem dX3_stormAt_2 : decode cX3_stormAt 2 = .ok (.aload_n 0, 1) := by decide +kernel
theorem dX3_stormAt_3 : decode cX3_stormAt 3 = .ok (.getfield 19, 3) := by decide +kernel
theorem dX3_stormAt_6 : decode cX3_stormAt 6 = .ok (.invokevirtual 117, 3) := by decide +kernel
theorem dX3_stormAt_9 : decode cX3_stormAt 9 = .ok (.ireturn, 1) := by decide +kernel
theorem dX3_last_0 : decode cX3_last 0 = .ok (.aload_n 0, 1) := by decide +kernel
theorem dX3_last_1 : decode cX3_last 1 = .ok (.getfield 58, 3) := by decide +kernel
theorem dX3_last_4 : decode cX3_last 4 = .ok (.iconst 1, 1) := by decide +kernel
theorem dX3_last_5 : decode cX3_last 5 = .ok (.isub, 1) := by decide +kernel
theorem dX3_last_6 : decode cX3_last 6 = .ok (.istore_n 2, 1) := by decide +kernel
theorem dX3_last_7 : decode cX3_last 7 = .ok (.iload_n 2, 1) := by decide +kernel
theorem dX3_last_8 : decode cX3_last 8 = .ok (.ifCond .lt 19, 3) := by decide +kernel
theorem dX3_last_11 : decode cX3_last 11 = .ok (.aload_n 0, 1) := by decide +kernel
theorem dX3_last_12 : decode cX3_last 12 = .ok (.getfield 13, 3) := by decide +kernel
theorem dX3_last_15 : decode cX3_last 15 = .ok (.iload_n 2, 1) := by decide +kernel
theorem dX3_last_16 : decode cX3_last 16 = .ok (.iaload, 1) := by decide +kernel
theorem dX3_last_17 : decode cX3_last 17 = .ok (.iload_n 1, 1) := by decide +kernel
theorem dX3_last_18 : decode cX3_last 18 = .ok (.if_icmp .eq 9, 3) := by decide +kernel
theorem dX3_last_21 : decode cX3_last 21 = .ok (.iinc 2 (-1), 3) := by decide +kernel
theorem dX3_last_24 : decode cX3_last 24 = .ok (.goto (-17), 3) := by decide +kernel
theorem dX3_last_27 : decode cX3_last 27 = .ok (.iload_n 2, 1) := by decide +kernel
theorem dX3_last_28 : decode cX3_last 28 = .ok (.ireturn, 1) := by decide +kernel
set_option maxRecDepth 20000 in
theorem ggX3_latest_X3_last : GoodIn wsX3_latest wsX3_last := goodIn_r _ [6, 7, 8, 9, 10, 11, 12, 13, 14, 15, 16, 17, 18, 19, 20, 21, 22, 23, 24, 25, 26, 27] (by decide +kernel) (by decide +kernel)
set_option maxRecDepth 20000 in
theorem gX3_latest_X3_last : GoodIn wsX3_latest (wsV RX3 121 RX3 yX3_last wsX3_last) := goodIn_app (goodIn_of _ (by decide +kernel)) ggX3_latest_X3_last
theorem dX3_latest_0 : decode cX3_latest 0 = .ok (.aload_n 0, 1) := by decide +kernel
theorem dX3_latest_1 : decode cX3_latest 1 = .ok (.iload_n 1, 1) := by decide +kernel
theorem dX3_latest_2 : decode cX3_latest 2 = .ok (.invokevirtual 121, 3) := by decide +kernel
theorem dX3_latest_5 : decode cX3_latest 5 = .ok (.ifCond .ge 7, 3) := by decide +kernel
theorem dX3_latest_8 : decode cX3_latest 8 = .ok (.iconst (-1), 1) := by decide +kernel
theorem dX3_latest_9 : decode cX3_latest 9 = .ok (.goto 13, 3) := by decide +kernel
theorem dX3_latest_12 : decode cX3_latest 12 = .ok (.aload_n 0, 1) := by decide +kernel
theorem dX3_latest_13 : decode cX3_latest 13 = .ok (.getfield 9, 3) := by decide +kernel
theorem dX3_latest_16 : decode cX3_latest 16 = .ok (.aload_n 0, 1) := by decide +kernel
theorem dX3_latest_17 : decode cX3_latest 17 = .ok (.iload_n 1, 1) := by decide +kernel
theorem dX3_latest_18 : decode cX3_latest 18 = .ok (.invokevirtual 121, 3) := by decide +kernel
theorem dX3_latest_21 : decode cX3_latest 21 = .ok (.iaload, 1) := by decide +kernel
theorem dX3_latest_22 : decode cX3_latest 22 = .ok (.ireturn, 1) := by decide +kernel
set_option maxRecDepth 20000 in
theorem ggX3_worth_X3_last : GoodIn wsX3_worth wsX3_last := goodIn_r _ [6, 7, 8, 9, 10, 11, 12, 13, 14, 15, 16, 17, 18, 19, 20, 21, 22, 23, 24, 25, 26, 27] (by decide +kernel) (by decide +kernel)
set_option maxRecDepth 20000 in
theorem gX3_worth_X3_last : GoodIn wsX3_worth (wsV RX3 121 RX3 yX3_last wsX3_last) := goodIn_app (goodIn_of _ (by decide +kernel)) ggX3_worth_X3_last
theorem dX3_worth_0 : decode cX3_worth 0 = .ok (.aload_n 0, 1) := by decide +kernel
theorem dX3_worth_1 : decode cX3_worth 1 = .ok (.iload_n 1, 1) := by decide +kernel
theorem dX3_worth_2 : decode cX3_worth 2 = .ok (.invokevirtual 121, 3) := by decide +kernel
theorem dX3_worth_5 : decode cX3_worth 5 = .ok (.ifCond .ge 7, 3) := by decide +kernel
theorem dX3_worth_8 : decode cX3_worth 8 = .ok (.iconst 0, 1) := by decide +kernel
theorem dX3_worth_9 : decode cX3_worth 9 = .ok (.goto 13, 3) := by decide +kernel
theorem dX3_worth_12 : decode cX3_worth 12 = .ok (.aload_n 0, 1) := by decide +kernel
theorem dX3_worth_13 : decode cX3_worth 13 = .ok (.getfield 16, 3) := by decide +kernel
theorem dX3_worth_16 : decode cX3_worth 16 = .ok (.aload_n 0, 1) := by decide +kernel
theorem dX3_worth_17 : decode cX3_worth 17 = .ok (.iload_n 1, 1) := by decide +kernel
theorem dX3_worth_18 : decode cX3_worth 18 = .ok (.invokevirtual 121, 3) := by decide +kernel
theorem dX3_worth_21 : decode cX3_worth 21 = .ok (.iaload, 1) := by decide +kernel
theorem dX3_worth_22 : decode cX3_worth 22 = .ok (.ireturn, 1) := by decide +kernel
theorem dX3_count_0 : decode cX3_count 0 = .ok (.iconst 0, 1) := by decide +kernel
theorem dX3_count_1 : decode cX3_count 1 = .ok (.istore_n 2, 1) := by decide +kernel
theorem dX3_count_2 : decode cX3_count 2 = .ok (.iconst 0, 1) := by decide +kernel
theorem dX3_count_3 : decode cX3_count 3 = .ok (.istore_n 3, 1) := by decide +kernel
theorem dX3_count_4 : decode cX3_count 4 = .ok (.iload_n 3, 1) := by decide +kernel
theorem dX3_count_5 : decode cX3_count 5 = .ok (.aload_n 0, 1) := by decide +kernel
theorem dX3_count_6 : decode cX3_count 6 = .ok (.getfield 58, 3) := by decide +kernel
theorem dX3_count_9 : decode cX3_count 9 = .ok (.if_icmp .ge 27, 3) := by decide +kernel
theorem dX3_count_12 : decode cX3_count 12 = .ok (.iload_n 2, 1) := by decide +kernel
theorem dX3_count_13 : decode cX3_count 13 = .ok (.aload_n 0, 1) := by decide +kernel
theorem dX3_count_14 : decode cX3_count 14 = .ok (.getfield 13, 3) := by decide +kernel
theorem dX3_count_17 : decode cX3_count 17 = .ok (.iload_n 3, 1) := by decide +kernel
theorem dX3_count_18 : decode cX3_count 18 = .ok (.iaload, 1) := by decide +kernel
theorem dX3_count_19 : decode cX3_count 19 = .ok (.iload_n 1, 1) := by decide +kernel
theorem dX3_count_20 : decode cX3_count 20 = .ok (.if_icmp .ne 7, 3) := by decide +kernel
theorem dX3_count_23 : decode cX3_count 23 = .ok (.iconst 1, 1) := by decide +kernel
theorem dX3_count_24 : decode cX3_count 24 = .ok (.goto 4, 3) := by decide +kernel
theorem dX3_count_27 : decode cX3_count 27 = .ok (.iconst 0, 1) := by decide +kernel
theorem dX3_count_28 : decode cX3_count 28 = .ok (.iadd, 1) := by decide +kernel
theorem dX3_count_29 : decode cX3_count 29 = .ok (.istore_n 2, 1) := by decide +kernel
theorem dX3_count_30 : decode cX3_count 30 = .ok (.iinc 3 1, 3) := by decide +kernel
theorem dX3_count_33 : decode cX3_count 33 = .ok (.goto (-29), 3) := by decide +kernel
theorem dX3_count_36 : decode cX3_count 36 = .ok (.iload_n 2, 1) := by decide +kernel
theorem dX3_count_37 : decode cX3_count 37 = .ok (.ireturn, 1) := by decide +kernel
set_option maxRecDepth 20000 in
theorem ggX3_latestOf_X3_isKey : GoodIn wsX3_latestOf wsX3_isKey := goodIn_r _ [5, 6, 7, 4, 8] (by decide +kernel) (by decide +kernel)
set_option maxRecDepth 20000 in
theorem gX3_latestOf_X3_isKey : GoodIn wsX3_latestOf (va_wsS RX3 81 yX3_isKey wsX3_isKey) := goodIn_app (goodIn_of _ (by decide +kernel)) ggX3_latestOf_X3_isKey
set_option maxRecDepth 20000 in
theorem ggX3_latestOf_X3_latest : GoodIn wsX3_latestOf wsX3_latest := goodIn_r _ [12, 13, 14, 15, 16, 4, 17, 18, 19, 24, 25, 26, 27, 28, 29, 30, 31, 32, 33, 34, 35, 36, 37, 38, 39, 40, 41, 42] (by decide +kernel) (by decide +kernel)
set_option maxRecDepth 20000 in
theorem gX3_latestOf_X3_latest : GoodIn wsX3_latestOf (wsV RX3 124 RX3 yX3_latest wsX3_latest) := goodIn_app (goodIn_of _ (by decide +kernel)) ggX3_latestOf_X3_latest
set_option maxRecDepth 20000 in
theorem ggX3_latestOf_X3_fail : GoodIn wsX3_latestOf wsX3_fail := goodIn_r _ [23, 1, 24, 25, 26, 27, 28, 29, 30, 31, 32, 33, 34, 35, 36, 37, 38, 39, 40, 41, 42] (by decide +kernel) (by decide +kernel)
set_option maxRecDepth 20000 in
theorem gX3_latestOf_X3_fail : GoodIn wsX3_latestOf (wsV RX3 85 RX3 yX3_fail wsX3_fail) := goodIn_app (goodIn_of _ (by decide +kernel)) ggX3_latestOf_X3_fail
theorem dX3_latestOf_0 : decode cX3_latestOf 0 = .ok (.aload_n 0, 1) := by decide +kernel
theorem dX3_latestOf_1 : decode cX3_latestOf 1 = .ok (.iconst 0, 1) := by decide +kernel
theorem dX3_latestOf_2 : decode cX3_latestOf 2 = .ok (.putfield 44, 3) := by decide +kernel
theorem dX3_latestOf_5 : decode cX3_latestOf 5 = .ok (.iload_n 1, 1) := by decide +kernel
theorem dX3_latestOf_6 : decode cX3_latestOf 6 = .ok (.invokestatic 81, 3) := by decide +kernel
theorem dX3_latestOf_9 : decode cX3_latestOf 9 = .ok (.ifCond .eq 11, 3) := by decide +kernel
theorem dX3_latestOf_12 : decode cX3_latestOf 12 = .ok (.aload_n 0, 1) := by decide +kernel
theorem dX3_latestOf_13 : decode cX3_latestOf 13 = .ok (.iload_n 1, 1) := by decide +kernel
theorem dX3_latestOf_14 : decode cX3_latestOf 14 = .ok (.invokevirtual 124, 3) := by decide +kernel
theorem dX3_latestOf_17 : decode cX3_latestOf 17 = .ok (.goto 8, 3) := by decide +kernel
theorem dX3_latestOf_20 : decode cX3_latestOf 20 = .ok (.aload_n 0, 1) := by decide +kernel
theorem dX3_latestOf_21 : decode cX3_latestOf 21 = .ok (.iconst 1, 1) := by decide +kernel
theorem dX3_latestOf_22 : decode cX3_latestOf 22 = .ok (.invokevirtual 85, 3) := by decide +kernel
theorem dX3_latestOf_25 : decode cX3_latestOf 25 = .ok (.ireturn, 1) := by decide +kernel
set_option maxRecDepth 20000 in
theorem ggX3_valueOf_X3_isKey : GoodIn wsX3_valueOf wsX3_isKey := goodIn_r _ [5, 6, 7, 4, 8] (by decide +kernel) (by decide +kernel)
set_option maxRecDepth 20000 in
theorem gX3_valueOf_X3_isKey : GoodIn wsX3_valueOf (va_wsS RX3 81 yX3_isKey wsX3_isKey) := goodIn_app (goodIn_of _ (by decide +kernel)) ggX3_valueOf_X3_isKey
set_option maxRecDepth 20000 in
theorem ggX3_valueOf_X3_worth : GoodIn wsX3_valueOf wsX3_worth := goodIn_r _ [12, 13, 14, 15, 16, 4, 17, 18, 19, 24, 25, 26, 27, 28, 29, 30, 31, 32, 33, 34, 35, 36, 37, 38, 39, 40, 41, 42] (by decide +kernel) (by decide +kernel)
set_option maxRecDepth 20000 in
theorem gX3_valueOf_X3_worth : GoodIn wsX3_valueOf (wsV RX3 127 RX3 yX3_worth wsX3_worth) := goodIn_app (goodIn_of _ (by decide +kernel)) ggX3_valueOf_X3_worth
set_option maxRecDepth 20000 in
theorem ggX3_valueOf_X3_fail : GoodIn wsX3_valueOf wsX3_fail := goodIn_r _ [23, 1, 24, 25, 26, 27, 28, 29, 30, 31, 32, 33, 34, 35, 36, 37, 38, 39, 40, 41, 42] (by decide +kernel) (by decide +kernel)
set_option maxRecDepth 20000 in
theorem gX3_valueOf_X3_fail : GoodIn wsX3_valueOf (wsV RX3 85 RX3 yX3_fail wsX3_fail) := goodIn_app (goodIn_of _ (by decide +kernel)) ggX3_valueOf_X3_fail
theorem dX3_valueOf_0 : decode cX3_valueOf 0 = .ok (.aload_n 0, 1) := by decide +kernel
theorem dX3_valueOf_1 : decode cX3_valueOf 1 = .ok (.iconst 0, 1) := by decide +kernel
theorem dX3_valueOf_2 : decode cX3_valueOf 2 = .ok (.putfield 44, 3) := by decide +kernel
theorem dX3_valueOf_5 : decode cX3_valueOf 5 = .ok (.iload_n 1, 1) := by decide +kernel
theorem dX3_valueOf_6 : decode cX3_valueOf 6 = .ok (.invokestatic 81, 3) := by decide +kernel
theorem dX3_valueOf_9 : decode cX3_valueOf 9 = .ok (.ifCond .eq 11, 3) := by decide +kernel
theorem dX3_valueOf_12 : decode cX3_valueOf 12 = .ok (.aload_n 0, 1) := by decide +kernel
theorem dX3_valueOf_13 : decode cX3_valueOf 13 = .ok (.iload_n 1, 1) := by decide +kernel
theorem dX3_valueOf_14 : decode cX3_valueOf 14 = .ok (.invokevirtual 127, 3) := by decide +kernel
theorem dX3_valueOf_17 : decode cX3_valueOf 17 = .ok (.goto 8, 3) := by decide +kernel
theorem dX3_valueOf_20 : decode cX3_valueOf 20 = .ok (.aload_n 0, 1) := by decide +kernel
theorem dX3_valueOf_21 : decode cX3_valueOf 21 = .ok (.iconst 1, 1) := by decide +kernel
theorem dX3_valueOf_22 : decode cX3_valueOf 22 = .ok (.invokevirtual 85, 3) := by decide +kernel
theorem dX3_valueOf_25 : decode cX3_valueOf 25 = .ok (.ireturn, 1) := by decide +kernel
set_option maxRecDepth 20000 in
theorem ggX3_countOf_X3_isKey : GoodIn wsX3_countOf wsX3_isKey := goodIn_r _ [5, 6, 7, 4, 8] (by decide +kernel) (by decide +kernel)
set_option maxRecDepth 20000 in
theorem gX3_countOf_X3_isKey : GoodIn wsX3_countOf (va_wsS RX3 81 yX3_isKey wsX3_isKey) := goodIn_app (goodIn_of _ (by decide +kernel)) ggX3_countOf_X3_isKey
set_option maxRecDepth 20000 in
theorem ggX3_countOf_X3_count : GoodIn wsX3_countOf wsX3_count := goodIn_r _ [12, 13, 14, 19, 20, 21, 22, 23, 24, 25, 26, 27, 28, 29, 30, 31, 32, 33, 34, 35, 36, 37] (by decide +kernel) (by decide +kernel)
set_option maxRecDepth 20000 in
theorem gX3_countOf_X3_count : GoodIn wsX3_countOf (wsV RX3 130 RX3 yX3_count wsX3_count) := goodIn_app (goodIn_of _ (by decide +kernel)) ggX3_countOf_X3_count
set_option maxRecDepth 20000 in
theorem ggX3_countOf_X3_fail : GoodIn wsX3_countOf wsX3_fail := goodIn_r _ [18, 1, 19, 20, 21, 22, 23, 24, 25, 26, 27, 28, 29, 30, 31, 32, 33, 34, 35, 36, 37] (by decide +kernel) (by decide +kernel)
set_option maxRecDepth 20000 in
theorem gX3_countOf_X3_fail : GoodIn wsX3_countOf (wsV RX3 85 RX3 yX3_fail wsX3_fail) := goodIn_app (goodIn_of _ (by decide +kernel)) ggX3_countOf_X3_fail
theorem dX3_countOf_0 : decode cX3_countOf 0 = .ok (.aload_n 0, 1) := by decide +kernel
theorem dX3_countOf_1 : decode cX3_countOf 1 = .ok (.iconst 0, 1) := by decide +kernel
theorem dX3_countOf_2 : decode cX3_countOf 2 = .ok (.putfield 44, 3) := by decide +kernel
theorem dX3_countOf_5 : decode cX3_countOf 5 = .ok (.iload_n 1, 1) := by decide +kernel
theorem dX3_countOf_6 : decode cX3_countOf 6 = .ok (.invokestatic 81, 3) := by decide +kernel
theorem dX3_countOf_9 : decode cX3_countOf 9 = .ok (.ifCond .eq 11, 3) := by decide +kernel
theorem dX3_countOf_12 : decode cX3_countOf 12 = .ok (.aload_n 0, 1) := by decide +kernel
theorem dX3_countOf_13 : decode cX3_countOf 13 = .ok (.iload_n 1, 1) := by decide +kernel
theorem dX3_countOf_14 : decode cX3_countOf 14 = .ok (.invokevirtual 130, 3) := by decide +kernel
theorem dX3_countOf_17 : decode cX3_countOf 17 = .ok (.goto 8, 3) := by decide +kernel
theorem dX3_countOf_20 : decode cX3_countOf 20 = .ok (.aload_n 0, 1) := by decide +kernel
theorem dX3_countOf_21 : decode cX3_countOf 21 = .ok (.iconst 1, 1) := by decide +kernel
theorem dX3_countOf_22 : decode cX3_countOf 22 = .ok (.invokevirtual 85, 3) := by decide +kernel
theorem dX3_countOf_25 : decode cX3_countOf 25 = .ok (.ireturn, 1) := by decide +kernel
set_option maxRecDepth 20000 in
theorem ggX3_storms_X3_told : GoodIn wsX3_storms wsX3_told := goodIn_r _ [6, 7, 8, 9, 10, 11, 12, 13, 14, 15, 16, 17, 18, 19, 20, 21, 22, 23, 24, 25, 26] (by decide +kernel) (by decide +kernel)
set_option maxRecDepth 20000 in
theorem gX3_storms_X3_told : GoodIn wsX3_storms (wsV RX3 108 RX3 yX3_told wsX3_told) := goodIn_app (goodIn_of _ (by decide +kernel)) ggX3_storms_X3_told
theorem dX3_storms_0 : decode cX3_storms 0 = .ok (.aload_n 0, 1) := by decide +kernel
theorem dX3_storms_1 : decode cX3_storms 1 = .ok (.aload_n 0, 1) := by decide +kernel
theorem dX3_storms_2 : decode cX3_storms 2 = .ok (.getfield 55, 3) := by decide +kernel
theorem dX3_storms_5 : decode cX3_storms 5 = .ok (.invokevirtual 108, 3) := by decide +kernel
theorem dX3_storms_8 : decode cX3_storms 8 = .ok (.ireturn, 1) := by decide +kernel
theorem dX3_isStormy_0 : decode cX3_isStormy 0 = .ok (.aload_n 0, 1) := by decide +kernel
theorem dX3_isStormy_1 : decode cX3_isStormy 1 = .ok (.iconst 0, 1) := by decide +kernel
theorem dX3_isStormy_2 : decode cX3_isStormy 2 = .ok (.putfield 44, 3) := by decide +kernel
theorem dX3_isStormy_5 : decode cX3_isStormy 5 = .ok (.aload_n 0, 1) := by decide +kernel
theorem dX3_isStormy_6 : decode cX3_isStormy 6 = .ok (.getfield 71, 3) := by decide +kernel
theorem dX3_isStormy_9 : decode cX3_isStormy 9 = .ok (.ireturn, 1) := by decide +kernel
set_option maxRecDepth 20000 in
theorem ggX3_saidIn_X3_isStorm : GoodIn wsX3_saidIn wsX3_isStorm := goodIn_r _ [7, 8, 9, 10, 6, 11, 16, 17, 18, 19, 20, 21, 22, 23, 24, 25, 26, 27, 28, 29, 30, 31, 32, 33, 34] (by decide +kernel) (by decide +kernel)
set_option maxRecDepth 20000 in
theorem gX3_saidIn_X3_isStorm : GoodIn wsX3_saidIn (wsV RX3 93 RX3 yX3_isStorm wsX3_isStorm) := goodIn_app (goodIn_of _ (by decide +kernel)) ggX3_saidIn_X3_isStorm
set_option maxRecDepth 20000 in
theorem ggX3_saidIn_X3_fail : GoodIn wsX3_saidIn wsX3_fail := goodIn_r _ [15, 1, 16, 17, 18, 19, 20, 21, 22, 23, 24, 25, 26, 27, 28, 29, 30, 31, 32, 33, 34] (by decide +kernel) (by decide +kernel)
set_option maxRecDepth 20000 in
theorem gX3_saidIn_X3_fail : GoodIn wsX3_saidIn (wsV RX3 85 RX3 yX3_fail wsX3_fail) := goodIn_app (goodIn_of _ (by decide +kernel)) ggX3_saidIn_X3_fail
theorem dX3_saidIn_0 : decode cX3_saidIn 0 = .ok (.aload_n 0, 1) := by decide +kernel
theorem dX3_saidIn_1 : decode cX3_saidIn 1 = .ok (.iconst 0, 1) := by decide +kernel
theorem dX3_saidIn_2 : decode cX3_saidIn 2 = .ok (.putfield 44, 3) := by decide +kernel
theorem dX3_saidIn_5 : decode cX3_saidIn 5 = .ok (.aload_n 0, 1) := by decide +kernel
theorem dX3_saidIn_6 : decode cX3_saidIn 6 = .ok (.iload_n 1, 1) := by decide +kernel
theorem dX3_saidIn_7 : decode cX3_saidIn 7 = .ok (.invokevirtual 93, 3) := by decide +kernel
theorem dX3_saidIn_10 : decode cX3_saidIn 10 = .ok (.ifCond .eq 12, 3) := by decide +kernel
theorem dX3_saidIn_13 : decode cX3_saidIn 13 = .ok (.aload_n 0, 1) := by decide +kernel
theorem dX3_saidIn_14 : decode cX3_saidIn 14 = .ok (.getfield 26, 3) := by decide +kernel
theorem dX3_saidIn_17 : decode cX3_saidIn 17 = .ok (.iload_n 1, 1) := by decide +kernel
theorem dX3_saidIn_18 : decode cX3_saidIn 18 = .ok (.iaload, 1) := by decide +kernel
theorem dX3_saidIn_19 : decode cX3_saidIn 19 = .ok (.goto 8, 3) := by decide +kernel
theorem dX3_saidIn_22 : decode cX3_saidIn 22 = .ok (.aload_n 0, 1) := by decide +kernel
theorem dX3_saidIn_23 : decode cX3_saidIn 23 = .ok (.iconst 1, 1) := by decide +kernel
theorem dX3_saidIn_24 : decode cX3_saidIn 24 = .ok (.invokevirtual 85, 3) := by decide +kernel
theorem dX3_saidIn_27 : decode cX3_saidIn 27 = .ok (.ireturn, 1) := by decide +kernel
theorem dX3_kept_0 : decode cX3_kept 0 = .ok (.iconst 0, 1) := by decide +kernel
theorem dX3_kept_1 : decode cX3_kept 1 = .ok (.istore_n 2, 1) := by decide +kernel
theorem dX3_kept_2 : decode cX3_kept 2 = .ok (.iconst 0, 1) := by decide +kernel
theorem dX3_kept_3 : decode cX3_kept 3 = .ok (.istore_n 3, 1) := by decide +kernel
theorem dX3_kept_4 : decode cX3_kept 4 = .ok (.iload_n 3, 1) := by decide +kernel
theorem dX3_kept_5 : decode cX3_kept 5 = .ok (.aload_n 0, 1) := by decide +kernel
theorem dX3_kept_6 : decode cX3_kept 6 = .ok (.getfield 58, 3) := by decide +kernel
theorem dX3_kept_9 : decode cX3_kept 9 = .ok (.if_icmp .ge 27, 3) := by decide +kernel
theorem dX3_kept_12 : decode cX3_kept 12 = .ok (.iload_n 2, 1) := by decide +kernel
theorem dX3_kept_13 : decode cX3_kept 13 = .ok (.aload_n 0, 1) := by decide +kernel
theorem dX3_kept_14 : decode cX3_kept 14 = .ok (.getfield 19, 3) := by decide +kernel
theorem dX3_kept_17 : decode cX3_kept 17 = .ok (.iload_n 3, 1) := by decide +kernel
theorem dX3_kept_18 : decode cX3_kept 18 = .ok (.iaload, 1) := by decide +kernel
theorem dX3_kept_19 : decode cX3_kept 19 = .ok (.iload_n 1, 1) := by decide +kernel
theorem dX3_kept_20 : decode cX3_kept 20 = .ok (.if_icmp .ne 7, 3) := by decide +kernel
theorem dX3_kept_23 : decode cX3_kept 23 = .ok (.iconst 1, 1) := by decide +kernel
theorem dX3_kept_24 : decode cX3_kept 24 = .ok (.goto 4, 3) := by decide +kernel
theorem dX3_kept_27 : decode cX3_kept 27 = .ok (.iconst 0, 1) := by decide +kernel
theorem dX3_kept_28 : decode cX3_kept 28 = .ok (.iadd, 1) := by decide +kernel
theorem dX3_kept_29 : decode cX3_kept 29 = .ok (.istore_n 2, 1) := by decide +kernel
theorem dX3_kept_30 : decode cX3_kept 30 = .ok (.iinc 3 1, 3) := by decide +kernel
theorem dX3_kept_33 : decode cX3_kept 33 = .ok (.goto (-29), 3) := by decide +kernel
theorem dX3_kept_36 : decode cX3_kept 36 = .ok (.iload_n 2, 1) := by decide +kernel
theorem dX3_kept_37 : decode cX3_kept 37 = .ok (.ireturn, 1) := by decide +kernel
set_option maxRecDepth 20000 in
theorem ggX3_keptOf_X3_isStorm : GoodIn wsX3_keptOf wsX3_isStorm := goodIn_r _ [6, 7, 8, 9, 5, 10, 21, 22, 23, 24, 25, 26, 27, 28, 29, 30, 31, 32, 33, 34, 35, 36, 37, 38, 39] (by decide +kernel) (by decide +kernel)
set_option maxRecDepth 20000 in
theorem gX3_keptOf_X3_isStorm : GoodIn wsX3_keptOf (wsV RX3 93 RX3 yX3_isStorm wsX3_isStorm) := goodIn_app (goodIn_of _ (by decide +kernel)) ggX3_keptOf_X3_isStorm
set_option maxRecDepth 20000 in
theorem ggX3_keptOf_X3_kept : GoodIn wsX3_keptOf wsX3_kept := goodIn_r _ [14, 15, 16, 21, 22, 23, 24, 25, 26, 27, 28, 29, 30, 31, 32, 33, 34, 35, 36, 37, 38, 39] (by decide +kernel) (by decide +kernel)
set_option maxRecDepth 20000 in
theorem gX3_keptOf_X3_kept : GoodIn wsX3_keptOf (wsV RX3 133 RX3 yX3_kept wsX3_kept) := goodIn_app (goodIn_of _ (by decide +kernel)) ggX3_keptOf_X3_kept
set_option maxRecDepth 20000 in
theorem ggX3_keptOf_X3_fail : GoodIn wsX3_keptOf wsX3_fail := goodIn_r _ [20, 1, 21, 22, 23, 24, 25, 26, 27, 28, 29, 30, 31, 32, 33, 34, 35, 36, 37, 38, 39] (by decide +kernel) (by decide +kernel)
set_option maxRecDepth 20000 in
theorem gX3_keptOf_X3_fail : GoodIn wsX3_keptOf (wsV RX3 85 RX3 yX3_fail wsX3_fail) := goodIn_app (goodIn_of _ (by decide +kernel)) ggX3_keptOf_X3_fail
theorem dX3_keptOf_0 : decode cX3_keptOf 0 = .ok (.aload_n 0, 1) := by decide +kernel
theorem dX3_keptOf_1 : decode cX3_keptOf 1 = .ok (.iconst 0, 1) := by decide +kernel
theorem dX3_keptOf_2 : decode cX3_keptOf 2 = .ok (.putfield 44, 3) := by decide +kernel
theorem dX3_keptOf_5 : decode cX3_keptOf 5 = .ok (.aload_n 0, 1) := by decide +kernel
theorem dX3_keptOf_6 : decode cX3_keptOf 6 = .ok (.iload_n 1, 1) := by decide +kernel
theorem dX3_keptOf_7 : decode cX3_keptOf 7 = .ok (.invokevirtual 93, 3) := by decide +kernel
theorem dX3_keptOf_10 : decode cX3_keptOf 10 = .ok (.ifCond .eq 11, 3) := by decide +kernel
theorem dX3_keptOf_13 : decode cX3_keptOf 13 = .ok (.aload_n 0, 1) := by decide +kernel
theorem dX3_keptOf_14 : decode cX3_keptOf 14 = .ok (.iload_n 1, 1) := by decide +kernel
theorem dX3_keptOf_15 : decode cX3_keptOf 15 = .ok (.invokevirtual 133, 3) := by decide +kernel
theorem dX3_keptOf_18 : decode cX3_keptOf 18 = .ok (.goto 8, 3) := by decide +kernel
theorem dX3_keptOf_21 : decode cX3_keptOf 21 = .ok (.aload_n 0, 1) := by decide +kernel
theorem dX3_keptOf_22 : decode cX3_keptOf 22 = .ok (.iconst 1, 1) := by decide +kernel
theorem dX3_keptOf_23 : decode cX3_keptOf 23 = .ok (.invokevirtual 85, 3) := by decide +kernel
theorem dX3_keptOf_26 : decode cX3_keptOf 26 = .ok (.ireturn, 1) := by decide +kernel
set_option maxRecDepth 20000 in
theorem ggX3_ships_X3_told : GoodIn wsX3_ships wsX3_told := goodIn_r _ [6, 7, 8, 9, 10, 11, 12, 13, 14, 15, 16, 17, 18, 19, 20, 21, 22, 23, 24, 25, 26] (by decide +kernel) (by decide +kernel)
set_option maxRecDepth 20000 in
theorem gX3_ships_X3_told : GoodIn wsX3_ships (wsV RX3 108 RX3 yX3_told wsX3_told) := goodIn_app (goodIn_of _ (by decide +kernel)) ggX3_ships_X3_told
theorem dX3_ships_0 : decode cX3_ships 0 = .ok (.aload_n 0, 1) := by decide +kernel
theorem dX3_ships_1 : decode cX3_ships 1 = .ok (.aload_n 0, 1) := by decide +kernel
theorem dX3_ships_2 : decode cX3_ships 2 = .ok (.getfield 48, 3) := by decide +kernel
theorem dX3_ships_5 : decode cX3_ships 5 = .ok (.invokevirtual 108, 3) := by decide +kernel
theorem dX3_ships_8 : decode cX3_ships 8 = .ok (.ireturn, 1) := by decide +kernel
set_option maxRecDepth 20000 in
theorem ggX3_ship_X3_isShip : GoodIn wsX3_ship wsX3_isShip := goodIn_r _ [6, 7, 8, 9, 5, 10, 15, 16, 17, 18, 19, 20, 21, 22, 23, 24, 25, 26, 27, 28, 29, 30, 31, 32, 33] (by decide +kernel) (by decide +kernel)
set_option maxRecDepth 20000 in
theorem gX3_ship_X3_isShip : GoodIn wsX3_ship (wsV RX3 99 RX3 yX3_isShip wsX3_isShip) := goodIn_app (goodIn_of _ (by decide +kernel)) ggX3_ship_X3_isShip
set_option maxRecDepth 20000 in
theorem ggX3_ship_X3_fail : GoodIn wsX3_ship wsX3_fail := goodIn_r _ [14, 1, 15, 16, 17, 18, 19, 20, 21, 22, 23, 24, 25, 26, 27, 28, 29, 30, 31, 32, 33] (by decide +kernel) (by decide +kernel)
set_option maxRecDepth 20000 in
theorem gX3_ship_X3_fail : GoodIn wsX3_ship (wsV RX3 85 RX3 yX3_fail wsX3_fail) := goodIn_app (goodIn_of _ (by decide +kernel)) ggX3_ship_X3_fail
theorem dX3_ship_0 : decode cX3_ship 0 = .ok (.aload_n 0, 1) := by decide +kernel
theorem dX3_ship_1 : decode cX3_ship 1 = .ok (.iconst 0, 1) := by decide +kernel
theorem dX3_ship_2 : decode cX3_ship 2 = .ok (.putfield 44, 3) := by decide +kernel
theorem dX3_ship_5 : decode cX3_ship 5 = .ok (.aload_n 0, 1) := by decide +kernel
theorem dX3_ship_6 : decode cX3_ship 6 = .ok (.iload_n 1, 1) := by decide +kernel
theorem dX3_ship_7 : decode cX3_ship 7 = .ok (.invokevirtual 99, 3) := by decide +kernel
theorem dX3_ship_10 : decode cX3_ship 10 = .ok (.ifCond .eq 9, 3) := by decide +kernel
theorem dX3_ship_13 : decode cX3_ship 13 = .ok (.aload_n 2, 1) := by decide +kernel
theorem dX3_ship_14 : decode cX3_ship 14 = .ok (.iload_n 1, 1) := by decide +kernel
theorem dX3_ship_15 : decode cX3_ship 15 = .ok (.iaload, 1) := by decide +kernel
theorem dX3_ship_16 : decode cX3_ship 16 = .ok (.goto 8, 3) := by decide +kernel
theorem dX3_ship_19 : decode cX3_ship 19 = .ok (.aload_n 0, 1) := by decide +kernel
theorem dX3_ship_20 : decode cX3_ship 20 = .ok (.iconst 1, 1) := by decide +kernel
theorem dX3_ship_21 : decode cX3_ship 21 = .ok (.invokevirtual 85, 3) := by decide +kernel
theorem dX3_ship_24 : decode cX3_ship 24 = .ok (.ireturn, 1) := by decide +kernel
set_option maxRecDepth 20000 in
theorem ggX3_offsetOf_X3_ship : GoodIn wsX3_offsetOf wsX3_ship := goodIn_r _ [6, 7, 8, 9, 10, 5, 11, 12, 13, 14, 15, 16, 17, 18, 19, 20, 21, 22, 23, 24, 25, 26, 27, 28, 29, 30, 31, 32, 33, 34, 35, 36, 37, 38] (by decide +kernel) (by decide +kernel)
set_option maxRecDepth 20000 in
theorem gX3_offsetOf_X3_ship : GoodIn wsX3_offsetOf (wsV RX3 136 RX3 yX3_ship wsX3_ship) := goodIn_app (goodIn_of _ (by decide +kernel)) ggX3_offsetOf_X3_ship
theorem dX3_offsetOf_0 : decode cX3_offsetOf 0 = .ok (.aload_n 0, 1) := by decide +kernel
theorem dX3_offsetOf_1 : decode cX3_offsetOf 1 = .ok (.iload_n 1, 1) := by decide +kernel
theorem dX3_offsetOf_2 : decode cX3_offsetOf 2 = .ok (.aload_n 0, 1) := by decide +kernel
theorem dX3_offsetOf_3 : decode cX3_offsetOf 3 = .ok (.getfield 32, 3) := by decide +kernel
theorem dX3_offsetOf_6 : decode cX3_offsetOf 6 = .ok (.invokevirtual 136, 3) := by decide +kernel
theorem dX3_offsetOf_9 : decode cX3_offsetOf 9 = .ok (.ireturn, 1) := by decide +kernel
set_option maxRecDepth 20000 in
theorem ggX3_lagOf_X3_isShip : GoodIn wsX3_lagOf wsX3_isShip := goodIn_r _ [6, 7, 8, 9, 5, 10, 26, 27, 28, 29, 30, 31, 32, 33, 34, 35, 36, 37, 38, 39, 40, 41, 42, 43, 44] (by decide +kernel) (by decide +kernel)
set_option maxRecDepth 20000 in
theorem gX3_lagOf_X3_isShip : GoodIn wsX3_lagOf (wsV RX3 99 RX3 yX3_isShip wsX3_isShip) := goodIn_app (goodIn_of _ (by decide +kernel)) ggX3_lagOf_X3_isShip
set_option maxRecDepth 20000 in
theorem ggX3_lagOf_X3_lag : GoodIn wsX3_lagOf wsX3_lag := goodIn_r _ [14, 15, 16, 17, 18, 19, 5, 20, 21, 26, 27, 28, 29, 30, 31, 32, 33, 34, 35, 36, 37, 38, 39, 40, 41, 42, 43, 44] (by decide +kernel) (by decide +kernel)
set_option maxRecDepth 20000 in
theorem gX3_lagOf_X3_lag : GoodIn wsX3_lagOf (wsV RX3 139 RX3 yX3_lag wsX3_lag) := goodIn_app (goodIn_of _ (by decide +kernel)) ggX3_lagOf_X3_lag
set_option maxRecDepth 20000 in
theorem ggX3_lagOf_X3_fail : GoodIn wsX3_lagOf wsX3_fail := goodIn_r _ [25, 1, 26, 27, 28, 29, 30, 31, 32, 33, 34, 35, 36, 37, 38, 39, 40, 41, 42, 43, 44] (by decide +kernel) (by decide +kernel)
set_option maxRecDepth 20000 in
theorem gX3_lagOf_X3_fail : GoodIn wsX3_lagOf (wsV RX3 85 RX3 yX3_fail wsX3_fail) := goodIn_app (goodIn_of _ (by decide +kernel)) ggX3_lagOf_X3_fail
theorem dX3_lagOf_0 : decode cX3_lagOf 0 = .ok (.aload_n 0, 1) := by decide +kernel
theorem dX3_lagOf_1 : decode cX3_lagOf 1 = .ok (.iconst 0, 1) := by decide +kernel
theorem dX3_lagOf_2 : decode cX3_lagOf 2 = .ok (.putfield 44, 3) := by decide +kernel
theorem dX3_lagOf_5 : decode cX3_lagOf 5 = .ok (.aload_n 0, 1) := by decide +kernel
theorem dX3_lagOf_6 : decode cX3_lagOf 6 = .ok (.iload_n 1, 1) := by decide +kernel
theorem dX3_lagOf_7 : decode cX3_lagOf 7 = .ok (.invokevirtual 99, 3) := by decide +kernel
theorem dX3_lagOf_10 : decode cX3_lagOf 10 = .ok (.ifCond .eq 11, 3) := by decide +kernel
theorem dX3_lagOf_13 : decode cX3_lagOf 13 = .ok (.aload_n 0, 1) := by decide +kernel
theorem dX3_lagOf_14 : decode cX3_lagOf 14 = .ok (.iload_n 1, 1) := by decide +kernel
theorem dX3_lagOf_15 : decode cX3_lagOf 15 = .ok (.invokevirtual 139, 3) := by decide +kernel
theorem dX3_lagOf_18 : decode cX3_lagOf 18 = .ok (.goto 8, 3) := by decide +kernel
theorem dX3_lagOf_21 : decode cX3_lagOf 21 = .ok (.aload_n 0, 1) := by decide +kernel
theorem dX3_lagOf_22 : decode cX3_lagOf 22 = .ok (.iconst 1, 1) := by decide +kernel
theorem dX3_lagOf_23 : decode cX3_lagOf 23 = .ok (.invokevirtual 85, 3) := by decide +kernel
theorem dX3_lagOf_26 : decode cX3_lagOf 26 = .ok (.ireturn, 1) := by decide +kernel
set_option maxRecDepth 20000 in
theorem ggX3_heardBy_X3_ship : GoodIn wsX3_heardBy wsX3_ship := goodIn_r _ [6, 7, 8, 9, 10, 5, 11, 12, 13, 14, 15, 16, 17, 18, 19, 20, 21, 22, 23, 24, 25, 26, 27, 28, 29, 30, 31, 32, 33, 34, 35, 36, 37, 38] (by decide +kernel) (by decide +kernel)
set_option maxRecDepth 20000 in
theorem gX3_heardBy_X3_ship : GoodIn wsX3_heardBy (wsV RX3 136 RX3 yX3_ship wsX3_ship) := goodIn_app (goodIn_of _ (by decide +kernel)) ggX3_heardBy_X3_ship
theorem dX3_heardBy_0 : decode cX3_heardBy 0 = .ok (.aload_n 0, 1) := by decide +kernel
theorem dX3_heardBy_1 : decode cX3_heardBy 1 = .ok (.iload_n 1, 1) := by decide +kernel
theorem dX3_heardBy_2 : decode cX3_heardBy 2 = .ok (.aload_n 0, 1) := by decide +kernel
theorem dX3_heardBy_3 : decode cX3_heardBy 3 = .ok (.getfield 35, 3) := by decide +kernel
theorem dX3_heardBy_6 : decode cX3_heardBy 6 = .ok (.invokevirtual 136, 3) := by decide +kernel
theorem dX3_heardBy_9 : decode cX3_heardBy 9 = .ok (.ireturn, 1) := by decide +kernel
set_option maxRecDepth 20000 in
theorem ggX3_missedBy_X3_ship : GoodIn wsX3_missedBy wsX3_ship := goodIn_r _ [6, 7, 8, 9, 10, 5, 11, 12, 13, 14, 15, 16, 17, 18, 19, 20, 21, 22, 23, 24, 25, 26, 27, 28, 29, 30, 31, 32, 33, 34, 35, 36, 37, 38] (by decide +kernel) (by decide +kernel)
set_option maxRecDepth 20000 in
theorem gX3_missedBy_X3_ship : GoodIn wsX3_missedBy (wsV RX3 136 RX3 yX3_ship wsX3_ship) := goodIn_app (goodIn_of _ (by decide +kernel)) ggX3_missedBy_X3_ship
theorem dX3_missedBy_0 : decode cX3_missedBy 0 = .ok (.aload_n 0, 1) := by decide +kernel
theorem dX3_missedBy_1 : decode cX3_missedBy 1 = .ok (.iload_n 1, 1) := by decide +kernel
theorem dX3_missedBy_2 : decode cX3_missedBy 2 = .ok (.aload_n 0, 1) := by decide +kernel
theorem dX3_missedBy_3 : decode cX3_missedBy 3 = .ok (.getfield 38, 3) := by decide +kernel
theorem dX3_missedBy_6 : decode cX3_missedBy 6 = .ok (.invokevirtual 136, 3) := by decide +kernel
theorem dX3_missedBy_9 : decode cX3_missedBy 9 = .ok (.ireturn, 1) := by decide +kernel
set_option maxRecDepth 20000 in
theorem ggX3_knownBy_X3_isShip : GoodIn wsX3_knownBy wsX3_isShip := goodIn_r _ [7, 8, 9, 10, 6, 11, 19, 20, 21, 22, 23, 24, 25, 26, 27, 28, 29, 30, 31, 32, 33, 34, 35, 36, 37] (by decide +kernel) (by decide +kernel)
set_option maxRecDepth 20000 in
theorem gX3_knownBy_X3_isShip : GoodIn wsX3_knownBy (wsV RX3 99 RX3 yX3_isShip wsX3_isShip) := goodIn_app (goodIn_of _ (by decide +kernel)) ggX3_knownBy_X3_isShip
set_option maxRecDepth 20000 in
theorem ggX3_knownBy_X3_isKey : GoodIn wsX3_knownBy wsX3_isKey := goodIn_r _ [14, 9, 10, 6, 11] (by decide +kernel) (by decide +kernel)
set_option maxRecDepth 20000 in
theorem gX3_knownBy_X3_isKey : GoodIn wsX3_knownBy (va_wsS RX3 81 yX3_isKey wsX3_isKey) := goodIn_app (goodIn_of _ (by decide +kernel)) ggX3_knownBy_X3_isKey
set_option maxRecDepth 20000 in
theorem ggX3_knownBy_X3_fail : GoodIn wsX3_knownBy wsX3_fail := goodIn_r _ [18, 1, 19, 20, 21, 22, 23, 24, 25, 26, 27, 28, 29, 30, 31, 32, 33, 34, 35, 36, 37] (by decide +kernel) (by decide +kernel)
set_option maxRecDepth 20000 in
theorem gX3_knownBy_X3_fail : GoodIn wsX3_knownBy (wsV RX3 85 RX3 yX3_fail wsX3_fail) := goodIn_app (goodIn_of _ (by decide +kernel)) ggX3_knownBy_X3_fail
theorem dX3_knownBy_0 : decode cX3_knownBy 0 = .ok (.aload_n 0, 1) := by decide +kernel
theorem dX3_knownBy_1 : decode cX3_knownBy 1 = .ok (.iconst 0, 1) := by decide +kernel
theorem dX3_knownBy_2 : decode cX3_knownBy 2 = .ok (.putfield 44, 3) := by decide +kernel
theorem dX3_knownBy_5 : decode cX3_knownBy 5 = .ok (.aload_n 0, 1) := by decide +kernel
theorem dX3_knownBy_6 : decode cX3_knownBy 6 = .ok (.iload_n 1, 1) := by decide +kernel
theorem dX3_knownBy_7 : decode cX3_knownBy 7 = .ok (.invokevirtual 99, 3) := by decide +kernel
theorem dX3_knownBy_10 : decode cX3_knownBy 10 = .ok (.ifCond .eq 24, 3) := by decide +kernel
theorem dX3_knownBy_13 : decode cX3_knownBy 13 = .ok (.iload_n 2, 1) := by decide +kernel
theorem dX3_knownBy_14 : decode cX3_knownBy 14 = .ok (.invokestatic 81, 3) := by decide +kernel
theorem dX3_knownBy_17 : decode cX3_knownBy 17 = .ok (.ifCond .eq 17, 3) := by decide +kernel
theorem dX3_knownBy_20 : decode cX3_knownBy 20 = .ok (.aload_n 0, 1) := by decide +kernel
theorem dX3_knownBy_21 : decode cX3_knownBy 21 = .ok (.getfield 41, 3) := by decide +kernel
theorem dX3_knownBy_24 : decode cX3_knownBy 24 = .ok (.bipush 10, 2) := by decide +kernel
theorem dX3_knownBy_26 : decode cX3_knownBy 26 = .ok (.iload_n 1, 1) := by decide +kernel
theorem dX3_knownBy_27 : decode cX3_knownBy 27 = .ok (.imul, 1) := by decide +kernel
theorem dX3_knownBy_28 : decode cX3_knownBy 28 = .ok (.iload_n 2, 1) := by decide +kernel
theorem dX3_knownBy_29 : decode cX3_knownBy 29 = .ok (.iadd, 1) := by decide +kernel
theorem dX3_knownBy_30 : decode cX3_knownBy 30 = .ok (.iaload, 1) := by decide +kernel
theorem dX3_knownBy_31 : decode cX3_knownBy 31 = .ok (.goto 8, 3) := by decide +kernel
theorem dX3_knownBy_34 : decode cX3_knownBy 34 = .ok (.aload_n 0, 1) := by decide +kernel
theorem dX3_knownBy_35 : decode cX3_knownBy 35 = .ok (.iconst 1, 1) := by decide +kernel
theorem dX3_knownBy_36 : decode cX3_knownBy 36 = .ok (.invokevirtual 85, 3) := by decide +kernel
theorem dX3_knownBy_39 : decode cX3_knownBy 39 = .ok (.ireturn, 1) := by decide +kernel
set_option maxRecDepth 20000 in
theorem ggX3_errors_X3_from : GoodIn wsX3_errors wsX3_from := goodIn_r _ [11, 4, 12, 21, 22, 23, 24, 25, 26, 27, 28, 29, 30, 31, 32, 33, 34, 35, 36, 37, 38, 39] (by decide +kernel) (by decide +kernel)
set_option maxRecDepth 20000 in
theorem gX3_errors_X3_from : GoodIn wsX3_errors (wsV RX3 102 RX3 yX3_from wsX3_from) := goodIn_app (goodIn_of _ (by decide +kernel)) ggX3_errors_X3_from
set_option maxRecDepth 20000 in
theorem ggX3_errors_X3_worth : GoodIn wsX3_errors wsX3_worth := goodIn_r _ [16, 6, 17, 18, 19, 10, 20, 4, 5, 21, 22, 23, 24, 25, 26, 27, 28, 29, 30, 31, 32, 33, 34, 35, 36, 37, 38, 39] (by decide +kernel) (by decide +kernel)
set_option maxRecDepth 20000 in
theorem gX3_errors_X3_worth : GoodIn wsX3_errors (wsV RX3 127 RX3 yX3_worth wsX3_worth) := goodIn_app (goodIn_of _ (by decide +kernel)) ggX3_errors_X3_worth
theorem dX3_errors_0 : decode cX3_errors 0 = .ok (.bipush 10, 2) := by decide +kernel
theorem dX3_errors_2 : decode cX3_errors 2 = .ok (.newarray .int, 2) := by decide +kernel
theorem dX3_errors_4 : decode cX3_errors 4 = .ok (.astore_n 3, 1) := by decide +kernel
theorem dX3_errors_5 : decode cX3_errors 5 = .ok (.iconst 0, 1) := by decide +kernel
theorem dX3_errors_6 : decode cX3_errors 6 = .ok (.istore 4, 2) := by decide +kernel
theorem dX3_errors_8 : decode cX3_errors 8 = .ok (.iload 4, 2) := by decide +kernel
theorem dX3_errors_10 : decode cX3_errors 10 = .ok (.bipush 10, 2) := by decide +kernel
theorem dX3_errors_12 : decode cX3_errors 12 = .ok (.if_icmp .ge 25, 3) := by decide +kernel
theorem dX3_errors_15 : decode cX3_errors 15 = .ok (.aload_n 3, 1) := by decide +kernel
theorem dX3_errors_16 : decode cX3_errors 16 = .ok (.iload 4, 2) := by decide +kernel
theorem dX3_errors_18 : decode cX3_errors 18 = .ok (.aload_n 0, 1) := by decide +kernel
theorem dX3_errors_19 : decode cX3_errors 19 = .ok (.getfield 41, 3) := by decide +kernel
theorem dX3_errors_22 : decode cX3_errors 22 = .ok (.bipush 10, 2) := by decide +kernel
theorem dX3_errors_24 : decode cX3_errors 24 = .ok (.iload_n 1, 1) := by decide +kernel
theorem dX3_errors_25 : decode cX3_errors 25 = .ok (.imul, 1) := by decide +kernel
theorem dX3_errors_26 : decode cX3_errors 26 = .ok (.iload 4, 2) := by decide +kernel
theorem dX3_errors_28 : decode cX3_errors 28 = .ok (.iadd, 1) := by decide +kernel
theorem dX3_errors_29 : decode cX3_errors 29 = .ok (.iaload, 1) := by decide +kernel
theorem dX3_errors_30 : decode cX3_errors 30 = .ok (.iastore, 1) := by decide +kernel
theorem dX3_errors_31 : decode cX3_errors 31 = .ok (.iinc 4 1, 3) := by decide +kernel
theorem dX3_errors_34 : decode cX3_errors 34 = .ok (.goto (-26), 3) := by decide +kernel
theorem dX3_errors_37 : decode cX3_errors 37 = .ok (.aload_n 0, 1) := by decide +kernel
theorem dX3_errors_38 : decode cX3_errors 38 = .ok (.aload_n 0, 1) := by decide +kernel
theorem dX3_errors_39 : decode cX3_errors 39 = .ok (.getfield 32, 3) := by decide +kernel
theorem dX3_errors_42 : decode cX3_errors 42 = .ok (.iload_n 1, 1) := by decide +kernel
theorem dX3_errors_43 : decode cX3_errors 43 = .ok (.iaload, 1) := by decide +kernel
theorem dX3_errors_44 : decode cX3_errors 44 = .ok (.invokevirtual 102, 3) := by decide +kernel
theorem dX3_errors_47 : decode cX3_errors 47 = .ok (.istore 4, 2) := by decide +kernel
theorem dX3_errors_49 : decode cX3_errors 49 = .ok (.iload 4, 2) := by decide +kernel
theorem dX3_errors_51 : decode cX3_errors 51 = .ok (.istore 5, 2) := by decide +kernel
theorem dX3_errors_53 : decode cX3_errors 53 = .ok (.iload 5, 2) := by decide +kernel
theorem dX3_errors_55 : decode cX3_errors 55 = .ok (.aload_n 0, 1) := by decide +kernel
theorem dX3_errors_56 : decode cX3_errors 56 = .ok (.getfield 58, 3) := by decide +kernel
theorem dX3_errors_59 : decode cX3_errors 59 = .ok (.if_icmp .ge 34, 3) := by decide +kernel
theorem dX3_errors_62 : decode cX3_errors 62 = .ok (.iload 5, 2) := by decide +kernel
theorem dX3_errors_64 : decode cX3_errors 64 = .ok (.iload 4, 2) := by decide +kernel
theorem dX3_errors_66 : decode cX3_errors 66 = .ok (.iload_n 2, 1) := by decide +kernel
theorem dX3_errors_67 : decode cX3_errors 67 = .ok (.iadd, 1) := by decide +kernel
theorem dX3_errors_68 : decode cX3_errors 68 = .ok (.if_icmp .ge 25, 3) := by decide +kernel
theorem dX3_errors_71 : decode cX3_errors 71 = .ok (.aload_n 3, 1) := by decide +kernel
theorem dX3_errors_72 : decode cX3_errors 72 = .ok (.aload_n 0, 1) := by decide +kernel
theorem dX3_errors_73 : decode cX3_errors 73 = .ok (.getfield 13, 3) := by decide +kernel
theorem dX3_errors_76 : decode cX3_errors 76 = .ok (.iload 5, 2) := by decide +kernel
theorem dX3_errors_78 : decode cX3_errors 78 = .ok (.iaload, 1) := by decide +kernel
theorem dX3_errors_79 : decode cX3_errors 79 = .ok (.aload_n 0, 1) := by decide +kernel
theorem dX3_errors_80 : decode cX3_errors 80 = .ok (.getfield 16, 3) := by decide +kernel
theorem dX3_errors_83 : decode cX3_errors 83 = .ok (.iload 5, 2) := by decide +kernel
theorem dX3_errors_85 : decode cX3_errors 85 = .ok (.iaload, 1) := by decide +kernel
theorem dX3_errors_86 : decode cX3_errors 86 = .ok (.iastore, 1) := by decide +kernel
theorem dX3_errors_87 : decode cX3_errors 87 = .ok (.iinc 5 1, 3) := by decide +kernel
theorem dX3_errors_90 : decode cX3_errors 90 = .ok (.goto (-37), 3) := by decide +kernel
theorem dX3_errors_93 : decode cX3_errors 93 = .ok (.iconst 0, 1) := by decide +kernel
theorem dX3_errors_94 : decode cX3_errors 94 = .ok (.istore 5, 2) := by decide +kernel
theorem dX3_errors_96 : decode cX3_errors 96 = .ok (.iconst 0, 1) := by decide +kernel
theorem dX3_errors_97 : decode cX3_errors 97 = .ok (.istore 6, 2) := by decide +kernel
theorem dX3_errors_99 : decode cX3_errors 99 = .ok (.iload 6, 2) := by decide +kernel
theorem dX3_errors_101 : decode cX3_errors 101 = .ok (.bipush 10, 2) := by decide +kernel
theorem dX3_errors_103 : decode cX3_errors 103 = .ok (.if_icmp .ge 32, 3) := by decide +kernel
theorem dX3_errors_106 : decode cX3_errors 106 = .ok (.iload 5, 2) := by decide +kernel
theorem dX3_errors_108 : decode cX3_errors 108 = .ok (.aload_n 3, 1) := by decide +kernel
theorem dX3_errors_109 : decode cX3_errors 109 = .ok (.iload 6, 2) := by decide +kernel
theorem dX3_errors_111 : decode cX3_errors 111 = .ok (.iaload, 1) := by decide +kernel
theorem dX3_errors_112 : decode cX3_errors 112 = .ok (.aload_n 0, 1) := by decide +kernel
theorem dX3_errors_113 : decode cX3_errors 113 = .ok (.iload 6, 2) := by decide +kernel
theorem dX3_errors_115 : decode cX3_errors 115 = .ok (.invokevirtual 127, 3) := by decide +kernel
theorem dX3_errors_118 : decode cX3_errors 118 = .ok (.if_icmp .ne 7, 3) := by decide +kernel
theorem dX3_errors_121 : decode cX3_errors 121 = .ok (.iconst 0, 1) := by decide +kernel
theorem dX3_errors_122 : decode cX3_errors 122 = .ok (.goto 4, 3) := by decide +kernel
theorem dX3_errors_125 : decode cX3_errors 125 = .ok (.iconst 1, 1) := by decide +kernel
theorem dX3_errors_126 : decode cX3_errors 126 = .ok (.iadd, 1) := by decide +kernel
theorem dX3_errors_127 : decode cX3_errors 127 = .ok (.istore 5, 2) := by decide +kernel
theorem dX3_errors_129 : decode cX3_errors 129 = .ok (.iinc 6 1, 3) := by decide +kernel
theorem dX3_errors_132 : decode cX3_errors 132 = .ok (.goto (-33), 3) := by decide +kernel
theorem dX3_errors_135 : decode cX3_errors 135 = .ok (.iload 5, 2) := by decide +kernel
theorem dX3_errors_137 : decode cX3_errors 137 = .ok (.ireturn, 1) := by decide +kernel
set_option maxRecDepth 20000 in
theorem ggX3_errorsOf_X3_isShip : GoodIn wsX3_errorsOf wsX3_isShip := goodIn_r _ [6, 7, 8, 9, 5, 10, 38, 39, 40, 41, 42, 43, 44, 45, 46, 47, 48, 49, 50, 51, 52, 53, 54, 55, 56] (by decide +kernel) (by decide +kernel)
set_option maxRecDepth 20000 in
theorem gX3_errorsOf_X3_isShip : GoodIn wsX3_errorsOf (wsV RX3 99 RX3 yX3_isShip wsX3_isShip) := goodIn_app (goodIn_of _ (by decide +kernel)) ggX3_errorsOf_X3_isShip
set_option maxRecDepth 20000 in
theorem ggX3_errorsOf_X3_errors : GoodIn wsX3_errorsOf wsX3_errors := goodIn_r _ [14, 15, 16, 17, 18, 19, 20, 21, 22, 23, 5, 24, 25, 26, 27, 28, 29, 30, 31, 32, 33, 38, 39, 40, 41, 42, 43, 44, 45, 46, 47, 48, 49, 50, 51, 52, 53, 54, 55, 56] (by decide +kernel) (by decide +kernel)
set_option maxRecDepth 20000 in
theorem gX3_errorsOf_X3_errors : GoodIn wsX3_errorsOf (wsV RX3 142 RX3 yX3_errors wsX3_errors) := goodIn_app (goodIn_of _ (by decide +kernel)) ggX3_errorsOf_X3_errors
set_option maxRecDepth 20000 in
theorem ggX3_errorsOf_X3_fail : GoodIn wsX3_errorsOf wsX3_fail := goodIn_r _ [37, 1, 38, 39, 40, 41, 42, 43, 44, 45, 46, 47, 48, 49, 50, 51, 52, 53, 54, 55, 56] (by decide +kernel) (by decide +kernel)
set_option maxRecDepth 20000 in
theorem gX3_errorsOf_X3_fail : GoodIn wsX3_errorsOf (wsV RX3 85 RX3 yX3_fail wsX3_fail) := goodIn_app (goodIn_of _ (by decide +kernel)) ggX3_errorsOf_X3_fail
theorem dX3_errorsOf_0 : decode cX3_errorsOf 0 = .ok (.aload_n 0, 1) := by decide +kernel
theorem dX3_errorsOf_1 : decode cX3_errorsOf 1 = .ok (.iconst 0, 1) := by decide +kernel
theorem dX3_errorsOf_2 : decode cX3_errorsOf 2 = .ok (.putfield 44, 3) := by decide +kernel
theorem dX3_errorsOf_5 : decode cX3_errorsOf 5 = .ok (.aload_n 0, 1) := by decide +kernel
theorem dX3_errorsOf_6 : decode cX3_errorsOf 6 = .ok (.iload_n 1, 1) := by decide +kernel
theorem dX3_errorsOf_7 : decode cX3_errorsOf 7 = .ok (.invokevirtual 99, 3) := by decide +kernel
theorem dX3_errorsOf_10 : decode cX3_errorsOf 10 = .ok (.ifCond .eq 12, 3) := by decide +kernel
theorem dX3_errorsOf_13 : decode cX3_errorsOf 13 = .ok (.aload_n 0, 1) := by decide +kernel
theorem dX3_errorsOf_14 : decode cX3_errorsOf 14 = .ok (.iload_n 1, 1) := by decide +kernel
theorem dX3_errorsOf_15 : decode cX3_errorsOf 15 = .ok (.iconst 0, 1) := by decide +kernel
theorem dX3_errorsOf_16 : decode cX3_errorsOf 16 = .ok (.invokevirtual 142, 3) := by decide +kernel
theorem dX3_errorsOf_19 : decode cX3_errorsOf 19 = .ok (.goto 8, 3) := by decide +kernel
theorem dX3_errorsOf_22 : decode cX3_errorsOf 22 = .ok (.aload_n 0, 1) := by decide +kernel
theorem dX3_errorsOf_23 : decode cX3_errorsOf 23 = .ok (.iconst 1, 1) := by decide +kernel
theorem dX3_errorsOf_24 : decode cX3_errorsOf 24 = .ok (.invokevirtual 85, 3) := by decide +kernel
theorem dX3_errorsOf_27 : decode cX3_errorsOf 27 = .ok (.ireturn, 1) := by decide +kernel
set_option maxRecDepth 20000 in
theorem ggX3_behind_X3_lag : GoodIn wsX3_behind wsX3_lag := goodIn_r _ [6, 7, 8, 9, 10, 11, 5, 12, 13, 14, 15, 16, 17, 18, 19, 20, 21, 22, 23, 24, 25, 26, 27, 28, 29, 30, 31, 32] (by decide +kernel) (by decide +kernel)
set_option maxRecDepth 20000 in
theorem gX3_behind_X3_lag : GoodIn wsX3_behind (wsV RX3 139 RX3 yX3_lag wsX3_lag) := goodIn_app (goodIn_of _ (by decide +kernel)) ggX3_behind_X3_lag
theorem dX3_behind_0 : decode cX3_behind 0 = .ok (.iconst (-1), 1) := by decide +kernel
theorem dX3_behind_1 : decode cX3_behind 1 = .ok (.istore_n 1, 1) := by decide +kernel
theorem dX3_behind_2 : decode cX3_behind 2 = .ok (.iconst 0, 1) := by decide +kernel
theorem dX3_behind_3 : decode cX3_behind 3 = .ok (.istore_n 2, 1) := by decide +kernel
theorem dX3_behind_4 : decode cX3_behind 4 = .ok (.iload_n 2, 1) := by decide +kernel
theorem dX3_behind_5 : decode cX3_behind 5 = .ok (.aload_n 0, 1) := by decide +kernel
theorem dX3_behind_6 : decode cX3_behind 6 = .ok (.getfield 48, 3) := by decide +kernel
theorem dX3_behind_9 : decode cX3_behind 9 = .ok (.if_icmp .ge 29, 3) := by decide +kernel
theorem dX3_behind_12 : decode cX3_behind 12 = .ok (.iload_n 1, 1) := by decide +kernel
theorem dX3_behind_13 : decode cX3_behind 13 = .ok (.iconst (-1), 1) := by decide +kernel
theorem dX3_behind_14 : decode cX3_behind 14 = .ok (.if_icmp .eq 16, 3) := by decide +kernel
theorem dX3_behind_17 : decode cX3_behind 17 = .ok (.aload_n 0, 1) := by decide +kernel
theorem dX3_behind_18 : decode cX3_behind 18 = .ok (.iload_n 2, 1) := by decide +kernel
theorem dX3_behind_19 : decode cX3_behind 19 = .ok (.invokevirtual 139, 3) := by decide +kernel
theorem dX3_behind_22 : decode cX3_behind 22 = .ok (.aload_n 0, 1) := by decide +kernel
theorem dX3_behind_23 : decode cX3_behind 23 = .ok (.iload_n 1, 1) := by decide +kernel
theorem dX3_behind_24 : decode cX3_behind 24 = .ok (.invokevirtual 139, 3) := by decide +kernel
theorem dX3_behind_27 : decode cX3_behind 27 = .ok (.if_icmp .le 5, 3) := by decide +kernel
theorem dX3_behind_30 : decode cX3_behind 30 = .ok (.iload_n 2, 1) := by decide +kernel
theorem dX3_behind_31 : decode cX3_behind 31 = .ok (.istore_n 1, 1) := by decide +kernel
theorem dX3_behind_32 : decode cX3_behind 32 = .ok (.iinc 2 1, 3) := by decide +kernel
theorem dX3_behind_35 : decode cX3_behind 35 = .ok (.goto (-31), 3) := by decide +kernel
theorem dX3_behind_38 : decode cX3_behind 38 = .ok (.iload_n 1, 1) := by decide +kernel
theorem dX3_behind_39 : decode cX3_behind 39 = .ok (.ireturn, 1) := by decide +kernel
set_option maxRecDepth 20000 in
theorem ggX3_farthestBehind_X3_behind : GoodIn wsX3_farthestBehind wsX3_behind := goodIn_r _ [5, 6, 7, 8, 9, 4, 10, 11, 12, 13, 14, 15, 16, 17, 23, 24, 25, 26, 27, 28, 29, 30, 31, 32, 33, 34, 35, 36, 37, 38, 39, 40, 41] (by decide +kernel) (by decide +kernel)
set_option maxRecDepth 20000 in
theorem gX3_farthestBehind_X3_behind : GoodIn wsX3_farthestBehind (wsV RX3 145 RX3 yX3_behind wsX3_behind) := goodIn_app (goodIn_of _ (by decide +kernel)) ggX3_farthestBehind_X3_behind
set_option maxRecDepth 20000 in
theorem ggX3_farthestBehind_X3_told : GoodIn wsX3_farthestBehind wsX3_told := goodIn_r _ [21, 22, 23, 24, 25, 26, 27, 28, 29, 30, 31, 32, 33, 34, 35, 36, 37, 38, 39, 40, 41] (by decide +kernel) (by decide +kernel)
set_option maxRecDepth 20000 in
theorem gX3_farthestBehind_X3_told : GoodIn wsX3_farthestBehind (wsV RX3 108 RX3 yX3_told wsX3_told) := goodIn_app (goodIn_of _ (by decide +kernel)) ggX3_farthestBehind_X3_told
theorem dX3_farthestBehind_0 : decode cX3_farthestBehind 0 = .ok (.aload_n 0, 1) := by decide +kernel
theorem dX3_farthestBehind_1 : decode cX3_farthestBehind 1 = .ok (.aload_n 0, 1) := by decide +kernel
theorem dX3_farthestBehind_2 : decode cX3_farthestBehind 2 = .ok (.invokevirtual 145, 3) := by decide +kernel
theorem dX3_farthestBehind_5 : decode cX3_farthestBehind 5 = .ok (.invokevirtual 108, 3) := by decide +kernel
theorem dX3_farthestBehind_8 : decode cX3_farthestBehind 8 = .ok (.ireturn, 1) := by decide +kernel
set_option maxRecDepth 20000 in
theorem ggX3_until_X3_lag : GoodIn wsX3_until wsX3_lag := goodIn_r _ [7, 8, 9, 10, 11, 12, 6, 13, 14, 15, 16, 17, 18, 19, 20, 21, 22, 23, 24, 25, 26, 27, 28, 29, 30, 31, 32, 33] (by decide +kernel) (by decide +kernel)
set_option maxRecDepth 20000 in
theorem gX3_until_X3_lag : GoodIn wsX3_until (wsV RX3 139 RX3 yX3_lag wsX3_lag) := goodIn_app (goodIn_of _ (by decide +kernel)) ggX3_until_X3_lag
theorem dX3_until_0 : decode cX3_until 0 = .ok (.aload_n 0, 1) := by decide +kernel
theorem dX3_until_1 : decode cX3_until 1 = .ok (.iload_n 1, 1) := by decide +kernel
theorem dX3_until_2 : decode cX3_until 2 = .ok (.invokevirtual 139, 3) := by decide +kernel
theorem dX3_until_5 : decode cX3_until 5 = .ok (.istore_n 2, 1) := by decide +kernel
theorem dX3_until_6 : decode cX3_until 6 = .ok (.iload_n 2, 1) := by decide +kernel
theorem dX3_until_7 : decode cX3_until 7 = .ok (.ifCond .le 14, 3) := by decide +kernel
theorem dX3_until_10 : decode cX3_until 10 = .ok (.aload_n 0, 1) := by decide +kernel
theorem dX3_until_11 : decode cX3_until 11 = .ok (.getfield 71, 3) := by decide +kernel
theorem dX3_until_14 : decode cX3_until 14 = .ok (.ifCond .eq 7, 3) := by decide +kernel
theorem dX3_until_17 : decode cX3_until 17 = .ok (.iconst (-1), 1) := by decide +kernel
theorem dX3_until_18 : decode cX3_until 18 = .ok (.goto 20, 3) := by decide +kernel
theorem dX3_until_21 : decode cX3_until 21 = .ok (.iload_n 2, 1) := by decide +kernel
theorem dX3_until_22 : decode cX3_until 22 = .ok (.aload_n 0, 1) := by decide +kernel
theorem dX3_until_23 : decode cX3_until 23 = .ok (.getfield 29, 3) := by decide +kernel
theorem dX3_until_26 : decode cX3_until 26 = .ok (.iload_n 1, 1) := by decide +kernel
theorem dX3_until_27 : decode cX3_until 27 = .ok (.iaload, 1) := by decide +kernel
theorem dX3_until_28 : decode cX3_until 28 = .ok (.iadd, 1) := by decide +kernel
theorem dX3_until_29 : decode cX3_until 29 = .ok (.iconst 1, 1) := by decide +kernel
theorem dX3_until_30 : decode cX3_until 30 = .ok (.isub, 1) := by decide +kernel
theorem dX3_until_31 : decode cX3_until 31 = .ok (.aload_n 0, 1) := by decide +kernel
theorem dX3_until_32 : decode cX3_until 32 = .ok (.getfield 29, 3) := by decide +kernel
theorem dX3_until_35 : decode cX3_until 35 = .ok (.iload_n 1, 1) := by decide +kernel
theorem dX3_until_36 : decode cX3_until 36 = .ok (.iaload, 1) := by decide +kernel
theorem dX3_until_37 : decode cX3_until 37 = .ok (.idiv, 1) := by decide +kernel
theorem dX3_until_38 : decode cX3_until 38 = .ok (.ireturn, 1) := by decide +kernel
set_option maxRecDepth 20000 in
theorem ggX3_hoursUntilCaughtUp_X3_isShip : GoodIn wsX3_hoursUntilCaughtUp wsX3_isShip := goodIn_r _ [6, 7, 8, 9, 5, 10, 32, 33, 34, 35, 36, 37, 38, 39, 40, 41, 42, 43, 44, 45, 46, 47, 48, 49, 50] (by decide +kernel) (by decide +kernel)
set_option maxRecDepth 20000 in
theorem gX3_hoursUntilCaughtUp_X3_isShip : GoodIn wsX3_hoursUntilCaughtUp (wsV RX3 99 RX3 yX3_isShip wsX3_isShip) := goodIn_app (goodIn_of _ (by decide +kernel)) ggX3_hoursUntilCaughtUp_X3_isShip
set_option maxRecDepth 20000 in
theorem ggX3_hoursUntilCaughtUp_X3_until : GoodIn wsX3_hoursUntilCaughtUp wsX3_until := goodIn_r _ [14, 15, 16, 17, 18, 19, 5, 20, 21, 22, 23, 24, 25, 26, 27, 32, 33, 34, 35, 36, 37, 38, 39, 40, 41, 42, 43, 44, 45, 46, 47, 48, 49, 50] (by decide +kernel) (by decide +kernel)
set_option maxRecDepth 20000 in
theorem gX3_hoursUntilCaughtUp_X3_until : GoodIn wsX3_hoursUntilCaughtUp (wsV RX3 148 RX3 yX3_until wsX3_until) := goodIn_app (goodIn_of _ (by decide +kernel)) ggX3_hoursUntilCaughtUp_X3_until
set_option maxRecDepth 20000 in
theorem ggX3_hoursUntilCaughtUp_X3_fail : GoodIn wsX3_hoursUntilCaughtUp wsX3_fail := goodIn_r _ [31, 1, 32, 33, 34, 35, 36, 37, 38, 39, 40, 41, 42, 43, 44, 45, 46, 47, 48, 49, 50] (by decide +kernel) (by decide +kernel)
set_option maxRecDepth 20000 in
theorem gX3_hoursUntilCaughtUp_X3_fail : GoodIn wsX3_hoursUntilCaughtUp (wsV RX3 85 RX3 yX3_fail wsX3_fail) := goodIn_app (goodIn_of _ (by decide +kernel)) ggX3_hoursUntilCaughtUp_X3_fail
theorem dX3_hoursUntilCaughtUp_0 : decode cX3_hoursUntilCaughtUp 0 = .ok (.aload_n 0, 1) := by decide +kernel
theorem dX3_hoursUntilCaughtUp_1 : decode cX3_hoursUntilCaughtUp 1 = .ok (.iconst 0, 1) := by decide +kernel
theorem dX3_hoursUntilCaughtUp_2 : decode cX3_hoursUntilCaughtUp 2 = .ok (.putfield 44, 3) := by decide +kernel
theorem dX3_hoursUntilCaughtUp_5 : decode cX3_hoursUntilCaughtUp 5 = .ok (.aload_n 0, 1) := by decide +kernel
theorem dX3_hoursUntilCaughtUp_6 : decode cX3_hoursUntilCaughtUp 6 = .ok (.iload_n 1, 1) := by decide +kernel
theorem dX3_hoursUntilCaughtUp_7 : decode cX3_hoursUntilCaughtUp 7 = .ok (.invokevirtual 99, 3) := by decide +kernel
theorem dX3_hoursUntilCaughtUp_10 : decode cX3_hoursUntilCaughtUp 10 = .ok (.ifCond .eq 11, 3) := by decide +kernel
theorem dX3_hoursUntilCaughtUp_13 : decode cX3_hoursUntilCaughtUp 13 = .ok (.aload_n 0, 1) := by decide +kernel
theorem dX3_hoursUntilCaughtUp_14 : decode cX3_hoursUntilCaughtUp 14 = .ok (.iload_n 1, 1) := by decide +kernel
theorem dX3_hoursUntilCaughtUp_15 : decode cX3_hoursUntilCaughtUp 15 = .ok (.invokevirtual 148, 3) := by decide +kernel
theorem dX3_hoursUntilCaughtUp_18 : decode cX3_hoursUntilCaughtUp 18 = .ok (.goto 8, 3) := by decide +kernel
theorem dX3_hoursUntilCaughtUp_21 : decode cX3_hoursUntilCaughtUp 21 = .ok (.aload_n 0, 1) := by decide +kernel
theorem dX3_hoursUntilCaughtUp_22 : decode cX3_hoursUntilCaughtUp 22 = .ok (.iconst 1, 1) := by decide +kernel
theorem dX3_hoursUntilCaughtUp_23 : decode cX3_hoursUntilCaughtUp 23 = .ok (.invokevirtual 85, 3) := by decide +kernel
theorem dX3_hoursUntilCaughtUp_26 : decode cX3_hoursUntilCaughtUp 26 = .ok (.ireturn, 1) := by decide +kernel
set_option maxRecDepth 20000 in
theorem ggX3_errorsIn_X3_isShip : GoodIn wsX3_errorsIn wsX3_isShip := goodIn_r _ [8, 9, 10, 11, 7, 12, 40, 41, 42, 43, 44, 45, 46, 47, 48, 49, 50, 51, 52, 53, 54, 55, 56, 57, 58] (by decide +kernel) (by decide +kernel)
set_option maxRecDepth 20000 in
theorem gX3_errorsIn_X3_isShip : GoodIn wsX3_errorsIn (wsV RX3 99 RX3 yX3_isShip wsX3_isShip) := goodIn_app (goodIn_of _ (by decide +kernel)) ggX3_errorsIn_X3_isShip
set_option maxRecDepth 20000 in
theorem ggX3_errorsIn_X3_fail : GoodIn wsX3_errorsIn wsX3_fail := goodIn_r _ [16, 1, 40, 41, 42, 43, 44, 45, 46, 47, 48, 49, 50, 51, 52, 53, 54, 55, 56, 57, 58] (by decide +kernel) (by decide +kernel)
set_option maxRecDepth 20000 in
theorem gX3_errorsIn_X3_fail : GoodIn wsX3_errorsIn (wsV RX3 85 RX3 yX3_fail wsX3_fail) := goodIn_app (goodIn_of _ (by decide +kernel)) ggX3_errorsIn_X3_fail
set_option maxRecDepth 20000 in
theorem ggX3_errorsIn_X3_isIn : GoodIn wsX3_errorsIn wsX3_isIn := goodIn_r _ [12] (by decide +kernel) (by decide +kernel)
set_option maxRecDepth 20000 in
theorem gX3_errorsIn_X3_isIn : GoodIn wsX3_errorsIn (va_wsS RX3 51 yX3_isIn wsX3_isIn) := goodIn_app (goodIn_of _ (by decide +kernel)) ggX3_errorsIn_X3_isIn
set_option maxRecDepth 20000 in
theorem ggX3_errorsIn_X3_errors : GoodIn wsX3_errorsIn wsX3_errors := goodIn_r _ [20, 21, 22, 23, 24, 25, 26, 27, 28, 29, 7, 30, 31, 32, 33, 34, 35, 36, 37, 38, 39, 40, 41, 42, 43, 44, 45, 46, 47, 48, 49, 50, 51, 52, 53, 54, 55, 56, 57, 58] (by decide +kernel) (by decide +kernel)
set_option maxRecDepth 20000 in
theorem gX3_errorsIn_X3_errors : GoodIn wsX3_errorsIn (wsV RX3 142 RX3 yX3_errors wsX3_errors) := goodIn_app (goodIn_of _ (by decide +kernel)) ggX3_errorsIn_X3_errors
theorem dX3_errorsIn_0 : decode cX3_errorsIn 0 = .ok (.aload_n 0, 1) := by decide +kernel
theorem dX3_errorsIn_1 : decode cX3_errorsIn 1 = .ok (.iconst 0, 1) := by decide +kernel
theorem dX3_errorsIn_2 : decode cX3_errorsIn 2 = .ok (.putfield 44, 3) := by decide +kernel
theorem dX3_errorsIn_5 : decode cX3_errorsIn 5 = .ok (.aload_n 0, 1) := by decide +kernel
theorem dX3_errorsIn_6 : decode cX3_errorsIn 6 = .ok (.iload_n 1, 1) := by decide +kernel
theorem dX3_errorsIn_7 : decode cX3_errorsIn 7 = .ok (.invokevirtual 99, 3) := by decide +kernel
theorem dX3_errorsIn_10 : decode cX3_errorsIn 10 = .ok (.ifCond .ne 9, 3) := by decide +kernel
theorem dX3_errorsIn_13 : decode cX3_errorsIn 13 = .ok (.aload_n 0, 1) := by decide +kernel
theorem dX3_errorsIn_14 : decode cX3_errorsIn 14 = .ok (.iconst 1, 1) := by decide +kernel
theorem dX3_errorsIn_15 : decode cX3_errorsIn 15 = .ok (.invokevirtual 85, 3) := by decide +kernel
theorem dX3_errorsIn_18 : decode cX3_errorsIn 18 = .ok (.ireturn, 1) := by decide +kernel
theorem dX3_errorsIn_19 : decode cX3_errorsIn 19 = .ok (.iload_n 2, 1) := by decide +kernel
theorem dX3_errorsIn_20 : decode cX3_errorsIn 20 = .ok (.iconst 1, 1) := by decide +kernel
theorem dX3_errorsIn_21 : decode cX3_errorsIn 21 = .ok (.bipush 60, 2) := by decide +kernel
theorem dX3_errorsIn_23 : decode cX3_errorsIn 23 = .ok (.invokestatic 51, 3) := by decide +kernel
theorem dX3_errorsIn_26 : decode cX3_errorsIn 26 = .ok (.ifCond .eq 30, 3) := by decide +kernel
theorem dX3_errorsIn_29 : decode cX3_errorsIn 29 = .ok (.aload_n 0, 1) := by decide +kernel
theorem dX3_errorsIn_30 : decode cX3_errorsIn 30 = .ok (.iload_n 1, 1) := by decide +kernel
theorem dX3_errorsIn_31 : decode cX3_errorsIn 31 = .ok (.aload_n 0, 1) := by decide +kernel
theorem dX3_errorsIn_32 : decode cX3_errorsIn 32 = .ok (.getfield 71, 3) := by decide +kernel
theorem dX3_errorsIn_35 : decode cX3_errorsIn 35 = .ok (.ifCond .eq 7, 3) := by decide +kernel
theorem dX3_errorsIn_38 : decode cX3_errorsIn 38 = .ok (.iconst 0, 1) := by decide +kernel
theorem dX3_errorsIn_39 : decode cX3_errorsIn 39 = .ok (.goto 11, 3) := by decide +kernel
theorem dX3_errorsIn_42 : decode cX3_errorsIn 42 = .ok (.iload_n 2, 1) := by decide +kernel
theorem dX3_errorsIn_43 : decode cX3_errorsIn 43 = .ok (.aload_n 0, 1) := by decide +kernel
theorem dX3_errorsIn_44 : decode cX3_errorsIn 44 = .ok (.getfield 29, 3) := by decide +kernel
theorem dX3_errorsIn_47 : decode cX3_errorsIn 47 = .ok (.iload_n 1, 1) := by decide +kernel
theorem dX3_errorsIn_48 : decode cX3_errorsIn 48 = .ok (.iaload, 1) := by decide +kernel
theorem dX3_errorsIn_49 : decode cX3_errorsIn 49 = .ok (.imul, 1) := by decide +kernel
theorem dX3_errorsIn_50 : decode cX3_errorsIn 50 = .ok (.invokevirtual 142, 3) := by decide +kernel
theorem dX3_errorsIn_53 : decode cX3_errorsIn 53 = .ok (.goto 8, 3) := by decide +kernel
theorem dX3_errorsIn_56 : decode cX3_errorsIn 56 = .ok (.aload_n 0, 1) := by decide +kernel
theorem dX3_errorsIn_57 : decode cX3_errorsIn 57 = .ok (.iconst 2, 1) := by decide +kernel
theorem dX3_errorsIn_58 : decode cX3_errorsIn 58 = .ok (.invokevirtual 85, 3) := by decide +kernel
theorem dX3_errorsIn_61 : decode cX3_errorsIn 61 = .ok (.ireturn, 1) := by decide +kernel
set_option maxRecDepth 20000 in
theorem ggX3_paceWanted_X3_isShip : GoodIn wsX3_paceWanted wsX3_isShip := goodIn_r _ [11, 12, 13, 14, 10, 15, 31, 32, 33, 34, 35, 36, 37, 38, 39, 40, 41, 42, 43, 44, 45, 46, 47, 48, 49] (by decide +kernel) (by decide +kernel)
set_option maxRecDepth 20000 in
theorem gX3_paceWanted_X3_isShip : GoodIn wsX3_paceWanted (wsV RX3 99 RX3 yX3_isShip wsX3_isShip) := goodIn_app (goodIn_of _ (by decide +kernel)) ggX3_paceWanted_X3_isShip
set_option maxRecDepth 20000 in
theorem ggX3_paceWanted_X3_fail : GoodIn wsX3_paceWanted wsX3_fail := goodIn_r _ [19, 1, 31, 32, 33, 34, 35, 36, 37, 38, 39, 40, 41, 42, 43, 44, 45, 46, 47, 48, 49] (by decide +kernel) (by decide +kernel)
set_option maxRecDepth 20000 in
theorem gX3_paceWanted_X3_fail : GoodIn wsX3_paceWanted (wsV RX3 85 RX3 yX3_fail wsX3_fail) := goodIn_app (goodIn_of _ (by decide +kernel)) ggX3_paceWanted_X3_fail
set_option maxRecDepth 20000 in
theorem ggX3_paceWanted_X3_isIn : GoodIn wsX3_paceWanted wsX3_isIn := goodIn_r _ [15] (by decide +kernel) (by decide +kernel)
set_option maxRecDepth 20000 in
theorem gX3_paceWanted_X3_isIn : GoodIn wsX3_paceWanted (va_wsS RX3 51 yX3_isIn wsX3_isIn) := goodIn_app (goodIn_of _ (by decide +kernel)) ggX3_paceWanted_X3_isIn
set_option maxRecDepth 20000 in
theorem ggX3_paceWanted_X3_lag : GoodIn wsX3_paceWanted wsX3_lag := goodIn_r _ [23, 24, 25, 26, 27, 28, 10, 29, 30, 31, 32, 33, 34, 35, 36, 37, 38, 39, 40, 41, 42, 43, 44, 45, 46, 47, 48, 49] (by decide +kernel) (by decide +kernel)
set_option maxRecDepth 20000 in
theorem gX3_paceWanted_X3_lag : GoodIn wsX3_paceWanted (wsV RX3 139 RX3 yX3_lag wsX3_lag) := goodIn_app (goodIn_of _ (by decide +kernel)) ggX3_paceWanted_X3_lag
theorem dX3_paceWanted_0 : decode cX3_paceWanted 0 = .ok (.aload_n 0, 1) := by decide +kernel
theorem dX3_paceWanted_1 : decode cX3_paceWanted 1 = .ok (.iconst 0, 1) := by decide +kernel
theorem dX3_paceWanted_2 : decode cX3_paceWanted 2 = .ok (.putfield 44, 3) := by decide +kernel
theorem dX3_paceWanted_5 : decode cX3_paceWanted 5 = .ok (.aload_n 0, 1) := by decide +kernel
theorem dX3_paceWanted_6 : decode cX3_paceWanted 6 = .ok (.iload_n 1, 1) := by decide +kernel
theorem dX3_paceWanted_7 : decode cX3_paceWanted 7 = .ok (.invokevirtual 99, 3) := by decide +kernel
theorem dX3_paceWanted_10 : decode cX3_paceWanted 10 = .ok (.ifCond .ne 9, 3) := by decide +kernel
theorem dX3_paceWanted_13 : decode cX3_paceWanted 13 = .ok (.aload_n 0, 1) := by decide +kernel
theorem dX3_paceWanted_14 : decode cX3_paceWanted 14 = .ok (.iconst 1, 1) := by decide +kernel
theorem dX3_paceWanted_15 : decode cX3_paceWanted 15 = .ok (.invokevirtual 85, 3) := by decide +kernel
theorem dX3_paceWanted_18 : decode cX3_paceWanted 18 = .ok (.ireturn, 1) := by decide +kernel
theorem dX3_paceWanted_19 : decode cX3_paceWanted 19 = .ok (.iload_n 2, 1) := by decide +kernel
theorem dX3_paceWanted_20 : decode cX3_paceWanted 20 = .ok (.iconst 1, 1) := by decide +kernel
theorem dX3_paceWanted_21 : decode cX3_paceWanted 21 = .ok (.bipush 60, 2) := by decide +kernel
theorem dX3_paceWanted_23 : decode cX3_paceWanted 23 = .ok (.invokestatic 51, 3) := by decide +kernel
theorem dX3_paceWanted_26 : decode cX3_paceWanted 26 = .ok (.ifCond .ne 9, 3) := by decide +kernel
theorem dX3_paceWanted_29 : decode cX3_paceWanted 29 = .ok (.aload_n 0, 1) := by decide +kernel
theorem dX3_paceWanted_30 : decode cX3_paceWanted 30 = .ok (.iconst 2, 1) := by decide +kernel
theorem dX3_paceWanted_31 : decode cX3_paceWanted 31 = .ok (.invokevirtual 85, 3) := by decide +kernel
theorem dX3_paceWanted_34 : decode cX3_paceWanted 34 = .ok (.ireturn, 1) := by decide +kernel
theorem dX3_paceWanted_35 : decode cX3_paceWanted 35 = .ok (.aload_n 0, 1) := by decide +kernel
theorem dX3_paceWanted_36 : decode cX3_paceWanted 36 = .ok (.iload_n 1, 1) := by decide +kernel
theorem dX3_paceWanted_37 : decode cX3_paceWanted 37 = .ok (.invokevirtual 139, 3) := by decide +kernel
theorem dX3_paceWanted_40 : decode cX3_paceWanted 40 = .ok (.istore_n 3, 1) := by decide +kernel
theorem dX3_paceWanted_41 : decode cX3_paceWanted 41 = .ok (.iconst 1, 1) := by decide +kernel
theorem dX3_paceWanted_42 : decode cX3_paceWanted 42 = .ok (.iload_n 3, 1) := by decide +kernel
theorem dX3_paceWanted_43 : decode cX3_paceWanted 43 = .ok (.iload_n 2, 1) := by decide +kernel
theorem dX3_paceWanted_44 : decode cX3_paceWanted 44 = .ok (.iadd, 1) := by decide +kernel
theorem dX3_paceWanted_45 : decode cX3_paceWanted 45 = .ok (.iconst 1, 1) := by decide +kernel
theorem dX3_paceWanted_46 : decode cX3_paceWanted 46 = .ok (.isub, 1) := by decide +kernel
theorem dX3_paceWanted_47 : decode cX3_paceWanted 47 = .ok (.iload_n 2, 1) := by decide +kernel
theorem dX3_paceWanted_48 : decode cX3_paceWanted 48 = .ok (.idiv, 1) := by decide +kernel
theorem dX3_paceWanted_49 : decode cX3_paceWanted 49 = .ok (.invokestatic 151, 3) := by decide +kernel
theorem dX3_paceWanted_52 : decode cX3_paceWanted 52 = .ok (.istore 4, 2) := by decide +kernel
theorem dX3_paceWanted_54 : decode cX3_paceWanted 54 = .ok (.iload_n 3, 1) := by decide +kernel
theorem dX3_paceWanted_55 : decode cX3_paceWanted 55 = .ok (.ifCond .le 10, 3) := by decide +kernel
theorem dX3_paceWanted_58 : decode cX3_paceWanted 58 = .ok (.aload_n 0, 1) := by decide +kernel
theorem dX3_paceWanted_59 : decode cX3_paceWanted 59 = .ok (.getfield 71, 3) := by decide +kernel
theorem dX3_paceWanted_62 : decode cX3_paceWanted 62 = .ok (.ifCond .ne 9, 3) := by decide +kernel
theorem dX3_paceWanted_65 : decode cX3_paceWanted 65 = .ok (.iload 4, 2) := by decide +kernel
theorem dX3_paceWanted_67 : decode cX3_paceWanted 67 = .ok (.iconst 5, 1) := by decide +kernel
theorem dX3_paceWanted_68 : decode cX3_paceWanted 68 = .ok (.if_icmp .le 7, 3) := by decide +kernel
theorem dX3_paceWanted_71 : decode cX3_paceWanted 71 = .ok (.iconst (-1), 1) := by decide +kernel
theorem dX3_paceWanted_72 : decode cX3_paceWanted 72 = .ok (.goto 5, 3) := by decide +kernel
theorem dX3_paceWanted_75 : decode cX3_paceWanted 75 = .ok (.iload 4, 2) := by decide +kernel
theorem dX3_paceWanted_77 : decode cX3_paceWanted 77 = .ok (.ireturn, 1) := by decide +kernel
set_option maxRecDepth 20000 in
theorem ggX3_wouldCompact_X3_mark : GoodIn wsX3_wouldCompact wsX3_mark := goodIn_r _ [6, 7, 8, 9, 10, 11, 12, 13, 14, 15, 16, 17, 18, 19, 20, 21, 22, 23, 24, 25, 26, 27, 28, 29, 30, 31, 32, 33, 34, 35, 36, 37, 38] (by decide +kernel) (by decide +kernel)
set_option maxRecDepth 20000 in
theorem gX3_wouldCompact_X3_mark : GoodIn wsX3_wouldCompact (wsV RX3 96 RX3 yX3_mark wsX3_mark) := goodIn_app (goodIn_of _ (by decide +kernel)) ggX3_wouldCompact_X3_mark
theorem dX3_wouldCompact_0 : decode cX3_wouldCompact 0 = .ok (.aload_n 0, 1) := by decide +kernel
theorem dX3_wouldCompact_1 : decode cX3_wouldCompact 1 = .ok (.iconst 0, 1) := by decide +kernel
theorem dX3_wouldCompact_2 : decode cX3_wouldCompact 2 = .ok (.putfield 44, 3) := by decide +kernel
theorem dX3_wouldCompact_5 : decode cX3_wouldCompact 5 = .ok (.aload_n 0, 1) := by decide +kernel
theorem dX3_wouldCompact_6 : decode cX3_wouldCompact 6 = .ok (.invokevirtual 96, 3) := by decide +kernel
theorem dX3_wouldCompact_9 : decode cX3_wouldCompact 9 = .ok (.ireturn, 1) := by decide +kernel
set_option maxRecDepth 20000 in
theorem ggX3_misses_X3_mark : GoodIn wsX3_misses wsX3_mark := goodIn_r _ [8, 9, 10, 1, 11, 12, 13, 14, 15, 2, 3, 16, 17, 18, 23, 24, 25, 26, 27, 28, 29, 30, 31, 32, 33, 34, 35, 36, 37, 38, 39, 40, 41] (by decide +kernel) (by decide +kernel)
set_option maxRecDepth 20000 in
theorem gX3_misses_X3_mark : GoodIn wsX3_misses (wsV RX3 96 RX3 yX3_mark wsX3_mark) := goodIn_app (goodIn_of _ (by decide +kernel)) ggX3_misses_X3_mark
set_option maxRecDepth 20000 in
theorem ggX3_misses_X3_from : GoodIn wsX3_misses wsX3_from := goodIn_r _ [22, 2, 18, 23, 24, 25, 26, 27, 28, 29, 30, 31, 32, 33, 34, 35, 36, 37, 38, 39, 40, 41] (by decide +kernel) (by decide +kernel)
set_option maxRecDepth 20000 in
theorem gX3_misses_X3_from : GoodIn wsX3_misses (wsV RX3 102 RX3 yX3_from wsX3_from) := goodIn_app (goodIn_of _ (by decide +kernel)) ggX3_misses_X3_from
theorem dX3_misses_0 : decode cX3_misses 0 = .ok (.aload_n 0, 1) := by decide +kernel
theorem dX3_misses_1 : decode cX3_misses 1 = .ok (.invokevirtual 96, 3) := by decide +kernel
theorem dX3_misses_4 : decode cX3_misses 4 = .ok (.pop, 1) := by decide +kernel
theorem dX3_misses_5 : decode cX3_misses 5 = .ok (.iconst 0, 1) := by decide +kernel
theorem dX3_misses_6 : decode cX3_misses 6 = .ok (.istore_n 2, 1) := by decide +kernel
theorem dX3_misses_7 : decode cX3_misses 7 = .ok (.aload_n 0, 1) := by decide +kernel
theorem dX3_misses_8 : decode cX3_misses 8 = .ok (.aload_n 0, 1) := by decide +kernel
theorem dX3_misses_9 : decode cX3_misses 9 = .ok (.getfield 32, 3) := by decide +kernel
theorem dX3_misses_12 : decode cX3_misses 12 = .ok (.iload_n 1, 1) := by decide +kernel
theorem dX3_misses_13 : decode cX3_misses 13 = .ok (.iaload, 1) := by decide +kernel
theorem dX3_misses_14 : decode cX3_misses 14 = .ok (.invokevirtual 102, 3) := by decide +kernel
theorem dX3_misses_17 : decode cX3_misses 17 = .ok (.istore_n 3, 1) := by decide +kernel
theorem dX3_misses_18 : decode cX3_misses 18 = .ok (.iload_n 3, 1) := by decide +kernel
theorem dX3_misses_19 : decode cX3_misses 19 = .ok (.aload_n 0, 1) := by decide +kernel
theorem dX3_misses_20 : decode cX3_misses 20 = .ok (.getfield 58, 3) := by decide +kernel
theorem dX3_misses_23 : decode cX3_misses 23 = .ok (.if_icmp .ge 26, 3) := by decide +kernel
theorem dX3_misses_26 : decode cX3_misses 26 = .ok (.iload_n 2, 1) := by decide +kernel
theorem dX3_misses_27 : decode cX3_misses 27 = .ok (.aload_n 0, 1) := by decide +kernel
theorem dX3_misses_28 : decode cX3_misses 28 = .ok (.getfield 22, 3) := by decide +kernel
theorem dX3_misses_31 : decode cX3_misses 31 = .ok (.iload_n 3, 1) := by decide +kernel
theorem dX3_misses_32 : decode cX3_misses 32 = .ok (.baload, 1) := by decide +kernel
theorem dX3_misses_33 : decode cX3_misses 33 = .ok (.ifCond .eq 7, 3) := by decide +kernel
theorem dX3_misses_36 : decode cX3_misses 36 = .ok (.iconst 1, 1) := by decide +kernel
theorem dX3_misses_37 : decode cX3_misses 37 = .ok (.goto 4, 3) := by decide +kernel
theorem dX3_misses_40 : decode cX3_misses 40 = .ok (.iconst 0, 1) := by decide +kernel
theorem dX3_misses_41 : decode cX3_misses 41 = .ok (.iadd, 1) := by decide +kernel
theorem dX3_misses_42 : decode cX3_misses 42 = .ok (.istore_n 2, 1) := by decide +kernel
theorem dX3_misses_43 : decode cX3_misses 43 = .ok (.iinc 3 1, 3) := by decide +kernel
theorem dX3_misses_46 : decode cX3_misses 46 = .ok (.goto (-28), 3) := by decide +kernel
theorem dX3_misses_49 : decode cX3_misses 49 = .ok (.iload_n 2, 1) := by decide +kernel
theorem dX3_misses_50 : decode cX3_misses 50 = .ok (.ireturn, 1) := by decide +kernel
set_option maxRecDepth 20000 in
theorem ggX3_wouldMiss_X3_isShip : GoodIn wsX3_wouldMiss wsX3_isShip := goodIn_r _ [6, 7, 8, 9, 5, 10, 39, 40, 41, 42, 43, 44, 45, 46, 47, 48, 49, 50, 51, 52, 53, 54, 55, 56, 57] (by decide +kernel) (by decide +kernel)
set_option maxRecDepth 20000 in
theorem gX3_wouldMiss_X3_isShip : GoodIn wsX3_wouldMiss (wsV RX3 99 RX3 yX3_isShip wsX3_isShip) := goodIn_app (goodIn_of _ (by decide +kernel)) ggX3_wouldMiss_X3_isShip
set_option maxRecDepth 20000 in
theorem ggX3_wouldMiss_X3_misses : GoodIn wsX3_wouldMiss wsX3_misses := goodIn_r _ [14, 15, 16, 17, 18, 19, 20, 5, 21, 22, 7, 23, 24, 25, 26, 27, 28, 29, 30, 31, 32, 33, 34, 39, 40, 41, 42, 43, 44, 45, 46, 47, 48, 49, 50, 51, 52, 53, 54, 55, 56, 57] (by decide +kernel) (by decide +kernel)
set_option maxRecDepth 20000 in
theorem gX3_wouldMiss_X3_misses : GoodIn wsX3_wouldMiss (wsV RX3 154 RX3 yX3_misses wsX3_misses) := goodIn_app (goodIn_of _ (by decide +kernel)) ggX3_wouldMiss_X3_misses
set_option maxRecDepth 20000 in
theorem ggX3_wouldMiss_X3_fail : GoodIn wsX3_wouldMiss wsX3_fail := goodIn_r _ [38, 1, 39, 40, 41, 42, 43, 44, 45, 46, 47, 48, 49, 50, 51, 52, 53, 54, 55, 56, 57] (by decide +kernel) (by decide +kernel)
set_option maxRecDepth 20000 in
theorem gX3_wouldMiss_X3_fail : GoodIn wsX3_wouldMiss (wsV RX3 85 RX3 yX3_fail wsX3_fail) := goodIn_app (goodIn_of _ (by decide +kernel)) ggX3_wouldMiss_X3_fail
theorem dX3_wouldMiss_0 : decode cX3_wouldMiss 0 = .ok (.aload_n 0, 1) := by decide +kernel
theorem dX3_wouldMiss_1 : decode cX3_wouldMiss 1 = .ok (.iconst 0, 1) := by decide +kernel
theorem dX3_wouldMiss_2 : decode cX3_wouldMiss 2 = .ok (.putfield 44, 3) := by decide +kernel
theorem dX3_wouldMiss_5 : decode cX3_wouldMiss 5 = .ok (.aload_n 0, 1) := by decide +kernel
theorem dX3_wouldMiss_6 : decode cX3_wouldMiss 6 = .ok (.iload_n 1, 1) := by decide +kernel
theorem dX3_wouldMiss_7 : decode cX3_wouldMiss 7 = .ok (.invokevirtual 99, 3) := by decide +kernel
theorem dX3_wouldMiss_10 : decode cX3_wouldMiss 10 = .ok (.ifCond .eq 11, 3) := by decide +kernel
theorem dX3_wouldMiss_13 : decode cX3_wouldMiss 13 = .ok (.aload_n 0, 1) := by decide +kernel
theorem dX3_wouldMiss_14 : decode cX3_wouldMiss 14 = .ok (.iload_n 1, 1) := by decide +kernel
theorem dX3_wouldMiss_15 : decode cX3_wouldMiss 15 = .ok (.invokevirtual 154, 3) := by decide +kernel
theorem dX3_wouldMiss_18 : decode cX3_wouldMiss 18 = .ok (.goto 8, 3) := by decide +kernel
theorem dX3_wouldMiss_21 : decode cX3_wouldMiss 21 = .ok (.aload_n 0, 1) := by decide +kernel
theorem dX3_wouldMiss_22 : decode cX3_wouldMiss 22 = .ok (.iconst 1, 1) := by decide +kernel
theorem dX3_wouldMiss_23 : decode cX3_wouldMiss 23 = .ok (.invokevirtual 85, 3) := by decide +kernel
theorem dX3_wouldMiss_26 : decode cX3_wouldMiss 26 = .ok (.ireturn, 1) := by decide +kernel
set_option maxRecDepth 20000 in
theorem ggX3_meanLag_X3_lag : GoodIn wsX3_meanLag wsX3_lag := goodIn_r _ [7, 8, 9, 10, 11, 12, 6, 13, 14, 15, 16, 17, 18, 19, 20, 21, 22, 23, 24, 25, 26, 27, 28, 29, 30, 31, 32, 33] (by decide +kernel) (by decide +kernel)
set_option maxRecDepth 20000 in
theorem gX3_meanLag_X3_lag : GoodIn wsX3_meanLag (wsV RX3 139 RX3 yX3_lag wsX3_lag) := goodIn_app (goodIn_of _ (by decide +kernel)) ggX3_meanLag_X3_lag
theorem dX3_meanLag_0 : decode cX3_meanLag 0 = .ok (.aload_n 0, 1) := by decide +kernel
theorem dX3_meanLag_1 : decode cX3_meanLag 1 = .ok (.iconst 0, 1) := by decide +kernel
theorem dX3_meanLag_2 : decode cX3_meanLag 2 = .ok (.putfield 44, 3) := by decide +kernel
theorem dX3_meanLag_5 : decode cX3_meanLag 5 = .ok (.iconst 0, 1) := by decide +kernel
theorem dX3_meanLag_6 : decode cX3_meanLag 6 = .ok (.istore_n 1, 1) := by decide +kernel
theorem dX3_meanLag_7 : decode cX3_meanLag 7 = .ok (.iconst 0, 1) := by decide +kernel
theorem dX3_meanLag_8 : decode cX3_meanLag 8 = .ok (.istore_n 2, 1) := by decide +kernel
theorem dX3_meanLag_9 : decode cX3_meanLag 9 = .ok (.iload_n 2, 1) := by decide +kernel
theorem dX3_meanLag_10 : decode cX3_meanLag 10 = .ok (.aload_n 0, 1) := by decide +kernel
theorem dX3_meanLag_11 : decode cX3_meanLag 11 = .ok (.getfield 48, 3) := by decide +kernel
theorem dX3_meanLag_14 : decode cX3_meanLag 14 = .ok (.if_icmp .ge 17, 3) := by decide +kernel
theorem dX3_meanLag_17 : decode cX3_meanLag 17 = .ok (.iload_n 1, 1) := by decide +kernel
theorem dX3_meanLag_18 : decode cX3_meanLag 18 = .ok (.aload_n 0, 1) := by decide +kernel
theorem dX3_meanLag_19 : decode cX3_meanLag 19 = .ok (.iload_n 2, 1) := by decide +kernel
theorem dX3_meanLag_20 : decode cX3_meanLag 20 = .ok (.invokevirtual 139, 3) := by decide +kernel
theorem dX3_meanLag_23 : decode cX3_meanLag 23 = .ok (.iadd, 1) := by decide +kernel
theorem dX3_meanLag_24 : decode cX3_meanLag 24 = .ok (.istore_n 1, 1) := by decide +kernel
theorem dX3_meanLag_25 : decode cX3_meanLag 25 = .ok (.iinc 2 1, 3) := by decide +kernel
theorem dX3_meanLag_28 : decode cX3_meanLag 28 = .ok (.goto (-19), 3) := by decide +kernel
theorem dX3_meanLag_31 : decode cX3_meanLag 31 = .ok (.aload_n 0, 1) := by decide +kernel
theorem dX3_meanLag_32 : decode cX3_meanLag 32 = .ok (.getfield 48, 3) := by decide +kernel
theorem dX3_meanLag_35 : decode cX3_meanLag 35 = .ok (.ifCond .ne 7, 3) := by decide +kernel
theorem dX3_meanLag_38 : decode cX3_meanLag 38 = .ok (.dconst 0, 1) := by decide +kernel
theorem dX3_meanLag_39 : decode cX3_meanLag 39 = .ok (.goto 11, 3) := by decide +kernel
theorem dX3_meanLag_42 : decode cX3_meanLag 42 = .ok (.iload_n 1, 1) := by decide +kernel
theorem dX3_meanLag_43 : decode cX3_meanLag 43 = .ok (.i2d, 1) := by decide +kernel
theorem dX3_meanLag_44 : decode cX3_meanLag 44 = .ok (.aload_n 0, 1) := by decide +kernel
theorem dX3_meanLag_45 : decode cX3_meanLag 45 = .ok (.getfield 48, 3) := by decide +kernel
theorem dX3_meanLag_48 : decode cX3_meanLag 48 = .ok (.i2d, 1) := by decide +kernel
theorem dX3_meanLag_49 : decode cX3_meanLag 49 = .ok (.ddiv, 1) := by decide +kernel
theorem dX3_meanLag_50 : decode cX3_meanLag 50 = .ok (.dreturn, 1) := by decide +kernel
set_option maxRecDepth 20000 in
theorem ggX3_digest_X3_first : GoodIn wsX3_digest wsX3_first := goodIn_r _ [20, 4, 21, 81, 82, 83, 84, 85, 86, 87, 88, 89, 90, 91, 92, 93, 94, 95, 96, 97, 98, 99] (by decide +kernel) (by decide +kernel)
set_option maxRecDepth 20000 in
theorem gX3_digest_X3_first : GoodIn wsX3_digest (wsV RX3 111 RX3 yX3_first wsX3_first) := goodIn_app (goodIn_of _ (by decide +kernel)) ggX3_digest_X3_first
set_option maxRecDepth 20000 in
theorem ggX3_digest_X3_behind : GoodIn wsX3_digest wsX3_behind := goodIn_r _ [25, 9, 26, 27, 28, 19, 29, 4, 13, 30, 31, 32, 33, 21, 81, 82, 83, 84, 85, 86, 87, 88, 89, 90, 91, 92, 93, 94, 95, 96, 97, 98, 99] (by decide +kernel) (by decide +kernel)
set_option maxRecDepth 20000 in
theorem gX3_digest_X3_behind : GoodIn wsX3_digest (wsV RX3 145 RX3 yX3_behind wsX3_behind) := goodIn_app (goodIn_of _ (by decide +kernel)) ggX3_digest_X3_behind
set_option maxRecDepth 20000 in
theorem ggX3_digest_X3_mark : GoodIn wsX3_digest wsX3_mark := goodIn_r _ [37, 5, 9, 13, 38, 39, 40, 41, 42, 4, 43, 44, 45, 21, 81, 82, 83, 84, 85, 86, 87, 88, 89, 90, 91, 92, 93, 94, 95, 96, 97, 98, 99] (by decide +kernel) (by decide +kernel)
set_option maxRecDepth 20000 in
theorem gX3_digest_X3_mark : GoodIn wsX3_digest (wsV RX3 96 RX3 yX3_mark wsX3_mark) := goodIn_app (goodIn_of _ (by decide +kernel)) ggX3_digest_X3_mark
set_option maxRecDepth 20000 in
theorem ggX3_digest_X3_latest : GoodIn wsX3_digest wsX3_latest := goodIn_r _ [49, 21, 50, 51, 52, 19, 53, 4, 44, 81, 82, 83, 84, 85, 86, 87, 88, 89, 90, 91, 92, 93, 94, 95, 96, 97, 98, 99] (by decide +kernel) (by decide +kernel)
set_option maxRecDepth 20000 in
theorem gX3_digest_X3_latest : GoodIn wsX3_digest (wsV RX3 124 RX3 yX3_latest wsX3_latest) := goodIn_app (goodIn_of _ (by decide +kernel)) ggX3_digest_X3_latest
set_option maxRecDepth 20000 in
theorem ggX3_digest_X3_worth : GoodIn wsX3_digest wsX3_worth := goodIn_r _ [57, 45, 50, 51, 52, 19, 53, 4, 44, 81, 82, 83, 84, 85, 86, 87, 88, 89, 90, 91, 92, 93, 94, 95, 96, 97, 98, 99] (by decide +kernel) (by decide +kernel)
set_option maxRecDepth 20000 in
theorem gX3_digest_X3_worth : GoodIn wsX3_digest (wsV RX3 127 RX3 yX3_worth wsX3_worth) := goodIn_app (goodIn_of _ (by decide +kernel)) ggX3_digest_X3_worth
set_option maxRecDepth 20000 in
theorem ggX3_digest_X3_count : GoodIn wsX3_digest wsX3_count := goodIn_r _ [61, 4, 44, 81, 82, 83, 84, 85, 86, 87, 88, 89, 90, 91, 92, 93, 94, 95, 96, 97, 98, 99] (by decide +kernel) (by decide +kernel)
set_option maxRecDepth 20000 in
theorem gX3_digest_X3_count : GoodIn wsX3_digest (wsV RX3 130 RX3 yX3_count wsX3_count) := goodIn_app (goodIn_of _ (by decide +kernel)) ggX3_digest_X3_count
set_option maxRecDepth 20000 in
theorem ggX3_digest_X3_kept : GoodIn wsX3_digest wsX3_kept := goodIn_r _ [65, 4, 66, 81, 82, 83, 84, 85, 86, 87, 88, 89, 90, 91, 92, 93, 94, 95, 96, 97, 98, 99] (by decide +kernel) (by decide +kernel)
set_option maxRecDepth 20000 in
theorem gX3_digest_X3_kept : GoodIn wsX3_digest (wsV RX3 133 RX3 yX3_kept wsX3_kept) := goodIn_app (goodIn_of _ (by decide +kernel)) ggX3_digest_X3_kept
set_option maxRecDepth 20000 in
theorem ggX3_digest_X3_lag : GoodIn wsX3_digest wsX3_lag := goodIn_r _ [29, 4, 13, 30, 31, 32, 19, 33, 21, 81, 82, 83, 84, 85, 86, 87, 88, 89, 90, 91, 92, 93, 94, 95, 96, 97, 98, 99] (by decide +kernel) (by decide +kernel)
set_option maxRecDepth 20000 in
theorem gX3_digest_X3_lag : GoodIn wsX3_digest (wsV RX3 139 RX3 yX3_lag wsX3_lag) := goodIn_app (goodIn_of _ (by decide +kernel)) ggX3_digest_X3_lag
set_option maxRecDepth 20000 in
theorem ggX3_digest_X3_errors : GoodIn wsX3_digest wsX3_errors := goodIn_r _ [70, 2, 71, 13, 4, 44, 45, 30, 31, 32, 19, 33, 21, 54, 55, 56, 57, 50, 51, 52, 53, 81, 82, 83, 84, 85, 86, 87, 88, 89, 90, 91, 92, 93, 94, 95, 96, 97, 98, 99] (by decide +kernel) (by decide +kernel)
set_option maxRecDepth 20000 in
theorem gX3_digest_X3_errors : GoodIn wsX3_digest (wsV RX3 142 RX3 yX3_errors wsX3_errors) := goodIn_app (goodIn_of _ (by decide +kernel)) ggX3_digest_X3_errors
set_option maxRecDepth 20000 in
theorem ggX3_digest_X3_until : GoodIn wsX3_digest wsX3_until := goodIn_r _ [75, 8, 76, 26, 27, 28, 19, 29, 4, 13, 30, 31, 32, 33, 21, 81, 82, 83, 84, 85, 86, 87, 88, 89, 90, 91, 92, 93, 94, 95, 96, 97, 98, 99] (by decide +kernel) (by decide +kernel)
set_option maxRecDepth 20000 in
theorem gX3_digest_X3_until : GoodIn wsX3_digest (wsV RX3 148 RX3 yX3_until wsX3_until) := goodIn_app (goodIn_of _ (by decide +kernel)) ggX3_digest_X3_until
set_option maxRecDepth 20000 in
theorem ggX3_digest_X3_misses : GoodIn wsX3_digest wsX3_misses := goodIn_r _ [80, 13, 4, 43, 34, 35, 36, 19, 37, 5, 9, 38, 39, 40, 41, 42, 44, 45, 21, 30, 31, 32, 33, 81, 82, 83, 84, 85, 86, 87, 88, 89, 90, 91, 92, 93, 94, 95, 96, 97, 98, 99] (by decide +kernel) (by decide +kernel)
set_option maxRecDepth 20000 in
theorem gX3_digest_X3_misses : GoodIn wsX3_digest (wsV RX3 154 RX3 yX3_misses wsX3_misses) := goodIn_app (goodIn_of _ (by decide +kernel)) ggX3_digest_X3_misses
theorem dX3_digest_0 : decode cX3_digest 0 = .ok (.aload_n 0, 1) := by decide +kernel
theorem dX3_digest_1 : decode cX3_digest 1 = .ok (.iconst 0, 1) := by decide +kernel
theorem dX3_digest_2 : decode cX3_digest 2 = .ok (.putfield 44, 3) := by decide +kernel
theorem dX3_digest_5 : decode cX3_digest 5 = .ok (.bipush 10, 2) := by decide +kernel
theorem dX3_digest_7 : decode cX3_digest 7 = .ok (.newarray .int, 2) := by decide +kernel
theorem dX3_digest_9 : decode cX3_digest 9 = .ok (.dup, 1) := by decide +kernel
theorem dX3_digest_10 : decode cX3_digest 10 = .ok (.iconst 0, 1) := by decide +kernel
theorem dX3_digest_11 : decode cX3_digest 11 = .ok (.aload_n 0, 1) := by decide +kernel
theorem dX3_digest_12 : decode cX3_digest 12 = .ok (.getfield 105, 3) := by decide +kernel
theorem dX3_digest_15 : decode cX3_digest 15 = .ok (.iastore, 1) := by decide +kernel
theorem dX3_digest_16 : decode cX3_digest 16 = .ok (.dup, 1) := by decide +kernel
theorem dX3_digest_17 : decode cX3_digest 17 = .ok (.iconst 1, 1) := by decide +kernel
theorem dX3_digest_18 : decode cX3_digest 18 = .ok (.aload_n 0, 1) := by decide +kernel
theorem dX3_digest_19 : decode cX3_digest 19 = .ok (.getfield 58, 3) := by decide +kernel
theorem dX3_digest_22 : decode cX3_digest 22 = .ok (.iastore, 1) := by decide +kernel
theorem dX3_digest_23 : decode cX3_digest 23 = .ok (.dup, 1) := by decide +kernel
theorem dX3_digest_24 : decode cX3_digest 24 = .ok (.iconst 2, 1) := by decide +kernel
theorem dX3_digest_25 : decode cX3_digest 25 = .ok (.aload_n 0, 1) := by decide +kernel
theorem dX3_digest_26 : decode cX3_digest 26 = .ok (.getfield 68, 3) := by decide +kernel
theorem dX3_digest_29 : decode cX3_digest 29 = .ok (.iastore, 1) := by decide +kernel
theorem dX3_digest_30 : decode cX3_digest 30 = .ok (.dup, 1) := by decide +kernel
theorem dX3_digest_31 : decode cX3_digest 31 = .ok (.iconst 3, 1) := by decide +kernel
theorem dX3_digest_32 : decode cX3_digest 32 = .ok (.aload_n 0, 1) := by decide +kernel
theorem dX3_digest_33 : decode cX3_digest 33 = .ok (.invokevirtual 111, 3) := by decide +kernel
theorem dX3_digest_36 : decode cX3_digest 36 = .ok (.iastore, 1) := by decide +kernel
theorem dX3_digest_37 : decode cX3_digest 37 = .ok (.dup, 1) := by decide +kernel
theorem dX3_digest_38 : decode cX3_digest 38 = .ok (.iconst 4, 1) := by decide +kernel
theorem dX3_digest_39 : decode cX3_digest 39 = .ok (.aload_n 0, 1) := by decide +kernel
theorem dX3_digest_40 : decode cX3_digest 40 = .ok (.getfield 61, 3) := by decide +kernel
theorem dX3_digest_43 : decode cX3_digest 43 = .ok (.iastore, 1) := by decide +kernel
theorem dX3_digest_44 : decode cX3_digest 44 = .ok (.dup, 1) := by decide +kernel
theorem dX3_digest_45 : decode cX3_digest 45 = .ok (.iconst 5, 1) := by decide +kernel
theorem dX3_digest_46 : decode cX3_digest 46 = .ok (.aload_n 0, 1) := by decide +kernel
theorem dX3_digest_47 : decode cX3_digest 47 = .ok (.getfield 55, 3) := by decide +kernel
theorem dX3_digest_50 : decode cX3_digest 50 = .ok (.iastore, 1) := by decide +kernel
theorem dX3_digest_51 : decode cX3_digest 51 = .ok (.dup, 1) := by decide +kernel
theorem dX3_digest_52 : decode cX3_digest 52 = .ok (.bipush 6, 2) := by decide +kernel
theorem dX3_digest_54 : decode cX3_digest 54 = .ok (.aload_n 0, 1) := by decide +kernel
theorem dX3_digest_55 : decode cX3_digest 55 = .ok (.getfield 71, 3) := by decide +kernel
theorem dX3_digest_58 : decode cX3_digest 58 = .ok (.ifCond .eq 7, 3) := by decide +kernel
theorem dX3_digest_61 : decode cX3_digest 61 = .ok (.iconst 1, 1) := by decide +kernel
theorem dX3_digest_62 : decode cX3_digest 62 = .ok (.goto 4, 3) := by decide +kernel
theorem dX3_digest_65 : decode cX3_digest 65 = .ok (.iconst 0, 1) := by decide +kernel
theorem dX3_digest_66 : decode cX3_digest 66 = .ok (.iastore, 1) := by decide +kernel
theorem dX3_digest_67 : decode cX3_digest 67 = .ok (.dup, 1) := by decide +kernel
theorem dX3_digest_68 : decode cX3_digest 68 = .ok (.bipush 7, 2) := by decide +kernel
theorem dX3_digest_70 : decode cX3_digest 70 = .ok (.aload_n 0, 1) := by decide +kernel
theorem dX3_digest_71 : decode cX3_digest 71 = .ok (.getfield 48, 3) := by decide +kernel
theorem dX3_digest_74 : decode cX3_digest 74 = .ok (.iastore, 1) := by decide +kernel
theorem dX3_digest_75 : decode cX3_digest 75 = .ok (.dup, 1) := by decide +kernel
theorem dX3_digest_76 : decode cX3_digest 76 = .ok (.bipush 8, 2) := by decide +kernel
theorem dX3_digest_78 : decode cX3_digest 78 = .ok (.aload_n 0, 1) := by decide +kernel
theorem dX3_digest_79 : decode cX3_digest 79 = .ok (.invokevirtual 145, 3) := by decide +kernel
theorem dX3_digest_82 : decode cX3_digest 82 = .ok (.iastore, 1) := by decide +kernel
theorem dX3_digest_83 : decode cX3_digest 83 = .ok (.dup, 1) := by decide +kernel
theorem dX3_digest_84 : decode cX3_digest 84 = .ok (.bipush 9, 2) := by decide +kernel
theorem dX3_digest_86 : decode cX3_digest 86 = .ok (.aload_n 0, 1) := by decide +kernel
theorem dX3_digest_87 : decode cX3_digest 87 = .ok (.invokevirtual 96, 3) := by decide +kernel
theorem dX3_digest_90 : decode cX3_digest 90 = .ok (.iastore, 1) := by decide +kernel
theorem dX3_digest_91 : decode cX3_digest 91 = .ok (.astore_n 1, 1) := by decide +kernel
theorem dX3_digest_92 : decode cX3_digest 92 = .ok (.ldc2_w 157, 3) := by decide +kernel
theorem dX3_digest_95 : decode cX3_digest 95 = .ok (.lstore_n 2, 1) := by decide +kernel
theorem dX3_digest_96 : decode cX3_digest 96 = .ok (.aload_n 1, 1) := by decide +kernel
theorem dX3_digest_97 : decode cX3_digest 97 = .ok (.astore 4, 2) := by decide +kernel
theorem dX3_digest_99 : decode cX3_digest 99 = .ok (.aload 4, 2) := by decide +kernel
theorem dX3_digest_101 : decode cX3_digest 101 = .ok (.arraylength, 1) := by decide +kernel
theorem dX3_digest_102 : decode cX3_digest 102 = .ok (.istore 5, 2) := by decide +kernel
theorem dX3_digest_104 : decode cX3_digest 104 = .ok (.iconst 0, 1) := by decide +kernel
theorem dX3_digest_105 : decode cX3_digest 105 = .ok (.istore 6, 2) := by decide +kernel
theorem dX3_digest_107 : decode cX3_digest 107 = .ok (.iload 6, 2) := by decide +kernel
theorem dX3_digest_109 : decode cX3_digest 109 = .ok (.iload 5, 2) := by decide +kernel
theorem dX3_digest_111 : decode cX3_digest 111 = .ok (.if_icmp .ge 26, 3) := by decide +kernel
theorem dX3_digest_114 : decode cX3_digest 114 = .ok (.aload 4, 2) := by decide +kernel
theorem dX3_digest_116 : decode cX3_digest 116 = .ok (.iload 6, 2) := by decide +kernel
theorem dX3_digest_118 : decode cX3_digest 118 = .ok (.iaload, 1) := by decide +kernel
theorem dX3_digest_119 : decode cX3_digest 119 = .ok (.istore 7, 2) := by decide +kernel
theorem dX3_digest_121 : decode cX3_digest 121 = .ok (.lload_n 2, 1) := by decide +kernel
theorem dX3_digest_122 : decode cX3_digest 122 = .ok (.ldc2_w 159, 3) := by decide +kernel
theorem dX3_digest_125 : decode cX3_digest 125 = .ok (.lmul, 1) := by decide +kernel
theorem dX3_digest_126 : decode cX3_digest 126 = .ok (.iload 7, 2) := by decide +kernel
theorem dX3_digest_128 : decode cX3_digest 128 = .ok (.i2l, 1) := by decide +kernel
theorem dX3_digest_129 : decode cX3_digest 129 = .ok (.ladd, 1) := by decide +kernel
theorem dX3_digest_130 : decode cX3_digest 130 = .ok (.lstore_n 2, 1) := by decide +kernel
theorem dX3_digest_131 : decode cX3_digest 131 = .ok (.iinc 6 1, 3) := by decide +kernel
theorem dX3_digest_134 : decode cX3_digest 134 = .ok (.goto (-27), 3) := by decide +kernel
theorem dX3_digest_137 : decode cX3_digest 137 = .ok (.iconst 0, 1) := by decide +kernel
theorem dX3_digest_138 : decode cX3_digest 138 = .ok (.istore 4, 2) := by decide +kernel
theorem dX3_digest_140 : decode cX3_digest 140 = .ok (.iload 4, 2) := by decide +kernel
theorem dX3_digest_142 : decode cX3_digest 142 = .ok (.bipush 10, 2) := by decide +kernel
theorem dX3_digest_144 : decode cX3_digest 144 = .ok (.if_icmp .ge 51, 3) := by decide +kernel
theorem dX3_digest_147 : decode cX3_digest 147 = .ok (.lload_n 2, 1) := by decide +kernel
theorem dX3_digest_148 : decode cX3_digest 148 = .ok (.ldc2_w 159, 3) := by decide +kernel
theorem dX3_digest_151 : decode cX3_digest 151 = .ok (.lmul, 1) := by decide +kernel
theorem dX3_digest_152 : decode cX3_digest 152 = .ok (.aload_n 0, 1) := by decide +kernel
theorem dX3_digest_153 : decode cX3_digest 153 = .ok (.iload 4, 2) := by decide +kernel
theorem dX3_digest_155 : decode cX3_digest 155 = .ok (.invokevirtual 124, 3) := by decide +kernel
theorem dX3_digest_158 : decode cX3_digest 158 = .ok (.i2l, 1) := by decide +kernel
theorem dX3_digest_159 : decode cX3_digest 159 = .ok (.ladd, 1) := by decide +kernel
theorem dX3_digest_160 : decode cX3_digest 160 = .ok (.lstore_n 2, 1) := by decide +kernel
theorem dX3_digest_161 : decode cX3_digest 161 = .ok (.lload_n 2, 1) := by decide +kernel
theorem dX3_digest_162 : decode cX3_digest 162 = .ok (.ldc2_w 159, 3) := by decide +kernel
theorem dX3_digest_165 : decode cX3_digest 165 = .ok (.lmul, 1) := by decide +kernel
theorem dX3_digest_166 : decode cX3_digest 166 = .ok (.aload_n 0, 1) := by decide +kernel
theorem dX3_digest_167 : decode cX3_digest 167 = .ok (.iload 4, 2) := by decide +kernel
theorem dX3_digest_169 : decode cX3_digest 169 = .ok (.invokevirtual 127, 3) := by decide +kernel
theorem dX3_digest_172 : decode cX3_digest 172 = .ok (.i2l, 1) := by decide +kernel
theorem dX3_digest_173 : decode cX3_digest 173 = .ok (.ladd, 1) := by decide +kernel
theorem dX3_digest_174 : decode cX3_digest 174 = .ok (.lstore_n 2, 1) := by decide +kernel
theorem dX3_digest_175 : decode cX3_digest 175 = .ok (.lload_n 2, 1) := by decide +kernel
theorem dX3_digest_176 : decode cX3_digest 176 = .ok (.ldc2_w 159, 3) := by decide +kernel
theorem dX3_digest_179 : decode cX3_digest 179 = .ok (.lmul, 1) := by decide +kernel
theorem dX3_digest_180 : decode cX3_digest 180 = .ok (.aload_n 0, 1) := by decide +kernel
theorem dX3_digest_181 : decode cX3_digest 181 = .ok (.iload 4, 2) := by decide +kernel
theorem dX3_digest_183 : decode cX3_digest 183 = .ok (.invokevirtual 130, 3) := by decide +kernel
theorem dX3_digest_186 : decode cX3_digest 186 = .ok (.i2l, 1) := by decide +kernel
theorem dX3_digest_187 : decode cX3_digest 187 = .ok (.ladd, 1) := by decide +kernel
theorem dX3_digest_188 : decode cX3_digest 188 = .ok (.lstore_n 2, 1) := by decide +kernel
theorem dX3_digest_189 : decode cX3_digest 189 = .ok (.iinc 4 1, 3) := by decide +kernel
theorem dX3_digest_192 : decode cX3_digest 192 = .ok (.goto (-52), 3) := by decide +kernel
theorem dX3_digest_195 : decode cX3_digest 195 = .ok (.iconst 0, 1) := by decide +kernel
theorem dX3_digest_196 : decode cX3_digest 196 = .ok (.istore 4, 2) := by decide +kernel
theorem dX3_digest_198 : decode cX3_digest 198 = .ok (.iload 4, 2) := by decide +kernel
theorem dX3_digest_200 : decode cX3_digest 200 = .ok (.aload_n 0, 1) := by decide +kernel
theorem dX3_digest_201 : decode cX3_digest 201 = .ok (.getfield 55, 3) := by decide +kernel
theorem dX3_digest_204 : decode cX3_digest 204 = .ok (.if_icmp .ge 38, 3) := by decide +kernel
theorem dX3_digest_207 : decode cX3_digest 207 = .ok (.lload_n 2, 1) := by decide +kernel
theorem dX3_digest_208 : decode cX3_digest 208 = .ok (.ldc2_w 159, 3) := by decide +kernel
theorem dX3_digest_211 : decode cX3_digest 211 = .ok (.lmul, 1) := by decide +kernel
theorem dX3_digest_212 : decode cX3_digest 212 = .ok (.aload_n 0, 1) := by decide +kernel
theorem dX3_digest_213 : decode cX3_digest 213 = .ok (.getfield 26, 3) := by decide +kernel
theorem dX3_digest_216 : decode cX3_digest 216 = .ok (.iload 4, 2) := by decide +kernel
theorem dX3_digest_218 : decode cX3_digest 218 = .ok (.iaload, 1) := by decide +kernel
theorem dX3_digest_219 : decode cX3_digest 219 = .ok (.i2l, 1) := by decide +kernel
theorem dX3_digest_220 : decode cX3_digest 220 = .ok (.ladd, 1) := by decide +kernel
theorem dX3_digest_221 : decode cX3_digest 221 = .ok (.lstore_n 2, 1) := by decide +kernel
theorem dX3_digest_222 : decode cX3_digest 222 = .ok (.lload_n 2, 1) := by decide +kernel
theorem dX3_digest_223 : decode cX3_digest 223 = .ok (.ldc2_w 159, 3) := by decide +kernel
theorem dX3_digest_226 : decode cX3_digest 226 = .ok (.lmul, 1) := by decide +kernel
theorem dX3_digest_227 : decode cX3_digest 227 = .ok (.aload_n 0, 1) := by decide +kernel
theorem dX3_digest_228 : decode cX3_digest 228 = .ok (.iload 4, 2) := by decide +kernel
theorem dX3_digest_230 : decode cX3_digest 230 = .ok (.invokevirtual 133, 3) := by decide +kernel
theorem dX3_digest_233 : decode cX3_digest 233 = .ok (.i2l, 1) := by decide +kernel
theorem dX3_digest_234 : decode cX3_digest 234 = .ok (.ladd, 1) := by decide +kernel
theorem dX3_digest_235 : decode cX3_digest 235 = .ok (.lstore_n 2, 1) := by decide +kernel
theorem dX3_digest_236 : decode cX3_digest 236 = .ok (.iinc 4 1, 3) := by decide +kernel
theorem dX3_digest_239 : decode cX3_digest 239 = .ok (.goto (-41), 3) := by decide +kernel
theorem dX3_digest_242 : decode cX3_digest 242 = .ok (.iconst 0, 1) := by decide +kernel
theorem dX3_digest_243 : decode cX3_digest 243 = .ok (.istore 4, 2) := by decide +kernel
theorem dX3_digest_245 : decode cX3_digest 245 = .ok (.iload 4, 2) := by decide +kernel
theorem dX3_digest_247 : decode cX3_digest 247 = .ok (.aload_n 0, 1) := by decide +kernel
theorem dX3_digest_248 : decode cX3_digest 248 = .ok (.getfield 48, 3) := by decide +kernel
theorem dX3_digest_251 : decode cX3_digest 251 = .ok (.if_icmp .ge 125, 3) := by decide +kernel
theorem dX3_digest_254 : decode cX3_digest 254 = .ok (.bipush 7, 2) := by decide +kernel
theorem dX3_digest_256 : decode cX3_digest 256 = .ok (.newarray .int, 2) := by decide +kernel
theorem dX3_digest_258 : decode cX3_digest 258 = .ok (.dup, 1) := by decide +kernel
theorem dX3_digest_259 : decode cX3_digest 259 = .ok (.iconst 0, 1) := by decide +kernel
theorem dX3_digest_260 : decode cX3_digest 260 = .ok (.aload_n 0, 1) := by decide +kernel
theorem dX3_digest_261 : decode cX3_digest 261 = .ok (.getfield 32, 3) := by decide +kernel
theorem dX3_digest_264 : decode cX3_digest 264 = .ok (.iload 4, 2) := by decide +kernel
theorem dX3_digest_266 : decode cX3_digest 266 = .ok (.iaload, 1) := by decide +kernel
theorem dX3_digest_267 : decode cX3_digest 267 = .ok (.iastore, 1) := by decide +kernel
theorem dX3_digest_268 : decode cX3_digest 268 = .ok (.dup, 1) := by decide +kernel
theorem dX3_digest_269 : decode cX3_digest 269 = .ok (.iconst 1, 1) := by decide +kernel
theorem dX3_digest_270 : decode cX3_digest 270 = .ok (.aload_n 0, 1) := by decide +kernel
theorem dX3_digest_271 : decode cX3_digest 271 = .ok (.iload 4, 2) := by decide +kernel
theorem dX3_digest_273 : decode cX3_digest 273 = .ok (.invokevirtual 139, 3) := by decide +kernel
theorem dX3_digest_276 : decode cX3_digest 276 = .ok (.iastore, 1) := by decide +kernel
theorem dX3_digest_277 : decode cX3_digest 277 = .ok (.dup, 1) := by decide +kernel
theorem dX3_digest_278 : decode cX3_digest 278 = .ok (.iconst 2, 1) := by decide +kernel
theorem dX3_digest_279 : decode cX3_digest 279 = .ok (.aload_n 0, 1) := by decide +kernel
theorem dX3_digest_280 : decode cX3_digest 280 = .ok (.getfield 35, 3) := by decide +kernel
theorem dX3_digest_283 : decode cX3_digest 283 = .ok (.iload 4, 2) := by decide +kernel
theorem dX3_digest_285 : decode cX3_digest 285 = .ok (.iaload, 1) := by decide +kernel
theorem dX3_digest_286 : decode cX3_digest 286 = .ok (.iastore, 1) := by decide +kernel
theorem dX3_digest_287 : decode cX3_digest 287 = .ok (.dup, 1) := by decide +kernel
theorem dX3_digest_288 : decode cX3_digest 288 = .ok (.iconst 3, 1) := by decide +kernel
theorem dX3_digest_289 : decode cX3_digest 289 = .ok (.aload_n 0, 1) := by decide +kernel
theorem dX3_digest_290 : decode cX3_digest 290 = .ok (.getfield 38, 3) := by decide +kernel
theorem dX3_digest_293 : decode cX3_digest 293 = .ok (.iload 4, 2) := by decide +kernel
theorem dX3_digest_295 : decode cX3_digest 295 = .ok (.iaload, 1) := by decide +kernel
theorem dX3_digest_296 : decode cX3_digest 296 = .ok (.iastore, 1) := by decide +kernel
theorem dX3_digest_297 : decode cX3_digest 297 = .ok (.dup, 1) := by decide +kernel
theorem dX3_digest_298 : decode cX3_digest 298 = .ok (.iconst 4, 1) := by decide +kernel
theorem dX3_digest_299 : decode cX3_digest 299 = .ok (.aload_n 0, 1) := by decide +kernel
theorem dX3_digest_300 : decode cX3_digest 300 = .ok (.iload 4, 2) := by decide +kernel
theorem dX3_digest_302 : decode cX3_digest 302 = .ok (.iconst 0, 1) := by decide +kernel
theorem dX3_digest_303 : decode cX3_digest 303 = .ok (.invokevirtual 142, 3) := by decide +kernel
theorem dX3_digest_306 : decode cX3_digest 306 = .ok (.iastore, 1) := by decide +kernel
theorem dX3_digest_307 : decode cX3_digest 307 = .ok (.dup, 1) := by decide +kernel
theorem dX3_digest_308 : decode cX3_digest 308 = .ok (.iconst 5, 1) := by decide +kernel
theorem dX3_digest_309 : decode cX3_digest 309 = .ok (.aload_n 0, 1) := by decide +kernel
theorem dX3_digest_310 : decode cX3_digest 310 = .ok (.iload 4, 2) := by decide +kernel
theorem dX3_digest_312 : decode cX3_digest 312 = .ok (.invokevirtual 148, 3) := by decide +kernel
theorem dX3_digest_315 : decode cX3_digest 315 = .ok (.iastore, 1) := by decide +kernel
theorem dX3_digest_316 : decode cX3_digest 316 = .ok (.dup, 1) := by decide +kernel
theorem dX3_digest_317 : decode cX3_digest 317 = .ok (.bipush 6, 2) := by decide +kernel
theorem dX3_digest_319 : decode cX3_digest 319 = .ok (.aload_n 0, 1) := by decide +kernel
theorem dX3_digest_320 : decode cX3_digest 320 = .ok (.iload 4, 2) := by decide +kernel
theorem dX3_digest_322 : decode cX3_digest 322 = .ok (.invokevirtual 154, 3) := by decide +kernel
theorem dX3_digest_325 : decode cX3_digest 325 = .ok (.iastore, 1) := by decide +kernel
theorem dX3_digest_326 : decode cX3_digest 326 = .ok (.astore 5, 2) := by decide +kernel
theorem dX3_digest_328 : decode cX3_digest 328 = .ok (.aload 5, 2) := by decide +kernel
theorem dX3_digest_330 : decode cX3_digest 330 = .ok (.astore 6, 2) := by decide +kernel
theorem dX3_digest_332 : decode cX3_digest 332 = .ok (.aload 6, 2) := by decide +kernel
theorem dX3_digest_334 : decode cX3_digest 334 = .ok (.arraylength, 1) := by decide +kernel
theorem dX3_digest_335 : decode cX3_digest 335 = .ok (.istore 7, 2) := by decide +kernel
theorem dX3_digest_337 : decode cX3_digest 337 = .ok (.iconst 0, 1) := by decide +kernel
theorem dX3_digest_338 : decode cX3_digest 338 = .ok (.istore 8, 2) := by decide +kernel
theorem dX3_digest_340 : decode cX3_digest 340 = .ok (.iload 8, 2) := by decide +kernel
theorem dX3_digest_342 : decode cX3_digest 342 = .ok (.iload 7, 2) := by decide +kernel
theorem dX3_digest_344 : decode cX3_digest 344 = .ok (.if_icmp .ge 26, 3) := by decide +kernel
theorem dX3_digest_347 : decode cX3_digest 347 = .ok (.aload 6, 2) := by decide +kernel
theorem dX3_digest_349 : decode cX3_digest 349 = .ok (.iload 8, 2) := by decide +kernel
theorem dX3_digest_351 : decode cX3_digest 351 = .ok (.iaload, 1) := by decide +kernel
theorem dX3_digest_352 : decode cX3_digest 352 = .ok (.istore 9, 2) := by decide +kernel
theorem dX3_digest_354 : decode cX3_digest 354 = .ok (.lload_n 2, 1) := by decide +kernel
theorem dX3_digest_355 : decode cX3_digest 355 = .ok (.ldc2_w 159, 3) := by decide +kernel
theorem dX3_digest_358 : decode cX3_digest 358 = .ok (.lmul, 1) := by decide +kernel
theorem dX3_digest_359 : decode cX3_digest 359 = .ok (.iload 9, 2) := by decide +kernel
theorem dX3_digest_361 : decode cX3_digest 361 = .ok (.i2l, 1) := by decide +kernel
theorem dX3_digest_362 : decode cX3_digest 362 = .ok (.ladd, 1) := by decide +kernel
theorem dX3_digest_363 : decode cX3_digest 363 = .ok (.lstore_n 2, 1) := by decide +kernel
theorem dX3_digest_364 : decode cX3_digest 364 = .ok (.iinc 8 1, 3) := by decide +kernel
theorem dX3_digest_367 : decode cX3_digest 367 = .ok (.goto (-27), 3) := by decide +kernel
theorem dX3_digest_370 : decode cX3_digest 370 = .ok (.iinc 4 1, 3) := by decide +kernel
theorem dX3_digest_373 : decode cX3_digest 373 = .ok (.goto (-128), 3) := by decide +kernel
theorem dX3_digest_376 : decode cX3_digest 376 = .ok (.lload_n 2, 1) := by decide +kernel
theorem dX3_digest_377 : decode cX3_digest 377 = .ok (.lreturn, 1) := by decide +kernel
theorem dJ9_max_7cf53_0 : decode cJ9_max_7cf53 0 = .ok (.iload_n 0, 1) := by decide +kernel
theorem dJ9_max_7cf53_1 : decode cJ9_max_7cf53 1 = .ok (.iload_n 1, 1) := by decide +kernel
theorem dJ9_max_7cf53_2 : decode cJ9_max_7cf53 2 = .ok (.if_icmp .lt 7, 3) := by decide +kernel
theorem dJ9_max_7cf53_5 : decode cJ9_max_7cf53 5 = .ok (.iload_n 0, 1) := by decide +kernel
theorem dJ9_max_7cf53_6 : decode cJ9_max_7cf53 6 = .ok (.goto 4, 3) := by decide +kernel
theorem dJ9_max_7cf53_9 : decode cJ9_max_7cf53 9 = .ok (.iload_n 1, 1) := by decide +kernel
theorem dJ9_max_7cf53_10 : decode cJ9_max_7cf53 10 = .ok (.ireturn, 1) := by decide +kernel
theorem dJ9_min_7cf53_0 : decode cJ9_min_7cf53 0 = .ok (.iload_n 0, 1) := by decide +kernel
theorem dJ9_min_7cf53_1 : decode cJ9_min_7cf53 1 = .ok (.iload_n 1, 1) := by decide +kernel
theorem dJ9_min_7cf53_2 : decode cJ9_min_7cf53 2 = .ok (.if_icmp .gt 7, 3) := by decide +kernel
theorem dJ9_min_7cf53_5 : decode cJ9_min_7cf53 5 = .ok (.iload_n 0, 1) := by decide +kernel
theorem dJ9_min_7cf53_6 : decode cJ9_min_7cf53 6 = .ok (.goto 4, 3) := by decide +kernel
theorem dJ9_min_7cf53_9 : decode cJ9_min_7cf53 9 = .ok (.iload_n 1, 1) := by decide +kernel
theorem dJ9_min_7cf53_10 : decode cJ9_min_7cf53 10 = .ok (.ireturn, 1) := by decide +kernel
