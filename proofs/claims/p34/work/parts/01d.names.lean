set_option maxRecDepth 20000 in
theorem ggX0_init_X4_init : GoodIn wsX0_init wsX4_init := goodIn_r _ [10, 11, 2, 3, 12, 13, 14, 15, 16, 17, 18] (by decide +kernel) (by decide +kernel)
set_option maxRecDepth 20000 in
theorem gX0_init_X4_init : GoodIn wsX0_init (wsX4_init) := ggX0_init_X4_init
theorem dX0_init_0 : decode cX0_init 0 = .ok (.aload_n 0, 1) := by decide +kernel
theorem dX0_init_1 : decode cX0_init 1 = .ok (.invokespecial 1, 3) := by decide +kernel
theorem dX0_init_4 : decode cX0_init 4 = .ok (.aload_n 0, 1) := by decide +kernel
theorem dX0_init_5 : decode cX0_init 5 = .ok (.new 7, 3) := by decide +kernel
theorem dX0_init_8 : decode cX0_init 8 = .ok (.dup, 1) := by decide +kernel
theorem dX0_init_9 : decode cX0_init 9 = .ok (.sipush 516, 3) := by decide +kernel
theorem dX0_init_12 : decode cX0_init 12 = .ok (.invokespecial 13, 3) := by decide +kernel
theorem dX0_init_15 : decode cX0_init 15 = .ok (.putfield 16, 3) := by decide +kernel
theorem dX0_init_18 : decode cX0_init 18 = .ok (.return_, 1) := by decide +kernel
set_option maxRecDepth 20000 in
theorem ggX0_keep_X5_copyTo : GoodIn wsX0_keep wsX5_copyTo := goodIn_r _ [12, 13, 14, 15, 16, 17, 18, 19, 20, 21, 22, 23, 27, 28] (by decide +kernel) (by decide +kernel)
set_option maxRecDepth 20000 in
theorem gX0_keep_X5_copyTo : GoodIn wsX0_keep (wsV RX0 27 RX5 yX5_copyTo wsX5_copyTo) := goodIn_app (goodIn_of _ (by decide +kernel)) ggX0_keep_X5_copyTo
theorem dX0_keep_0 : decode cX0_keep 0 = .ok (.aload_n 1, 1) := by decide +kernel
theorem dX0_keep_1 : decode cX0_keep 1 = .ok (.aload_n 0, 1) := by decide +kernel
theorem dX0_keep_2 : decode cX0_keep 2 = .ok (.getfield 16, 3) := by decide +kernel
theorem dX0_keep_5 : decode cX0_keep 5 = .ok (.aload_n 0, 1) := by decide +kernel
theorem dX0_keep_6 : decode cX0_keep 6 = .ok (.getfield 24, 3) := by decide +kernel
theorem dX0_keep_9 : decode cX0_keep 9 = .ok (.bipush 86, 2) := by decide +kernel
theorem dX0_keep_11 : decode cX0_keep 11 = .ok (.imul, 1) := by decide +kernel
theorem dX0_keep_12 : decode cX0_keep 12 = .ok (.invokevirtual 27, 3) := by decide +kernel
theorem dX0_keep_15 : decode cX0_keep 15 = .ok (.aload_n 0, 1) := by decide +kernel
theorem dX0_keep_16 : decode cX0_keep 16 = .ok (.aload_n 0, 1) := by decide +kernel
theorem dX0_keep_17 : decode cX0_keep 17 = .ok (.getfield 24, 3) := by decide +kernel
theorem dX0_keep_20 : decode cX0_keep 20 = .ok (.iconst 1, 1) := by decide +kernel
theorem dX0_keep_21 : decode cX0_keep 21 = .ok (.iadd, 1) := by decide +kernel
theorem dX0_keep_22 : decode cX0_keep 22 = .ok (.bipush 6, 2) := by decide +kernel
theorem dX0_keep_24 : decode cX0_keep 24 = .ok (.irem, 1) := by decide +kernel
theorem dX0_keep_25 : decode cX0_keep 25 = .ok (.putfield 24, 3) := by decide +kernel
theorem dX0_keep_28 : decode cX0_keep 28 = .ok (.aload_n 0, 1) := by decide +kernel
theorem dX0_keep_29 : decode cX0_keep 29 = .ok (.aload_n 0, 1) := by decide +kernel
theorem dX0_keep_30 : decode cX0_keep 30 = .ok (.getfield 20, 3) := by decide +kernel
theorem dX0_keep_33 : decode cX0_keep 33 = .ok (.iconst 1, 1) := by decide +kernel
theorem dX0_keep_34 : decode cX0_keep 34 = .ok (.iadd, 1) := by decide +kernel
theorem dX0_keep_35 : decode cX0_keep 35 = .ok (.bipush 6, 2) := by decide +kernel
theorem dX0_keep_37 : decode cX0_keep 37 = .ok (.invokestatic 31, 3) := by decide +kernel
theorem dX0_keep_40 : decode cX0_keep 40 = .ok (.putfield 20, 3) := by decide +kernel
theorem dX0_keep_43 : decode cX0_keep 43 = .ok (.return_, 1) := by decide +kernel
set_option maxRecDepth 20000 in
theorem ggX1_init_X4_init : GoodIn wsX1_init wsX4_init := goodIn_r _ [12, 13, 2, 3, 14, 15, 16, 17, 18, 19, 43] (by decide +kernel) (by decide +kernel)
set_option maxRecDepth 20000 in
theorem gX1_init_X4_init : GoodIn wsX1_init (wsX4_init) := ggX1_init_X4_init
set_option maxRecDepth 20000 in
theorem ggX1_init_X1_discOfMember : GoodIn wsX1_init wsX1_discOfMember := goodIn_r _ [23] (by decide +kernel) (by decide +kernel)
set_option maxRecDepth 20000 in
theorem gX1_init_X1_discOfMember : GoodIn wsX1_init (va_wsS RX1 26 yX1_discOfMember wsX1_discOfMember) := goodIn_app (goodIn_of _ (by decide +kernel)) ggX1_init_X1_discOfMember
set_option maxRecDepth 20000 in
theorem ggX1_init_X4_at : GoodIn wsX1_init wsX4_at := goodIn_r _ [27, 19, 43] (by decide +kernel) (by decide +kernel)
set_option maxRecDepth 20000 in
theorem gX1_init_X4_at : GoodIn wsX1_init (wsV RX1 30 RX4 yX4_at wsX4_at) := goodIn_app (goodIn_of _ (by decide +kernel)) ggX1_init_X4_at
set_option maxRecDepth 20000 in
theorem ggX1_init_X1_spotAt : GoodIn wsX1_init wsX1_spotAt := goodIn_r _ [30] (by decide +kernel) (by decide +kernel)
set_option maxRecDepth 20000 in
theorem gX1_init_X1_spotAt : GoodIn wsX1_init (va_wsS RX1 34 yX1_spotAt wsX1_spotAt) := goodIn_app (goodIn_of _ (by decide +kernel)) ggX1_init_X1_spotAt
set_option maxRecDepth 20000 in
theorem ggX1_init_X4_increase : GoodIn wsX1_init wsX4_increase := goodIn_r _ [34, 19, 43] (by decide +kernel) (by decide +kernel)
set_option maxRecDepth 20000 in
theorem gX1_init_X4_increase : GoodIn wsX1_init (wsV RX1 37 RX4 yX4_increase wsX4_increase) := goodIn_app (goodIn_of _ (by decide +kernel)) ggX1_init_X4_increase
set_option maxRecDepth 20000 in
theorem ggX1_init_X1_lay : GoodIn wsX1_init wsX1_lay := goodIn_r _ [38, 7, 8, 9, 39, 40, 41, 6, 42, 19, 44, 45, 46, 43] (by decide +kernel) (by decide +kernel)
set_option maxRecDepth 20000 in
theorem gX1_init_X1_lay : GoodIn wsX1_init (wsV RX1 40 RX1 yX1_lay wsX1_lay) := goodIn_app (goodIn_of _ (by decide +kernel)) ggX1_init_X1_lay
theorem dX1_init_0 : decode cX1_init 0 = .ok (.aload_n 0, 1) := by decide +kernel
theorem dX1_init_1 : decode cX1_init 1 = .ok (.invokespecial 3, 3) := by decide +kernel
theorem dX1_init_4 : decode cX1_init 4 = .ok (.aload_n 0, 1) := by decide +kernel
theorem dX1_init_5 : decode cX1_init 5 = .ok (.new 9, 3) := by decide +kernel
theorem dX1_init_8 : decode cX1_init 8 = .ok (.dup, 1) := by decide +kernel
theorem dX1_init_9 : decode cX1_init 9 = .ok (.bipush 63, 2) := by decide +kernel
theorem dX1_init_11 : decode cX1_init 11 = .ok (.invokespecial 11, 3) := by decide +kernel
theorem dX1_init_14 : decode cX1_init 14 = .ok (.putfield 14, 3) := by decide +kernel
theorem dX1_init_17 : decode cX1_init 17 = .ok (.aload_n 0, 1) := by decide +kernel
theorem dX1_init_18 : decode cX1_init 18 = .ok (.new 9, 3) := by decide +kernel
theorem dX1_init_21 : decode cX1_init 21 = .ok (.dup, 1) := by decide +kernel
theorem dX1_init_22 : decode cX1_init 22 = .ok (.bipush 63, 2) := by decide +kernel
theorem dX1_init_24 : decode cX1_init 24 = .ok (.invokespecial 11, 3) := by decide +kernel
theorem dX1_init_27 : decode cX1_init 27 = .ok (.putfield 20, 3) := by decide +kernel
theorem dX1_init_30 : decode cX1_init 30 = .ok (.aload_n 0, 1) := by decide +kernel
theorem dX1_init_31 : decode cX1_init 31 = .ok (.new 9, 3) := by decide +kernel
theorem dX1_init_34 : decode cX1_init 34 = .ok (.dup, 1) := by decide +kernel
theorem dX1_init_35 : decode cX1_init 35 = .ok (.bipush 63, 2) := by decide +kernel
theorem dX1_init_37 : decode cX1_init 37 = .ok (.invokespecial 11, 3) := by decide +kernel
theorem dX1_init_40 : decode cX1_init 40 = .ok (.putfield 23, 3) := by decide +kernel
theorem dX1_init_43 : decode cX1_init 43 = .ok (.new 9, 3) := by decide +kernel
theorem dX1_init_46 : decode cX1_init 46 = .ok (.dup, 1) := by decide +kernel
theorem dX1_init_47 : decode cX1_init 47 = .ok (.bipush 7, 2) := by decide +kernel
theorem dX1_init_49 : decode cX1_init 49 = .ok (.invokespecial 11, 3) := by decide +kernel
theorem dX1_init_52 : decode cX1_init 52 = .ok (.astore_n 1, 1) := by decide +kernel
theorem dX1_init_53 : decode cX1_init 53 = .ok (.iconst 0, 1) := by decide +kernel
theorem dX1_init_54 : decode cX1_init 54 = .ok (.istore_n 2, 1) := by decide +kernel
theorem dX1_init_55 : decode cX1_init 55 = .ok (.iload_n 2, 1) := by decide +kernel
theorem dX1_init_56 : decode cX1_init 56 = .ok (.bipush 21, 2) := by decide +kernel
theorem dX1_init_58 : decode cX1_init 58 = .ok (.if_icmp .ge 99, 3) := by decide +kernel
theorem dX1_init_61 : decode cX1_init 61 = .ok (.iconst 0, 1) := by decide +kernel
theorem dX1_init_62 : decode cX1_init 62 = .ok (.istore_n 3, 1) := by decide +kernel
theorem dX1_init_63 : decode cX1_init 63 = .ok (.iconst 0, 1) := by decide +kernel
theorem dX1_init_64 : decode cX1_init 64 = .ok (.istore 4, 2) := by decide +kernel
theorem dX1_init_66 : decode cX1_init 66 = .ok (.iload 4, 2) := by decide +kernel
theorem dX1_init_68 : decode cX1_init 68 = .ok (.iconst 3, 1) := by decide +kernel
theorem dX1_init_69 : decode cX1_init 69 = .ok (.if_icmp .ge 82, 3) := by decide +kernel
theorem dX1_init_72 : decode cX1_init 72 = .ok (.iload_n 2, 1) := by decide +kernel
theorem dX1_init_73 : decode cX1_init 73 = .ok (.iload 4, 2) := by decide +kernel
theorem dX1_init_75 : decode cX1_init 75 = .ok (.invokestatic 26, 3) := by decide +kernel
theorem dX1_init_78 : decode cX1_init 78 = .ok (.istore 5, 2) := by decide +kernel
theorem dX1_init_80 : decode cX1_init 80 = .ok (.iload 5, 2) := by decide +kernel
theorem dX1_init_82 : decode cX1_init 82 = .ok (.aload_n 1, 1) := by decide +kernel
theorem dX1_init_83 : decode cX1_init 83 = .ok (.iload 5, 2) := by decide +kernel
theorem dX1_init_85 : decode cX1_init 85 = .ok (.invokevirtual 30, 3) := by decide +kernel
theorem dX1_init_88 : decode cX1_init 88 = .ok (.invokestatic 34, 3) := by decide +kernel
theorem dX1_init_91 : decode cX1_init 91 = .ok (.istore 6, 2) := by decide +kernel
theorem dX1_init_93 : decode cX1_init 93 = .ok (.aload_n 1, 1) := by decide +kernel
theorem dX1_init_94 : decode cX1_init 94 = .ok (.iload 5, 2) := by decide +kernel
theorem dX1_init_96 : decode cX1_init 96 = .ok (.invokevirtual 37, 3) := by decide +kernel
theorem dX1_init_99 : decode cX1_init 99 = .ok (.iload 4, 2) := by decide +kernel
theorem dX1_init_101 : decode cX1_init 101 = .ok (.iload_n 2, 1) := by decide +kernel
theorem dX1_init_102 : decode cX1_init 102 = .ok (.bipush 7, 2) := by decide +kernel
theorem dX1_init_104 : decode cX1_init 104 = .ok (.idiv, 1) := by decide +kernel
theorem dX1_init_105 : decode cX1_init 105 = .ok (.if_icmp .ne 7, 3) := by decide +kernel
theorem dX1_init_108 : decode cX1_init 108 = .ok (.iconst 1, 1) := by decide +kernel
theorem dX1_init_109 : decode cX1_init 109 = .ok (.goto 4, 3) := by decide +kernel
theorem dX1_init_112 : decode cX1_init 112 = .ok (.iconst 0, 1) := by decide +kernel
theorem dX1_init_113 : decode cX1_init 113 = .ok (.istore 7, 2) := by decide +kernel
theorem dX1_init_115 : decode cX1_init 115 = .ok (.aload_n 0, 1) := by decide +kernel
theorem dX1_init_116 : decode cX1_init 116 = .ok (.iload 6, 2) := by decide +kernel
theorem dX1_init_118 : decode cX1_init 118 = .ok (.iload_n 2, 1) := by decide +kernel
theorem dX1_init_119 : decode cX1_init 119 = .ok (.iload 7, 2) := by decide +kernel
theorem dX1_init_121 : decode cX1_init 121 = .ok (.ifCond .eq 7, 3) := by decide +kernel
theorem dX1_init_124 : decode cX1_init 124 = .ok (.iconst 2, 1) := by decide +kernel
theorem dX1_init_125 : decode cX1_init 125 = .ok (.goto 4, 3) := by decide +kernel
theorem dX1_init_128 : decode cX1_init 128 = .ok (.iload_n 3, 1) := by decide +kernel
theorem dX1_init_129 : decode cX1_init 129 = .ok (.invokevirtual 40, 3) := by decide +kernel
theorem dX1_init_132 : decode cX1_init 132 = .ok (.iload_n 3, 1) := by decide +kernel
theorem dX1_init_133 : decode cX1_init 133 = .ok (.iload 7, 2) := by decide +kernel
theorem dX1_init_135 : decode cX1_init 135 = .ok (.ifCond .eq 7, 3) := by decide +kernel
theorem dX1_init_138 : decode cX1_init 138 = .ok (.iconst 0, 1) := by decide +kernel
theorem dX1_init_139 : decode cX1_init 139 = .ok (.goto 4, 3) := by decide +kernel
theorem dX1_init_142 : decode cX1_init 142 = .ok (.iconst 1, 1) := by decide +kernel
theorem dX1_init_143 : decode cX1_init 143 = .ok (.iadd, 1) := by decide +kernel
theorem dX1_init_144 : decode cX1_init 144 = .ok (.istore_n 3, 1) := by decide +kernel
theorem dX1_init_145 : decode cX1_init 145 = .ok (.iinc 4 1, 3) := by decide +kernel
theorem dX1_init_148 : decode cX1_init 148 = .ok (.goto (-82), 3) := by decide +kernel
theorem dX1_init_151 : decode cX1_init 151 = .ok (.iinc 2 1, 3) := by decide +kernel
theorem dX1_init_154 : decode cX1_init 154 = .ok (.goto (-99), 3) := by decide +kernel
theorem dX1_init_157 : decode cX1_init 157 = .ok (.return_, 1) := by decide +kernel
set_option maxRecDepth 20000 in
theorem ggX1_lay_X4_put : GoodIn wsX1_lay wsX4_put := goodIn_r _ [8, 9, 13] (by decide +kernel) (by decide +kernel)
set_option maxRecDepth 20000 in
theorem gX1_lay_X4_put : GoodIn wsX1_lay (wsV RX1 44 RX4 yX4_put wsX4_put) := goodIn_app (goodIn_of _ (by decide +kernel)) ggX1_lay_X4_put
theorem dX1_lay_0 : decode cX1_lay 0 = .ok (.aload_n 0, 1) := by decide +kernel
theorem dX1_lay_1 : decode cX1_lay 1 = .ok (.getfield 14, 3) := by decide +kernel
theorem dX1_lay_4 : decode cX1_lay 4 = .ok (.iconst 3, 1) := by decide +kernel
theorem dX1_lay_5 : decode cX1_lay 5 = .ok (.iload_n 2, 1) := by decide +kernel
theorem dX1_lay_6 : decode cX1_lay 6 = .ok (.imul, 1) := by decide +kernel
theorem dX1_lay_7 : decode cX1_lay 7 = .ok (.iload_n 3, 1) := by decide +kernel
theorem dX1_lay_8 : decode cX1_lay 8 = .ok (.iadd, 1) := by decide +kernel
theorem dX1_lay_9 : decode cX1_lay 9 = .ok (.iload_n 1, 1) := by decide +kernel
theorem dX1_lay_10 : decode cX1_lay 10 = .ok (.invokevirtual 44, 3) := by decide +kernel
theorem dX1_lay_13 : decode cX1_lay 13 = .ok (.aload_n 0, 1) := by decide +kernel
theorem dX1_lay_14 : decode cX1_lay 14 = .ok (.getfield 20, 3) := by decide +kernel
theorem dX1_lay_17 : decode cX1_lay 17 = .ok (.iload_n 1, 1) := by decide +kernel
theorem dX1_lay_18 : decode cX1_lay 18 = .ok (.iload_n 2, 1) := by decide +kernel
theorem dX1_lay_19 : decode cX1_lay 19 = .ok (.invokevirtual 44, 3) := by decide +kernel
theorem dX1_lay_22 : decode cX1_lay 22 = .ok (.aload_n 0, 1) := by decide +kernel
theorem dX1_lay_23 : decode cX1_lay 23 = .ok (.getfield 23, 3) := by decide +kernel
theorem dX1_lay_26 : decode cX1_lay 26 = .ok (.iload_n 1, 1) := by decide +kernel
theorem dX1_lay_27 : decode cX1_lay 27 = .ok (.iload_n 3, 1) := by decide +kernel
theorem dX1_lay_28 : decode cX1_lay 28 = .ok (.invokevirtual 44, 3) := by decide +kernel
theorem dX1_lay_31 : decode cX1_lay 31 = .ok (.return_, 1) := by decide +kernel
theorem dX1_discOfMember_0 : decode cX1_discOfMember 0 = .ok (.iload_n 0, 1) := by decide +kernel
theorem dX1_discOfMember_1 : decode cX1_discOfMember 1 = .ok (.iload_n 1, 1) := by decide +kernel
theorem dX1_discOfMember_2 : decode cX1_discOfMember 2 = .ok (.iconst 2, 1) := by decide +kernel
theorem dX1_discOfMember_3 : decode cX1_discOfMember 3 = .ok (.if_icmp .ne 7, 3) := by decide +kernel
theorem dX1_discOfMember_6 : decode cX1_discOfMember 6 = .ok (.iconst 3, 1) := by decide +kernel
theorem dX1_discOfMember_7 : decode cX1_discOfMember 7 = .ok (.goto 4, 3) := by decide +kernel
theorem dX1_discOfMember_10 : decode cX1_discOfMember 10 = .ok (.iload_n 1, 1) := by decide +kernel
theorem dX1_discOfMember_11 : decode cX1_discOfMember 11 = .ok (.iadd, 1) := by decide +kernel
theorem dX1_discOfMember_12 : decode cX1_discOfMember 12 = .ok (.bipush 7, 2) := by decide +kernel
theorem dX1_discOfMember_14 : decode cX1_discOfMember 14 = .ok (.irem, 1) := by decide +kernel
theorem dX1_discOfMember_15 : decode cX1_discOfMember 15 = .ok (.ireturn, 1) := by decide +kernel
theorem dX1_spotAt_0 : decode cX1_spotAt 0 = .ok (.bipush 9, 2) := by decide +kernel
theorem dX1_spotAt_2 : decode cX1_spotAt 2 = .ok (.iload_n 0, 1) := by decide +kernel
theorem dX1_spotAt_3 : decode cX1_spotAt 3 = .ok (.imul, 1) := by decide +kernel
theorem dX1_spotAt_4 : decode cX1_spotAt 4 = .ok (.iload_n 1, 1) := by decide +kernel
theorem dX1_spotAt_5 : decode cX1_spotAt 5 = .ok (.iadd, 1) := by decide +kernel
theorem dX1_spotAt_6 : decode cX1_spotAt 6 = .ok (.ireturn, 1) := by decide +kernel
theorem dX1_discOfSpot_0 : decode cX1_discOfSpot 0 = .ok (.iload_n 0, 1) := by decide +kernel
theorem dX1_discOfSpot_1 : decode cX1_discOfSpot 1 = .ok (.bipush 9, 2) := by decide +kernel
theorem dX1_discOfSpot_3 : decode cX1_discOfSpot 3 = .ok (.idiv, 1) := by decide +kernel
theorem dX1_discOfSpot_4 : decode cX1_discOfSpot 4 = .ok (.ireturn, 1) := by decide +kernel
theorem dX1_placeOfSpot_0 : decode cX1_placeOfSpot 0 = .ok (.iload_n 0, 1) := by decide +kernel
theorem dX1_placeOfSpot_1 : decode cX1_placeOfSpot 1 = .ok (.bipush 9, 2) := by decide +kernel
theorem dX1_placeOfSpot_3 : decode cX1_placeOfSpot 3 = .ok (.irem, 1) := by decide +kernel
theorem dX1_placeOfSpot_4 : decode cX1_placeOfSpot 4 = .ok (.ireturn, 1) := by decide +kernel
set_option maxRecDepth 20000 in
theorem ggX1_spotOf_X4_at : GoodIn wsX1_spotOf wsX4_at := goodIn_r _ [6, 7, 11] (by decide +kernel) (by decide +kernel)
set_option maxRecDepth 20000 in
theorem gX1_spotOf_X4_at : GoodIn wsX1_spotOf (wsV RX1 30 RX4 yX4_at wsX4_at) := goodIn_app (goodIn_of _ (by decide +kernel)) ggX1_spotOf_X4_at
theorem dX1_spotOf_0 : decode cX1_spotOf 0 = .ok (.aload_n 0, 1) := by decide +kernel
theorem dX1_spotOf_1 : decode cX1_spotOf 1 = .ok (.getfield 14, 3) := by decide +kernel
theorem dX1_spotOf_4 : decode cX1_spotOf 4 = .ok (.iconst 3, 1) := by decide +kernel
theorem dX1_spotOf_5 : decode cX1_spotOf 5 = .ok (.iload_n 1, 1) := by decide +kernel
theorem dX1_spotOf_6 : decode cX1_spotOf 6 = .ok (.imul, 1) := by decide +kernel
theorem dX1_spotOf_7 : decode cX1_spotOf 7 = .ok (.iload_n 2, 1) := by decide +kernel
theorem dX1_spotOf_8 : decode cX1_spotOf 8 = .ok (.iadd, 1) := by decide +kernel
theorem dX1_spotOf_9 : decode cX1_spotOf 9 = .ok (.invokevirtual 30, 3) := by decide +kernel
theorem dX1_spotOf_12 : decode cX1_spotOf 12 = .ok (.ireturn, 1) := by decide +kernel
set_option maxRecDepth 20000 in
theorem ggX1_spotOfAddress_X1_spotOf : GoodIn wsX1_spotOfAddress wsX1_spotOf := goodIn_r _ [5, 6, 7, 8, 9, 10, 11, 12, 13, 14, 15, 16] (by decide +kernel) (by decide +kernel)
set_option maxRecDepth 20000 in
theorem gX1_spotOfAddress_X1_spotOf : GoodIn wsX1_spotOfAddress (wsV RX1 48 RX1 yX1_spotOf wsX1_spotOf) := goodIn_app (goodIn_of _ (by decide +kernel)) ggX1_spotOfAddress_X1_spotOf
theorem dX1_spotOfAddress_0 : decode cX1_spotOfAddress 0 = .ok (.aload_n 0, 1) := by decide +kernel
theorem dX1_spotOfAddress_1 : decode cX1_spotOfAddress 1 = .ok (.iload_n 1, 1) := by decide +kernel
theorem dX1_spotOfAddress_2 : decode cX1_spotOfAddress 2 = .ok (.iconst 2, 1) := by decide +kernel
theorem dX1_spotOfAddress_3 : decode cX1_spotOfAddress 3 = .ok (.idiv, 1) := by decide +kernel
theorem dX1_spotOfAddress_4 : decode cX1_spotOfAddress 4 = .ok (.iload_n 1, 1) := by decide +kernel
theorem dX1_spotOfAddress_5 : decode cX1_spotOfAddress 5 = .ok (.iconst 2, 1) := by decide +kernel
theorem dX1_spotOfAddress_6 : decode cX1_spotOfAddress 6 = .ok (.irem, 1) := by decide +kernel
theorem dX1_spotOfAddress_7 : decode cX1_spotOfAddress 7 = .ok (.invokevirtual 48, 3) := by decide +kernel
theorem dX1_spotOfAddress_10 : decode cX1_spotOfAddress 10 = .ok (.ireturn, 1) := by decide +kernel
set_option maxRecDepth 20000 in
theorem ggX1_otherDataOfAddress_X1_spotOf : GoodIn wsX1_otherDataOfAddress wsX1_spotOf := goodIn_r _ [5, 6, 7, 8, 9, 10, 11, 12, 13, 14, 15, 16] (by decide +kernel) (by decide +kernel)
set_option maxRecDepth 20000 in
theorem gX1_otherDataOfAddress_X1_spotOf : GoodIn wsX1_otherDataOfAddress (wsV RX1 48 RX1 yX1_spotOf wsX1_spotOf) := goodIn_app (goodIn_of _ (by decide +kernel)) ggX1_otherDataOfAddress_X1_spotOf
theorem dX1_otherDataOfAddress_0 : decode cX1_otherDataOfAddress 0 = .ok (.aload_n 0, 1) := by decide +kernel
theorem dX1_otherDataOfAddress_1 : decode cX1_otherDataOfAddress 1 = .ok (.iload_n 1, 1) := by decide +kernel
theorem dX1_otherDataOfAddress_2 : decode cX1_otherDataOfAddress 2 = .ok (.iconst 2, 1) := by decide +kernel
theorem dX1_otherDataOfAddress_3 : decode cX1_otherDataOfAddress 3 = .ok (.idiv, 1) := by decide +kernel
theorem dX1_otherDataOfAddress_4 : decode cX1_otherDataOfAddress 4 = .ok (.iconst 1, 1) := by decide +kernel
theorem dX1_otherDataOfAddress_5 : decode cX1_otherDataOfAddress 5 = .ok (.iload_n 1, 1) := by decide +kernel
theorem dX1_otherDataOfAddress_6 : decode cX1_otherDataOfAddress 6 = .ok (.iconst 2, 1) := by decide +kernel
theorem dX1_otherDataOfAddress_7 : decode cX1_otherDataOfAddress 7 = .ok (.irem, 1) := by decide +kernel
theorem dX1_otherDataOfAddress_8 : decode cX1_otherDataOfAddress 8 = .ok (.isub, 1) := by decide +kernel
theorem dX1_otherDataOfAddress_9 : decode cX1_otherDataOfAddress 9 = .ok (.invokevirtual 48, 3) := by decide +kernel
theorem dX1_otherDataOfAddress_12 : decode cX1_otherDataOfAddress 12 = .ok (.ireturn, 1) := by decide +kernel
set_option maxRecDepth 20000 in
theorem ggX1_parityOfAddress_X1_spotOf : GoodIn wsX1_parityOfAddress wsX1_spotOf := goodIn_r _ [5, 6, 7, 8, 9, 10, 11, 12, 13, 14, 15, 16] (by decide +kernel) (by decide +kernel)
set_option maxRecDepth 20000 in
theorem gX1_parityOfAddress_X1_spotOf : GoodIn wsX1_parityOfAddress (wsV RX1 48 RX1 yX1_spotOf wsX1_spotOf) := goodIn_app (goodIn_of _ (by decide +kernel)) ggX1_parityOfAddress_X1_spotOf
theorem dX1_parityOfAddress_0 : decode cX1_parityOfAddress 0 = .ok (.aload_n 0, 1) := by decide +kernel
theorem dX1_parityOfAddress_1 : decode cX1_parityOfAddress 1 = .ok (.iload_n 1, 1) := by decide +kernel
theorem dX1_parityOfAddress_2 : decode cX1_parityOfAddress 2 = .ok (.iconst 2, 1) := by decide +kernel
theorem dX1_parityOfAddress_3 : decode cX1_parityOfAddress 3 = .ok (.idiv, 1) := by decide +kernel
theorem dX1_parityOfAddress_4 : decode cX1_parityOfAddress 4 = .ok (.iconst 2, 1) := by decide +kernel
theorem dX1_parityOfAddress_5 : decode cX1_parityOfAddress 5 = .ok (.invokevirtual 48, 3) := by decide +kernel
theorem dX1_parityOfAddress_8 : decode cX1_parityOfAddress 8 = .ok (.ireturn, 1) := by decide +kernel
set_option maxRecDepth 20000 in
theorem ggX1_stripeOfSpot_X4_at : GoodIn wsX1_stripeOfSpot wsX4_at := goodIn_r _ [6, 7, 11] (by decide +kernel) (by decide +kernel)
set_option maxRecDepth 20000 in
theorem gX1_stripeOfSpot_X4_at : GoodIn wsX1_stripeOfSpot (wsV RX1 30 RX4 yX4_at wsX4_at) := goodIn_app (goodIn_of _ (by decide +kernel)) ggX1_stripeOfSpot_X4_at
theorem dX1_stripeOfSpot_0 : decode cX1_stripeOfSpot 0 = .ok (.aload_n 0, 1) := by decide +kernel
theorem dX1_stripeOfSpot_1 : decode cX1_stripeOfSpot 1 = .ok (.getfield 20, 3) := by decide +kernel
theorem dX1_stripeOfSpot_4 : decode cX1_stripeOfSpot 4 = .ok (.iload_n 1, 1) := by decide +kernel
theorem dX1_stripeOfSpot_5 : decode cX1_stripeOfSpot 5 = .ok (.invokevirtual 30, 3) := by decide +kernel
theorem dX1_stripeOfSpot_8 : decode cX1_stripeOfSpot 8 = .ok (.ireturn, 1) := by decide +kernel
set_option maxRecDepth 20000 in
theorem ggX1_nextInStripe_X4_at : GoodIn wsX1_nextInStripe wsX4_at := goodIn_r _ [8, 9, 13] (by decide +kernel) (by decide +kernel)
set_option maxRecDepth 20000 in
theorem gX1_nextInStripe_X4_at : GoodIn wsX1_nextInStripe (wsV RX1 30 RX4 yX4_at wsX4_at) := goodIn_app (goodIn_of _ (by decide +kernel)) ggX1_nextInStripe_X4_at
theorem dX1_nextInStripe_0 : decode cX1_nextInStripe 0 = .ok (.aload_n 0, 1) := by decide +kernel
theorem dX1_nextInStripe_1 : decode cX1_nextInStripe 1 = .ok (.getfield 23, 3) := by decide +kernel
theorem dX1_nextInStripe_4 : decode cX1_nextInStripe 4 = .ok (.iload_n 1, 1) := by decide +kernel
theorem dX1_nextInStripe_5 : decode cX1_nextInStripe 5 = .ok (.invokevirtual 30, 3) := by decide +kernel
theorem dX1_nextInStripe_8 : decode cX1_nextInStripe 8 = .ok (.iload_n 2, 1) := by decide +kernel
theorem dX1_nextInStripe_9 : decode cX1_nextInStripe 9 = .ok (.iadd, 1) := by decide +kernel
theorem dX1_nextInStripe_10 : decode cX1_nextInStripe 10 = .ok (.iconst 3, 1) := by decide +kernel
theorem dX1_nextInStripe_11 : decode cX1_nextInStripe 11 = .ok (.irem, 1) := by decide +kernel
theorem dX1_nextInStripe_12 : decode cX1_nextInStripe 12 = .ok (.istore_n 3, 1) := by decide +kernel
theorem dX1_nextInStripe_13 : decode cX1_nextInStripe 13 = .ok (.aload_n 0, 1) := by decide +kernel
theorem dX1_nextInStripe_14 : decode cX1_nextInStripe 14 = .ok (.getfield 14, 3) := by decide +kernel
theorem dX1_nextInStripe_17 : decode cX1_nextInStripe 17 = .ok (.iconst 3, 1) := by decide +kernel
theorem dX1_nextInStripe_18 : decode cX1_nextInStripe 18 = .ok (.aload_n 0, 1) := by decide +kernel
theorem dX1_nextInStripe_19 : decode cX1_nextInStripe 19 = .ok (.getfield 20, 3) := by decide +kernel
theorem dX1_nextInStripe_22 : decode cX1_nextInStripe 22 = .ok (.iload_n 1, 1) := by decide +kernel
theorem dX1_nextInStripe_23 : decode cX1_nextInStripe 23 = .ok (.invokevirtual 30, 3) := by decide +kernel
theorem dX1_nextInStripe_26 : decode cX1_nextInStripe 26 = .ok (.imul, 1) := by decide +kernel
theorem dX1_nextInStripe_27 : decode cX1_nextInStripe 27 = .ok (.iload_n 3, 1) := by decide +kernel
theorem dX1_nextInStripe_28 : decode cX1_nextInStripe 28 = .ok (.iadd, 1) := by decide +kernel
theorem dX1_nextInStripe_29 : decode cX1_nextInStripe 29 = .ok (.invokevirtual 30, 3) := by decide +kernel
theorem dX1_nextInStripe_32 : decode cX1_nextInStripe 32 = .ok (.ireturn, 1) := by decide +kernel
set_option maxRecDepth 20000 in
theorem ggX1_stripesOnBoth_X1_liesOn : GoodIn wsX1_stripesOnBoth wsX1_liesOn := goodIn_r _ [4, 5, 6, 3, 7] (by decide +kernel) (by decide +kernel)
set_option maxRecDepth 20000 in
theorem gX1_stripesOnBoth_X1_liesOn : GoodIn wsX1_stripesOnBoth (va_wsS RX1 51 yX1_liesOn wsX1_liesOn) := goodIn_app (goodIn_of _ (by decide +kernel)) ggX1_stripesOnBoth_X1_liesOn
theorem dX1_stripesOnBoth_0 : decode cX1_stripesOnBoth 0 = .ok (.iconst 0, 1) := by decide +kernel
theorem dX1_stripesOnBoth_1 : decode cX1_stripesOnBoth 1 = .ok (.istore_n 3, 1) := by decide +kernel
theorem dX1_stripesOnBoth_2 : decode cX1_stripesOnBoth 2 = .ok (.iconst 0, 1) := by decide +kernel
theorem dX1_stripesOnBoth_3 : decode cX1_stripesOnBoth 3 = .ok (.istore 4, 2) := by decide +kernel
theorem dX1_stripesOnBoth_5 : decode cX1_stripesOnBoth 5 = .ok (.iload 4, 2) := by decide +kernel
theorem dX1_stripesOnBoth_7 : decode cX1_stripesOnBoth 7 = .ok (.bipush 21, 2) := by decide +kernel
theorem dX1_stripesOnBoth_9 : decode cX1_stripesOnBoth 9 = .ok (.if_icmp .ge 30, 3) := by decide +kernel
theorem dX1_stripesOnBoth_12 : decode cX1_stripesOnBoth 12 = .ok (.iload 4, 2) := by decide +kernel
theorem dX1_stripesOnBoth_14 : decode cX1_stripesOnBoth 14 = .ok (.iload_n 1, 1) := by decide +kernel
theorem dX1_stripesOnBoth_15 : decode cX1_stripesOnBoth 15 = .ok (.invokestatic 51, 3) := by decide +kernel
theorem dX1_stripesOnBoth_18 : decode cX1_stripesOnBoth 18 = .ok (.ifCond .eq 15, 3) := by decide +kernel
theorem dX1_stripesOnBoth_21 : decode cX1_stripesOnBoth 21 = .ok (.iload 4, 2) := by decide +kernel
theorem dX1_stripesOnBoth_23 : decode cX1_stripesOnBoth 23 = .ok (.iload_n 2, 1) := by decide +kernel
theorem dX1_stripesOnBoth_24 : decode cX1_stripesOnBoth 24 = .ok (.invokestatic 51, 3) := by decide +kernel
theorem dX1_stripesOnBoth_27 : decode cX1_stripesOnBoth 27 = .ok (.ifCond .eq 6, 3) := by decide +kernel
theorem dX1_stripesOnBoth_30 : decode cX1_stripesOnBoth 30 = .ok (.iinc 3 1, 3) := by decide +kernel
theorem dX1_stripesOnBoth_33 : decode cX1_stripesOnBoth 33 = .ok (.iinc 4 1, 3) := by decide +kernel
theorem dX1_stripesOnBoth_36 : decode cX1_stripesOnBoth 36 = .ok (.goto (-31), 3) := by decide +kernel
theorem dX1_stripesOnBoth_39 : decode cX1_stripesOnBoth 39 = .ok (.iload_n 3, 1) := by decide +kernel
theorem dX1_stripesOnBoth_40 : decode cX1_stripesOnBoth 40 = .ok (.ireturn, 1) := by decide +kernel
set_option maxRecDepth 20000 in
theorem ggX1_liesOn_X1_discOfMember : GoodIn wsX1_liesOn wsX1_discOfMember := goodIn_r _ [4] (by decide +kernel) (by decide +kernel)
set_option maxRecDepth 20000 in
theorem gX1_liesOn_X1_discOfMember : GoodIn wsX1_liesOn (va_wsS RX1 26 yX1_discOfMember wsX1_discOfMember) := goodIn_app (goodIn_of _ (by decide +kernel)) ggX1_liesOn_X1_discOfMember
theorem dX1_liesOn_0 : decode cX1_liesOn 0 = .ok (.iconst 0, 1) := by decide +kernel
theorem dX1_liesOn_1 : decode cX1_liesOn 1 = .ok (.istore_n 2, 1) := by decide +kernel
theorem dX1_liesOn_2 : decode cX1_liesOn 2 = .ok (.iload_n 2, 1) := by decide +kernel
theorem dX1_liesOn_3 : decode cX1_liesOn 3 = .ok (.iconst 3, 1) := by decide +kernel
theorem dX1_liesOn_4 : decode cX1_liesOn 4 = .ok (.if_icmp .ge 20, 3) := by decide +kernel
theorem dX1_liesOn_7 : decode cX1_liesOn 7 = .ok (.iload_n 0, 1) := by decide +kernel
theorem dX1_liesOn_8 : decode cX1_liesOn 8 = .ok (.iload_n 2, 1) := by decide +kernel
theorem dX1_liesOn_9 : decode cX1_liesOn 9 = .ok (.invokestatic 26, 3) := by decide +kernel
theorem dX1_liesOn_12 : decode cX1_liesOn 12 = .ok (.iload_n 1, 1) := by decide +kernel
theorem dX1_liesOn_13 : decode cX1_liesOn 13 = .ok (.if_icmp .ne 5, 3) := by decide +kernel
theorem dX1_liesOn_16 : decode cX1_liesOn 16 = .ok (.iconst 1, 1) := by decide +kernel
theorem dX1_liesOn_17 : decode cX1_liesOn 17 = .ok (.ireturn, 1) := by decide +kernel
theorem dX1_liesOn_18 : decode cX1_liesOn 18 = .ok (.iinc 2 1, 3) := by decide +kernel
theorem dX1_liesOn_21 : decode cX1_liesOn 21 = .ok (.goto (-19), 3) := by decide +kernel
theorem dX1_liesOn_24 : decode cX1_liesOn 24 = .ok (.iconst 0, 1) := by decide +kernel
theorem dX1_liesOn_25 : decode cX1_liesOn 25 = .ok (.ireturn, 1) := by decide +kernel
theorem dX2_init_0 : decode cX2_init 0 = .ok (.aload_n 0, 1) := by decide +kernel
theorem dX2_init_1 : decode cX2_init 1 = .ok (.invokespecial 3, 3) := by decide +kernel
theorem dX2_init_4 : decode cX2_init 4 = .ok (.aload_n 0, 1) := by decide +kernel
theorem dX2_init_5 : decode cX2_init 5 = .ok (.iconst 0, 1) := by decide +kernel
theorem dX2_init_6 : decode cX2_init 6 = .ok (.putfield 11, 3) := by decide +kernel
theorem dX2_init_9 : decode cX2_init 9 = .ok (.aload_n 0, 1) := by decide +kernel
theorem dX2_init_10 : decode cX2_init 10 = .ok (.iconst (-1), 1) := by decide +kernel
theorem dX2_init_11 : decode cX2_init 11 = .ok (.putfield 15, 3) := by decide +kernel
theorem dX2_init_14 : decode cX2_init 14 = .ok (.aload_n 0, 1) := by decide +kernel
theorem dX2_init_15 : decode cX2_init 15 = .ok (.iconst (-1), 1) := by decide +kernel
theorem dX2_init_16 : decode cX2_init 16 = .ok (.putfield 18, 3) := by decide +kernel
theorem dX2_init_19 : decode cX2_init 19 = .ok (.return_, 1) := by decide +kernel
set_option maxRecDepth 20000 in
theorem ggX3_init_X4_init : GoodIn wsX3_init wsX4_init := goodIn_r _ [14, 15, 2, 3, 16, 17, 18, 19, 20, 21, 28] (by decide +kernel) (by decide +kernel)
set_option maxRecDepth 20000 in
theorem gX3_init_X4_init : GoodIn wsX3_init (wsX4_init) := ggX3_init_X4_init
set_option maxRecDepth 20000 in
theorem ggX3_init_X2_init : GoodIn wsX3_init wsX2_init := goodIn_r _ [23, 24, 2, 3, 25, 26, 27, 33, 34, 35, 36] (by decide +kernel) (by decide +kernel)
set_option maxRecDepth 20000 in
theorem gX3_init_X2_init_n20 : GoodIn wsX3_init (wsX2_init) := ggX3_init_X2_init
theorem dX3_init_0 : decode cX3_init 0 = .ok (.aload_n 0, 1) := by decide +kernel
theorem dX3_init_1 : decode cX3_init 1 = .ok (.invokespecial 1, 3) := by decide +kernel
theorem dX3_init_4 : decode cX3_init 4 = .ok (.aload_n 0, 1) := by decide +kernel
theorem dX3_init_5 : decode cX3_init 5 = .ok (.new 7, 3) := by decide +kernel
theorem dX3_init_8 : decode cX3_init 8 = .ok (.dup, 1) := by decide +kernel
theorem dX3_init_9 : decode cX3_init 9 = .ok (.bipush 60, 2) := by decide +kernel
theorem dX3_init_11 : decode cX3_init 11 = .ok (.invokespecial 11, 3) := by decide +kernel
theorem dX3_init_14 : decode cX3_init 14 = .ok (.putfield 14, 3) := by decide +kernel
theorem dX3_init_17 : decode cX3_init 17 = .ok (.aload_n 0, 1) := by decide +kernel
theorem dX3_init_18 : decode cX3_init 18 = .ok (.new 18, 3) := by decide +kernel
theorem dX3_init_21 : decode cX3_init 21 = .ok (.dup, 1) := by decide +kernel
theorem dX3_init_22 : decode cX3_init 22 = .ok (.invokespecial 20, 3) := by decide +kernel
theorem dX3_init_25 : decode cX3_init 25 = .ok (.putfield 21, 3) := by decide +kernel
theorem dX3_init_28 : decode cX3_init 28 = .ok (.return_, 1) := by decide +kernel
theorem dX4_init_0 : decode cX4_init 0 = .ok (.aload_n 0, 1) := by decide +kernel
theorem dX4_init_1 : decode cX4_init 1 = .ok (.invokespecial 1, 3) := by decide +kernel
theorem dX4_init_4 : decode cX4_init 4 = .ok (.aload_n 0, 1) := by decide +kernel
theorem dX4_init_5 : decode cX4_init 5 = .ok (.iload_n 1, 1) := by decide +kernel
theorem dX4_init_6 : decode cX4_init 6 = .ok (.iconst 0, 1) := by decide +kernel
theorem dX4_init_7 : decode cX4_init 7 = .ok (.invokestatic 7, 3) := by decide +kernel
theorem dX4_init_10 : decode cX4_init 10 = .ok (.newarray .int, 2) := by decide +kernel
theorem dX4_init_12 : decode cX4_init 12 = .ok (.putfield 13, 3) := by decide +kernel
theorem dX4_init_15 : decode cX4_init 15 = .ok (.return_, 1) := by decide +kernel
theorem dX4_at_0 : decode cX4_at 0 = .ok (.iload_n 1, 1) := by decide +kernel
theorem dX4_at_1 : decode cX4_at 1 = .ok (.ifCond .lt 21, 3) := by decide +kernel
theorem dX4_at_4 : decode cX4_at 4 = .ok (.iload_n 1, 1) := by decide +kernel
theorem dX4_at_5 : decode cX4_at 5 = .ok (.aload_n 0, 1) := by decide +kernel
theorem dX4_at_6 : decode cX4_at 6 = .ok (.getfield 13, 3) := by decide +kernel
theorem dX4_at_9 : decode cX4_at 9 = .ok (.arraylength, 1) := by decide +kernel
theorem dX4_at_10 : decode cX4_at 10 = .ok (.if_icmp .ge 12, 3) := by decide +kernel
theorem dX4_at_13 : decode cX4_at 13 = .ok (.aload_n 0, 1) := by decide +kernel
theorem dX4_at_14 : decode cX4_at 14 = .ok (.getfield 13, 3) := by decide +kernel
theorem dX4_at_17 : decode cX4_at 17 = .ok (.iload_n 1, 1) := by decide +kernel
theorem dX4_at_18 : decode cX4_at 18 = .ok (.iaload, 1) := by decide +kernel
theorem dX4_at_19 : decode cX4_at 19 = .ok (.goto 4, 3) := by decide +kernel
theorem dX4_at_22 : decode cX4_at 22 = .ok (.iconst 0, 1) := by decide +kernel
theorem dX4_at_23 : decode cX4_at 23 = .ok (.ireturn, 1) := by decide +kernel
theorem dX4_put_0 : decode cX4_put 0 = .ok (.iload_n 1, 1) := by decide +kernel
theorem dX4_put_1 : decode cX4_put 1 = .ok (.ifCond .lt 19, 3) := by decide +kernel
theorem dX4_put_4 : decode cX4_put 4 = .ok (.iload_n 1, 1) := by decide +kernel
theorem dX4_put_5 : decode cX4_put 5 = .ok (.aload_n 0, 1) := by decide +kernel
theorem dX4_put_6 : decode cX4_put 6 = .ok (.getfield 13, 3) := by decide +kernel
theorem dX4_put_9 : decode cX4_put 9 = .ok (.arraylength, 1) := by decide +kernel
theorem dX4_put_10 : decode cX4_put 10 = .ok (.if_icmp .ge 10, 3) := by decide +kernel
theorem dX4_put_13 : decode cX4_put 13 = .ok (.aload_n 0, 1) := by decide +kernel
theorem dX4_put_14 : decode cX4_put 14 = .ok (.getfield 13, 3) := by decide +kernel
theorem dX4_put_17 : decode cX4_put 17 = .ok (.iload_n 1, 1) := by decide +kernel
theorem dX4_put_18 : decode cX4_put 18 = .ok (.iload_n 2, 1) := by decide +kernel
theorem dX4_put_19 : decode cX4_put 19 = .ok (.iastore, 1) := by decide +kernel
theorem dX4_put_20 : decode cX4_put 20 = .ok (.return_, 1) := by decide +kernel
theorem dX4_increase_0 : decode cX4_increase 0 = .ok (.iload_n 1, 1) := by decide +kernel
theorem dX4_increase_1 : decode cX4_increase 1 = .ok (.ifCond .lt 22, 3) := by decide +kernel
theorem dX4_increase_4 : decode cX4_increase 4 = .ok (.iload_n 1, 1) := by decide +kernel
theorem dX4_increase_5 : decode cX4_increase 5 = .ok (.aload_n 0, 1) := by decide +kernel
theorem dX4_increase_6 : decode cX4_increase 6 = .ok (.getfield 13, 3) := by decide +kernel
theorem dX4_increase_9 : decode cX4_increase 9 = .ok (.arraylength, 1) := by decide +kernel
theorem dX4_increase_10 : decode cX4_increase 10 = .ok (.if_icmp .ge 13, 3) := by decide +kernel
theorem dX4_increase_13 : decode cX4_increase 13 = .ok (.aload_n 0, 1) := by decide +kernel
theorem dX4_increase_14 : decode cX4_increase 14 = .ok (.getfield 13, 3) := by decide +kernel
theorem dX4_increase_17 : decode cX4_increase 17 = .ok (.iload_n 1, 1) := by decide +kernel
theorem dX4_increase_18 : decode cX4_increase 18 = .ok (.dup2, 1) := by decide +kernel
theorem dX4_increase_19 : decode cX4_increase 19 = .ok (.iaload, 1) := by decide +kernel
theorem dX4_increase_20 : decode cX4_increase 20 = .ok (.iconst 1, 1) := by decide +kernel
theorem dX4_increase_21 : decode cX4_increase 21 = .ok (.iadd, 1) := by decide +kernel
theorem dX4_increase_22 : decode cX4_increase 22 = .ok (.iastore, 1) := by decide +kernel
theorem dX4_increase_23 : decode cX4_increase 23 = .ok (.return_, 1) := by decide +kernel
set_option maxRecDepth 20000 in
theorem ggX5_init_X4_init : GoodIn wsX5_init wsX4_init := goodIn_r _ [10, 11, 2, 3, 12, 13, 14, 15, 16, 17, 22] (by decide +kernel) (by decide +kernel)
set_option maxRecDepth 20000 in
theorem gX5_init_X4_init : GoodIn wsX5_init (wsX4_init) := ggX5_init_X4_init
set_option maxRecDepth 20000 in
theorem ggX5_init_X4_put : GoodIn wsX5_init wsX4_put := goodIn_r _ [21, 17, 22] (by decide +kernel) (by decide +kernel)
set_option maxRecDepth 20000 in
theorem gX5_init_X4_put : GoodIn wsX5_init (wsV RX5 22 RX4 yX4_put wsX4_put) := goodIn_app (goodIn_of _ (by decide +kernel)) ggX5_init_X4_put
theorem dX5_init_0 : decode cX5_init 0 = .ok (.aload_n 0, 1) := by decide +kernel
theorem dX5_init_1 : decode cX5_init 1 = .ok (.invokespecial 7, 3) := by decide +kernel
theorem dX5_init_4 : decode cX5_init 4 = .ok (.aload_n 0, 1) := by decide +kernel
theorem dX5_init_5 : decode cX5_init 5 = .ok (.new 13, 3) := by decide +kernel
theorem dX5_init_8 : decode cX5_init 8 = .ok (.dup, 1) := by decide +kernel
theorem dX5_init_9 : decode cX5_init 9 = .ok (.bipush 86, 2) := by decide +kernel
theorem dX5_init_11 : decode cX5_init 11 = .ok (.invokespecial 15, 3) := by decide +kernel
theorem dX5_init_14 : decode cX5_init 14 = .ok (.putfield 18, 3) := by decide +kernel
theorem dX5_init_17 : decode cX5_init 17 = .ok (.iconst 0, 1) := by decide +kernel
theorem dX5_init_18 : decode cX5_init 18 = .ok (.istore_n 1, 1) := by decide +kernel
theorem dX5_init_19 : decode cX5_init 19 = .ok (.iload_n 1, 1) := by decide +kernel
theorem dX5_init_20 : decode cX5_init 20 = .ok (.bipush 7, 2) := by decide +kernel
theorem dX5_init_22 : decode cX5_init 22 = .ok (.if_icmp .ge 22, 3) := by decide +kernel
theorem dX5_init_25 : decode cX5_init 25 = .ok (.aload_n 0, 1) := by decide +kernel
theorem dX5_init_26 : decode cX5_init 26 = .ok (.getfield 18, 3) := by decide +kernel
theorem dX5_init_29 : decode cX5_init 29 = .ok (.bipush 63, 2) := by decide +kernel
theorem dX5_init_31 : decode cX5_init 31 = .ok (.iload_n 1, 1) := by decide +kernel
theorem dX5_init_32 : decode cX5_init 32 = .ok (.iadd, 1) := by decide +kernel
theorem dX5_init_33 : decode cX5_init 33 = .ok (.bipush 9, 2) := by decide +kernel
theorem dX5_init_35 : decode cX5_init 35 = .ok (.invokevirtual 22, 3) := by decide +kernel
theorem dX5_init_38 : decode cX5_init 38 = .ok (.iinc 1 1, 3) := by decide +kernel
theorem dX5_init_41 : decode cX5_init 41 = .ok (.goto (-22), 3) := by decide +kernel
theorem dX5_init_44 : decode cX5_init 44 = .ok (.aload_n 0, 1) := by decide +kernel
theorem dX5_init_45 : decode cX5_init 45 = .ok (.getfield 18, 3) := by decide +kernel
theorem dX5_init_48 : decode cX5_init 48 = .ok (.bipush 84, 2) := by decide +kernel
theorem dX5_init_50 : decode cX5_init 50 = .ok (.iconst 2, 1) := by decide +kernel
theorem dX5_init_51 : decode cX5_init 51 = .ok (.invokevirtual 22, 3) := by decide +kernel
theorem dX5_init_54 : decode cX5_init 54 = .ok (.return_, 1) := by decide +kernel
set_option maxRecDepth 20000 in
theorem ggX5_hasUnit_X1_discOfSpot : GoodIn wsX5_hasUnit wsX1_discOfSpot := goodIn_r _ [5] (by decide +kernel) (by decide +kernel)
set_option maxRecDepth 20000 in
theorem gX5_hasUnit_X1_discOfSpot : GoodIn wsX5_hasUnit (va_wsS RX5 26 yX1_discOfSpot wsX1_discOfSpot) := goodIn_app (goodIn_of _ (by decide +kernel)) ggX5_hasUnit_X1_discOfSpot
set_option maxRecDepth 20000 in
theorem ggX5_hasUnit_X4_at : GoodIn wsX5_hasUnit wsX4_at := goodIn_r _ [10, 11, 16] (by decide +kernel) (by decide +kernel)
set_option maxRecDepth 20000 in
theorem gX5_hasUnit_X4_at : GoodIn wsX5_hasUnit (wsV RX5 30 RX4 yX4_at wsX4_at) := goodIn_app (goodIn_of _ (by decide +kernel)) ggX5_hasUnit_X4_at
set_option maxRecDepth 20000 in
theorem ggX5_hasUnit_X1_placeOfSpot : GoodIn wsX5_hasUnit wsX1_placeOfSpot := goodIn_r _ [14] (by decide +kernel) (by decide +kernel)
set_option maxRecDepth 20000 in
theorem gX5_hasUnit_X1_placeOfSpot : GoodIn wsX5_hasUnit (va_wsS RX5 33 yX1_placeOfSpot wsX1_placeOfSpot) := goodIn_app (goodIn_of _ (by decide +kernel)) ggX5_hasUnit_X1_placeOfSpot
theorem dX5_hasUnit_0 : decode cX5_hasUnit 0 = .ok (.iload_n 1, 1) := by decide +kernel
theorem dX5_hasUnit_1 : decode cX5_hasUnit 1 = .ok (.invokestatic 26, 3) := by decide +kernel
theorem dX5_hasUnit_4 : decode cX5_hasUnit 4 = .ok (.istore_n 3, 1) := by decide +kernel
theorem dX5_hasUnit_5 : decode cX5_hasUnit 5 = .ok (.iload_n 3, 1) := by decide +kernel
theorem dX5_hasUnit_6 : decode cX5_hasUnit 6 = .ok (.iload_n 2, 1) := by decide +kernel
theorem dX5_hasUnit_7 : decode cX5_hasUnit 7 = .ok (.if_icmp .eq 25, 3) := by decide +kernel
theorem dX5_hasUnit_10 : decode cX5_hasUnit 10 = .ok (.aload_n 0, 1) := by decide +kernel
theorem dX5_hasUnit_11 : decode cX5_hasUnit 11 = .ok (.getfield 18, 3) := by decide +kernel
theorem dX5_hasUnit_14 : decode cX5_hasUnit 14 = .ok (.bipush 63, 2) := by decide +kernel
theorem dX5_hasUnit_16 : decode cX5_hasUnit 16 = .ok (.iload_n 3, 1) := by decide +kernel
theorem dX5_hasUnit_17 : decode cX5_hasUnit 17 = .ok (.iadd, 1) := by decide +kernel
theorem dX5_hasUnit_18 : decode cX5_hasUnit 18 = .ok (.invokevirtual 30, 3) := by decide +kernel
theorem dX5_hasUnit_21 : decode cX5_hasUnit 21 = .ok (.iload_n 1, 1) := by decide +kernel
theorem dX5_hasUnit_22 : decode cX5_hasUnit 22 = .ok (.invokestatic 33, 3) := by decide +kernel
theorem dX5_hasUnit_25 : decode cX5_hasUnit 25 = .ok (.if_icmp .le 7, 3) := by decide +kernel
theorem dX5_hasUnit_28 : decode cX5_hasUnit 28 = .ok (.iconst 1, 1) := by decide +kernel
theorem dX5_hasUnit_29 : decode cX5_hasUnit 29 = .ok (.goto 4, 3) := by decide +kernel
theorem dX5_hasUnit_32 : decode cX5_hasUnit 32 = .ok (.iconst 0, 1) := by decide +kernel
theorem dX5_hasUnit_33 : decode cX5_hasUnit 33 = .ok (.ireturn, 1) := by decide +kernel
set_option maxRecDepth 20000 in
theorem ggX5_valueAt_X4_at : GoodIn wsX5_valueAt wsX4_at := goodIn_r _ [6, 7, 9] (by decide +kernel) (by decide +kernel)
set_option maxRecDepth 20000 in
theorem gX5_valueAt_X4_at : GoodIn wsX5_valueAt (wsV RX5 30 RX4 yX4_at wsX4_at) := goodIn_app (goodIn_of _ (by decide +kernel)) ggX5_valueAt_X4_at
theorem dX5_valueAt_0 : decode cX5_valueAt 0 = .ok (.aload_n 0, 1) := by decide +kernel
theorem dX5_valueAt_1 : decode cX5_valueAt 1 = .ok (.getfield 18, 3) := by decide +kernel
theorem dX5_valueAt_4 : decode cX5_valueAt 4 = .ok (.iload_n 1, 1) := by decide +kernel
theorem dX5_valueAt_5 : decode cX5_valueAt 5 = .ok (.invokevirtual 30, 3) := by decide +kernel
theorem dX5_valueAt_8 : decode cX5_valueAt 8 = .ok (.ireturn, 1) := by decide +kernel
set_option maxRecDepth 20000 in
theorem ggX5_setValue_X4_put : GoodIn wsX5_setValue wsX4_put := goodIn_r _ [6, 7, 9] (by decide +kernel) (by decide +kernel)
set_option maxRecDepth 20000 in
theorem gX5_setValue_X4_put : GoodIn wsX5_setValue (wsV RX5 22 RX4 yX4_put wsX4_put) := goodIn_app (goodIn_of _ (by decide +kernel)) ggX5_setValue_X4_put
theorem dX5_setValue_0 : decode cX5_setValue 0 = .ok (.aload_n 0, 1) := by decide +kernel
theorem dX5_setValue_1 : decode cX5_setValue 1 = .ok (.getfield 18, 3) := by decide +kernel
theorem dX5_setValue_4 : decode cX5_setValue 4 = .ok (.iload_n 1, 1) := by decide +kernel
theorem dX5_setValue_5 : decode cX5_setValue 5 = .ok (.iload_n 2, 1) := by decide +kernel
theorem dX5_setValue_6 : decode cX5_setValue 6 = .ok (.invokevirtual 22, 3) := by decide +kernel
theorem dX5_setValue_9 : decode cX5_setValue 9 = .ok (.return_, 1) := by decide +kernel
set_option maxRecDepth 20000 in
theorem ggX5_fetch_X1_discOfSpot : GoodIn wsX5_fetch wsX1_discOfSpot := goodIn_r _ [5] (by decide +kernel) (by decide +kernel)
set_option maxRecDepth 20000 in
theorem gX5_fetch_X1_discOfSpot : GoodIn wsX5_fetch (va_wsS RX5 26 yX1_discOfSpot wsX1_discOfSpot) := goodIn_app (goodIn_of _ (by decide +kernel)) ggX5_fetch_X1_discOfSpot
set_option maxRecDepth 20000 in
theorem ggX5_fetch_X4_increase : GoodIn wsX5_fetch wsX4_increase := goodIn_r _ [10, 11, 17] (by decide +kernel) (by decide +kernel)
set_option maxRecDepth 20000 in
theorem gX5_fetch_X4_increase : GoodIn wsX5_fetch (wsV RX5 36 RX4 yX4_increase wsX4_increase) := goodIn_app (goodIn_of _ (by decide +kernel)) ggX5_fetch_X4_increase
set_option maxRecDepth 20000 in
theorem ggX5_fetch_X4_at : GoodIn wsX5_fetch wsX4_at := goodIn_r _ [15, 11, 17] (by decide +kernel) (by decide +kernel)
set_option maxRecDepth 20000 in
theorem gX5_fetch_X4_at : GoodIn wsX5_fetch (wsV RX5 30 RX4 yX4_at wsX4_at) := goodIn_app (goodIn_of _ (by decide +kernel)) ggX5_fetch_X4_at
theorem dX5_fetch_0 : decode cX5_fetch 0 = .ok (.aload_n 0, 1) := by decide +kernel
theorem dX5_fetch_1 : decode cX5_fetch 1 = .ok (.getfield 18, 3) := by decide +kernel
theorem dX5_fetch_4 : decode cX5_fetch 4 = .ok (.bipush 70, 2) := by decide +kernel
theorem dX5_fetch_6 : decode cX5_fetch 6 = .ok (.iload_n 1, 1) := by decide +kernel
theorem dX5_fetch_7 : decode cX5_fetch 7 = .ok (.invokestatic 26, 3) := by decide +kernel
theorem dX5_fetch_10 : decode cX5_fetch 10 = .ok (.iadd, 1) := by decide +kernel
theorem dX5_fetch_11 : decode cX5_fetch 11 = .ok (.invokevirtual 36, 3) := by decide +kernel
theorem dX5_fetch_14 : decode cX5_fetch 14 = .ok (.aload_n 0, 1) := by decide +kernel
theorem dX5_fetch_15 : decode cX5_fetch 15 = .ok (.getfield 18, 3) := by decide +kernel
theorem dX5_fetch_18 : decode cX5_fetch 18 = .ok (.iload_n 1, 1) := by decide +kernel
theorem dX5_fetch_19 : decode cX5_fetch 19 = .ok (.invokevirtual 30, 3) := by decide +kernel
theorem dX5_fetch_22 : decode cX5_fetch 22 = .ok (.ireturn, 1) := by decide +kernel
set_option maxRecDepth 20000 in
theorem ggX5_store_X1_discOfSpot : GoodIn wsX5_store wsX1_discOfSpot := goodIn_r _ [5] (by decide +kernel) (by decide +kernel)
set_option maxRecDepth 20000 in
theorem gX5_store_X1_discOfSpot : GoodIn wsX5_store (va_wsS RX5 26 yX1_discOfSpot wsX1_discOfSpot) := goodIn_app (goodIn_of _ (by decide +kernel)) ggX5_store_X1_discOfSpot
set_option maxRecDepth 20000 in
theorem ggX5_store_X4_increase : GoodIn wsX5_store wsX4_increase := goodIn_r _ [10, 11, 17] (by decide +kernel) (by decide +kernel)
set_option maxRecDepth 20000 in
theorem gX5_store_X4_increase : GoodIn wsX5_store (wsV RX5 36 RX4 yX4_increase wsX4_increase) := goodIn_app (goodIn_of _ (by decide +kernel)) ggX5_store_X4_increase
set_option maxRecDepth 20000 in
theorem ggX5_store_X4_put : GoodIn wsX5_store wsX4_put := goodIn_r _ [15, 11, 17] (by decide +kernel) (by decide +kernel)
set_option maxRecDepth 20000 in
theorem gX5_store_X4_put : GoodIn wsX5_store (wsV RX5 22 RX4 yX4_put wsX4_put) := goodIn_app (goodIn_of _ (by decide +kernel)) ggX5_store_X4_put
theorem dX5_store_0 : decode cX5_store 0 = .ok (.aload_n 0, 1) := by decide +kernel
theorem dX5_store_1 : decode cX5_store 1 = .ok (.getfield 18, 3) := by decide +kernel
theorem dX5_store_4 : decode cX5_store 4 = .ok (.bipush 77, 2) := by decide +kernel
theorem dX5_store_6 : decode cX5_store 6 = .ok (.iload_n 1, 1) := by decide +kernel
theorem dX5_store_7 : decode cX5_store 7 = .ok (.invokestatic 26, 3) := by decide +kernel
theorem dX5_store_10 : decode cX5_store 10 = .ok (.iadd, 1) := by decide +kernel
theorem dX5_store_11 : decode cX5_store 11 = .ok (.invokevirtual 36, 3) := by decide +kernel
theorem dX5_store_14 : decode cX5_store 14 = .ok (.aload_n 0, 1) := by decide +kernel
theorem dX5_store_15 : decode cX5_store 15 = .ok (.getfield 18, 3) := by decide +kernel
theorem dX5_store_18 : decode cX5_store 18 = .ok (.iload_n 1, 1) := by decide +kernel
theorem dX5_store_19 : decode cX5_store 19 = .ok (.iload_n 2, 1) := by decide +kernel
theorem dX5_store_20 : decode cX5_store 20 = .ok (.invokevirtual 22, 3) := by decide +kernel
theorem dX5_store_23 : decode cX5_store 23 = .ok (.return_, 1) := by decide +kernel
set_option maxRecDepth 20000 in
theorem ggX5_progressOf_X4_at : GoodIn wsX5_progressOf wsX4_at := goodIn_r _ [6, 7, 9] (by decide +kernel) (by decide +kernel)
set_option maxRecDepth 20000 in
theorem gX5_progressOf_X4_at : GoodIn wsX5_progressOf (wsV RX5 30 RX4 yX4_at wsX4_at) := goodIn_app (goodIn_of _ (by decide +kernel)) ggX5_progressOf_X4_at
theorem dX5_progressOf_0 : decode cX5_progressOf 0 = .ok (.aload_n 0, 1) := by decide +kernel
theorem dX5_progressOf_1 : decode cX5_progressOf 1 = .ok (.getfield 18, 3) := by decide +kernel
theorem dX5_progressOf_4 : decode cX5_progressOf 4 = .ok (.bipush 63, 2) := by decide +kernel
theorem dX5_progressOf_6 : decode cX5_progressOf 6 = .ok (.iload_n 1, 1) := by decide +kernel
theorem dX5_progressOf_7 : decode cX5_progressOf 7 = .ok (.iadd, 1) := by decide +kernel
theorem dX5_progressOf_8 : decode cX5_progressOf 8 = .ok (.invokevirtual 30, 3) := by decide +kernel
theorem dX5_progressOf_11 : decode cX5_progressOf 11 = .ok (.ireturn, 1) := by decide +kernel
set_option maxRecDepth 20000 in
theorem ggX5_readCount_X4_at : GoodIn wsX5_readCount wsX4_at := goodIn_r _ [6, 7, 9] (by decide +kernel) (by decide +kernel)
set_option maxRecDepth 20000 in
theorem gX5_readCount_X4_at : GoodIn wsX5_readCount (wsV RX5 30 RX4 yX4_at wsX4_at) := goodIn_app (goodIn_of _ (by decide +kernel)) ggX5_readCount_X4_at
theorem dX5_readCount_0 : decode cX5_readCount 0 = .ok (.aload_n 0, 1) := by decide +kernel
theorem dX5_readCount_1 : decode cX5_readCount 1 = .ok (.getfield 18, 3) := by decide +kernel
theorem dX5_readCount_4 : decode cX5_readCount 4 = .ok (.bipush 70, 2) := by decide +kernel
theorem dX5_readCount_6 : decode cX5_readCount 6 = .ok (.iload_n 1, 1) := by decide +kernel
theorem dX5_readCount_7 : decode cX5_readCount 7 = .ok (.iadd, 1) := by decide +kernel
theorem dX5_readCount_8 : decode cX5_readCount 8 = .ok (.invokevirtual 30, 3) := by decide +kernel
theorem dX5_readCount_11 : decode cX5_readCount 11 = .ok (.ireturn, 1) := by decide +kernel
set_option maxRecDepth 20000 in
theorem ggX5_writeCount_X4_at : GoodIn wsX5_writeCount wsX4_at := goodIn_r _ [6, 7, 9] (by decide +kernel) (by decide +kernel)
set_option maxRecDepth 20000 in
theorem gX5_writeCount_X4_at : GoodIn wsX5_writeCount (wsV RX5 30 RX4 yX4_at wsX4_at) := goodIn_app (goodIn_of _ (by decide +kernel)) ggX5_writeCount_X4_at
theorem dX5_writeCount_0 : decode cX5_writeCount 0 = .ok (.aload_n 0, 1) := by decide +kernel
theorem dX5_writeCount_1 : decode cX5_writeCount 1 = .ok (.getfield 18, 3) := by decide +kernel
theorem dX5_writeCount_4 : decode cX5_writeCount 4 = .ok (.bipush 77, 2) := by decide +kernel
theorem dX5_writeCount_6 : decode cX5_writeCount 6 = .ok (.iload_n 1, 1) := by decide +kernel
theorem dX5_writeCount_7 : decode cX5_writeCount 7 = .ok (.iadd, 1) := by decide +kernel
theorem dX5_writeCount_8 : decode cX5_writeCount 8 = .ok (.invokevirtual 30, 3) := by decide +kernel
theorem dX5_writeCount_11 : decode cX5_writeCount 11 = .ok (.ireturn, 1) := by decide +kernel
set_option maxRecDepth 20000 in
theorem ggX5_spareDiscs_X4_at : GoodIn wsX5_spareDiscs wsX4_at := goodIn_r _ [6, 7, 9] (by decide +kernel) (by decide +kernel)
set_option maxRecDepth 20000 in
theorem gX5_spareDiscs_X4_at : GoodIn wsX5_spareDiscs (wsV RX5 30 RX4 yX4_at wsX4_at) := goodIn_app (goodIn_of _ (by decide +kernel)) ggX5_spareDiscs_X4_at
theorem dX5_spareDiscs_0 : decode cX5_spareDiscs 0 = .ok (.aload_n 0, 1) := by decide +kernel
theorem dX5_spareDiscs_1 : decode cX5_spareDiscs 1 = .ok (.getfield 18, 3) := by decide +kernel
theorem dX5_spareDiscs_4 : decode cX5_spareDiscs 4 = .ok (.bipush 84, 2) := by decide +kernel
theorem dX5_spareDiscs_6 : decode cX5_spareDiscs 6 = .ok (.invokevirtual 30, 3) := by decide +kernel
theorem dX5_spareDiscs_9 : decode cX5_spareDiscs 9 = .ok (.ireturn, 1) := by decide +kernel
set_option maxRecDepth 20000 in
theorem ggX5_lossCount_X4_at : GoodIn wsX5_lossCount wsX4_at := goodIn_r _ [6, 7, 9] (by decide +kernel) (by decide +kernel)
set_option maxRecDepth 20000 in
theorem gX5_lossCount_X4_at : GoodIn wsX5_lossCount (wsV RX5 30 RX4 yX4_at wsX4_at) := goodIn_app (goodIn_of _ (by decide +kernel)) ggX5_lossCount_X4_at
theorem dX5_lossCount_0 : decode cX5_lossCount 0 = .ok (.aload_n 0, 1) := by decide +kernel
theorem dX5_lossCount_1 : decode cX5_lossCount 1 = .ok (.getfield 18, 3) := by decide +kernel
theorem dX5_lossCount_4 : decode cX5_lossCount 4 = .ok (.bipush 85, 2) := by decide +kernel
theorem dX5_lossCount_6 : decode cX5_lossCount 6 = .ok (.invokevirtual 30, 3) := by decide +kernel
theorem dX5_lossCount_9 : decode cX5_lossCount 9 = .ok (.ireturn, 1) := by decide +kernel
set_option maxRecDepth 20000 in
theorem ggX5_addSpareDisc_X4_increase : GoodIn wsX5_addSpareDisc wsX4_increase := goodIn_r _ [6, 7, 9] (by decide +kernel) (by decide +kernel)
set_option maxRecDepth 20000 in
theorem gX5_addSpareDisc_X4_increase : GoodIn wsX5_addSpareDisc (wsV RX5 36 RX4 yX4_increase wsX4_increase) := goodIn_app (goodIn_of _ (by decide +kernel)) ggX5_addSpareDisc_X4_increase
theorem dX5_addSpareDisc_0 : decode cX5_addSpareDisc 0 = .ok (.aload_n 0, 1) := by decide +kernel
theorem dX5_addSpareDisc_1 : decode cX5_addSpareDisc 1 = .ok (.getfield 18, 3) := by decide +kernel
theorem dX5_addSpareDisc_4 : decode cX5_addSpareDisc 4 = .ok (.bipush 84, 2) := by decide +kernel
theorem dX5_addSpareDisc_6 : decode cX5_addSpareDisc 6 = .ok (.invokevirtual 36, 3) := by decide +kernel
theorem dX5_addSpareDisc_9 : decode cX5_addSpareDisc 9 = .ok (.return_, 1) := by decide +kernel
set_option maxRecDepth 20000 in
theorem ggX5_addLoss_X4_increase : GoodIn wsX5_addLoss wsX4_increase := goodIn_r _ [6, 7, 9] (by decide +kernel) (by decide +kernel)
set_option maxRecDepth 20000 in
theorem gX5_addLoss_X4_increase : GoodIn wsX5_addLoss (wsV RX5 36 RX4 yX4_increase wsX4_increase) := goodIn_app (goodIn_of _ (by decide +kernel)) ggX5_addLoss_X4_increase
theorem dX5_addLoss_0 : decode cX5_addLoss 0 = .ok (.aload_n 0, 1) := by decide +kernel
theorem dX5_addLoss_1 : decode cX5_addLoss 1 = .ok (.getfield 18, 3) := by decide +kernel
theorem dX5_addLoss_4 : decode cX5_addLoss 4 = .ok (.bipush 85, 2) := by decide +kernel
theorem dX5_addLoss_6 : decode cX5_addLoss 6 = .ok (.invokevirtual 36, 3) := by decide +kernel
theorem dX5_addLoss_9 : decode cX5_addLoss 9 = .ok (.return_, 1) := by decide +kernel
set_option maxRecDepth 20000 in
theorem ggX5_dropDisc_X4_put : GoodIn wsX5_dropDisc wsX4_put := goodIn_r _ [6, 7, 18] (by decide +kernel) (by decide +kernel)
set_option maxRecDepth 20000 in
theorem gX5_dropDisc_X4_put : GoodIn wsX5_dropDisc (wsV RX5 22 RX4 yX4_put wsX4_put) := goodIn_app (goodIn_of _ (by decide +kernel)) ggX5_dropDisc_X4_put
set_option maxRecDepth 20000 in
theorem ggX5_dropDisc_X1_spotAt : GoodIn wsX5_dropDisc wsX1_spotAt := goodIn_r _ [11] (by decide +kernel) (by decide +kernel)
set_option maxRecDepth 20000 in
theorem gX5_dropDisc_X1_spotAt : GoodIn wsX5_dropDisc (va_wsS RX5 39 yX1_spotAt wsX1_spotAt) := goodIn_app (goodIn_of _ (by decide +kernel)) ggX5_dropDisc_X1_spotAt
set_option maxRecDepth 20000 in
theorem ggX5_dropDisc_X5_setValue : GoodIn wsX5_dropDisc wsX5_setValue := goodIn_r _ [16, 1, 2, 3, 4, 5, 6, 7, 17, 18] (by decide +kernel) (by decide +kernel)
set_option maxRecDepth 20000 in
theorem gX5_dropDisc_X5_setValue : GoodIn wsX5_dropDisc (wsV RX5 43 RX5 yX5_setValue wsX5_setValue) := goodIn_app (goodIn_of _ (by decide +kernel)) ggX5_dropDisc_X5_setValue
theorem dX5_dropDisc_0 : decode cX5_dropDisc 0 = .ok (.aload_n 0, 1) := by decide +kernel
theorem dX5_dropDisc_1 : decode cX5_dropDisc 1 = .ok (.getfield 18, 3) := by decide +kernel
theorem dX5_dropDisc_4 : decode cX5_dropDisc 4 = .ok (.bipush 63, 2) := by decide +kernel
theorem dX5_dropDisc_6 : decode cX5_dropDisc 6 = .ok (.iload_n 1, 1) := by decide +kernel
theorem dX5_dropDisc_7 : decode cX5_dropDisc 7 = .ok (.iadd, 1) := by decide +kernel
theorem dX5_dropDisc_8 : decode cX5_dropDisc 8 = .ok (.iconst (-1), 1) := by decide +kernel
theorem dX5_dropDisc_9 : decode cX5_dropDisc 9 = .ok (.invokevirtual 22, 3) := by decide +kernel
theorem dX5_dropDisc_12 : decode cX5_dropDisc 12 = .ok (.iconst 0, 1) := by decide +kernel
theorem dX5_dropDisc_13 : decode cX5_dropDisc 13 = .ok (.istore_n 2, 1) := by decide +kernel
theorem dX5_dropDisc_14 : decode cX5_dropDisc 14 = .ok (.iload_n 2, 1) := by decide +kernel
theorem dX5_dropDisc_15 : decode cX5_dropDisc 15 = .ok (.bipush 9, 2) := by decide +kernel
theorem dX5_dropDisc_17 : decode cX5_dropDisc 17 = .ok (.if_icmp .ge 19, 3) := by decide +kernel
theorem dX5_dropDisc_20 : decode cX5_dropDisc 20 = .ok (.aload_n 0, 1) := by decide +kernel
theorem dX5_dropDisc_21 : decode cX5_dropDisc 21 = .ok (.iload_n 1, 1) := by decide +kernel
theorem dX5_dropDisc_22 : decode cX5_dropDisc 22 = .ok (.iload_n 2, 1) := by decide +kernel
theorem dX5_dropDisc_23 : decode cX5_dropDisc 23 = .ok (.invokestatic 39, 3) := by decide +kernel
theorem dX5_dropDisc_26 : decode cX5_dropDisc 26 = .ok (.iconst 0, 1) := by decide +kernel
theorem dX5_dropDisc_27 : decode cX5_dropDisc 27 = .ok (.invokevirtual 43, 3) := by decide +kernel
theorem dX5_dropDisc_30 : decode cX5_dropDisc 30 = .ok (.iinc 2 1, 3) := by decide +kernel
theorem dX5_dropDisc_33 : decode cX5_dropDisc 33 = .ok (.goto (-19), 3) := by decide +kernel
theorem dX5_dropDisc_36 : decode cX5_dropDisc 36 = .ok (.return_, 1) := by decide +kernel
set_option maxRecDepth 20000 in
theorem ggX5_replaceDisc_X5_spareDiscs : GoodIn wsX5_replaceDisc wsX5_spareDiscs := goodIn_r _ [6, 1, 7, 8, 9, 10, 11, 12, 17, 18] (by decide +kernel) (by decide +kernel)
set_option maxRecDepth 20000 in
theorem gX5_replaceDisc_X5_spareDiscs : GoodIn wsX5_replaceDisc (wsV RX5 46 RX5 yX5_spareDiscs wsX5_spareDiscs) := goodIn_app (goodIn_of _ (by decide +kernel)) ggX5_replaceDisc_X5_spareDiscs
set_option maxRecDepth 20000 in
theorem ggX5_replaceDisc_X4_put : GoodIn wsX5_replaceDisc wsX4_put := goodIn_r _ [16, 12, 18] (by decide +kernel) (by decide +kernel)
set_option maxRecDepth 20000 in
theorem gX5_replaceDisc_X4_put : GoodIn wsX5_replaceDisc (wsV RX5 22 RX4 yX4_put wsX4_put) := goodIn_app (goodIn_of _ (by decide +kernel)) ggX5_replaceDisc_X4_put
theorem dX5_replaceDisc_0 : decode cX5_replaceDisc 0 = .ok (.aload_n 0, 1) := by decide +kernel
theorem dX5_replaceDisc_1 : decode cX5_replaceDisc 1 = .ok (.getfield 18, 3) := by decide +kernel
theorem dX5_replaceDisc_4 : decode cX5_replaceDisc 4 = .ok (.bipush 84, 2) := by decide +kernel
theorem dX5_replaceDisc_6 : decode cX5_replaceDisc 6 = .ok (.aload_n 0, 1) := by decide +kernel
theorem dX5_replaceDisc_7 : decode cX5_replaceDisc 7 = .ok (.invokevirtual 46, 3) := by decide +kernel
theorem dX5_replaceDisc_10 : decode cX5_replaceDisc 10 = .ok (.iconst 1, 1) := by decide +kernel
theorem dX5_replaceDisc_11 : decode cX5_replaceDisc 11 = .ok (.isub, 1) := by decide +kernel
theorem dX5_replaceDisc_12 : decode cX5_replaceDisc 12 = .ok (.invokevirtual 22, 3) := by decide +kernel
theorem dX5_replaceDisc_15 : decode cX5_replaceDisc 15 = .ok (.aload_n 0, 1) := by decide +kernel
theorem dX5_replaceDisc_16 : decode cX5_replaceDisc 16 = .ok (.getfield 18, 3) := by decide +kernel
theorem dX5_replaceDisc_19 : decode cX5_replaceDisc 19 = .ok (.bipush 63, 2) := by decide +kernel
theorem dX5_replaceDisc_21 : decode cX5_replaceDisc 21 = .ok (.iload_n 1, 1) := by decide +kernel
theorem dX5_replaceDisc_22 : decode cX5_replaceDisc 22 = .ok (.iadd, 1) := by decide +kernel
theorem dX5_replaceDisc_23 : decode cX5_replaceDisc 23 = .ok (.iconst 0, 1) := by decide +kernel
theorem dX5_replaceDisc_24 : decode cX5_replaceDisc 24 = .ok (.invokevirtual 22, 3) := by decide +kernel
theorem dX5_replaceDisc_27 : decode cX5_replaceDisc 27 = .ok (.return_, 1) := by decide +kernel
set_option maxRecDepth 20000 in
theorem ggX5_advance_X4_increase : GoodIn wsX5_advance wsX4_increase := goodIn_r _ [6, 7, 9] (by decide +kernel) (by decide +kernel)
set_option maxRecDepth 20000 in
theorem gX5_advance_X4_increase : GoodIn wsX5_advance (wsV RX5 36 RX4 yX4_increase wsX4_increase) := goodIn_app (goodIn_of _ (by decide +kernel)) ggX5_advance_X4_increase
theorem dX5_advance_0 : decode cX5_advance 0 = .ok (.aload_n 0, 1) := by decide +kernel
theorem dX5_advance_1 : decode cX5_advance 1 = .ok (.getfield 18, 3) := by decide +kernel
theorem dX5_advance_4 : decode cX5_advance 4 = .ok (.bipush 63, 2) := by decide +kernel
theorem dX5_advance_6 : decode cX5_advance 6 = .ok (.iload_n 1, 1) := by decide +kernel
theorem dX5_advance_7 : decode cX5_advance 7 = .ok (.iadd, 1) := by decide +kernel
theorem dX5_advance_8 : decode cX5_advance 8 = .ok (.invokevirtual 36, 3) := by decide +kernel
theorem dX5_advance_11 : decode cX5_advance 11 = .ok (.return_, 1) := by decide +kernel
set_option maxRecDepth 20000 in
theorem ggX5_copyTo_X4_at : GoodIn wsX5_copyTo wsX4_at := goodIn_r _ [6, 7, 13] (by decide +kernel) (by decide +kernel)
set_option maxRecDepth 20000 in
theorem gX5_copyTo_X4_at : GoodIn wsX5_copyTo (wsV RX5 30 RX4 yX4_at wsX4_at) := goodIn_app (goodIn_of _ (by decide +kernel)) ggX5_copyTo_X4_at
set_option maxRecDepth 20000 in
theorem ggX5_copyTo_X4_put : GoodIn wsX5_copyTo wsX4_put := goodIn_r _ [11, 7, 13] (by decide +kernel) (by decide +kernel)
set_option maxRecDepth 20000 in
theorem gX5_copyTo_X4_put : GoodIn wsX5_copyTo (wsV RX5 22 RX4 yX4_put wsX4_put) := goodIn_app (goodIn_of _ (by decide +kernel)) ggX5_copyTo_X4_put
theorem dX5_copyTo_0 : decode cX5_copyTo 0 = .ok (.iconst 0, 1) := by decide +kernel
theorem dX5_copyTo_1 : decode cX5_copyTo 1 = .ok (.istore_n 3, 1) := by decide +kernel
theorem dX5_copyTo_2 : decode cX5_copyTo 2 = .ok (.iload_n 3, 1) := by decide +kernel
theorem dX5_copyTo_3 : decode cX5_copyTo 3 = .ok (.bipush 86, 2) := by decide +kernel
theorem dX5_copyTo_5 : decode cX5_copyTo 5 = .ok (.if_icmp .ge 24, 3) := by decide +kernel
theorem dX5_copyTo_8 : decode cX5_copyTo 8 = .ok (.aload_n 1, 1) := by decide +kernel
theorem dX5_copyTo_9 : decode cX5_copyTo 9 = .ok (.iload_n 2, 1) := by decide +kernel
theorem dX5_copyTo_10 : decode cX5_copyTo 10 = .ok (.iload_n 3, 1) := by decide +kernel
theorem dX5_copyTo_11 : decode cX5_copyTo 11 = .ok (.iadd, 1) := by decide +kernel
theorem dX5_copyTo_12 : decode cX5_copyTo 12 = .ok (.aload_n 0, 1) := by decide +kernel
theorem dX5_copyTo_13 : decode cX5_copyTo 13 = .ok (.getfield 18, 3) := by decide +kernel
theorem dX5_copyTo_16 : decode cX5_copyTo 16 = .ok (.iload_n 3, 1) := by decide +kernel
theorem dX5_copyTo_17 : decode cX5_copyTo 17 = .ok (.invokevirtual 30, 3) := by decide +kernel
theorem dX5_copyTo_20 : decode cX5_copyTo 20 = .ok (.invokevirtual 22, 3) := by decide +kernel
theorem dX5_copyTo_23 : decode cX5_copyTo 23 = .ok (.iinc 3 1, 3) := by decide +kernel
theorem dX5_copyTo_26 : decode cX5_copyTo 26 = .ok (.goto (-24), 3) := by decide +kernel
theorem dX5_copyTo_29 : decode cX5_copyTo 29 = .ok (.return_, 1) := by decide +kernel
