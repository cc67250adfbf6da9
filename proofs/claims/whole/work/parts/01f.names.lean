theorem dX7_init_0 : decode cX7_init 0 = .ok (.aload_n 0, 1) := by decide +kernel
theorem dX7_init_1 : decode cX7_init 1 = .ok (.invokespecial 1, 3) := by decide +kernel
theorem dX7_init_4 : decode cX7_init 4 = .ok (.aload_n 0, 1) := by decide +kernel
theorem dX7_init_5 : decode cX7_init 5 = .ok (.bipush 86, 2) := by decide +kernel
theorem dX7_init_7 : decode cX7_init 7 = .ok (.newarray .int, 2) := by decide +kernel
theorem dX7_init_9 : decode cX7_init 9 = .ok (.putfield 7, 3) := by decide +kernel
theorem dX7_init_12 : decode cX7_init 12 = .ok (.aload_n 0, 1) := by decide +kernel
theorem dX7_init_13 : decode cX7_init 13 = .ok (.sipush 516, 3) := by decide +kernel
theorem dX7_init_16 : decode cX7_init 16 = .ok (.newarray .int, 2) := by decide +kernel
theorem dX7_init_18 : decode cX7_init 18 = .ok (.putfield 13, 3) := by decide +kernel
theorem dX7_init_21 : decode cX7_init 21 = .ok (.aload_n 0, 1) := by decide +kernel
theorem dX7_init_22 : decode cX7_init 22 = .ok (.bipush 86, 2) := by decide +kernel
theorem dX7_init_24 : decode cX7_init 24 = .ok (.newarray .int, 2) := by decide +kernel
theorem dX7_init_26 : decode cX7_init 26 = .ok (.putfield 16, 3) := by decide +kernel
theorem dX7_init_29 : decode cX7_init 29 = .ok (.aload_n 0, 1) := by decide +kernel
theorem dX7_init_30 : decode cX7_init 30 = .ok (.bipush 60, 2) := by decide +kernel
theorem dX7_init_32 : decode cX7_init 32 = .ok (.newarray .int, 2) := by decide +kernel
theorem dX7_init_34 : decode cX7_init 34 = .ok (.putfield 19, 3) := by decide +kernel
theorem dX7_init_37 : decode cX7_init 37 = .ok (.iconst 0, 1) := by decide +kernel
theorem dX7_init_38 : decode cX7_init 38 = .ok (.istore_n 1, 1) := by decide +kernel
theorem dX7_init_39 : decode cX7_init 39 = .ok (.iload_n 1, 1) := by decide +kernel
theorem dX7_init_40 : decode cX7_init 40 = .ok (.bipush 7, 2) := by decide +kernel
theorem dX7_init_42 : decode cX7_init 42 = .ok (.if_icmp .ge 19, 3) := by decide +kernel
theorem dX7_init_45 : decode cX7_init 45 = .ok (.aload_n 0, 1) := by decide +kernel
theorem dX7_init_46 : decode cX7_init 46 = .ok (.getfield 7, 3) := by decide +kernel
theorem dX7_init_49 : decode cX7_init 49 = .ok (.iconst 0, 1) := by decide +kernel
theorem dX7_init_50 : decode cX7_init 50 = .ok (.iload_n 1, 1) := by decide +kernel
theorem dX7_init_51 : decode cX7_init 51 = .ok (.iadd, 1) := by decide +kernel
theorem dX7_init_52 : decode cX7_init 52 = .ok (.bipush 9, 2) := by decide +kernel
theorem dX7_init_54 : decode cX7_init 54 = .ok (.iastore, 1) := by decide +kernel
theorem dX7_init_55 : decode cX7_init 55 = .ok (.iinc 1 1, 3) := by decide +kernel
theorem dX7_init_58 : decode cX7_init 58 = .ok (.goto (-19), 3) := by decide +kernel
theorem dX7_init_61 : decode cX7_init 61 = .ok (.aload_n 0, 1) := by decide +kernel
theorem dX7_init_62 : decode cX7_init 62 = .ok (.getfield 7, 3) := by decide +kernel
theorem dX7_init_65 : decode cX7_init 65 = .ok (.bipush 84, 2) := by decide +kernel
theorem dX7_init_67 : decode cX7_init 67 = .ok (.iconst 2, 1) := by decide +kernel
theorem dX7_init_68 : decode cX7_init 68 = .ok (.iastore, 1) := by decide +kernel
theorem dX7_init_69 : decode cX7_init 69 = .ok (.return_, 1) := by decide +kernel
theorem dX7_thrown_0 : decode cX7_thrown 0 = .ok (.aload_n 0, 1) := by decide +kernel
theorem dX7_thrown_1 : decode cX7_thrown 1 = .ok (.getfield 22, 3) := by decide +kernel
theorem dX7_thrown_4 : decode cX7_thrown 4 = .ok (.ireturn, 1) := by decide +kernel
theorem dX7_holds_0 : decode cX7_holds 0 = .ok (.aload_n 0, 1) := by decide +kernel
theorem dX7_holds_1 : decode cX7_holds 1 = .ok (.iload_n 1, 1) := by decide +kernel
theorem dX7_holds_2 : decode cX7_holds 2 = .ok (.putfield 22, 3) := by decide +kernel
theorem dX7_holds_5 : decode cX7_holds 5 = .ok (.iload_n 1, 1) := by decide +kernel
theorem dX7_holds_6 : decode cX7_holds 6 = .ok (.ifCond .ne 7, 3) := by decide +kernel
theorem dX7_holds_9 : decode cX7_holds 9 = .ok (.iconst 1, 1) := by decide +kernel
theorem dX7_holds_10 : decode cX7_holds 10 = .ok (.goto 4, 3) := by decide +kernel
theorem dX7_holds_13 : decode cX7_holds 13 = .ok (.iconst 0, 1) := by decide +kernel
theorem dX7_holds_14 : decode cX7_holds 14 = .ok (.ireturn, 1) := by decide +kernel
theorem dX7_in_0 : decode cX7_in 0 = .ok (.iload_n 0, 1) := by decide +kernel
theorem dX7_in_1 : decode cX7_in 1 = .ok (.iload_n 1, 1) := by decide +kernel
theorem dX7_in_2 : decode cX7_in 2 = .ok (.if_icmp .lt 12, 3) := by decide +kernel
theorem dX7_in_5 : decode cX7_in 5 = .ok (.iload_n 0, 1) := by decide +kernel
theorem dX7_in_6 : decode cX7_in 6 = .ok (.iload_n 2, 1) := by decide +kernel
theorem dX7_in_7 : decode cX7_in 7 = .ok (.if_icmp .gt 7, 3) := by decide +kernel
theorem dX7_in_10 : decode cX7_in 10 = .ok (.iconst 1, 1) := by decide +kernel
theorem dX7_in_11 : decode cX7_in 11 = .ok (.goto 4, 3) := by decide +kernel
theorem dX7_in_14 : decode cX7_in 14 = .ok (.iconst 0, 1) := by decide +kernel
theorem dX7_in_15 : decode cX7_in 15 = .ok (.ireturn, 1) := by decide +kernel
set_option maxRecDepth 20000 in
theorem ggX7_isDisc_X7_in : GoodIn wsX7_isDisc wsX7_in := goodIn_r _ [4] (by decide +kernel) (by decide +kernel)
set_option maxRecDepth 20000 in
theorem gX7_isDisc_X7_in : GoodIn wsX7_isDisc (va_wsS RX7 26 yX7_in wsX7_in) := goodIn_app (goodIn_of _ (by decide +kernel)) ggX7_isDisc_X7_in
theorem dX7_isDisc_0 : decode cX7_isDisc 0 = .ok (.iload_n 0, 1) := by decide +kernel
theorem dX7_isDisc_1 : decode cX7_isDisc 1 = .ok (.iconst 0, 1) := by decide +kernel
theorem dX7_isDisc_2 : decode cX7_isDisc 2 = .ok (.bipush 6, 2) := by decide +kernel
theorem dX7_isDisc_4 : decode cX7_isDisc 4 = .ok (.invokestatic 26, 3) := by decide +kernel
theorem dX7_isDisc_7 : decode cX7_isDisc 7 = .ok (.ireturn, 1) := by decide +kernel
set_option maxRecDepth 20000 in
theorem ggX7_isPlace_X7_in : GoodIn wsX7_isPlace wsX7_in := goodIn_r _ [4] (by decide +kernel) (by decide +kernel)
set_option maxRecDepth 20000 in
theorem gX7_isPlace_X7_in : GoodIn wsX7_isPlace (va_wsS RX7 26 yX7_in wsX7_in) := goodIn_app (goodIn_of _ (by decide +kernel)) ggX7_isPlace_X7_in
theorem dX7_isPlace_0 : decode cX7_isPlace 0 = .ok (.iload_n 0, 1) := by decide +kernel
theorem dX7_isPlace_1 : decode cX7_isPlace 1 = .ok (.iconst 0, 1) := by decide +kernel
theorem dX7_isPlace_2 : decode cX7_isPlace 2 = .ok (.bipush 8, 2) := by decide +kernel
theorem dX7_isPlace_4 : decode cX7_isPlace 4 = .ok (.invokestatic 26, 3) := by decide +kernel
theorem dX7_isPlace_7 : decode cX7_isPlace 7 = .ok (.ireturn, 1) := by decide +kernel
set_option maxRecDepth 20000 in
theorem ggX7_isStripe_X7_in : GoodIn wsX7_isStripe wsX7_in := goodIn_r _ [4] (by decide +kernel) (by decide +kernel)
set_option maxRecDepth 20000 in
theorem gX7_isStripe_X7_in : GoodIn wsX7_isStripe (va_wsS RX7 26 yX7_in wsX7_in) := goodIn_app (goodIn_of _ (by decide +kernel)) ggX7_isStripe_X7_in
theorem dX7_isStripe_0 : decode cX7_isStripe 0 = .ok (.iload_n 0, 1) := by decide +kernel
theorem dX7_isStripe_1 : decode cX7_isStripe 1 = .ok (.iconst 0, 1) := by decide +kernel
theorem dX7_isStripe_2 : decode cX7_isStripe 2 = .ok (.bipush 20, 2) := by decide +kernel
theorem dX7_isStripe_4 : decode cX7_isStripe 4 = .ok (.invokestatic 26, 3) := by decide +kernel
theorem dX7_isStripe_7 : decode cX7_isStripe 7 = .ok (.ireturn, 1) := by decide +kernel
set_option maxRecDepth 20000 in
theorem ggX7_isAddress_X7_in : GoodIn wsX7_isAddress wsX7_in := goodIn_r _ [4] (by decide +kernel) (by decide +kernel)
set_option maxRecDepth 20000 in
theorem gX7_isAddress_X7_in : GoodIn wsX7_isAddress (va_wsS RX7 26 yX7_in wsX7_in) := goodIn_app (goodIn_of _ (by decide +kernel)) ggX7_isAddress_X7_in
theorem dX7_isAddress_0 : decode cX7_isAddress 0 = .ok (.iload_n 0, 1) := by decide +kernel
theorem dX7_isAddress_1 : decode cX7_isAddress 1 = .ok (.iconst 0, 1) := by decide +kernel
theorem dX7_isAddress_2 : decode cX7_isAddress 2 = .ok (.bipush 41, 2) := by decide +kernel
theorem dX7_isAddress_4 : decode cX7_isAddress 4 = .ok (.invokestatic 26, 3) := by decide +kernel
theorem dX7_isAddress_7 : decode cX7_isAddress 7 = .ok (.ireturn, 1) := by decide +kernel
theorem dX7_copy_0 : decode cX7_copy 0 = .ok (.iconst 0, 1) := by decide +kernel
theorem dX7_copy_1 : decode cX7_copy 1 = .ok (.istore 4, 2) := by decide +kernel
theorem dX7_copy_3 : decode cX7_copy 3 = .ok (.iload 4, 2) := by decide +kernel
theorem dX7_copy_5 : decode cX7_copy 5 = .ok (.bipush 86, 2) := by decide +kernel
theorem dX7_copy_7 : decode cX7_copy 7 = .ok (.if_icmp .ge 21, 3) := by decide +kernel
theorem dX7_copy_10 : decode cX7_copy 10 = .ok (.aload_n 2, 1) := by decide +kernel
theorem dX7_copy_11 : decode cX7_copy 11 = .ok (.iload_n 3, 1) := by decide +kernel
theorem dX7_copy_12 : decode cX7_copy 12 = .ok (.iload 4, 2) := by decide +kernel
theorem dX7_copy_14 : decode cX7_copy 14 = .ok (.iadd, 1) := by decide +kernel
theorem dX7_copy_15 : decode cX7_copy 15 = .ok (.aload_n 0, 1) := by decide +kernel
theorem dX7_copy_16 : decode cX7_copy 16 = .ok (.iload_n 1, 1) := by decide +kernel
theorem dX7_copy_17 : decode cX7_copy 17 = .ok (.iload 4, 2) := by decide +kernel
theorem dX7_copy_19 : decode cX7_copy 19 = .ok (.iadd, 1) := by decide +kernel
theorem dX7_copy_20 : decode cX7_copy 20 = .ok (.iaload, 1) := by decide +kernel
theorem dX7_copy_21 : decode cX7_copy 21 = .ok (.iastore, 1) := by decide +kernel
theorem dX7_copy_22 : decode cX7_copy 22 = .ok (.iinc 4 1, 3) := by decide +kernel
theorem dX7_copy_25 : decode cX7_copy 25 = .ok (.goto (-22), 3) := by decide +kernel
theorem dX7_copy_28 : decode cX7_copy 28 = .ok (.return_, 1) := by decide +kernel
set_option maxRecDepth 20000 in
theorem ggX7_save_X7_copy : GoodIn wsX7_save wsX7_copy := goodIn_r _ [7] (by decide +kernel) (by decide +kernel)
set_option maxRecDepth 20000 in
theorem gX7_save_X7_copy : GoodIn wsX7_save (va_wsS RX7 33 yX7_copy wsX7_copy) := goodIn_app (goodIn_of _ (by decide +kernel)) ggX7_save_X7_copy
theorem dX7_save_0 : decode cX7_save 0 = .ok (.aload_n 0, 1) := by decide +kernel
theorem dX7_save_1 : decode cX7_save 1 = .ok (.getfield 30, 3) := by decide +kernel
theorem dX7_save_4 : decode cX7_save 4 = .ok (.bipush 6, 2) := by decide +kernel
theorem dX7_save_6 : decode cX7_save 6 = .ok (.if_icmp .ne 43, 3) := by decide +kernel
theorem dX7_save_9 : decode cX7_save 9 = .ok (.iconst 0, 1) := by decide +kernel
theorem dX7_save_10 : decode cX7_save 10 = .ok (.istore_n 1, 1) := by decide +kernel
theorem dX7_save_11 : decode cX7_save 11 = .ok (.iload_n 1, 1) := by decide +kernel
theorem dX7_save_12 : decode cX7_save 12 = .ok (.sipush 430, 3) := by decide +kernel
theorem dX7_save_15 : decode cX7_save 15 = .ok (.if_icmp .ge 24, 3) := by decide +kernel
theorem dX7_save_18 : decode cX7_save 18 = .ok (.aload_n 0, 1) := by decide +kernel
theorem dX7_save_19 : decode cX7_save 19 = .ok (.getfield 13, 3) := by decide +kernel
theorem dX7_save_22 : decode cX7_save 22 = .ok (.iload_n 1, 1) := by decide +kernel
theorem dX7_save_23 : decode cX7_save 23 = .ok (.aload_n 0, 1) := by decide +kernel
theorem dX7_save_24 : decode cX7_save 24 = .ok (.getfield 13, 3) := by decide +kernel
theorem dX7_save_27 : decode cX7_save 27 = .ok (.bipush 86, 2) := by decide +kernel
theorem dX7_save_29 : decode cX7_save 29 = .ok (.iload_n 1, 1) := by decide +kernel
theorem dX7_save_30 : decode cX7_save 30 = .ok (.iadd, 1) := by decide +kernel
theorem dX7_save_31 : decode cX7_save 31 = .ok (.iaload, 1) := by decide +kernel
theorem dX7_save_32 : decode cX7_save 32 = .ok (.iastore, 1) := by decide +kernel
theorem dX7_save_33 : decode cX7_save 33 = .ok (.iinc 1 1, 3) := by decide +kernel
theorem dX7_save_36 : decode cX7_save 36 = .ok (.goto (-25), 3) := by decide +kernel
theorem dX7_save_39 : decode cX7_save 39 = .ok (.aload_n 0, 1) := by decide +kernel
theorem dX7_save_40 : decode cX7_save 40 = .ok (.dup, 1) := by decide +kernel
theorem dX7_save_41 : decode cX7_save 41 = .ok (.getfield 30, 3) := by decide +kernel
theorem dX7_save_44 : decode cX7_save 44 = .ok (.iconst 1, 1) := by decide +kernel
theorem dX7_save_45 : decode cX7_save 45 = .ok (.isub, 1) := by decide +kernel
theorem dX7_save_46 : decode cX7_save 46 = .ok (.putfield 30, 3) := by decide +kernel
theorem dX7_save_49 : decode cX7_save 49 = .ok (.aload_n 0, 1) := by decide +kernel
theorem dX7_save_50 : decode cX7_save 50 = .ok (.getfield 7, 3) := by decide +kernel
theorem dX7_save_53 : decode cX7_save 53 = .ok (.iconst 0, 1) := by decide +kernel
theorem dX7_save_54 : decode cX7_save 54 = .ok (.aload_n 0, 1) := by decide +kernel
theorem dX7_save_55 : decode cX7_save 55 = .ok (.getfield 13, 3) := by decide +kernel
theorem dX7_save_58 : decode cX7_save 58 = .ok (.bipush 86, 2) := by decide +kernel
theorem dX7_save_60 : decode cX7_save 60 = .ok (.aload_n 0, 1) := by decide +kernel
theorem dX7_save_61 : decode cX7_save 61 = .ok (.getfield 30, 3) := by decide +kernel
theorem dX7_save_64 : decode cX7_save 64 = .ok (.imul, 1) := by decide +kernel
theorem dX7_save_65 : decode cX7_save 65 = .ok (.invokestatic 33, 3) := by decide +kernel
theorem dX7_save_68 : decode cX7_save 68 = .ok (.aload_n 0, 1) := by decide +kernel
theorem dX7_save_69 : decode cX7_save 69 = .ok (.dup, 1) := by decide +kernel
theorem dX7_save_70 : decode cX7_save 70 = .ok (.getfield 30, 3) := by decide +kernel
theorem dX7_save_73 : decode cX7_save 73 = .ok (.iconst 1, 1) := by decide +kernel
theorem dX7_save_74 : decode cX7_save 74 = .ok (.iadd, 1) := by decide +kernel
theorem dX7_save_75 : decode cX7_save 75 = .ok (.putfield 30, 3) := by decide +kernel
theorem dX7_save_78 : decode cX7_save 78 = .ok (.return_, 1) := by decide +kernel
theorem dX7_memberOf_0 : decode cX7_memberOf 0 = .ok (.iload_n 0, 1) := by decide +kernel
theorem dX7_memberOf_1 : decode cX7_memberOf 1 = .ok (.iload_n 1, 1) := by decide +kernel
theorem dX7_memberOf_2 : decode cX7_memberOf 2 = .ok (.iconst 2, 1) := by decide +kernel
theorem dX7_memberOf_3 : decode cX7_memberOf 3 = .ok (.if_icmp .ne 7, 3) := by decide +kernel
theorem dX7_memberOf_6 : decode cX7_memberOf 6 = .ok (.iconst 3, 1) := by decide +kernel
theorem dX7_memberOf_7 : decode cX7_memberOf 7 = .ok (.goto 4, 3) := by decide +kernel
theorem dX7_memberOf_10 : decode cX7_memberOf 10 = .ok (.iload_n 1, 1) := by decide +kernel
theorem dX7_memberOf_11 : decode cX7_memberOf 11 = .ok (.iadd, 1) := by decide +kernel
theorem dX7_memberOf_12 : decode cX7_memberOf 12 = .ok (.bipush 7, 2) := by decide +kernel
theorem dX7_memberOf_14 : decode cX7_memberOf 14 = .ok (.irem, 1) := by decide +kernel
theorem dX7_memberOf_15 : decode cX7_memberOf 15 = .ok (.ireturn, 1) := by decide +kernel
set_option maxRecDepth 20000 in
theorem ggX7_lies_X7_memberOf : GoodIn wsX7_lies wsX7_memberOf := goodIn_r _ [4] (by decide +kernel) (by decide +kernel)
set_option maxRecDepth 20000 in
theorem gX7_lies_X7_memberOf : GoodIn wsX7_lies (va_wsS RX7 37 yX7_memberOf wsX7_memberOf) := goodIn_app (goodIn_of _ (by decide +kernel)) ggX7_lies_X7_memberOf
theorem dX7_lies_0 : decode cX7_lies 0 = .ok (.iload_n 0, 1) := by decide +kernel
theorem dX7_lies_1 : decode cX7_lies 1 = .ok (.iconst 0, 1) := by decide +kernel
theorem dX7_lies_2 : decode cX7_lies 2 = .ok (.invokestatic 37, 3) := by decide +kernel
theorem dX7_lies_5 : decode cX7_lies 5 = .ok (.iload_n 1, 1) := by decide +kernel
theorem dX7_lies_6 : decode cX7_lies 6 = .ok (.if_icmp .eq 21, 3) := by decide +kernel
theorem dX7_lies_9 : decode cX7_lies 9 = .ok (.iload_n 0, 1) := by decide +kernel
theorem dX7_lies_10 : decode cX7_lies 10 = .ok (.iconst 1, 1) := by decide +kernel
theorem dX7_lies_11 : decode cX7_lies 11 = .ok (.invokestatic 37, 3) := by decide +kernel
theorem dX7_lies_14 : decode cX7_lies 14 = .ok (.iload_n 1, 1) := by decide +kernel
theorem dX7_lies_15 : decode cX7_lies 15 = .ok (.if_icmp .eq 12, 3) := by decide +kernel
theorem dX7_lies_18 : decode cX7_lies 18 = .ok (.iload_n 0, 1) := by decide +kernel
theorem dX7_lies_19 : decode cX7_lies 19 = .ok (.iconst 2, 1) := by decide +kernel
theorem dX7_lies_20 : decode cX7_lies 20 = .ok (.invokestatic 37, 3) := by decide +kernel
theorem dX7_lies_23 : decode cX7_lies 23 = .ok (.iload_n 1, 1) := by decide +kernel
theorem dX7_lies_24 : decode cX7_lies 24 = .ok (.if_icmp .ne 7, 3) := by decide +kernel
theorem dX7_lies_27 : decode cX7_lies 27 = .ok (.iconst 1, 1) := by decide +kernel
theorem dX7_lies_28 : decode cX7_lies 28 = .ok (.goto 4, 3) := by decide +kernel
theorem dX7_lies_31 : decode cX7_lies 31 = .ok (.iconst 0, 1) := by decide +kernel
theorem dX7_lies_32 : decode cX7_lies 32 = .ok (.ireturn, 1) := by decide +kernel
set_option maxRecDepth 20000 in
theorem ggX7_where_X7_memberOf : GoodIn wsX7_where wsX7_memberOf := goodIn_r _ [4] (by decide +kernel) (by decide +kernel)
set_option maxRecDepth 20000 in
theorem gX7_where_X7_memberOf : GoodIn wsX7_where (va_wsS RX7 37 yX7_memberOf wsX7_memberOf) := goodIn_app (goodIn_of _ (by decide +kernel)) ggX7_where_X7_memberOf
set_option maxRecDepth 20000 in
theorem ggX7_where_X7_lies : GoodIn wsX7_where wsX7_lies := goodIn_r _ [7, 1, 2, 3, 4] (by decide +kernel) (by decide +kernel)
set_option maxRecDepth 20000 in
theorem gX7_where_X7_lies : GoodIn wsX7_where (va_wsS RX7 41 yX7_lies wsX7_lies) := goodIn_app (goodIn_of _ (by decide +kernel)) ggX7_where_X7_lies
theorem dX7_where_0 : decode cX7_where 0 = .ok (.iload_n 0, 1) := by decide +kernel
theorem dX7_where_1 : decode cX7_where 1 = .ok (.bipush 7, 2) := by decide +kernel
theorem dX7_where_3 : decode cX7_where 3 = .ok (.idiv, 1) := by decide +kernel
theorem dX7_where_4 : decode cX7_where 4 = .ok (.istore_n 2, 1) := by decide +kernel
theorem dX7_where_5 : decode cX7_where 5 = .ok (.iload_n 1, 1) := by decide +kernel
theorem dX7_where_6 : decode cX7_where 6 = .ok (.iconst 2, 1) := by decide +kernel
theorem dX7_where_7 : decode cX7_where 7 = .ok (.if_icmp .ne 7, 3) := by decide +kernel
theorem dX7_where_10 : decode cX7_where 10 = .ok (.iload_n 2, 1) := by decide +kernel
theorem dX7_where_11 : decode cX7_where 11 = .ok (.goto 29, 3) := by decide +kernel
theorem dX7_where_14 : decode cX7_where 14 = .ok (.iload_n 1, 1) := by decide +kernel
theorem dX7_where_15 : decode cX7_where 15 = .ok (.ifCond .ne 15, 3) := by decide +kernel
theorem dX7_where_18 : decode cX7_where 18 = .ok (.iload_n 2, 1) := by decide +kernel
theorem dX7_where_19 : decode cX7_where 19 = .ok (.ifCond .ne 7, 3) := by decide +kernel
theorem dX7_where_22 : decode cX7_where 22 = .ok (.iconst 1, 1) := by decide +kernel
theorem dX7_where_23 : decode cX7_where 23 = .ok (.goto 17, 3) := by decide +kernel
theorem dX7_where_26 : decode cX7_where 26 = .ok (.iconst 0, 1) := by decide +kernel
theorem dX7_where_27 : decode cX7_where 27 = .ok (.goto 13, 3) := by decide +kernel
theorem dX7_where_30 : decode cX7_where 30 = .ok (.iload_n 2, 1) := by decide +kernel
theorem dX7_where_31 : decode cX7_where 31 = .ok (.iconst 2, 1) := by decide +kernel
theorem dX7_where_32 : decode cX7_where 32 = .ok (.if_icmp .ne 7, 3) := by decide +kernel
theorem dX7_where_35 : decode cX7_where 35 = .ok (.iconst 1, 1) := by decide +kernel
theorem dX7_where_36 : decode cX7_where 36 = .ok (.goto 4, 3) := by decide +kernel
theorem dX7_where_39 : decode cX7_where 39 = .ok (.iconst 2, 1) := by decide +kernel
theorem dX7_where_40 : decode cX7_where 40 = .ok (.istore_n 3, 1) := by decide +kernel
theorem dX7_where_41 : decode cX7_where 41 = .ok (.iload_n 0, 1) := by decide +kernel
theorem dX7_where_42 : decode cX7_where 42 = .ok (.iload_n 3, 1) := by decide +kernel
theorem dX7_where_43 : decode cX7_where 43 = .ok (.invokestatic 37, 3) := by decide +kernel
theorem dX7_where_46 : decode cX7_where 46 = .ok (.istore 4, 2) := by decide +kernel
theorem dX7_where_48 : decode cX7_where 48 = .ok (.iconst 0, 1) := by decide +kernel
theorem dX7_where_49 : decode cX7_where 49 = .ok (.istore 5, 2) := by decide +kernel
theorem dX7_where_51 : decode cX7_where 51 = .ok (.iconst 0, 1) := by decide +kernel
theorem dX7_where_52 : decode cX7_where 52 = .ok (.istore 6, 2) := by decide +kernel
theorem dX7_where_54 : decode cX7_where 54 = .ok (.iload 6, 2) := by decide +kernel
theorem dX7_where_56 : decode cX7_where 56 = .ok (.iload_n 0, 1) := by decide +kernel
theorem dX7_where_57 : decode cX7_where 57 = .ok (.if_icmp .ge 29, 3) := by decide +kernel
theorem dX7_where_60 : decode cX7_where 60 = .ok (.iload 5, 2) := by decide +kernel
theorem dX7_where_62 : decode cX7_where 62 = .ok (.iload 6, 2) := by decide +kernel
theorem dX7_where_64 : decode cX7_where 64 = .ok (.iload 4, 2) := by decide +kernel
theorem dX7_where_66 : decode cX7_where 66 = .ok (.invokestatic 41, 3) := by decide +kernel
theorem dX7_where_69 : decode cX7_where 69 = .ok (.ifCond .eq 7, 3) := by decide +kernel
theorem dX7_where_72 : decode cX7_where 72 = .ok (.iconst 1, 1) := by decide +kernel
theorem dX7_where_73 : decode cX7_where 73 = .ok (.goto 4, 3) := by decide +kernel
theorem dX7_where_76 : decode cX7_where 76 = .ok (.iconst 0, 1) := by decide +kernel
theorem dX7_where_77 : decode cX7_where 77 = .ok (.iadd, 1) := by decide +kernel
theorem dX7_where_78 : decode cX7_where 78 = .ok (.istore 5, 2) := by decide +kernel
theorem dX7_where_80 : decode cX7_where 80 = .ok (.iinc 6 1, 3) := by decide +kernel
theorem dX7_where_83 : decode cX7_where 83 = .ok (.goto (-29), 3) := by decide +kernel
theorem dX7_where_86 : decode cX7_where 86 = .ok (.bipush 9, 2) := by decide +kernel
theorem dX7_where_88 : decode cX7_where 88 = .ok (.iload 4, 2) := by decide +kernel
theorem dX7_where_90 : decode cX7_where 90 = .ok (.imul, 1) := by decide +kernel
theorem dX7_where_91 : decode cX7_where 91 = .ok (.iload 5, 2) := by decide +kernel
theorem dX7_where_93 : decode cX7_where 93 = .ok (.iadd, 1) := by decide +kernel
theorem dX7_where_94 : decode cX7_where 94 = .ok (.ireturn, 1) := by decide +kernel
set_option maxRecDepth 20000 in
theorem ggX7_stripeOf_X7_lies : GoodIn wsX7_stripeOf wsX7_lies := goodIn_r _ [4, 5, 6, 3, 7] (by decide +kernel) (by decide +kernel)
set_option maxRecDepth 20000 in
theorem gX7_stripeOf_X7_lies : GoodIn wsX7_stripeOf (va_wsS RX7 41 yX7_lies wsX7_lies) := goodIn_app (goodIn_of _ (by decide +kernel)) ggX7_stripeOf_X7_lies
theorem dX7_stripeOf_0 : decode cX7_stripeOf 0 = .ok (.iload_n 1, 1) := by decide +kernel
theorem dX7_stripeOf_1 : decode cX7_stripeOf 1 = .ok (.istore_n 2, 1) := by decide +kernel
theorem dX7_stripeOf_2 : decode cX7_stripeOf 2 = .ok (.iconst 0, 1) := by decide +kernel
theorem dX7_stripeOf_3 : decode cX7_stripeOf 3 = .ok (.istore_n 3, 1) := by decide +kernel
theorem dX7_stripeOf_4 : decode cX7_stripeOf 4 = .ok (.iload_n 2, 1) := by decide +kernel
theorem dX7_stripeOf_5 : decode cX7_stripeOf 5 = .ok (.ifCond .gt 11, 3) := by decide +kernel
theorem dX7_stripeOf_8 : decode cX7_stripeOf 8 = .ok (.iload_n 3, 1) := by decide +kernel
theorem dX7_stripeOf_9 : decode cX7_stripeOf 9 = .ok (.iload_n 0, 1) := by decide +kernel
theorem dX7_stripeOf_10 : decode cX7_stripeOf 10 = .ok (.invokestatic 41, 3) := by decide +kernel
theorem dX7_stripeOf_13 : decode cX7_stripeOf 13 = .ok (.ifCond .ne 25, 3) := by decide +kernel
theorem dX7_stripeOf_16 : decode cX7_stripeOf 16 = .ok (.iload_n 2, 1) := by decide +kernel
theorem dX7_stripeOf_17 : decode cX7_stripeOf 17 = .ok (.iload_n 3, 1) := by decide +kernel
theorem dX7_stripeOf_18 : decode cX7_stripeOf 18 = .ok (.iload_n 0, 1) := by decide +kernel
theorem dX7_stripeOf_19 : decode cX7_stripeOf 19 = .ok (.invokestatic 41, 3) := by decide +kernel
theorem dX7_stripeOf_22 : decode cX7_stripeOf 22 = .ok (.ifCond .eq 7, 3) := by decide +kernel
theorem dX7_stripeOf_25 : decode cX7_stripeOf 25 = .ok (.iconst 1, 1) := by decide +kernel
theorem dX7_stripeOf_26 : decode cX7_stripeOf 26 = .ok (.goto 4, 3) := by decide +kernel
theorem dX7_stripeOf_29 : decode cX7_stripeOf 29 = .ok (.iconst 0, 1) := by decide +kernel
theorem dX7_stripeOf_30 : decode cX7_stripeOf 30 = .ok (.isub, 1) := by decide +kernel
theorem dX7_stripeOf_31 : decode cX7_stripeOf 31 = .ok (.istore_n 2, 1) := by decide +kernel
theorem dX7_stripeOf_32 : decode cX7_stripeOf 32 = .ok (.iinc 3 1, 3) := by decide +kernel
theorem dX7_stripeOf_35 : decode cX7_stripeOf 35 = .ok (.goto (-31), 3) := by decide +kernel
theorem dX7_stripeOf_38 : decode cX7_stripeOf 38 = .ok (.iload_n 3, 1) := by decide +kernel
theorem dX7_stripeOf_39 : decode cX7_stripeOf 39 = .ok (.ireturn, 1) := by decide +kernel
set_option maxRecDepth 20000 in
theorem ggX7_unitAt_X7_stripeOf : GoodIn wsX7_unitAt wsX7_stripeOf := goodIn_r _ [4, 5, 6, 3, 7, 8, 9, 10] (by decide +kernel) (by decide +kernel)
set_option maxRecDepth 20000 in
theorem gX7_unitAt_X7_stripeOf : GoodIn wsX7_unitAt (va_wsS RX7 45 yX7_stripeOf wsX7_stripeOf) := goodIn_app (goodIn_of _ (by decide +kernel)) ggX7_unitAt_X7_stripeOf
set_option maxRecDepth 20000 in
theorem ggX7_unitAt_X7_where : GoodIn wsX7_unitAt wsX7_where := goodIn_r _ [13, 8, 9, 3, 10, 5, 6, 7] (by decide +kernel) (by decide +kernel)
set_option maxRecDepth 20000 in
theorem gX7_unitAt_X7_where : GoodIn wsX7_unitAt (va_wsS RX7 48 yX7_where wsX7_where) := goodIn_app (goodIn_of _ (by decide +kernel)) ggX7_unitAt_X7_where
theorem dX7_unitAt_0 : decode cX7_unitAt 0 = .ok (.iload_n 0, 1) := by decide +kernel
theorem dX7_unitAt_1 : decode cX7_unitAt 1 = .ok (.iload_n 1, 1) := by decide +kernel
theorem dX7_unitAt_2 : decode cX7_unitAt 2 = .ok (.invokestatic 45, 3) := by decide +kernel
theorem dX7_unitAt_5 : decode cX7_unitAt 5 = .ok (.istore_n 2, 1) := by decide +kernel
theorem dX7_unitAt_6 : decode cX7_unitAt 6 = .ok (.iconst 0, 1) := by decide +kernel
theorem dX7_unitAt_7 : decode cX7_unitAt 7 = .ok (.istore_n 3, 1) := by decide +kernel
theorem dX7_unitAt_8 : decode cX7_unitAt 8 = .ok (.iconst 1, 1) := by decide +kernel
theorem dX7_unitAt_9 : decode cX7_unitAt 9 = .ok (.istore 4, 2) := by decide +kernel
theorem dX7_unitAt_11 : decode cX7_unitAt 11 = .ok (.iload 4, 2) := by decide +kernel
theorem dX7_unitAt_13 : decode cX7_unitAt 13 = .ok (.iconst 2, 1) := by decide +kernel
theorem dX7_unitAt_14 : decode cX7_unitAt 14 = .ok (.if_icmp .gt 31, 3) := by decide +kernel
theorem dX7_unitAt_17 : decode cX7_unitAt 17 = .ok (.iload_n 2, 1) := by decide +kernel
theorem dX7_unitAt_18 : decode cX7_unitAt 18 = .ok (.iload 4, 2) := by decide +kernel
theorem dX7_unitAt_20 : decode cX7_unitAt 20 = .ok (.invokestatic 48, 3) := by decide +kernel
theorem dX7_unitAt_23 : decode cX7_unitAt 23 = .ok (.bipush 9, 2) := by decide +kernel
theorem dX7_unitAt_25 : decode cX7_unitAt 25 = .ok (.iload_n 0, 1) := by decide +kernel
theorem dX7_unitAt_26 : decode cX7_unitAt 26 = .ok (.imul, 1) := by decide +kernel
theorem dX7_unitAt_27 : decode cX7_unitAt 27 = .ok (.iload_n 1, 1) := by decide +kernel
theorem dX7_unitAt_28 : decode cX7_unitAt 28 = .ok (.iadd, 1) := by decide +kernel
theorem dX7_unitAt_29 : decode cX7_unitAt 29 = .ok (.if_icmp .ne 8, 3) := by decide +kernel
theorem dX7_unitAt_32 : decode cX7_unitAt 32 = .ok (.iload 4, 2) := by decide +kernel
theorem dX7_unitAt_34 : decode cX7_unitAt 34 = .ok (.goto 4, 3) := by decide +kernel
theorem dX7_unitAt_37 : decode cX7_unitAt 37 = .ok (.iload_n 3, 1) := by decide +kernel
theorem dX7_unitAt_38 : decode cX7_unitAt 38 = .ok (.istore_n 3, 1) := by decide +kernel
theorem dX7_unitAt_39 : decode cX7_unitAt 39 = .ok (.iinc 4 1, 3) := by decide +kernel
theorem dX7_unitAt_42 : decode cX7_unitAt 42 = .ok (.goto (-31), 3) := by decide +kernel
theorem dX7_unitAt_45 : decode cX7_unitAt 45 = .ok (.iload_n 3, 1) := by decide +kernel
theorem dX7_unitAt_46 : decode cX7_unitAt 46 = .ok (.ireturn, 1) := by decide +kernel
theorem dX7_isUnit_0 : decode cX7_isUnit 0 = .ok (.aload_n 0, 1) := by decide +kernel
theorem dX7_isUnit_1 : decode cX7_isUnit 1 = .ok (.getfield 7, 3) := by decide +kernel
theorem dX7_isUnit_4 : decode cX7_isUnit 4 = .ok (.iconst 0, 1) := by decide +kernel
theorem dX7_isUnit_5 : decode cX7_isUnit 5 = .ok (.iload_n 1, 1) := by decide +kernel
theorem dX7_isUnit_6 : decode cX7_isUnit 6 = .ok (.bipush 9, 2) := by decide +kernel
theorem dX7_isUnit_8 : decode cX7_isUnit 8 = .ok (.idiv, 1) := by decide +kernel
theorem dX7_isUnit_9 : decode cX7_isUnit 9 = .ok (.iadd, 1) := by decide +kernel
theorem dX7_isUnit_10 : decode cX7_isUnit 10 = .ok (.iaload, 1) := by decide +kernel
theorem dX7_isUnit_11 : decode cX7_isUnit 11 = .ok (.istore_n 2, 1) := by decide +kernel
theorem dX7_isUnit_12 : decode cX7_isUnit 12 = .ok (.iload_n 2, 1) := by decide +kernel
theorem dX7_isUnit_13 : decode cX7_isUnit 13 = .ok (.bipush 9, 2) := by decide +kernel
theorem dX7_isUnit_15 : decode cX7_isUnit 15 = .ok (.if_icmp .eq 11, 3) := by decide +kernel
theorem dX7_isUnit_18 : decode cX7_isUnit 18 = .ok (.iload_n 2, 1) := by decide +kernel
theorem dX7_isUnit_19 : decode cX7_isUnit 19 = .ok (.iload_n 1, 1) := by decide +kernel
theorem dX7_isUnit_20 : decode cX7_isUnit 20 = .ok (.bipush 9, 2) := by decide +kernel
theorem dX7_isUnit_22 : decode cX7_isUnit 22 = .ok (.irem, 1) := by decide +kernel
theorem dX7_isUnit_23 : decode cX7_isUnit 23 = .ok (.if_icmp .le 7, 3) := by decide +kernel
theorem dX7_isUnit_26 : decode cX7_isUnit 26 = .ok (.iconst 1, 1) := by decide +kernel
theorem dX7_isUnit_27 : decode cX7_isUnit 27 = .ok (.goto 4, 3) := by decide +kernel
theorem dX7_isUnit_30 : decode cX7_isUnit 30 = .ok (.iconst 0, 1) := by decide +kernel
theorem dX7_isUnit_31 : decode cX7_isUnit 31 = .ok (.ireturn, 1) := by decide +kernel
set_option maxRecDepth 20000 in
theorem ggX7_isThere_X7_where : GoodIn wsX7_isThere wsX7_where := goodIn_r _ [4, 5, 6, 3, 7, 8, 9, 10] (by decide +kernel) (by decide +kernel)
set_option maxRecDepth 20000 in
theorem gX7_isThere_X7_where : GoodIn wsX7_isThere (va_wsS RX7 48 yX7_where wsX7_where) := goodIn_app (goodIn_of _ (by decide +kernel)) ggX7_isThere_X7_where
set_option maxRecDepth 20000 in
theorem ggX7_isThere_X7_isUnit : GoodIn wsX7_isThere wsX7_isUnit := goodIn_r _ [14, 15, 16, 17, 18, 19, 20, 21, 22, 23, 24, 25, 26, 27, 28] (by decide +kernel) (by decide +kernel)
set_option maxRecDepth 20000 in
theorem gX7_isThere_X7_isUnit : GoodIn wsX7_isThere (wsV RX7 51 RX7 yX7_isUnit wsX7_isUnit) := goodIn_app (goodIn_of _ (by decide +kernel)) ggX7_isThere_X7_isUnit
theorem dX7_isThere_0 : decode cX7_isThere 0 = .ok (.aload_n 0, 1) := by decide +kernel
theorem dX7_isThere_1 : decode cX7_isThere 1 = .ok (.iload_n 1, 1) := by decide +kernel
theorem dX7_isThere_2 : decode cX7_isThere 2 = .ok (.iload_n 2, 1) := by decide +kernel
theorem dX7_isThere_3 : decode cX7_isThere 3 = .ok (.invokestatic 48, 3) := by decide +kernel
theorem dX7_isThere_6 : decode cX7_isThere 6 = .ok (.invokevirtual 51, 3) := by decide +kernel
theorem dX7_isThere_9 : decode cX7_isThere 9 = .ok (.ireturn, 1) := by decide +kernel
set_option maxRecDepth 20000 in
theorem ggX7_valueOf_X7_where : GoodIn wsX7_valueOf wsX7_where := goodIn_r _ [5, 6, 7, 4, 8, 9, 10, 11] (by decide +kernel) (by decide +kernel)
set_option maxRecDepth 20000 in
theorem gX7_valueOf_X7_where : GoodIn wsX7_valueOf (va_wsS RX7 48 yX7_where wsX7_where) := goodIn_app (goodIn_of _ (by decide +kernel)) ggX7_valueOf_X7_where
theorem dX7_valueOf_0 : decode cX7_valueOf 0 = .ok (.aload_n 0, 1) := by decide +kernel
theorem dX7_valueOf_1 : decode cX7_valueOf 1 = .ok (.getfield 7, 3) := by decide +kernel
theorem dX7_valueOf_4 : decode cX7_valueOf 4 = .ok (.bipush 7, 2) := by decide +kernel
theorem dX7_valueOf_6 : decode cX7_valueOf 6 = .ok (.iload_n 1, 1) := by decide +kernel
theorem dX7_valueOf_7 : decode cX7_valueOf 7 = .ok (.iload_n 2, 1) := by decide +kernel
theorem dX7_valueOf_8 : decode cX7_valueOf 8 = .ok (.invokestatic 48, 3) := by decide +kernel
theorem dX7_valueOf_11 : decode cX7_valueOf 11 = .ok (.iadd, 1) := by decide +kernel
theorem dX7_valueOf_12 : decode cX7_valueOf 12 = .ok (.iaload, 1) := by decide +kernel
theorem dX7_valueOf_13 : decode cX7_valueOf 13 = .ok (.ireturn, 1) := by decide +kernel
theorem dX7_one_0 : decode cX7_one 0 = .ok (.iload_n 0, 1) := by decide +kernel
theorem dX7_one_1 : decode cX7_one 1 = .ok (.ifCond .ne 7, 3) := by decide +kernel
theorem dX7_one_4 : decode cX7_one 4 = .ok (.iconst 1, 1) := by decide +kernel
theorem dX7_one_5 : decode cX7_one 5 = .ok (.goto 4, 3) := by decide +kernel
theorem dX7_one_8 : decode cX7_one 8 = .ok (.iconst 0, 1) := by decide +kernel
theorem dX7_one_9 : decode cX7_one 9 = .ok (.ireturn, 1) := by decide +kernel
theorem dX7_two_0 : decode cX7_two 0 = .ok (.iload_n 0, 1) := by decide +kernel
theorem dX7_two_1 : decode cX7_two 1 = .ok (.iconst 2, 1) := by decide +kernel
theorem dX7_two_2 : decode cX7_two 2 = .ok (.if_icmp .ne 7, 3) := by decide +kernel
theorem dX7_two_5 : decode cX7_two 5 = .ok (.iconst 1, 1) := by decide +kernel
theorem dX7_two_6 : decode cX7_two 6 = .ok (.goto 4, 3) := by decide +kernel
theorem dX7_two_9 : decode cX7_two 9 = .ok (.iconst 2, 1) := by decide +kernel
theorem dX7_two_10 : decode cX7_two 10 = .ok (.ireturn, 1) := by decide +kernel
set_option maxRecDepth 20000 in
theorem ggX7_canFind_X7_one : GoodIn wsX7_canFind wsX7_one := goodIn_r _ [4] (by decide +kernel) (by decide +kernel)
set_option maxRecDepth 20000 in
theorem gX7_canFind_X7_one : GoodIn wsX7_canFind (va_wsS RX7 55 yX7_one wsX7_one) := goodIn_app (goodIn_of _ (by decide +kernel)) ggX7_canFind_X7_one
set_option maxRecDepth 20000 in
theorem ggX7_canFind_X7_isThere : GoodIn wsX7_canFind wsX7_isThere := goodIn_r _ [8, 9, 10, 3, 11, 12, 13, 14, 15, 16, 17, 18, 19, 20, 21, 22, 26, 27, 28, 29, 30, 31, 32, 33, 34, 35, 36, 37, 38] (by decide +kernel) (by decide +kernel)
set_option maxRecDepth 20000 in
theorem gX7_canFind_X7_isThere : GoodIn wsX7_canFind (wsV RX7 59 RX7 yX7_isThere wsX7_isThere) := goodIn_app (goodIn_of _ (by decide +kernel)) ggX7_canFind_X7_isThere
set_option maxRecDepth 20000 in
theorem ggX7_canFind_X7_two : GoodIn wsX7_canFind wsX7_two := goodIn_r _ [25] (by decide +kernel) (by decide +kernel)
set_option maxRecDepth 20000 in
theorem gX7_canFind_X7_two : GoodIn wsX7_canFind (va_wsS RX7 62 yX7_two wsX7_two) := goodIn_app (goodIn_of _ (by decide +kernel)) ggX7_canFind_X7_two
theorem dX7_canFind_0 : decode cX7_canFind 0 = .ok (.aload_n 0, 1) := by decide +kernel
theorem dX7_canFind_1 : decode cX7_canFind 1 = .ok (.iload_n 1, 1) := by decide +kernel
theorem dX7_canFind_2 : decode cX7_canFind 2 = .ok (.iload_n 2, 1) := by decide +kernel
theorem dX7_canFind_3 : decode cX7_canFind 3 = .ok (.invokestatic 55, 3) := by decide +kernel
theorem dX7_canFind_6 : decode cX7_canFind 6 = .ok (.invokevirtual 59, 3) := by decide +kernel
theorem dX7_canFind_9 : decode cX7_canFind 9 = .ok (.ifCond .eq 19, 3) := by decide +kernel
theorem dX7_canFind_12 : decode cX7_canFind 12 = .ok (.aload_n 0, 1) := by decide +kernel
theorem dX7_canFind_13 : decode cX7_canFind 13 = .ok (.iload_n 1, 1) := by decide +kernel
theorem dX7_canFind_14 : decode cX7_canFind 14 = .ok (.iload_n 2, 1) := by decide +kernel
theorem dX7_canFind_15 : decode cX7_canFind 15 = .ok (.invokestatic 62, 3) := by decide +kernel
theorem dX7_canFind_18 : decode cX7_canFind 18 = .ok (.invokevirtual 59, 3) := by decide +kernel
theorem dX7_canFind_21 : decode cX7_canFind 21 = .ok (.ifCond .eq 7, 3) := by decide +kernel
theorem dX7_canFind_24 : decode cX7_canFind 24 = .ok (.iconst 1, 1) := by decide +kernel
theorem dX7_canFind_25 : decode cX7_canFind 25 = .ok (.goto 4, 3) := by decide +kernel
theorem dX7_canFind_28 : decode cX7_canFind 28 = .ok (.iconst 0, 1) := by decide +kernel
theorem dX7_canFind_29 : decode cX7_canFind 29 = .ok (.ireturn, 1) := by decide +kernel
set_option maxRecDepth 20000 in
theorem ggX7_look_X7_isThere : GoodIn wsX7_look wsX7_isThere := goodIn_r _ [5, 6, 7, 4, 8, 9, 10, 11, 12, 13, 14, 15, 16, 17, 18, 19, 34, 35, 36, 37, 38, 39, 40, 41, 42, 43, 44, 45, 46] (by decide +kernel) (by decide +kernel)
set_option maxRecDepth 20000 in
theorem gX7_look_X7_isThere : GoodIn wsX7_look (wsV RX7 59 RX7 yX7_isThere wsX7_isThere) := goodIn_app (goodIn_of _ (by decide +kernel)) ggX7_look_X7_isThere
set_option maxRecDepth 20000 in
theorem ggX7_look_X7_valueOf : GoodIn wsX7_look wsX7_valueOf := goodIn_r _ [23, 19, 6, 7, 4, 8, 9, 10, 11, 12, 13, 14, 34, 35, 36, 37, 38, 39, 40, 41, 42, 43, 44, 45, 46] (by decide +kernel) (by decide +kernel)
set_option maxRecDepth 20000 in
theorem gX7_look_X7_valueOf : GoodIn wsX7_look (wsV RX7 65 RX7 yX7_valueOf wsX7_valueOf) := goodIn_app (goodIn_of _ (by decide +kernel)) ggX7_look_X7_valueOf
set_option maxRecDepth 20000 in
theorem ggX7_look_X7_canFind : GoodIn wsX7_look wsX7_canFind := goodIn_r _ [27, 28, 29, 4, 30, 1, 2, 3, 5, 6, 7, 8, 9, 10, 11, 12, 13, 14, 15, 16, 17, 18, 19, 31, 32, 33, 34, 35, 36, 37, 38, 39, 40, 41, 42, 43, 44, 45, 46] (by decide +kernel) (by decide +kernel)
set_option maxRecDepth 20000 in
theorem gX7_look_X7_canFind : GoodIn wsX7_look (wsV RX7 68 RX7 yX7_canFind wsX7_canFind) := goodIn_app (goodIn_of _ (by decide +kernel)) ggX7_look_X7_canFind
set_option maxRecDepth 20000 in
theorem ggX7_look_X7_one : GoodIn wsX7_look wsX7_one := goodIn_r _ [30] (by decide +kernel) (by decide +kernel)
set_option maxRecDepth 20000 in
theorem gX7_look_X7_one : GoodIn wsX7_look (va_wsS RX7 55 yX7_one wsX7_one) := goodIn_app (goodIn_of _ (by decide +kernel)) ggX7_look_X7_one
set_option maxRecDepth 20000 in
theorem ggX7_look_X7_two : GoodIn wsX7_look wsX7_two := goodIn_r _ [33] (by decide +kernel) (by decide +kernel)
set_option maxRecDepth 20000 in
theorem gX7_look_X7_two : GoodIn wsX7_look (va_wsS RX7 62 yX7_two wsX7_two) := goodIn_app (goodIn_of _ (by decide +kernel)) ggX7_look_X7_two
theorem dX7_look_0 : decode cX7_look 0 = .ok (.aload_n 0, 1) := by decide +kernel
theorem dX7_look_1 : decode cX7_look 1 = .ok (.iload_n 1, 1) := by decide +kernel
theorem dX7_look_2 : decode cX7_look 2 = .ok (.iload_n 2, 1) := by decide +kernel
theorem dX7_look_3 : decode cX7_look 3 = .ok (.invokevirtual 59, 3) := by decide +kernel
theorem dX7_look_6 : decode cX7_look 6 = .ok (.ifCond .eq 10, 3) := by decide +kernel
theorem dX7_look_9 : decode cX7_look 9 = .ok (.aload_n 0, 1) := by decide +kernel
theorem dX7_look_10 : decode cX7_look 10 = .ok (.iload_n 1, 1) := by decide +kernel
theorem dX7_look_11 : decode cX7_look 11 = .ok (.iload_n 2, 1) := by decide +kernel
theorem dX7_look_12 : decode cX7_look 12 = .ok (.invokevirtual 65, 3) := by decide +kernel
theorem dX7_look_15 : decode cX7_look 15 = .ok (.ireturn, 1) := by decide +kernel
theorem dX7_look_16 : decode cX7_look 16 = .ok (.aload_n 0, 1) := by decide +kernel
theorem dX7_look_17 : decode cX7_look 17 = .ok (.iload_n 1, 1) := by decide +kernel
theorem dX7_look_18 : decode cX7_look 18 = .ok (.iload_n 2, 1) := by decide +kernel
theorem dX7_look_19 : decode cX7_look 19 = .ok (.invokevirtual 68, 3) := by decide +kernel
theorem dX7_look_22 : decode cX7_look 22 = .ok (.ifCond .eq 25, 3) := by decide +kernel
theorem dX7_look_25 : decode cX7_look 25 = .ok (.aload_n 0, 1) := by decide +kernel
theorem dX7_look_26 : decode cX7_look 26 = .ok (.iload_n 1, 1) := by decide +kernel
theorem dX7_look_27 : decode cX7_look 27 = .ok (.iload_n 2, 1) := by decide +kernel
theorem dX7_look_28 : decode cX7_look 28 = .ok (.invokestatic 55, 3) := by decide +kernel
theorem dX7_look_31 : decode cX7_look 31 = .ok (.invokevirtual 65, 3) := by decide +kernel
theorem dX7_look_34 : decode cX7_look 34 = .ok (.aload_n 0, 1) := by decide +kernel
theorem dX7_look_35 : decode cX7_look 35 = .ok (.iload_n 1, 1) := by decide +kernel
theorem dX7_look_36 : decode cX7_look 36 = .ok (.iload_n 2, 1) := by decide +kernel
theorem dX7_look_37 : decode cX7_look 37 = .ok (.invokestatic 62, 3) := by decide +kernel
theorem dX7_look_40 : decode cX7_look 40 = .ok (.invokevirtual 65, 3) := by decide +kernel
theorem dX7_look_43 : decode cX7_look 43 = .ok (.ixor, 1) := by decide +kernel
theorem dX7_look_44 : decode cX7_look 44 = .ok (.goto 4, 3) := by decide +kernel
theorem dX7_look_47 : decode cX7_look 47 = .ok (.iconst (-1), 1) := by decide +kernel
theorem dX7_look_48 : decode cX7_look 48 = .ok (.ireturn, 1) := by decide +kernel
set_option maxRecDepth 20000 in
theorem ggX7_countRead_X7_where : GoodIn wsX7_countRead wsX7_where := goodIn_r _ [5, 6, 7, 4, 8, 9, 10, 11] (by decide +kernel) (by decide +kernel)
set_option maxRecDepth 20000 in
theorem gX7_countRead_X7_where : GoodIn wsX7_countRead (va_wsS RX7 48 yX7_where wsX7_where) := goodIn_app (goodIn_of _ (by decide +kernel)) ggX7_countRead_X7_where
theorem dX7_countRead_0 : decode cX7_countRead 0 = .ok (.aload_n 0, 1) := by decide +kernel
theorem dX7_countRead_1 : decode cX7_countRead 1 = .ok (.getfield 7, 3) := by decide +kernel
theorem dX7_countRead_4 : decode cX7_countRead 4 = .ok (.bipush 70, 2) := by decide +kernel
theorem dX7_countRead_6 : decode cX7_countRead 6 = .ok (.iload_n 1, 1) := by decide +kernel
theorem dX7_countRead_7 : decode cX7_countRead 7 = .ok (.iload_n 2, 1) := by decide +kernel
theorem dX7_countRead_8 : decode cX7_countRead 8 = .ok (.invokestatic 48, 3) := by decide +kernel
theorem dX7_countRead_11 : decode cX7_countRead 11 = .ok (.bipush 9, 2) := by decide +kernel
theorem dX7_countRead_13 : decode cX7_countRead 13 = .ok (.idiv, 1) := by decide +kernel
theorem dX7_countRead_14 : decode cX7_countRead 14 = .ok (.iadd, 1) := by decide +kernel
theorem dX7_countRead_15 : decode cX7_countRead 15 = .ok (.dup2, 1) := by decide +kernel
theorem dX7_countRead_16 : decode cX7_countRead 16 = .ok (.iaload, 1) := by decide +kernel
theorem dX7_countRead_17 : decode cX7_countRead 17 = .ok (.iconst 1, 1) := by decide +kernel
theorem dX7_countRead_18 : decode cX7_countRead 18 = .ok (.iadd, 1) := by decide +kernel
theorem dX7_countRead_19 : decode cX7_countRead 19 = .ok (.iastore, 1) := by decide +kernel
theorem dX7_countRead_20 : decode cX7_countRead 20 = .ok (.return_, 1) := by decide +kernel
set_option maxRecDepth 20000 in
theorem ggX7_lay_X7_where : GoodIn wsX7_lay wsX7_where := goodIn_r _ [5, 6, 7, 4, 8, 9, 10, 11] (by decide +kernel) (by decide +kernel)
set_option maxRecDepth 20000 in
theorem gX7_lay_X7_where : GoodIn wsX7_lay (va_wsS RX7 48 yX7_where wsX7_where) := goodIn_app (goodIn_of _ (by decide +kernel)) ggX7_lay_X7_where
theorem dX7_lay_0 : decode cX7_lay 0 = .ok (.aload_n 0, 1) := by decide +kernel
theorem dX7_lay_1 : decode cX7_lay 1 = .ok (.getfield 7, 3) := by decide +kernel
theorem dX7_lay_4 : decode cX7_lay 4 = .ok (.bipush 7, 2) := by decide +kernel
theorem dX7_lay_6 : decode cX7_lay 6 = .ok (.iload_n 1, 1) := by decide +kernel
theorem dX7_lay_7 : decode cX7_lay 7 = .ok (.iload_n 2, 1) := by decide +kernel
theorem dX7_lay_8 : decode cX7_lay 8 = .ok (.invokestatic 48, 3) := by decide +kernel
theorem dX7_lay_11 : decode cX7_lay 11 = .ok (.iadd, 1) := by decide +kernel
theorem dX7_lay_12 : decode cX7_lay 12 = .ok (.iload_n 3, 1) := by decide +kernel
theorem dX7_lay_13 : decode cX7_lay 13 = .ok (.iastore, 1) := by decide +kernel
theorem dX7_lay_14 : decode cX7_lay 14 = .ok (.aload_n 0, 1) := by decide +kernel
theorem dX7_lay_15 : decode cX7_lay 15 = .ok (.getfield 7, 3) := by decide +kernel
theorem dX7_lay_18 : decode cX7_lay 18 = .ok (.bipush 77, 2) := by decide +kernel
theorem dX7_lay_20 : decode cX7_lay 20 = .ok (.iload_n 1, 1) := by decide +kernel
theorem dX7_lay_21 : decode cX7_lay 21 = .ok (.iload_n 2, 1) := by decide +kernel
theorem dX7_lay_22 : decode cX7_lay 22 = .ok (.invokestatic 48, 3) := by decide +kernel
theorem dX7_lay_25 : decode cX7_lay 25 = .ok (.bipush 9, 2) := by decide +kernel
theorem dX7_lay_27 : decode cX7_lay 27 = .ok (.idiv, 1) := by decide +kernel
theorem dX7_lay_28 : decode cX7_lay 28 = .ok (.iadd, 1) := by decide +kernel
theorem dX7_lay_29 : decode cX7_lay 29 = .ok (.dup2, 1) := by decide +kernel
theorem dX7_lay_30 : decode cX7_lay 30 = .ok (.iaload, 1) := by decide +kernel
theorem dX7_lay_31 : decode cX7_lay 31 = .ok (.iconst 1, 1) := by decide +kernel
theorem dX7_lay_32 : decode cX7_lay 32 = .ok (.iadd, 1) := by decide +kernel
theorem dX7_lay_33 : decode cX7_lay 33 = .ok (.iastore, 1) := by decide +kernel
theorem dX7_lay_34 : decode cX7_lay 34 = .ok (.return_, 1) := by decide +kernel
set_option maxRecDepth 20000 in
theorem ggX7_lostAddresses_X7_look : GoodIn wsX7_lostAddresses wsX7_look := goodIn_r _ [5, 6, 7, 8, 4, 9, 10, 11, 12, 13, 14, 15, 16, 17, 18, 19, 20, 21, 22, 23, 24, 25, 26, 27, 28, 29, 30, 31, 32, 33, 34, 35, 36, 37, 38, 39, 40, 41, 42, 43, 44, 45, 46, 47, 48, 49, 50] (by decide +kernel) (by decide +kernel)
set_option maxRecDepth 20000 in
theorem gX7_lostAddresses_X7_look : GoodIn wsX7_lostAddresses (wsV RX7 71 RX7 yX7_look wsX7_look) := goodIn_app (goodIn_of _ (by decide +kernel)) ggX7_lostAddresses_X7_look
theorem dX7_lostAddresses_0 : decode cX7_lostAddresses 0 = .ok (.iconst 0, 1) := by decide +kernel
theorem dX7_lostAddresses_1 : decode cX7_lostAddresses 1 = .ok (.istore_n 1, 1) := by decide +kernel
theorem dX7_lostAddresses_2 : decode cX7_lostAddresses 2 = .ok (.iconst 0, 1) := by decide +kernel
theorem dX7_lostAddresses_3 : decode cX7_lostAddresses 3 = .ok (.istore_n 2, 1) := by decide +kernel
theorem dX7_lostAddresses_4 : decode cX7_lostAddresses 4 = .ok (.iload_n 2, 1) := by decide +kernel
theorem dX7_lostAddresses_5 : decode cX7_lostAddresses 5 = .ok (.bipush 42, 2) := by decide +kernel
theorem dX7_lostAddresses_7 : decode cX7_lostAddresses 7 = .ok (.if_icmp .ge 31, 3) := by decide +kernel
theorem dX7_lostAddresses_10 : decode cX7_lostAddresses 10 = .ok (.iload_n 1, 1) := by decide +kernel
theorem dX7_lostAddresses_11 : decode cX7_lostAddresses 11 = .ok (.aload_n 0, 1) := by decide +kernel
theorem dX7_lostAddresses_12 : decode cX7_lostAddresses 12 = .ok (.iload_n 2, 1) := by decide +kernel
theorem dX7_lostAddresses_13 : decode cX7_lostAddresses 13 = .ok (.iconst 2, 1) := by decide +kernel
theorem dX7_lostAddresses_14 : decode cX7_lostAddresses 14 = .ok (.idiv, 1) := by decide +kernel
theorem dX7_lostAddresses_15 : decode cX7_lostAddresses 15 = .ok (.iload_n 2, 1) := by decide +kernel
theorem dX7_lostAddresses_16 : decode cX7_lostAddresses 16 = .ok (.iconst 2, 1) := by decide +kernel
theorem dX7_lostAddresses_17 : decode cX7_lostAddresses 17 = .ok (.irem, 1) := by decide +kernel
theorem dX7_lostAddresses_18 : decode cX7_lostAddresses 18 = .ok (.invokevirtual 71, 3) := by decide +kernel
theorem dX7_lostAddresses_21 : decode cX7_lostAddresses 21 = .ok (.iconst (-1), 1) := by decide +kernel
theorem dX7_lostAddresses_22 : decode cX7_lostAddresses 22 = .ok (.if_icmp .ne 7, 3) := by decide +kernel
theorem dX7_lostAddresses_25 : decode cX7_lostAddresses 25 = .ok (.iconst 1, 1) := by decide +kernel
theorem dX7_lostAddresses_26 : decode cX7_lostAddresses 26 = .ok (.goto 4, 3) := by decide +kernel
theorem dX7_lostAddresses_29 : decode cX7_lostAddresses 29 = .ok (.iconst 0, 1) := by decide +kernel
theorem dX7_lostAddresses_30 : decode cX7_lostAddresses 30 = .ok (.iadd, 1) := by decide +kernel
theorem dX7_lostAddresses_31 : decode cX7_lostAddresses 31 = .ok (.istore_n 1, 1) := by decide +kernel
theorem dX7_lostAddresses_32 : decode cX7_lostAddresses 32 = .ok (.iinc 2 1, 3) := by decide +kernel
theorem dX7_lostAddresses_35 : decode cX7_lostAddresses 35 = .ok (.goto (-31), 3) := by decide +kernel
theorem dX7_lostAddresses_38 : decode cX7_lostAddresses 38 = .ok (.iload_n 1, 1) := by decide +kernel
theorem dX7_lostAddresses_39 : decode cX7_lostAddresses 39 = .ok (.ireturn, 1) := by decide +kernel
set_option maxRecDepth 20000 in
theorem ggX7_isWhole_X7_isThere : GoodIn wsX7_isWhole wsX7_isThere := goodIn_r _ [5, 6, 7, 4, 8, 9, 10, 11, 12, 13, 14, 15, 16, 17, 18, 19, 20, 21, 22, 23, 24, 25, 26, 27, 28, 29, 30, 31, 32] (by decide +kernel) (by decide +kernel)
set_option maxRecDepth 20000 in
theorem gX7_isWhole_X7_isThere : GoodIn wsX7_isWhole (wsV RX7 59 RX7 yX7_isThere wsX7_isThere) := goodIn_app (goodIn_of _ (by decide +kernel)) ggX7_isWhole_X7_isThere
theorem dX7_isWhole_0 : decode cX7_isWhole 0 = .ok (.aload_n 0, 1) := by decide +kernel
theorem dX7_isWhole_1 : decode cX7_isWhole 1 = .ok (.iload_n 1, 1) := by decide +kernel
theorem dX7_isWhole_2 : decode cX7_isWhole 2 = .ok (.iconst 0, 1) := by decide +kernel
theorem dX7_isWhole_3 : decode cX7_isWhole 3 = .ok (.invokevirtual 59, 3) := by decide +kernel
theorem dX7_isWhole_6 : decode cX7_isWhole 6 = .ok (.ifCond .eq 25, 3) := by decide +kernel
theorem dX7_isWhole_9 : decode cX7_isWhole 9 = .ok (.aload_n 0, 1) := by decide +kernel
theorem dX7_isWhole_10 : decode cX7_isWhole 10 = .ok (.iload_n 1, 1) := by decide +kernel
theorem dX7_isWhole_11 : decode cX7_isWhole 11 = .ok (.iconst 1, 1) := by decide +kernel
theorem dX7_isWhole_12 : decode cX7_isWhole 12 = .ok (.invokevirtual 59, 3) := by decide +kernel
theorem dX7_isWhole_15 : decode cX7_isWhole 15 = .ok (.ifCond .eq 16, 3) := by decide +kernel
theorem dX7_isWhole_18 : decode cX7_isWhole 18 = .ok (.aload_n 0, 1) := by decide +kernel
theorem dX7_isWhole_19 : decode cX7_isWhole 19 = .ok (.iload_n 1, 1) := by decide +kernel
theorem dX7_isWhole_20 : decode cX7_isWhole 20 = .ok (.iconst 2, 1) := by decide +kernel
theorem dX7_isWhole_21 : decode cX7_isWhole 21 = .ok (.invokevirtual 59, 3) := by decide +kernel
theorem dX7_isWhole_24 : decode cX7_isWhole 24 = .ok (.ifCond .eq 7, 3) := by decide +kernel
theorem dX7_isWhole_27 : decode cX7_isWhole 27 = .ok (.iconst 1, 1) := by decide +kernel
theorem dX7_isWhole_28 : decode cX7_isWhole 28 = .ok (.goto 4, 3) := by decide +kernel
theorem dX7_isWhole_31 : decode cX7_isWhole 31 = .ok (.iconst 0, 1) := by decide +kernel
theorem dX7_isWhole_32 : decode cX7_isWhole 32 = .ok (.ireturn, 1) := by decide +kernel
set_option maxRecDepth 20000 in
theorem ggX7_isWrong_X7_isWhole : GoodIn wsX7_isWrong wsX7_isWhole := goodIn_r _ [5, 6, 7, 8, 4, 9, 10, 11, 12, 13, 14, 15, 16, 17, 18, 19, 20, 21, 22, 23, 28, 29, 30, 31, 32, 33, 34, 35, 36, 37, 38, 39, 40] (by decide +kernel) (by decide +kernel)
set_option maxRecDepth 20000 in
theorem gX7_isWrong_X7_isWhole : GoodIn wsX7_isWrong (wsV RX7 74 RX7 yX7_isWhole wsX7_isWhole) := goodIn_app (goodIn_of _ (by decide +kernel)) ggX7_isWrong_X7_isWhole
set_option maxRecDepth 20000 in
theorem ggX7_isWrong_X7_valueOf : GoodIn wsX7_isWrong wsX7_valueOf := goodIn_r _ [27, 23, 10, 11, 4, 12, 13, 14, 15, 16, 17, 18, 28, 29, 30, 31, 32, 33, 34, 35, 36, 37, 38, 39, 40] (by decide +kernel) (by decide +kernel)
set_option maxRecDepth 20000 in
theorem gX7_isWrong_X7_valueOf : GoodIn wsX7_isWrong (wsV RX7 65 RX7 yX7_valueOf wsX7_valueOf) := goodIn_app (goodIn_of _ (by decide +kernel)) ggX7_isWrong_X7_valueOf
theorem dX7_isWrong_0 : decode cX7_isWrong 0 = .ok (.aload_n 0, 1) := by decide +kernel
theorem dX7_isWrong_1 : decode cX7_isWrong 1 = .ok (.iload_n 1, 1) := by decide +kernel
theorem dX7_isWrong_2 : decode cX7_isWrong 2 = .ok (.invokevirtual 74, 3) := by decide +kernel
theorem dX7_isWrong_5 : decode cX7_isWrong 5 = .ok (.ifCond .eq 29, 3) := by decide +kernel
theorem dX7_isWrong_8 : decode cX7_isWrong 8 = .ok (.aload_n 0, 1) := by decide +kernel
theorem dX7_isWrong_9 : decode cX7_isWrong 9 = .ok (.iload_n 1, 1) := by decide +kernel
theorem dX7_isWrong_10 : decode cX7_isWrong 10 = .ok (.iconst 0, 1) := by decide +kernel
theorem dX7_isWrong_11 : decode cX7_isWrong 11 = .ok (.invokevirtual 65, 3) := by decide +kernel
theorem dX7_isWrong_14 : decode cX7_isWrong 14 = .ok (.aload_n 0, 1) := by decide +kernel
theorem dX7_isWrong_15 : decode cX7_isWrong 15 = .ok (.iload_n 1, 1) := by decide +kernel
theorem dX7_isWrong_16 : decode cX7_isWrong 16 = .ok (.iconst 1, 1) := by decide +kernel
theorem dX7_isWrong_17 : decode cX7_isWrong 17 = .ok (.invokevirtual 65, 3) := by decide +kernel
theorem dX7_isWrong_20 : decode cX7_isWrong 20 = .ok (.ixor, 1) := by decide +kernel
theorem dX7_isWrong_21 : decode cX7_isWrong 21 = .ok (.aload_n 0, 1) := by decide +kernel
theorem dX7_isWrong_22 : decode cX7_isWrong 22 = .ok (.iload_n 1, 1) := by decide +kernel
theorem dX7_isWrong_23 : decode cX7_isWrong 23 = .ok (.iconst 2, 1) := by decide +kernel
theorem dX7_isWrong_24 : decode cX7_isWrong 24 = .ok (.invokevirtual 65, 3) := by decide +kernel
theorem dX7_isWrong_27 : decode cX7_isWrong 27 = .ok (.if_icmp .eq 7, 3) := by decide +kernel
theorem dX7_isWrong_30 : decode cX7_isWrong 30 = .ok (.iconst 1, 1) := by decide +kernel
theorem dX7_isWrong_31 : decode cX7_isWrong 31 = .ok (.goto 4, 3) := by decide +kernel
theorem dX7_isWrong_34 : decode cX7_isWrong 34 = .ok (.iconst 0, 1) := by decide +kernel
theorem dX7_isWrong_35 : decode cX7_isWrong 35 = .ok (.ireturn, 1) := by decide +kernel
set_option maxRecDepth 20000 in
theorem ggX7_canWrite_X7_isThere : GoodIn wsX7_canWrite wsX7_isThere := goodIn_r _ [5, 6, 7, 4, 8, 9, 10, 11, 12, 13, 14, 15, 16, 17, 18, 19, 20, 21, 22, 23, 24, 25, 26, 27, 28, 29, 30, 31, 32] (by decide +kernel) (by decide +kernel)
set_option maxRecDepth 20000 in
theorem gX7_canWrite_X7_isThere : GoodIn wsX7_canWrite (wsV RX7 59 RX7 yX7_isThere wsX7_isThere) := goodIn_app (goodIn_of _ (by decide +kernel)) ggX7_canWrite_X7_isThere
theorem dX7_canWrite_0 : decode cX7_canWrite 0 = .ok (.iload_n 1, 1) := by decide +kernel
theorem dX7_canWrite_1 : decode cX7_canWrite 1 = .ok (.iconst 2, 1) := by decide +kernel
theorem dX7_canWrite_2 : decode cX7_canWrite 2 = .ok (.idiv, 1) := by decide +kernel
theorem dX7_canWrite_3 : decode cX7_canWrite 3 = .ok (.istore_n 2, 1) := by decide +kernel
theorem dX7_canWrite_4 : decode cX7_canWrite 4 = .ok (.iload_n 1, 1) := by decide +kernel
theorem dX7_canWrite_5 : decode cX7_canWrite 5 = .ok (.iconst 2, 1) := by decide +kernel
theorem dX7_canWrite_6 : decode cX7_canWrite 6 = .ok (.irem, 1) := by decide +kernel
theorem dX7_canWrite_7 : decode cX7_canWrite 7 = .ok (.istore_n 3, 1) := by decide +kernel
theorem dX7_canWrite_8 : decode cX7_canWrite 8 = .ok (.aload_n 0, 1) := by decide +kernel
theorem dX7_canWrite_9 : decode cX7_canWrite 9 = .ok (.iload_n 2, 1) := by decide +kernel
theorem dX7_canWrite_10 : decode cX7_canWrite 10 = .ok (.iload_n 3, 1) := by decide +kernel
theorem dX7_canWrite_11 : decode cX7_canWrite 11 = .ok (.invokevirtual 59, 3) := by decide +kernel
theorem dX7_canWrite_14 : decode cX7_canWrite 14 = .ok (.ifCond .ne 23, 3) := by decide +kernel
theorem dX7_canWrite_17 : decode cX7_canWrite 17 = .ok (.aload_n 0, 1) := by decide +kernel
theorem dX7_canWrite_18 : decode cX7_canWrite 18 = .ok (.iload_n 2, 1) := by decide +kernel
theorem dX7_canWrite_19 : decode cX7_canWrite 19 = .ok (.iconst 1, 1) := by decide +kernel
theorem dX7_canWrite_20 : decode cX7_canWrite 20 = .ok (.iload_n 3, 1) := by decide +kernel
theorem dX7_canWrite_21 : decode cX7_canWrite 21 = .ok (.isub, 1) := by decide +kernel
theorem dX7_canWrite_22 : decode cX7_canWrite 22 = .ok (.invokevirtual 59, 3) := by decide +kernel
theorem dX7_canWrite_25 : decode cX7_canWrite 25 = .ok (.ifCond .eq 16, 3) := by decide +kernel
theorem dX7_canWrite_28 : decode cX7_canWrite 28 = .ok (.aload_n 0, 1) := by decide +kernel
theorem dX7_canWrite_29 : decode cX7_canWrite 29 = .ok (.iload_n 2, 1) := by decide +kernel
theorem dX7_canWrite_30 : decode cX7_canWrite 30 = .ok (.iconst 2, 1) := by decide +kernel
theorem dX7_canWrite_31 : decode cX7_canWrite 31 = .ok (.invokevirtual 59, 3) := by decide +kernel
theorem dX7_canWrite_34 : decode cX7_canWrite 34 = .ok (.ifCond .eq 7, 3) := by decide +kernel
theorem dX7_canWrite_37 : decode cX7_canWrite 37 = .ok (.iconst 1, 1) := by decide +kernel
theorem dX7_canWrite_38 : decode cX7_canWrite 38 = .ok (.goto 4, 3) := by decide +kernel
theorem dX7_canWrite_41 : decode cX7_canWrite 41 = .ok (.iconst 0, 1) := by decide +kernel
theorem dX7_canWrite_42 : decode cX7_canWrite 42 = .ok (.ireturn, 1) := by decide +kernel
set_option maxRecDepth 20000 in
theorem ggX7_doWrite_X7_isThere : GoodIn wsX7_doWrite wsX7_isThere := goodIn_r _ [5, 6, 7, 4, 8, 9, 10, 11, 12, 13, 14, 15, 16, 17, 18, 19, 32, 33, 34, 35, 36, 37, 38, 39, 40, 41, 42, 43, 44] (by decide +kernel) (by decide +kernel)
set_option maxRecDepth 20000 in
theorem gX7_doWrite_X7_isThere : GoodIn wsX7_doWrite (wsV RX7 59 RX7 yX7_isThere wsX7_isThere) := goodIn_app (goodIn_of _ (by decide +kernel)) ggX7_doWrite_X7_isThere
set_option maxRecDepth 20000 in
theorem ggX7_doWrite_X7_countRead : GoodIn wsX7_doWrite wsX7_countRead := goodIn_r _ [23, 19, 6, 7, 4, 8, 9, 10, 11, 12, 13, 14, 32, 33, 34, 35, 36, 37, 38, 39, 40, 41, 42, 43, 44] (by decide +kernel) (by decide +kernel)
set_option maxRecDepth 20000 in
theorem gX7_doWrite_X7_countRead : GoodIn wsX7_doWrite (wsV RX7 77 RX7 yX7_countRead wsX7_countRead) := goodIn_app (goodIn_of _ (by decide +kernel)) ggX7_doWrite_X7_countRead
set_option maxRecDepth 20000 in
theorem ggX7_doWrite_X7_valueOf : GoodIn wsX7_doWrite wsX7_valueOf := goodIn_r _ [27, 19, 6, 7, 4, 8, 9, 10, 11, 12, 13, 14, 32, 33, 34, 35, 36, 37, 38, 39, 40, 41, 42, 43, 44] (by decide +kernel) (by decide +kernel)
set_option maxRecDepth 20000 in
theorem gX7_doWrite_X7_valueOf : GoodIn wsX7_doWrite (wsV RX7 65 RX7 yX7_valueOf wsX7_valueOf) := goodIn_app (goodIn_of _ (by decide +kernel)) ggX7_doWrite_X7_valueOf
set_option maxRecDepth 20000 in
theorem ggX7_doWrite_X7_lay : GoodIn wsX7_doWrite wsX7_lay := goodIn_r _ [31, 19, 6, 7, 4, 8, 9, 10, 11, 12, 13, 14, 32, 33, 34, 35, 36, 37, 38, 39, 40, 41, 42, 43, 44] (by decide +kernel) (by decide +kernel)
set_option maxRecDepth 20000 in
theorem gX7_doWrite_X7_lay : GoodIn wsX7_doWrite (wsV RX7 81 RX7 yX7_lay wsX7_lay) := goodIn_app (goodIn_of _ (by decide +kernel)) ggX7_doWrite_X7_lay
theorem dX7_doWrite_0 : decode cX7_doWrite 0 = .ok (.iload_n 1, 1) := by decide +kernel
theorem dX7_doWrite_1 : decode cX7_doWrite 1 = .ok (.iconst 2, 1) := by decide +kernel
theorem dX7_doWrite_2 : decode cX7_doWrite 2 = .ok (.idiv, 1) := by decide +kernel
theorem dX7_doWrite_3 : decode cX7_doWrite 3 = .ok (.istore_n 3, 1) := by decide +kernel
theorem dX7_doWrite_4 : decode cX7_doWrite 4 = .ok (.iload_n 1, 1) := by decide +kernel
theorem dX7_doWrite_5 : decode cX7_doWrite 5 = .ok (.iconst 2, 1) := by decide +kernel
theorem dX7_doWrite_6 : decode cX7_doWrite 6 = .ok (.irem, 1) := by decide +kernel
theorem dX7_doWrite_7 : decode cX7_doWrite 7 = .ok (.istore 4, 2) := by decide +kernel
theorem dX7_doWrite_9 : decode cX7_doWrite 9 = .ok (.aload_n 0, 1) := by decide +kernel
theorem dX7_doWrite_10 : decode cX7_doWrite 10 = .ok (.iload_n 3, 1) := by decide +kernel
theorem dX7_doWrite_11 : decode cX7_doWrite 11 = .ok (.iload 4, 2) := by decide +kernel
theorem dX7_doWrite_13 : decode cX7_doWrite 13 = .ok (.invokevirtual 59, 3) := by decide +kernel
theorem dX7_doWrite_16 : decode cX7_doWrite 16 = .ok (.ifCond .ne 31, 3) := by decide +kernel
theorem dX7_doWrite_19 : decode cX7_doWrite 19 = .ok (.aload_n 0, 1) := by decide +kernel
theorem dX7_doWrite_20 : decode cX7_doWrite 20 = .ok (.iload_n 3, 1) := by decide +kernel
theorem dX7_doWrite_21 : decode cX7_doWrite 21 = .ok (.iconst 1, 1) := by decide +kernel
theorem dX7_doWrite_22 : decode cX7_doWrite 22 = .ok (.iload 4, 2) := by decide +kernel
theorem dX7_doWrite_24 : decode cX7_doWrite 24 = .ok (.isub, 1) := by decide +kernel
theorem dX7_doWrite_25 : decode cX7_doWrite 25 = .ok (.invokevirtual 77, 3) := by decide +kernel
theorem dX7_doWrite_28 : decode cX7_doWrite 28 = .ok (.aload_n 0, 1) := by decide +kernel
theorem dX7_doWrite_29 : decode cX7_doWrite 29 = .ok (.iload_n 3, 1) := by decide +kernel
theorem dX7_doWrite_30 : decode cX7_doWrite 30 = .ok (.iconst 2, 1) := by decide +kernel
theorem dX7_doWrite_31 : decode cX7_doWrite 31 = .ok (.aload_n 0, 1) := by decide +kernel
theorem dX7_doWrite_32 : decode cX7_doWrite 32 = .ok (.iload_n 3, 1) := by decide +kernel
theorem dX7_doWrite_33 : decode cX7_doWrite 33 = .ok (.iconst 1, 1) := by decide +kernel
theorem dX7_doWrite_34 : decode cX7_doWrite 34 = .ok (.iload 4, 2) := by decide +kernel
theorem dX7_doWrite_36 : decode cX7_doWrite 36 = .ok (.isub, 1) := by decide +kernel
theorem dX7_doWrite_37 : decode cX7_doWrite 37 = .ok (.invokevirtual 65, 3) := by decide +kernel
theorem dX7_doWrite_40 : decode cX7_doWrite 40 = .ok (.iload_n 2, 1) := by decide +kernel
theorem dX7_doWrite_41 : decode cX7_doWrite 41 = .ok (.ixor, 1) := by decide +kernel
theorem dX7_doWrite_42 : decode cX7_doWrite 42 = .ok (.invokevirtual 81, 3) := by decide +kernel
theorem dX7_doWrite_45 : decode cX7_doWrite 45 = .ok (.iconst 2, 1) := by decide +kernel
theorem dX7_doWrite_46 : decode cX7_doWrite 46 = .ok (.ireturn, 1) := by decide +kernel
theorem dX7_doWrite_47 : decode cX7_doWrite 47 = .ok (.aload_n 0, 1) := by decide +kernel
theorem dX7_doWrite_48 : decode cX7_doWrite 48 = .ok (.iload_n 3, 1) := by decide +kernel
theorem dX7_doWrite_49 : decode cX7_doWrite 49 = .ok (.iconst 2, 1) := by decide +kernel
theorem dX7_doWrite_50 : decode cX7_doWrite 50 = .ok (.invokevirtual 59, 3) := by decide +kernel
theorem dX7_doWrite_53 : decode cX7_doWrite 53 = .ok (.ifCond .ne 13, 3) := by decide +kernel
theorem dX7_doWrite_56 : decode cX7_doWrite 56 = .ok (.aload_n 0, 1) := by decide +kernel
theorem dX7_doWrite_57 : decode cX7_doWrite 57 = .ok (.iload_n 3, 1) := by decide +kernel
theorem dX7_doWrite_58 : decode cX7_doWrite 58 = .ok (.iload 4, 2) := by decide +kernel
theorem dX7_doWrite_60 : decode cX7_doWrite 60 = .ok (.iload_n 2, 1) := by decide +kernel
theorem dX7_doWrite_61 : decode cX7_doWrite 61 = .ok (.invokevirtual 81, 3) := by decide +kernel
theorem dX7_doWrite_64 : decode cX7_doWrite 64 = .ok (.iconst 1, 1) := by decide +kernel
theorem dX7_doWrite_65 : decode cX7_doWrite 65 = .ok (.ireturn, 1) := by decide +kernel
theorem dX7_doWrite_66 : decode cX7_doWrite 66 = .ok (.aload_n 0, 1) := by decide +kernel
theorem dX7_doWrite_67 : decode cX7_doWrite 67 = .ok (.iload_n 3, 1) := by decide +kernel
theorem dX7_doWrite_68 : decode cX7_doWrite 68 = .ok (.iload 4, 2) := by decide +kernel
theorem dX7_doWrite_70 : decode cX7_doWrite 70 = .ok (.invokevirtual 77, 3) := by decide +kernel
theorem dX7_doWrite_73 : decode cX7_doWrite 73 = .ok (.aload_n 0, 1) := by decide +kernel
theorem dX7_doWrite_74 : decode cX7_doWrite 74 = .ok (.iload_n 3, 1) := by decide +kernel
theorem dX7_doWrite_75 : decode cX7_doWrite 75 = .ok (.iconst 2, 1) := by decide +kernel
theorem dX7_doWrite_76 : decode cX7_doWrite 76 = .ok (.invokevirtual 77, 3) := by decide +kernel
theorem dX7_doWrite_79 : decode cX7_doWrite 79 = .ok (.aload_n 0, 1) := by decide +kernel
theorem dX7_doWrite_80 : decode cX7_doWrite 80 = .ok (.iload_n 3, 1) := by decide +kernel
theorem dX7_doWrite_81 : decode cX7_doWrite 81 = .ok (.iconst 2, 1) := by decide +kernel
theorem dX7_doWrite_82 : decode cX7_doWrite 82 = .ok (.aload_n 0, 1) := by decide +kernel
theorem dX7_doWrite_83 : decode cX7_doWrite 83 = .ok (.iload_n 3, 1) := by decide +kernel
theorem dX7_doWrite_84 : decode cX7_doWrite 84 = .ok (.iconst 2, 1) := by decide +kernel
theorem dX7_doWrite_85 : decode cX7_doWrite 85 = .ok (.invokevirtual 65, 3) := by decide +kernel
theorem dX7_doWrite_88 : decode cX7_doWrite 88 = .ok (.aload_n 0, 1) := by decide +kernel
theorem dX7_doWrite_89 : decode cX7_doWrite 89 = .ok (.iload_n 3, 1) := by decide +kernel
theorem dX7_doWrite_90 : decode cX7_doWrite 90 = .ok (.iload 4, 2) := by decide +kernel
theorem dX7_doWrite_92 : decode cX7_doWrite 92 = .ok (.invokevirtual 65, 3) := by decide +kernel
theorem dX7_doWrite_95 : decode cX7_doWrite 95 = .ok (.ixor, 1) := by decide +kernel
theorem dX7_doWrite_96 : decode cX7_doWrite 96 = .ok (.iload_n 2, 1) := by decide +kernel
theorem dX7_doWrite_97 : decode cX7_doWrite 97 = .ok (.ixor, 1) := by decide +kernel
theorem dX7_doWrite_98 : decode cX7_doWrite 98 = .ok (.invokevirtual 81, 3) := by decide +kernel
theorem dX7_doWrite_101 : decode cX7_doWrite 101 = .ok (.aload_n 0, 1) := by decide +kernel
theorem dX7_doWrite_102 : decode cX7_doWrite 102 = .ok (.iload_n 3, 1) := by decide +kernel
theorem dX7_doWrite_103 : decode cX7_doWrite 103 = .ok (.iload 4, 2) := by decide +kernel
theorem dX7_doWrite_105 : decode cX7_doWrite 105 = .ok (.iload_n 2, 1) := by decide +kernel
theorem dX7_doWrite_106 : decode cX7_doWrite 106 = .ok (.invokevirtual 81, 3) := by decide +kernel
theorem dX7_doWrite_109 : decode cX7_doWrite 109 = .ok (.iconst 4, 1) := by decide +kernel
theorem dX7_doWrite_110 : decode cX7_doWrite 110 = .ok (.ireturn, 1) := by decide +kernel
set_option maxRecDepth 20000 in
theorem ggX7_doFail_X7_lostAddresses : GoodIn wsX7_doFail wsX7_lostAddresses := goodIn_r _ [6, 7, 8, 9, 5, 10, 11, 12, 13, 14, 15, 16, 17, 18, 19, 20, 21, 22, 23, 24, 25, 26, 27, 1, 28, 29, 30, 31, 32, 33, 34, 35, 36, 37, 38, 39, 40, 41, 42, 43, 44, 45, 46, 47, 48, 49, 50, 51, 52, 53, 54] (by decide +kernel) (by decide +kernel)
set_option maxRecDepth 20000 in
theorem gX7_doFail_X7_lostAddresses : GoodIn wsX7_doFail (wsV RX7 85 RX7 yX7_lostAddresses wsX7_lostAddresses) := goodIn_app (goodIn_of _ (by decide +kernel)) ggX7_doFail_X7_lostAddresses
theorem dX7_doFail_0 : decode cX7_doFail 0 = .ok (.aload_n 0, 1) := by decide +kernel
theorem dX7_doFail_1 : decode cX7_doFail 1 = .ok (.getfield 7, 3) := by decide +kernel
theorem dX7_doFail_4 : decode cX7_doFail 4 = .ok (.iconst 0, 1) := by decide +kernel
theorem dX7_doFail_5 : decode cX7_doFail 5 = .ok (.iload_n 1, 1) := by decide +kernel
theorem dX7_doFail_6 : decode cX7_doFail 6 = .ok (.iadd, 1) := by decide +kernel
theorem dX7_doFail_7 : decode cX7_doFail 7 = .ok (.iconst (-1), 1) := by decide +kernel
theorem dX7_doFail_8 : decode cX7_doFail 8 = .ok (.iastore, 1) := by decide +kernel
theorem dX7_doFail_9 : decode cX7_doFail 9 = .ok (.iconst 0, 1) := by decide +kernel
theorem dX7_doFail_10 : decode cX7_doFail 10 = .ok (.istore_n 2, 1) := by decide +kernel
theorem dX7_doFail_11 : decode cX7_doFail 11 = .ok (.iload_n 2, 1) := by decide +kernel
theorem dX7_doFail_12 : decode cX7_doFail 12 = .ok (.bipush 9, 2) := by decide +kernel
theorem dX7_doFail_14 : decode cX7_doFail 14 = .ok (.if_icmp .ge 24, 3) := by decide +kernel
theorem dX7_doFail_17 : decode cX7_doFail 17 = .ok (.aload_n 0, 1) := by decide +kernel
theorem dX7_doFail_18 : decode cX7_doFail 18 = .ok (.getfield 7, 3) := by decide +kernel
theorem dX7_doFail_21 : decode cX7_doFail 21 = .ok (.bipush 7, 2) := by decide +kernel
theorem dX7_doFail_23 : decode cX7_doFail 23 = .ok (.bipush 9, 2) := by decide +kernel
theorem dX7_doFail_25 : decode cX7_doFail 25 = .ok (.iload_n 1, 1) := by decide +kernel
theorem dX7_doFail_26 : decode cX7_doFail 26 = .ok (.imul, 1) := by decide +kernel
theorem dX7_doFail_27 : decode cX7_doFail 27 = .ok (.iadd, 1) := by decide +kernel
theorem dX7_doFail_28 : decode cX7_doFail 28 = .ok (.iload_n 2, 1) := by decide +kernel
theorem dX7_doFail_29 : decode cX7_doFail 29 = .ok (.iadd, 1) := by decide +kernel
theorem dX7_doFail_30 : decode cX7_doFail 30 = .ok (.iconst 0, 1) := by decide +kernel
theorem dX7_doFail_31 : decode cX7_doFail 31 = .ok (.iastore, 1) := by decide +kernel
theorem dX7_doFail_32 : decode cX7_doFail 32 = .ok (.iinc 2 1, 3) := by decide +kernel
theorem dX7_doFail_35 : decode cX7_doFail 35 = .ok (.goto (-24), 3) := by decide +kernel
theorem dX7_doFail_38 : decode cX7_doFail 38 = .ok (.aload_n 0, 1) := by decide +kernel
theorem dX7_doFail_39 : decode cX7_doFail 39 = .ok (.invokevirtual 85, 3) := by decide +kernel
theorem dX7_doFail_42 : decode cX7_doFail 42 = .ok (.ireturn, 1) := by decide +kernel
theorem dX7_doBegin_0 : decode cX7_doBegin 0 = .ok (.aload_n 0, 1) := by decide +kernel
theorem dX7_doBegin_1 : decode cX7_doBegin 1 = .ok (.getfield 7, 3) := by decide +kernel
theorem dX7_doBegin_4 : decode cX7_doBegin 4 = .ok (.iconst 0, 1) := by decide +kernel
theorem dX7_doBegin_5 : decode cX7_doBegin 5 = .ok (.iload_n 1, 1) := by decide +kernel
theorem dX7_doBegin_6 : decode cX7_doBegin 6 = .ok (.iadd, 1) := by decide +kernel
theorem dX7_doBegin_7 : decode cX7_doBegin 7 = .ok (.iconst 0, 1) := by decide +kernel
theorem dX7_doBegin_8 : decode cX7_doBegin 8 = .ok (.iastore, 1) := by decide +kernel
theorem dX7_doBegin_9 : decode cX7_doBegin 9 = .ok (.aload_n 0, 1) := by decide +kernel
theorem dX7_doBegin_10 : decode cX7_doBegin 10 = .ok (.getfield 7, 3) := by decide +kernel
theorem dX7_doBegin_13 : decode cX7_doBegin 13 = .ok (.bipush 84, 2) := by decide +kernel
theorem dX7_doBegin_15 : decode cX7_doBegin 15 = .ok (.dup2, 1) := by decide +kernel
theorem dX7_doBegin_16 : decode cX7_doBegin 16 = .ok (.iaload, 1) := by decide +kernel
theorem dX7_doBegin_17 : decode cX7_doBegin 17 = .ok (.iconst 1, 1) := by decide +kernel
theorem dX7_doBegin_18 : decode cX7_doBegin 18 = .ok (.isub, 1) := by decide +kernel
theorem dX7_doBegin_19 : decode cX7_doBegin 19 = .ok (.iastore, 1) := by decide +kernel
theorem dX7_doBegin_20 : decode cX7_doBegin 20 = .ok (.aload_n 0, 1) := by decide +kernel
theorem dX7_doBegin_21 : decode cX7_doBegin 21 = .ok (.getfield 7, 3) := by decide +kernel
theorem dX7_doBegin_24 : decode cX7_doBegin 24 = .ok (.bipush 84, 2) := by decide +kernel
theorem dX7_doBegin_26 : decode cX7_doBegin 26 = .ok (.iaload, 1) := by decide +kernel
theorem dX7_doBegin_27 : decode cX7_doBegin 27 = .ok (.ireturn, 1) := by decide +kernel
set_option maxRecDepth 20000 in
theorem ggX7_isMended_X7_in : GoodIn wsX7_isMended wsX7_in := goodIn_r _ [5] (by decide +kernel) (by decide +kernel)
set_option maxRecDepth 20000 in
theorem gX7_isMended_X7_in : GoodIn wsX7_isMended (va_wsS RX7 26 yX7_in wsX7_in) := goodIn_app (goodIn_of _ (by decide +kernel)) ggX7_isMended_X7_in
theorem dX7_isMended_0 : decode cX7_isMended 0 = .ok (.aload_n 0, 1) := by decide +kernel
theorem dX7_isMended_1 : decode cX7_isMended 1 = .ok (.getfield 7, 3) := by decide +kernel
theorem dX7_isMended_4 : decode cX7_isMended 4 = .ok (.iconst 0, 1) := by decide +kernel
theorem dX7_isMended_5 : decode cX7_isMended 5 = .ok (.iload_n 1, 1) := by decide +kernel
theorem dX7_isMended_6 : decode cX7_isMended 6 = .ok (.iadd, 1) := by decide +kernel
theorem dX7_isMended_7 : decode cX7_isMended 7 = .ok (.iaload, 1) := by decide +kernel
theorem dX7_isMended_8 : decode cX7_isMended 8 = .ok (.iconst 0, 1) := by decide +kernel
theorem dX7_isMended_9 : decode cX7_isMended 9 = .ok (.bipush 8, 2) := by decide +kernel
theorem dX7_isMended_11 : decode cX7_isMended 11 = .ok (.invokestatic 26, 3) := by decide +kernel
theorem dX7_isMended_14 : decode cX7_isMended 14 = .ok (.ireturn, 1) := by decide +kernel
set_option maxRecDepth 20000 in
theorem ggX7_mendOne_X7_stripeOf : GoodIn wsX7_mendOne wsX7_stripeOf := goodIn_r _ [5, 6, 7, 4, 8, 9, 10, 11] (by decide +kernel) (by decide +kernel)
set_option maxRecDepth 20000 in
theorem gX7_mendOne_X7_stripeOf : GoodIn wsX7_mendOne (va_wsS RX7 45 yX7_stripeOf wsX7_stripeOf) := goodIn_app (goodIn_of _ (by decide +kernel)) ggX7_mendOne_X7_stripeOf
set_option maxRecDepth 20000 in
theorem ggX7_mendOne_X7_unitAt : GoodIn wsX7_mendOne wsX7_unitAt := goodIn_r _ [14, 2, 3, 4, 5, 6, 7, 8, 9, 10, 11, 15, 16, 17] (by decide +kernel) (by decide +kernel)
set_option maxRecDepth 20000 in
theorem gX7_mendOne_X7_unitAt : GoodIn wsX7_mendOne (va_wsS RX7 89 yX7_unitAt wsX7_unitAt) := goodIn_app (goodIn_of _ (by decide +kernel)) ggX7_mendOne_X7_unitAt
set_option maxRecDepth 20000 in
theorem ggX7_mendOne_X7_canFind : GoodIn wsX7_mendOne wsX7_canFind := goodIn_r _ [21, 22, 23, 4, 24, 25, 26, 27, 28, 15, 16, 17, 9, 10, 11, 6, 7, 8, 29, 30, 31, 32, 1, 33, 34, 35, 48, 49, 50, 51, 52, 53, 54, 55, 56, 57, 58, 59, 60] (by decide +kernel) (by decide +kernel)
set_option maxRecDepth 20000 in
theorem gX7_mendOne_X7_canFind : GoodIn wsX7_mendOne (wsV RX7 68 RX7 yX7_canFind wsX7_canFind) := goodIn_app (goodIn_of _ (by decide +kernel)) ggX7_mendOne_X7_canFind
set_option maxRecDepth 20000 in
theorem ggX7_mendOne_X7_one : GoodIn wsX7_mendOne wsX7_one := goodIn_r _ [24] (by decide +kernel) (by decide +kernel)
set_option maxRecDepth 20000 in
theorem gX7_mendOne_X7_one : GoodIn wsX7_mendOne (va_wsS RX7 55 yX7_one wsX7_one) := goodIn_app (goodIn_of _ (by decide +kernel)) ggX7_mendOne_X7_one
set_option maxRecDepth 20000 in
theorem ggX7_mendOne_X7_countRead : GoodIn wsX7_mendOne wsX7_countRead := goodIn_r _ [39, 1, 15, 16, 4, 17, 9, 10, 11, 6, 7, 8, 48, 49, 50, 51, 52, 53, 54, 55, 56, 57, 58, 59, 60] (by decide +kernel) (by decide +kernel)
set_option maxRecDepth 20000 in
theorem gX7_mendOne_X7_countRead : GoodIn wsX7_mendOne (wsV RX7 77 RX7 yX7_countRead wsX7_countRead) := goodIn_app (goodIn_of _ (by decide +kernel)) ggX7_mendOne_X7_countRead
set_option maxRecDepth 20000 in
theorem ggX7_mendOne_X7_two : GoodIn wsX7_mendOne wsX7_two := goodIn_r _ [35] (by decide +kernel) (by decide +kernel)
set_option maxRecDepth 20000 in
theorem gX7_mendOne_X7_two : GoodIn wsX7_mendOne (va_wsS RX7 62 yX7_two wsX7_two) := goodIn_app (goodIn_of _ (by decide +kernel)) ggX7_mendOne_X7_two
set_option maxRecDepth 20000 in
theorem ggX7_mendOne_X7_valueOf : GoodIn wsX7_mendOne wsX7_valueOf := goodIn_r _ [43, 1, 15, 16, 4, 17, 9, 10, 11, 6, 7, 8, 48, 49, 50, 51, 52, 53, 54, 55, 56, 57, 58, 59, 60] (by decide +kernel) (by decide +kernel)
set_option maxRecDepth 20000 in
theorem gX7_mendOne_X7_valueOf : GoodIn wsX7_mendOne (wsV RX7 65 RX7 yX7_valueOf wsX7_valueOf) := goodIn_app (goodIn_of _ (by decide +kernel)) ggX7_mendOne_X7_valueOf
set_option maxRecDepth 20000 in
theorem ggX7_mendOne_X7_lay : GoodIn wsX7_mendOne wsX7_lay := goodIn_r _ [47, 1, 15, 16, 4, 17, 9, 10, 11, 6, 7, 8, 48, 49, 50, 51, 52, 53, 54, 55, 56, 57, 58, 59, 60] (by decide +kernel) (by decide +kernel)
set_option maxRecDepth 20000 in
theorem gX7_mendOne_X7_lay : GoodIn wsX7_mendOne (wsV RX7 81 RX7 yX7_lay wsX7_lay) := goodIn_app (goodIn_of _ (by decide +kernel)) ggX7_mendOne_X7_lay
theorem dX7_mendOne_0 : decode cX7_mendOne 0 = .ok (.aload_n 0, 1) := by decide +kernel
theorem dX7_mendOne_1 : decode cX7_mendOne 1 = .ok (.getfield 7, 3) := by decide +kernel
theorem dX7_mendOne_4 : decode cX7_mendOne 4 = .ok (.iconst 0, 1) := by decide +kernel
theorem dX7_mendOne_5 : decode cX7_mendOne 5 = .ok (.iload_n 1, 1) := by decide +kernel
theorem dX7_mendOne_6 : decode cX7_mendOne 6 = .ok (.iadd, 1) := by decide +kernel
theorem dX7_mendOne_7 : decode cX7_mendOne 7 = .ok (.iaload, 1) := by decide +kernel
theorem dX7_mendOne_8 : decode cX7_mendOne 8 = .ok (.istore_n 2, 1) := by decide +kernel
theorem dX7_mendOne_9 : decode cX7_mendOne 9 = .ok (.iload_n 1, 1) := by decide +kernel
theorem dX7_mendOne_10 : decode cX7_mendOne 10 = .ok (.iload_n 2, 1) := by decide +kernel
theorem dX7_mendOne_11 : decode cX7_mendOne 11 = .ok (.invokestatic 45, 3) := by decide +kernel
theorem dX7_mendOne_14 : decode cX7_mendOne 14 = .ok (.istore_n 3, 1) := by decide +kernel
theorem dX7_mendOne_15 : decode cX7_mendOne 15 = .ok (.iload_n 1, 1) := by decide +kernel
theorem dX7_mendOne_16 : decode cX7_mendOne 16 = .ok (.iload_n 2, 1) := by decide +kernel
theorem dX7_mendOne_17 : decode cX7_mendOne 17 = .ok (.invokestatic 89, 3) := by decide +kernel
theorem dX7_mendOne_20 : decode cX7_mendOne 20 = .ok (.istore 4, 2) := by decide +kernel
theorem dX7_mendOne_22 : decode cX7_mendOne 22 = .ok (.aload_n 0, 1) := by decide +kernel
theorem dX7_mendOne_23 : decode cX7_mendOne 23 = .ok (.iload_n 3, 1) := by decide +kernel
theorem dX7_mendOne_24 : decode cX7_mendOne 24 = .ok (.iload 4, 2) := by decide +kernel
theorem dX7_mendOne_26 : decode cX7_mendOne 26 = .ok (.invokevirtual 68, 3) := by decide +kernel
theorem dX7_mendOne_29 : decode cX7_mendOne 29 = .ok (.ifCond .eq 54, 3) := by decide +kernel
theorem dX7_mendOne_32 : decode cX7_mendOne 32 = .ok (.aload_n 0, 1) := by decide +kernel
theorem dX7_mendOne_33 : decode cX7_mendOne 33 = .ok (.iload_n 3, 1) := by decide +kernel
theorem dX7_mendOne_34 : decode cX7_mendOne 34 = .ok (.iload 4, 2) := by decide +kernel
theorem dX7_mendOne_36 : decode cX7_mendOne 36 = .ok (.invokestatic 55, 3) := by decide +kernel
theorem dX7_mendOne_39 : decode cX7_mendOne 39 = .ok (.invokevirtual 77, 3) := by decide +kernel
theorem dX7_mendOne_42 : decode cX7_mendOne 42 = .ok (.aload_n 0, 1) := by decide +kernel
theorem dX7_mendOne_43 : decode cX7_mendOne 43 = .ok (.iload_n 3, 1) := by decide +kernel
theorem dX7_mendOne_44 : decode cX7_mendOne 44 = .ok (.iload 4, 2) := by decide +kernel
theorem dX7_mendOne_46 : decode cX7_mendOne 46 = .ok (.invokestatic 62, 3) := by decide +kernel
theorem dX7_mendOne_49 : decode cX7_mendOne 49 = .ok (.invokevirtual 77, 3) := by decide +kernel
theorem dX7_mendOne_52 : decode cX7_mendOne 52 = .ok (.aload_n 0, 1) := by decide +kernel
theorem dX7_mendOne_53 : decode cX7_mendOne 53 = .ok (.iload_n 3, 1) := by decide +kernel
theorem dX7_mendOne_54 : decode cX7_mendOne 54 = .ok (.iload 4, 2) := by decide +kernel
theorem dX7_mendOne_56 : decode cX7_mendOne 56 = .ok (.aload_n 0, 1) := by decide +kernel
theorem dX7_mendOne_57 : decode cX7_mendOne 57 = .ok (.iload_n 3, 1) := by decide +kernel
theorem dX7_mendOne_58 : decode cX7_mendOne 58 = .ok (.iload 4, 2) := by decide +kernel
theorem dX7_mendOne_60 : decode cX7_mendOne 60 = .ok (.invokestatic 55, 3) := by decide +kernel
theorem dX7_mendOne_63 : decode cX7_mendOne 63 = .ok (.invokevirtual 65, 3) := by decide +kernel
theorem dX7_mendOne_66 : decode cX7_mendOne 66 = .ok (.aload_n 0, 1) := by decide +kernel
theorem dX7_mendOne_67 : decode cX7_mendOne 67 = .ok (.iload_n 3, 1) := by decide +kernel
theorem dX7_mendOne_68 : decode cX7_mendOne 68 = .ok (.iload 4, 2) := by decide +kernel
theorem dX7_mendOne_70 : decode cX7_mendOne 70 = .ok (.invokestatic 62, 3) := by decide +kernel
theorem dX7_mendOne_73 : decode cX7_mendOne 73 = .ok (.invokevirtual 65, 3) := by decide +kernel
theorem dX7_mendOne_76 : decode cX7_mendOne 76 = .ok (.ixor, 1) := by decide +kernel
theorem dX7_mendOne_77 : decode cX7_mendOne 77 = .ok (.invokevirtual 81, 3) := by decide +kernel
theorem dX7_mendOne_80 : decode cX7_mendOne 80 = .ok (.goto 14, 3) := by decide +kernel
theorem dX7_mendOne_83 : decode cX7_mendOne 83 = .ok (.aload_n 0, 1) := by decide +kernel
theorem dX7_mendOne_84 : decode cX7_mendOne 84 = .ok (.getfield 7, 3) := by decide +kernel
theorem dX7_mendOne_87 : decode cX7_mendOne 87 = .ok (.bipush 85, 2) := by decide +kernel
theorem dX7_mendOne_89 : decode cX7_mendOne 89 = .ok (.dup2, 1) := by decide +kernel
theorem dX7_mendOne_90 : decode cX7_mendOne 90 = .ok (.iaload, 1) := by decide +kernel
theorem dX7_mendOne_91 : decode cX7_mendOne 91 = .ok (.iconst 1, 1) := by decide +kernel
theorem dX7_mendOne_92 : decode cX7_mendOne 92 = .ok (.iadd, 1) := by decide +kernel
theorem dX7_mendOne_93 : decode cX7_mendOne 93 = .ok (.iastore, 1) := by decide +kernel
theorem dX7_mendOne_94 : decode cX7_mendOne 94 = .ok (.aload_n 0, 1) := by decide +kernel
theorem dX7_mendOne_95 : decode cX7_mendOne 95 = .ok (.getfield 7, 3) := by decide +kernel
theorem dX7_mendOne_98 : decode cX7_mendOne 98 = .ok (.iconst 0, 1) := by decide +kernel
theorem dX7_mendOne_99 : decode cX7_mendOne 99 = .ok (.iload_n 1, 1) := by decide +kernel
theorem dX7_mendOne_100 : decode cX7_mendOne 100 = .ok (.iadd, 1) := by decide +kernel
theorem dX7_mendOne_101 : decode cX7_mendOne 101 = .ok (.dup2, 1) := by decide +kernel
theorem dX7_mendOne_102 : decode cX7_mendOne 102 = .ok (.iaload, 1) := by decide +kernel
theorem dX7_mendOne_103 : decode cX7_mendOne 103 = .ok (.iconst 1, 1) := by decide +kernel
theorem dX7_mendOne_104 : decode cX7_mendOne 104 = .ok (.iadd, 1) := by decide +kernel
theorem dX7_mendOne_105 : decode cX7_mendOne 105 = .ok (.iastore, 1) := by decide +kernel
theorem dX7_mendOne_106 : decode cX7_mendOne 106 = .ok (.return_, 1) := by decide +kernel
set_option maxRecDepth 20000 in
theorem ggX7_doMend_X7_isMended : GoodIn wsX7_doMend wsX7_isMended := goodIn_r _ [5, 6, 7, 8, 4, 9, 59, 60, 61, 62, 63, 64, 65, 66, 67, 68, 69, 70, 71] (by decide +kernel) (by decide +kernel)
set_option maxRecDepth 20000 in
theorem gX7_doMend_X7_isMended : GoodIn wsX7_doMend (wsV RX7 92 RX7 yX7_isMended wsX7_isMended) := goodIn_app (goodIn_of _ (by decide +kernel)) ggX7_doMend_X7_isMended
set_option maxRecDepth 20000 in
theorem ggX7_doMend_X7_mendOne : GoodIn wsX7_doMend wsX7_mendOne := goodIn_r _ [13, 6, 14, 15, 4, 16, 17, 18, 19, 20, 21, 22, 23, 24, 25, 26, 27, 28, 29, 30, 31, 32, 33, 34, 35, 36, 37, 38, 39, 40, 41, 42, 43, 44, 45, 46, 47, 48, 49, 50, 51, 52, 53, 54, 55, 56, 57, 58, 59, 60, 61, 62, 63, 64, 65, 66, 67, 68, 69, 70, 71] (by decide +kernel) (by decide +kernel)
set_option maxRecDepth 20000 in
theorem gX7_doMend_X7_mendOne : GoodIn wsX7_doMend (wsV RX7 95 RX7 yX7_mendOne wsX7_mendOne) := goodIn_app (goodIn_of _ (by decide +kernel)) ggX7_doMend_X7_mendOne
theorem dX7_doMend_0 : decode cX7_doMend 0 = .ok (.iconst 0, 1) := by decide +kernel
theorem dX7_doMend_1 : decode cX7_doMend 1 = .ok (.istore_n 2, 1) := by decide +kernel
theorem dX7_doMend_2 : decode cX7_doMend 2 = .ok (.iconst 0, 1) := by decide +kernel
theorem dX7_doMend_3 : decode cX7_doMend 3 = .ok (.istore_n 3, 1) := by decide +kernel
theorem dX7_doMend_4 : decode cX7_doMend 4 = .ok (.iload_n 2, 1) := by decide +kernel
theorem dX7_doMend_5 : decode cX7_doMend 5 = .ok (.iload_n 1, 1) := by decide +kernel
theorem dX7_doMend_6 : decode cX7_doMend 6 = .ok (.if_icmp .ge 34, 3) := by decide +kernel
theorem dX7_doMend_9 : decode cX7_doMend 9 = .ok (.iload_n 3, 1) := by decide +kernel
theorem dX7_doMend_10 : decode cX7_doMend 10 = .ok (.bipush 7, 2) := by decide +kernel
theorem dX7_doMend_12 : decode cX7_doMend 12 = .ok (.if_icmp .ge 28, 3) := by decide +kernel
theorem dX7_doMend_15 : decode cX7_doMend 15 = .ok (.aload_n 0, 1) := by decide +kernel
theorem dX7_doMend_16 : decode cX7_doMend 16 = .ok (.iload_n 3, 1) := by decide +kernel
theorem dX7_doMend_17 : decode cX7_doMend 17 = .ok (.invokevirtual 92, 3) := by decide +kernel
theorem dX7_doMend_20 : decode cX7_doMend 20 = .ok (.ifCond .eq 14, 3) := by decide +kernel
theorem dX7_doMend_23 : decode cX7_doMend 23 = .ok (.aload_n 0, 1) := by decide +kernel
theorem dX7_doMend_24 : decode cX7_doMend 24 = .ok (.iload_n 3, 1) := by decide +kernel
theorem dX7_doMend_25 : decode cX7_doMend 25 = .ok (.invokevirtual 95, 3) := by decide +kernel
theorem dX7_doMend_28 : decode cX7_doMend 28 = .ok (.iinc 2 1, 3) := by decide +kernel
theorem dX7_doMend_31 : decode cX7_doMend 31 = .ok (.goto (-27), 3) := by decide +kernel
theorem dX7_doMend_34 : decode cX7_doMend 34 = .ok (.iinc 3 1, 3) := by decide +kernel
theorem dX7_doMend_37 : decode cX7_doMend 37 = .ok (.goto (-33), 3) := by decide +kernel
theorem dX7_doMend_40 : decode cX7_doMend 40 = .ok (.iload_n 2, 1) := by decide +kernel
theorem dX7_doMend_41 : decode cX7_doMend 41 = .ok (.ireturn, 1) := by decide +kernel
set_option maxRecDepth 20000 in
theorem ggX7_doScrub_X7_isWhole : GoodIn wsX7_doScrub wsX7_isWhole := goodIn_r _ [5, 6, 7, 8, 4, 9, 10, 11, 12, 13, 14, 15, 16, 17, 18, 19, 20, 21, 22, 23, 40, 41, 42, 43, 44, 45, 46, 47, 48, 49, 50, 51, 52] (by decide +kernel) (by decide +kernel)
set_option maxRecDepth 20000 in
theorem gX7_doScrub_X7_isWhole : GoodIn wsX7_doScrub (wsV RX7 74 RX7 yX7_isWhole wsX7_isWhole) := goodIn_app (goodIn_of _ (by decide +kernel)) ggX7_doScrub_X7_isWhole
set_option maxRecDepth 20000 in
theorem ggX7_doScrub_X7_countRead : GoodIn wsX7_doScrub wsX7_countRead := goodIn_r _ [27, 23, 10, 11, 4, 12, 13, 14, 15, 16, 17, 18, 40, 41, 42, 43, 44, 45, 46, 47, 48, 49, 50, 51, 52] (by decide +kernel) (by decide +kernel)
set_option maxRecDepth 20000 in
theorem gX7_doScrub_X7_countRead : GoodIn wsX7_doScrub (wsV RX7 77 RX7 yX7_countRead wsX7_countRead) := goodIn_app (goodIn_of _ (by decide +kernel)) ggX7_doScrub_X7_countRead
set_option maxRecDepth 20000 in
theorem ggX7_doScrub_X7_isWrong : GoodIn wsX7_doScrub wsX7_isWrong := goodIn_r _ [31, 1, 2, 3, 4, 5, 6, 7, 8, 9, 10, 11, 12, 13, 14, 15, 16, 17, 18, 19, 20, 21, 22, 23, 32, 33, 34, 35, 40, 41, 42, 43, 44, 45, 46, 47, 48, 49, 50, 51, 52] (by decide +kernel) (by decide +kernel)
set_option maxRecDepth 20000 in
theorem gX7_doScrub_X7_isWrong : GoodIn wsX7_doScrub (wsV RX7 99 RX7 yX7_isWrong wsX7_isWrong) := goodIn_app (goodIn_of _ (by decide +kernel)) ggX7_doScrub_X7_isWrong
set_option maxRecDepth 20000 in
theorem ggX7_doScrub_X7_valueOf : GoodIn wsX7_doScrub wsX7_valueOf := goodIn_r _ [35, 23, 10, 11, 4, 12, 13, 14, 15, 16, 17, 18, 40, 41, 42, 43, 44, 45, 46, 47, 48, 49, 50, 51, 52] (by decide +kernel) (by decide +kernel)
set_option maxRecDepth 20000 in
theorem gX7_doScrub_X7_valueOf : GoodIn wsX7_doScrub (wsV RX7 65 RX7 yX7_valueOf wsX7_valueOf) := goodIn_app (goodIn_of _ (by decide +kernel)) ggX7_doScrub_X7_valueOf
set_option maxRecDepth 20000 in
theorem ggX7_doScrub_X7_lay : GoodIn wsX7_doScrub wsX7_lay := goodIn_r _ [39, 23, 10, 11, 4, 12, 13, 14, 15, 16, 17, 18, 40, 41, 42, 43, 44, 45, 46, 47, 48, 49, 50, 51, 52] (by decide +kernel) (by decide +kernel)
set_option maxRecDepth 20000 in
theorem gX7_doScrub_X7_lay : GoodIn wsX7_doScrub (wsV RX7 81 RX7 yX7_lay wsX7_lay) := goodIn_app (goodIn_of _ (by decide +kernel)) ggX7_doScrub_X7_lay
theorem dX7_doScrub_0 : decode cX7_doScrub 0 = .ok (.iconst 0, 1) := by decide +kernel
theorem dX7_doScrub_1 : decode cX7_doScrub 1 = .ok (.istore_n 1, 1) := by decide +kernel
theorem dX7_doScrub_2 : decode cX7_doScrub 2 = .ok (.iconst 0, 1) := by decide +kernel
theorem dX7_doScrub_3 : decode cX7_doScrub 3 = .ok (.istore_n 2, 1) := by decide +kernel
theorem dX7_doScrub_4 : decode cX7_doScrub 4 = .ok (.iload_n 2, 1) := by decide +kernel
theorem dX7_doScrub_5 : decode cX7_doScrub 5 = .ok (.bipush 21, 2) := by decide +kernel
theorem dX7_doScrub_7 : decode cX7_doScrub 7 = .ok (.if_icmp .ge 65, 3) := by decide +kernel
theorem dX7_doScrub_10 : decode cX7_doScrub 10 = .ok (.aload_n 0, 1) := by decide +kernel
theorem dX7_doScrub_11 : decode cX7_doScrub 11 = .ok (.iload_n 2, 1) := by decide +kernel
theorem dX7_doScrub_12 : decode cX7_doScrub 12 = .ok (.invokevirtual 74, 3) := by decide +kernel
theorem dX7_doScrub_15 : decode cX7_doScrub 15 = .ok (.ifCond .eq 51, 3) := by decide +kernel
theorem dX7_doScrub_18 : decode cX7_doScrub 18 = .ok (.aload_n 0, 1) := by decide +kernel
theorem dX7_doScrub_19 : decode cX7_doScrub 19 = .ok (.iload_n 2, 1) := by decide +kernel
theorem dX7_doScrub_20 : decode cX7_doScrub 20 = .ok (.iconst 0, 1) := by decide +kernel
theorem dX7_doScrub_21 : decode cX7_doScrub 21 = .ok (.invokevirtual 77, 3) := by decide +kernel
theorem dX7_doScrub_24 : decode cX7_doScrub 24 = .ok (.aload_n 0, 1) := by decide +kernel
theorem dX7_doScrub_25 : decode cX7_doScrub 25 = .ok (.iload_n 2, 1) := by decide +kernel
theorem dX7_doScrub_26 : decode cX7_doScrub 26 = .ok (.iconst 1, 1) := by decide +kernel
theorem dX7_doScrub_27 : decode cX7_doScrub 27 = .ok (.invokevirtual 77, 3) := by decide +kernel
theorem dX7_doScrub_30 : decode cX7_doScrub 30 = .ok (.aload_n 0, 1) := by decide +kernel
theorem dX7_doScrub_31 : decode cX7_doScrub 31 = .ok (.iload_n 2, 1) := by decide +kernel
theorem dX7_doScrub_32 : decode cX7_doScrub 32 = .ok (.iconst 2, 1) := by decide +kernel
theorem dX7_doScrub_33 : decode cX7_doScrub 33 = .ok (.invokevirtual 77, 3) := by decide +kernel
theorem dX7_doScrub_36 : decode cX7_doScrub 36 = .ok (.aload_n 0, 1) := by decide +kernel
theorem dX7_doScrub_37 : decode cX7_doScrub 37 = .ok (.iload_n 2, 1) := by decide +kernel
theorem dX7_doScrub_38 : decode cX7_doScrub 38 = .ok (.invokevirtual 99, 3) := by decide +kernel
theorem dX7_doScrub_41 : decode cX7_doScrub 41 = .ok (.ifCond .eq 25, 3) := by decide +kernel
theorem dX7_doScrub_44 : decode cX7_doScrub 44 = .ok (.aload_n 0, 1) := by decide +kernel
theorem dX7_doScrub_45 : decode cX7_doScrub 45 = .ok (.iload_n 2, 1) := by decide +kernel
theorem dX7_doScrub_46 : decode cX7_doScrub 46 = .ok (.iconst 2, 1) := by decide +kernel
theorem dX7_doScrub_47 : decode cX7_doScrub 47 = .ok (.aload_n 0, 1) := by decide +kernel
theorem dX7_doScrub_48 : decode cX7_doScrub 48 = .ok (.iload_n 2, 1) := by decide +kernel
theorem dX7_doScrub_49 : decode cX7_doScrub 49 = .ok (.iconst 0, 1) := by decide +kernel
theorem dX7_doScrub_50 : decode cX7_doScrub 50 = .ok (.invokevirtual 65, 3) := by decide +kernel
theorem dX7_doScrub_53 : decode cX7_doScrub 53 = .ok (.aload_n 0, 1) := by decide +kernel
theorem dX7_doScrub_54 : decode cX7_doScrub 54 = .ok (.iload_n 2, 1) := by decide +kernel
theorem dX7_doScrub_55 : decode cX7_doScrub 55 = .ok (.iconst 1, 1) := by decide +kernel
theorem dX7_doScrub_56 : decode cX7_doScrub 56 = .ok (.invokevirtual 65, 3) := by decide +kernel
theorem dX7_doScrub_59 : decode cX7_doScrub 59 = .ok (.ixor, 1) := by decide +kernel
theorem dX7_doScrub_60 : decode cX7_doScrub 60 = .ok (.invokevirtual 81, 3) := by decide +kernel
theorem dX7_doScrub_63 : decode cX7_doScrub 63 = .ok (.iinc 1 1, 3) := by decide +kernel
theorem dX7_doScrub_66 : decode cX7_doScrub 66 = .ok (.iinc 2 1, 3) := by decide +kernel
theorem dX7_doScrub_69 : decode cX7_doScrub 69 = .ok (.goto (-65), 3) := by decide +kernel
theorem dX7_doScrub_72 : decode cX7_doScrub 72 = .ok (.iload_n 1, 1) := by decide +kernel
theorem dX7_doScrub_73 : decode cX7_doScrub 73 = .ok (.ireturn, 1) := by decide +kernel
set_option maxRecDepth 20000 in
theorem ggX7_writeError_X7_isAddress : GoodIn wsX7_writeError wsX7_isAddress := goodIn_r _ [5, 6, 7, 4, 8] (by decide +kernel) (by decide +kernel)
set_option maxRecDepth 20000 in
theorem gX7_writeError_X7_isAddress : GoodIn wsX7_writeError (va_wsS RX7 102 yX7_isAddress wsX7_isAddress) := goodIn_app (goodIn_of _ (by decide +kernel)) ggX7_writeError_X7_isAddress
set_option maxRecDepth 20000 in
theorem ggX7_writeError_X7_in : GoodIn wsX7_writeError wsX7_in := goodIn_r _ [8] (by decide +kernel) (by decide +kernel)
set_option maxRecDepth 20000 in
theorem gX7_writeError_X7_in : GoodIn wsX7_writeError (va_wsS RX7 26 yX7_in wsX7_in) := goodIn_app (goodIn_of _ (by decide +kernel)) ggX7_writeError_X7_in
set_option maxRecDepth 20000 in
theorem ggX7_writeError_X7_canWrite : GoodIn wsX7_writeError wsX7_canWrite := goodIn_r _ [12, 13, 14, 15, 4, 16, 17, 18, 19, 20, 21, 22, 23, 24, 25, 26, 27, 28, 29, 30, 31, 32, 33, 34, 35, 36, 37, 38, 39, 40, 41, 42, 43] (by decide +kernel) (by decide +kernel)
set_option maxRecDepth 20000 in
theorem gX7_writeError_X7_canWrite : GoodIn wsX7_writeError (wsV RX7 106 RX7 yX7_canWrite wsX7_canWrite) := goodIn_app (goodIn_of _ (by decide +kernel)) ggX7_writeError_X7_canWrite
theorem dX7_writeError_0 : decode cX7_writeError 0 = .ok (.iload_n 1, 1) := by decide +kernel
theorem dX7_writeError_1 : decode cX7_writeError 1 = .ok (.invokestatic 102, 3) := by decide +kernel
theorem dX7_writeError_4 : decode cX7_writeError 4 = .ok (.ifCond .ne 7, 3) := by decide +kernel
theorem dX7_writeError_7 : decode cX7_writeError 7 = .ok (.iconst 1, 1) := by decide +kernel
theorem dX7_writeError_8 : decode cX7_writeError 8 = .ok (.goto 30, 3) := by decide +kernel
theorem dX7_writeError_11 : decode cX7_writeError 11 = .ok (.iload_n 2, 1) := by decide +kernel
theorem dX7_writeError_12 : decode cX7_writeError 12 = .ok (.iconst 0, 1) := by decide +kernel
theorem dX7_writeError_13 : decode cX7_writeError 13 = .ok (.ldc 105, 2) := by decide +kernel
theorem dX7_writeError_15 : decode cX7_writeError 15 = .ok (.invokestatic 26, 3) := by decide +kernel
theorem dX7_writeError_18 : decode cX7_writeError 18 = .ok (.ifCond .ne 7, 3) := by decide +kernel
theorem dX7_writeError_21 : decode cX7_writeError 21 = .ok (.iconst 2, 1) := by decide +kernel
theorem dX7_writeError_22 : decode cX7_writeError 22 = .ok (.goto 16, 3) := by decide +kernel
theorem dX7_writeError_25 : decode cX7_writeError 25 = .ok (.aload_n 0, 1) := by decide +kernel
theorem dX7_writeError_26 : decode cX7_writeError 26 = .ok (.iload_n 1, 1) := by decide +kernel
theorem dX7_writeError_27 : decode cX7_writeError 27 = .ok (.invokevirtual 106, 3) := by decide +kernel
theorem dX7_writeError_30 : decode cX7_writeError 30 = .ok (.ifCond .eq 7, 3) := by decide +kernel
theorem dX7_writeError_33 : decode cX7_writeError 33 = .ok (.iconst 0, 1) := by decide +kernel
theorem dX7_writeError_34 : decode cX7_writeError 34 = .ok (.goto 4, 3) := by decide +kernel
theorem dX7_writeError_37 : decode cX7_writeError 37 = .ok (.iconst 3, 1) := by decide +kernel
theorem dX7_writeError_38 : decode cX7_writeError 38 = .ok (.ireturn, 1) := by decide +kernel
set_option maxRecDepth 20000 in
theorem ggX7_failError_X7_isDisc : GoodIn wsX7_failError wsX7_isDisc := goodIn_r _ [5, 6, 7, 4, 8] (by decide +kernel) (by decide +kernel)
set_option maxRecDepth 20000 in
theorem gX7_failError_X7_isDisc : GoodIn wsX7_failError (va_wsS RX7 109 yX7_isDisc wsX7_isDisc) := goodIn_app (goodIn_of _ (by decide +kernel)) ggX7_failError_X7_isDisc
theorem dX7_failError_0 : decode cX7_failError 0 = .ok (.iload_n 1, 1) := by decide +kernel
theorem dX7_failError_1 : decode cX7_failError 1 = .ok (.invokestatic 109, 3) := by decide +kernel
theorem dX7_failError_4 : decode cX7_failError 4 = .ok (.ifCond .ne 7, 3) := by decide +kernel
theorem dX7_failError_7 : decode cX7_failError 7 = .ok (.iconst 1, 1) := by decide +kernel
theorem dX7_failError_8 : decode cX7_failError 8 = .ok (.goto 20, 3) := by decide +kernel
theorem dX7_failError_11 : decode cX7_failError 11 = .ok (.aload_n 0, 1) := by decide +kernel
theorem dX7_failError_12 : decode cX7_failError 12 = .ok (.getfield 7, 3) := by decide +kernel
theorem dX7_failError_15 : decode cX7_failError 15 = .ok (.iconst 0, 1) := by decide +kernel
theorem dX7_failError_16 : decode cX7_failError 16 = .ok (.iload_n 1, 1) := by decide +kernel
theorem dX7_failError_17 : decode cX7_failError 17 = .ok (.iadd, 1) := by decide +kernel
theorem dX7_failError_18 : decode cX7_failError 18 = .ok (.iaload, 1) := by decide +kernel
theorem dX7_failError_19 : decode cX7_failError 19 = .ok (.iconst (-1), 1) := by decide +kernel
theorem dX7_failError_20 : decode cX7_failError 20 = .ok (.if_icmp .ne 7, 3) := by decide +kernel
theorem dX7_failError_23 : decode cX7_failError 23 = .ok (.iconst 2, 1) := by decide +kernel
theorem dX7_failError_24 : decode cX7_failError 24 = .ok (.goto 4, 3) := by decide +kernel
theorem dX7_failError_27 : decode cX7_failError 27 = .ok (.iconst 0, 1) := by decide +kernel
theorem dX7_failError_28 : decode cX7_failError 28 = .ok (.ireturn, 1) := by decide +kernel
set_option maxRecDepth 20000 in
theorem ggX7_beginError_X7_isDisc : GoodIn wsX7_beginError wsX7_isDisc := goodIn_r _ [5, 6, 7, 4, 8] (by decide +kernel) (by decide +kernel)
set_option maxRecDepth 20000 in
theorem gX7_beginError_X7_isDisc : GoodIn wsX7_beginError (va_wsS RX7 109 yX7_isDisc wsX7_isDisc) := goodIn_app (goodIn_of _ (by decide +kernel)) ggX7_beginError_X7_isDisc
theorem dX7_beginError_0 : decode cX7_beginError 0 = .ok (.iload_n 1, 1) := by decide +kernel
theorem dX7_beginError_1 : decode cX7_beginError 1 = .ok (.invokestatic 109, 3) := by decide +kernel
theorem dX7_beginError_4 : decode cX7_beginError 4 = .ok (.ifCond .ne 7, 3) := by decide +kernel
theorem dX7_beginError_7 : decode cX7_beginError 7 = .ok (.iconst 1, 1) := by decide +kernel
theorem dX7_beginError_8 : decode cX7_beginError 8 = .ok (.goto 30, 3) := by decide +kernel
theorem dX7_beginError_11 : decode cX7_beginError 11 = .ok (.aload_n 0, 1) := by decide +kernel
theorem dX7_beginError_12 : decode cX7_beginError 12 = .ok (.getfield 7, 3) := by decide +kernel
theorem dX7_beginError_15 : decode cX7_beginError 15 = .ok (.iconst 0, 1) := by decide +kernel
theorem dX7_beginError_16 : decode cX7_beginError 16 = .ok (.iload_n 1, 1) := by decide +kernel
theorem dX7_beginError_17 : decode cX7_beginError 17 = .ok (.iadd, 1) := by decide +kernel
theorem dX7_beginError_18 : decode cX7_beginError 18 = .ok (.iaload, 1) := by decide +kernel
theorem dX7_beginError_19 : decode cX7_beginError 19 = .ok (.iconst (-1), 1) := by decide +kernel
theorem dX7_beginError_20 : decode cX7_beginError 20 = .ok (.if_icmp .ne 13, 3) := by decide +kernel
theorem dX7_beginError_23 : decode cX7_beginError 23 = .ok (.aload_n 0, 1) := by decide +kernel
theorem dX7_beginError_24 : decode cX7_beginError 24 = .ok (.getfield 7, 3) := by decide +kernel
theorem dX7_beginError_27 : decode cX7_beginError 27 = .ok (.bipush 84, 2) := by decide +kernel
theorem dX7_beginError_29 : decode cX7_beginError 29 = .ok (.iaload, 1) := by decide +kernel
theorem dX7_beginError_30 : decode cX7_beginError 30 = .ok (.ifCond .ne 7, 3) := by decide +kernel
theorem dX7_beginError_33 : decode cX7_beginError 33 = .ok (.iconst 2, 1) := by decide +kernel
theorem dX7_beginError_34 : decode cX7_beginError 34 = .ok (.goto 4, 3) := by decide +kernel
theorem dX7_beginError_37 : decode cX7_beginError 37 = .ok (.iconst 0, 1) := by decide +kernel
theorem dX7_beginError_38 : decode cX7_beginError 38 = .ok (.ireturn, 1) := by decide +kernel
set_option maxRecDepth 20000 in
theorem ggX7_read_X7_isAddress : GoodIn wsX7_read wsX7_isAddress := goodIn_r _ [4, 5, 6, 3, 7] (by decide +kernel) (by decide +kernel)
set_option maxRecDepth 20000 in
theorem gX7_read_X7_isAddress : GoodIn wsX7_read (va_wsS RX7 102 yX7_isAddress wsX7_isAddress) := goodIn_app (goodIn_of _ (by decide +kernel)) ggX7_read_X7_isAddress
set_option maxRecDepth 20000 in
theorem ggX7_read_X7_look : GoodIn wsX7_read wsX7_look := goodIn_r _ [11, 12, 13, 14, 3, 15, 16, 17, 18, 19, 20, 21, 22, 23, 24, 25, 26, 27, 28, 29, 30, 31, 32, 33, 34, 35, 36, 37, 38, 39, 40, 41, 42, 43, 62, 63, 64, 65, 66, 67, 68, 69, 70, 71, 72, 73, 74] (by decide +kernel) (by decide +kernel)
set_option maxRecDepth 20000 in
theorem gX7_read_X7_look : GoodIn wsX7_read (wsV RX7 71 RX7 yX7_look wsX7_look) := goodIn_app (goodIn_of _ (by decide +kernel)) ggX7_read_X7_look
set_option maxRecDepth 20000 in
theorem ggX7_read_X7_holds : GoodIn wsX7_read wsX7_holds := goodIn_r _ [47, 48, 62, 63, 64, 65, 66, 67, 68, 69, 70, 71, 72, 73, 74] (by decide +kernel) (by decide +kernel)
set_option maxRecDepth 20000 in
theorem gX7_read_X7_holds : GoodIn wsX7_read (wsV RX7 112 RX7 yX7_holds wsX7_holds) := goodIn_app (goodIn_of _ (by decide +kernel)) ggX7_read_X7_holds
set_option maxRecDepth 20000 in
theorem ggX7_read_X7_save : GoodIn wsX7_read wsX7_save := goodIn_r _ [52, 53, 54, 29, 55, 56, 3, 57, 62, 63, 64, 65, 66, 67, 68, 69, 70, 71, 72, 73, 74] (by decide +kernel) (by decide +kernel)
set_option maxRecDepth 20000 in
theorem gX7_read_X7_save : GoodIn wsX7_read (wsV RX7 115 RX7 yX7_save wsX7_save) := goodIn_app (goodIn_of _ (by decide +kernel)) ggX7_read_X7_save
set_option maxRecDepth 20000 in
theorem ggX7_read_X7_isThere : GoodIn wsX7_read wsX7_isThere := goodIn_r _ [15, 16, 17, 3, 18, 19, 20, 21, 22, 23, 24, 25, 26, 27, 28, 29, 62, 63, 64, 65, 66, 67, 68, 69, 70, 71, 72, 73, 74] (by decide +kernel) (by decide +kernel)
set_option maxRecDepth 20000 in
theorem gX7_read_X7_isThere : GoodIn wsX7_read (wsV RX7 59 RX7 yX7_isThere wsX7_isThere) := goodIn_app (goodIn_of _ (by decide +kernel)) ggX7_read_X7_isThere
set_option maxRecDepth 20000 in
theorem ggX7_read_X7_countRead : GoodIn wsX7_read wsX7_countRead := goodIn_r _ [61, 29, 16, 17, 3, 18, 19, 20, 21, 22, 23, 24, 62, 63, 64, 65, 66, 67, 68, 69, 70, 71, 72, 73, 74] (by decide +kernel) (by decide +kernel)
set_option maxRecDepth 20000 in
theorem gX7_read_X7_countRead : GoodIn wsX7_read (wsV RX7 77 RX7 yX7_countRead wsX7_countRead) := goodIn_app (goodIn_of _ (by decide +kernel)) ggX7_read_X7_countRead
set_option maxRecDepth 20000 in
theorem ggX7_read_X7_one : GoodIn wsX7_read wsX7_one := goodIn_r _ [40] (by decide +kernel) (by decide +kernel)
set_option maxRecDepth 20000 in
theorem gX7_read_X7_one : GoodIn wsX7_read (va_wsS RX7 55 yX7_one wsX7_one) := goodIn_app (goodIn_of _ (by decide +kernel)) ggX7_read_X7_one
set_option maxRecDepth 20000 in
theorem ggX7_read_X7_two : GoodIn wsX7_read wsX7_two := goodIn_r _ [43] (by decide +kernel) (by decide +kernel)
set_option maxRecDepth 20000 in
theorem gX7_read_X7_two : GoodIn wsX7_read (va_wsS RX7 62 yX7_two wsX7_two) := goodIn_app (goodIn_of _ (by decide +kernel)) ggX7_read_X7_two
theorem dX7_read_0 : decode cX7_read 0 = .ok (.aload_n 0, 1) := by decide +kernel
theorem dX7_read_1 : decode cX7_read 1 = .ok (.iload_n 1, 1) := by decide +kernel
theorem dX7_read_2 : decode cX7_read 2 = .ok (.invokestatic 102, 3) := by decide +kernel
theorem dX7_read_5 : decode cX7_read 5 = .ok (.ifCond .ne 7, 3) := by decide +kernel
theorem dX7_read_8 : decode cX7_read 8 = .ok (.iconst 1, 1) := by decide +kernel
theorem dX7_read_9 : decode cX7_read 9 = .ok (.goto 22, 3) := by decide +kernel
theorem dX7_read_12 : decode cX7_read 12 = .ok (.aload_n 0, 1) := by decide +kernel
theorem dX7_read_13 : decode cX7_read 13 = .ok (.iload_n 1, 1) := by decide +kernel
theorem dX7_read_14 : decode cX7_read 14 = .ok (.iconst 2, 1) := by decide +kernel
theorem dX7_read_15 : decode cX7_read 15 = .ok (.idiv, 1) := by decide +kernel
theorem dX7_read_16 : decode cX7_read 16 = .ok (.iload_n 1, 1) := by decide +kernel
theorem dX7_read_17 : decode cX7_read 17 = .ok (.iconst 2, 1) := by decide +kernel
theorem dX7_read_18 : decode cX7_read 18 = .ok (.irem, 1) := by decide +kernel
theorem dX7_read_19 : decode cX7_read 19 = .ok (.invokevirtual 71, 3) := by decide +kernel
theorem dX7_read_22 : decode cX7_read 22 = .ok (.iconst (-1), 1) := by decide +kernel
theorem dX7_read_23 : decode cX7_read 23 = .ok (.if_icmp .ne 7, 3) := by decide +kernel
theorem dX7_read_26 : decode cX7_read 26 = .ok (.iconst 2, 1) := by decide +kernel
theorem dX7_read_27 : decode cX7_read 27 = .ok (.goto 4, 3) := by decide +kernel
theorem dX7_read_30 : decode cX7_read 30 = .ok (.iconst 0, 1) := by decide +kernel
theorem dX7_read_31 : decode cX7_read 31 = .ok (.invokevirtual 112, 3) := by decide +kernel
theorem dX7_read_34 : decode cX7_read 34 = .ok (.ifCond .ne 5, 3) := by decide +kernel
theorem dX7_read_37 : decode cX7_read 37 = .ok (.iconst 0, 1) := by decide +kernel
theorem dX7_read_38 : decode cX7_read 38 = .ok (.ireturn, 1) := by decide +kernel
theorem dX7_read_39 : decode cX7_read 39 = .ok (.aload_n 0, 1) := by decide +kernel
theorem dX7_read_40 : decode cX7_read 40 = .ok (.invokevirtual 115, 3) := by decide +kernel
theorem dX7_read_43 : decode cX7_read 43 = .ok (.iload_n 1, 1) := by decide +kernel
theorem dX7_read_44 : decode cX7_read 44 = .ok (.iconst 2, 1) := by decide +kernel
theorem dX7_read_45 : decode cX7_read 45 = .ok (.idiv, 1) := by decide +kernel
theorem dX7_read_46 : decode cX7_read 46 = .ok (.istore_n 2, 1) := by decide +kernel
theorem dX7_read_47 : decode cX7_read 47 = .ok (.iload_n 1, 1) := by decide +kernel
theorem dX7_read_48 : decode cX7_read 48 = .ok (.iconst 2, 1) := by decide +kernel
theorem dX7_read_49 : decode cX7_read 49 = .ok (.irem, 1) := by decide +kernel
theorem dX7_read_50 : decode cX7_read 50 = .ok (.istore_n 3, 1) := by decide +kernel
theorem dX7_read_51 : decode cX7_read 51 = .ok (.aload_n 0, 1) := by decide +kernel
theorem dX7_read_52 : decode cX7_read 52 = .ok (.iload_n 2, 1) := by decide +kernel
theorem dX7_read_53 : decode cX7_read 53 = .ok (.iload_n 3, 1) := by decide +kernel
theorem dX7_read_54 : decode cX7_read 54 = .ok (.invokevirtual 59, 3) := by decide +kernel
theorem dX7_read_57 : decode cX7_read 57 = .ok (.ifCond .eq 12, 3) := by decide +kernel
theorem dX7_read_60 : decode cX7_read 60 = .ok (.aload_n 0, 1) := by decide +kernel
theorem dX7_read_61 : decode cX7_read 61 = .ok (.iload_n 2, 1) := by decide +kernel
theorem dX7_read_62 : decode cX7_read 62 = .ok (.iload_n 3, 1) := by decide +kernel
theorem dX7_read_63 : decode cX7_read 63 = .ok (.invokevirtual 77, 3) := by decide +kernel
theorem dX7_read_66 : decode cX7_read 66 = .ok (.goto 21, 3) := by decide +kernel
theorem dX7_read_69 : decode cX7_read 69 = .ok (.aload_n 0, 1) := by decide +kernel
theorem dX7_read_70 : decode cX7_read 70 = .ok (.iload_n 2, 1) := by decide +kernel
theorem dX7_read_71 : decode cX7_read 71 = .ok (.iload_n 3, 1) := by decide +kernel
theorem dX7_read_72 : decode cX7_read 72 = .ok (.invokestatic 55, 3) := by decide +kernel
theorem dX7_read_75 : decode cX7_read 75 = .ok (.invokevirtual 77, 3) := by decide +kernel
theorem dX7_read_78 : decode cX7_read 78 = .ok (.aload_n 0, 1) := by decide +kernel
theorem dX7_read_79 : decode cX7_read 79 = .ok (.iload_n 2, 1) := by decide +kernel
theorem dX7_read_80 : decode cX7_read 80 = .ok (.iload_n 3, 1) := by decide +kernel
theorem dX7_read_81 : decode cX7_read 81 = .ok (.invokestatic 62, 3) := by decide +kernel
theorem dX7_read_84 : decode cX7_read 84 = .ok (.invokevirtual 77, 3) := by decide +kernel
theorem dX7_read_87 : decode cX7_read 87 = .ok (.aload_n 0, 1) := by decide +kernel
theorem dX7_read_88 : decode cX7_read 88 = .ok (.iload_n 2, 1) := by decide +kernel
theorem dX7_read_89 : decode cX7_read 89 = .ok (.iload_n 3, 1) := by decide +kernel
theorem dX7_read_90 : decode cX7_read 90 = .ok (.invokevirtual 71, 3) := by decide +kernel
theorem dX7_read_93 : decode cX7_read 93 = .ok (.ireturn, 1) := by decide +kernel
set_option maxRecDepth 20000 in
theorem ggX7_write_X7_writeError : GoodIn wsX7_write wsX7_writeError := goodIn_r _ [5, 6, 7, 8, 4, 9, 10, 11, 12, 13, 14, 15, 16, 17, 18, 19, 20, 21, 22, 23, 24, 25, 26, 27, 28, 29, 30, 31, 32, 33, 34, 65, 66, 67, 68, 69, 70, 71, 72, 73, 74, 75, 76, 77] (by decide +kernel) (by decide +kernel)
set_option maxRecDepth 20000 in
theorem gX7_write_X7_writeError : GoodIn wsX7_write (wsV RX7 118 RX7 yX7_writeError wsX7_writeError) := goodIn_app (goodIn_of _ (by decide +kernel)) ggX7_write_X7_writeError
set_option maxRecDepth 20000 in
theorem ggX7_write_X7_holds : GoodIn wsX7_write wsX7_holds := goodIn_r _ [38, 39, 65, 66, 67, 68, 69, 70, 71, 72, 73, 74, 75, 76, 77] (by decide +kernel) (by decide +kernel)
set_option maxRecDepth 20000 in
theorem gX7_write_X7_holds : GoodIn wsX7_write (wsV RX7 112 RX7 yX7_holds wsX7_holds) := goodIn_app (goodIn_of _ (by decide +kernel)) ggX7_write_X7_holds
set_option maxRecDepth 20000 in
theorem ggX7_write_X7_save : GoodIn wsX7_write wsX7_save := goodIn_r _ [43, 44, 45, 34, 46, 47, 4, 48, 65, 66, 67, 68, 69, 70, 71, 72, 73, 74, 75, 76, 77] (by decide +kernel) (by decide +kernel)
set_option maxRecDepth 20000 in
theorem gX7_write_X7_save : GoodIn wsX7_write (wsV RX7 115 RX7 yX7_save wsX7_save) := goodIn_app (goodIn_of _ (by decide +kernel)) ggX7_write_X7_save
set_option maxRecDepth 20000 in
theorem ggX7_write_X7_doWrite : GoodIn wsX7_write wsX7_doWrite := goodIn_r _ [52, 17, 18, 19, 4, 20, 21, 22, 23, 24, 25, 26, 27, 28, 29, 30, 31, 32, 33, 34, 53, 54, 55, 56, 57, 58, 59, 60, 61, 62, 63, 64, 65, 66, 67, 68, 69, 70, 71, 72, 73, 74, 75, 76, 77] (by decide +kernel) (by decide +kernel)
set_option maxRecDepth 20000 in
theorem gX7_write_X7_doWrite : GoodIn wsX7_write (wsV RX7 121 RX7 yX7_doWrite wsX7_doWrite) := goodIn_app (goodIn_of _ (by decide +kernel)) ggX7_write_X7_doWrite
theorem dX7_write_0 : decode cX7_write 0 = .ok (.aload_n 0, 1) := by decide +kernel
theorem dX7_write_1 : decode cX7_write 1 = .ok (.aload_n 0, 1) := by decide +kernel
theorem dX7_write_2 : decode cX7_write 2 = .ok (.iload_n 1, 1) := by decide +kernel
theorem dX7_write_3 : decode cX7_write 3 = .ok (.iload_n 2, 1) := by decide +kernel
theorem dX7_write_4 : decode cX7_write 4 = .ok (.invokevirtual 118, 3) := by decide +kernel
theorem dX7_write_7 : decode cX7_write 7 = .ok (.invokevirtual 112, 3) := by decide +kernel
theorem dX7_write_10 : decode cX7_write 10 = .ok (.ifCond .ne 5, 3) := by decide +kernel
theorem dX7_write_13 : decode cX7_write 13 = .ok (.iconst 0, 1) := by decide +kernel
theorem dX7_write_14 : decode cX7_write 14 = .ok (.ireturn, 1) := by decide +kernel
theorem dX7_write_15 : decode cX7_write 15 = .ok (.aload_n 0, 1) := by decide +kernel
theorem dX7_write_16 : decode cX7_write 16 = .ok (.invokevirtual 115, 3) := by decide +kernel
theorem dX7_write_19 : decode cX7_write 19 = .ok (.aload_n 0, 1) := by decide +kernel
theorem dX7_write_20 : decode cX7_write 20 = .ok (.iload_n 1, 1) := by decide +kernel
theorem dX7_write_21 : decode cX7_write 21 = .ok (.iload_n 2, 1) := by decide +kernel
theorem dX7_write_22 : decode cX7_write 22 = .ok (.invokevirtual 121, 3) := by decide +kernel
theorem dX7_write_25 : decode cX7_write 25 = .ok (.ireturn, 1) := by decide +kernel
set_option maxRecDepth 20000 in
theorem ggX7_fail_X7_failError : GoodIn wsX7_fail wsX7_failError := goodIn_r _ [5, 6, 7, 8, 4, 9, 10, 11, 12, 70, 71, 72, 73, 74, 75, 76, 77, 78, 79, 80, 81, 82] (by decide +kernel) (by decide +kernel)
set_option maxRecDepth 20000 in
theorem gX7_fail_X7_failError : GoodIn wsX7_fail (wsV RX7 124 RX7 yX7_failError wsX7_failError) := goodIn_app (goodIn_of _ (by decide +kernel)) ggX7_fail_X7_failError
set_option maxRecDepth 20000 in
theorem ggX7_fail_X7_holds : GoodIn wsX7_fail wsX7_holds := goodIn_r _ [16, 17, 70, 71, 72, 73, 74, 75, 76, 77, 78, 79, 80, 81, 82] (by decide +kernel) (by decide +kernel)
set_option maxRecDepth 20000 in
theorem gX7_fail_X7_holds : GoodIn wsX7_fail (wsV RX7 112 RX7 yX7_holds wsX7_holds) := goodIn_app (goodIn_of _ (by decide +kernel)) ggX7_fail_X7_holds
set_option maxRecDepth 20000 in
theorem ggX7_fail_X7_save : GoodIn wsX7_fail wsX7_save := goodIn_r _ [21, 22, 23, 6, 24, 25, 4, 26, 70, 71, 72, 73, 74, 75, 76, 77, 78, 79, 80, 81, 82] (by decide +kernel) (by decide +kernel)
set_option maxRecDepth 20000 in
theorem gX7_fail_X7_save : GoodIn wsX7_fail (wsV RX7 115 RX7 yX7_save wsX7_save) := goodIn_app (goodIn_of _ (by decide +kernel)) ggX7_fail_X7_save
set_option maxRecDepth 20000 in
theorem ggX7_fail_X7_doFail : GoodIn wsX7_fail wsX7_doFail := goodIn_r _ [30, 6, 31, 32, 33, 4, 34, 35, 36, 37, 38, 39, 40, 41, 42, 43, 44, 45, 46, 47, 48, 49, 50, 51, 52, 53, 54, 55, 56, 57, 58, 59, 60, 61, 62, 63, 64, 65, 66, 67, 68, 69, 70, 71, 72, 73, 74, 75, 76, 77, 78, 79, 80, 81, 82] (by decide +kernel) (by decide +kernel)
set_option maxRecDepth 20000 in
theorem gX7_fail_X7_doFail : GoodIn wsX7_fail (wsV RX7 127 RX7 yX7_doFail wsX7_doFail) := goodIn_app (goodIn_of _ (by decide +kernel)) ggX7_fail_X7_doFail
theorem dX7_fail_0 : decode cX7_fail 0 = .ok (.aload_n 0, 1) := by decide +kernel
theorem dX7_fail_1 : decode cX7_fail 1 = .ok (.aload_n 0, 1) := by decide +kernel
theorem dX7_fail_2 : decode cX7_fail 2 = .ok (.iload_n 1, 1) := by decide +kernel
theorem dX7_fail_3 : decode cX7_fail 3 = .ok (.invokevirtual 124, 3) := by decide +kernel
theorem dX7_fail_6 : decode cX7_fail 6 = .ok (.invokevirtual 112, 3) := by decide +kernel
theorem dX7_fail_9 : decode cX7_fail 9 = .ok (.ifCond .ne 5, 3) := by decide +kernel
theorem dX7_fail_12 : decode cX7_fail 12 = .ok (.iconst 0, 1) := by decide +kernel
theorem dX7_fail_13 : decode cX7_fail 13 = .ok (.ireturn, 1) := by decide +kernel
theorem dX7_fail_14 : decode cX7_fail 14 = .ok (.aload_n 0, 1) := by decide +kernel
theorem dX7_fail_15 : decode cX7_fail 15 = .ok (.invokevirtual 115, 3) := by decide +kernel
theorem dX7_fail_18 : decode cX7_fail 18 = .ok (.aload_n 0, 1) := by decide +kernel
theorem dX7_fail_19 : decode cX7_fail 19 = .ok (.iload_n 1, 1) := by decide +kernel
theorem dX7_fail_20 : decode cX7_fail 20 = .ok (.invokevirtual 127, 3) := by decide +kernel
theorem dX7_fail_23 : decode cX7_fail 23 = .ok (.ireturn, 1) := by decide +kernel
set_option maxRecDepth 20000 in
theorem ggX7_beginMending_X7_beginError : GoodIn wsX7_beginMending wsX7_beginError := goodIn_r _ [5, 6, 7, 8, 4, 9, 10, 11, 12, 31, 32, 33, 34, 35, 36, 37, 38, 39, 40, 41, 42, 43] (by decide +kernel) (by decide +kernel)
set_option maxRecDepth 20000 in
theorem gX7_beginMending_X7_beginError : GoodIn wsX7_beginMending (wsV RX7 130 RX7 yX7_beginError wsX7_beginError) := goodIn_app (goodIn_of _ (by decide +kernel)) ggX7_beginMending_X7_beginError
set_option maxRecDepth 20000 in
theorem ggX7_beginMending_X7_holds : GoodIn wsX7_beginMending wsX7_holds := goodIn_r _ [16, 17, 31, 32, 33, 34, 35, 36, 37, 38, 39, 40, 41, 42, 43] (by decide +kernel) (by decide +kernel)
set_option maxRecDepth 20000 in
theorem gX7_beginMending_X7_holds : GoodIn wsX7_beginMending (wsV RX7 112 RX7 yX7_holds wsX7_holds) := goodIn_app (goodIn_of _ (by decide +kernel)) ggX7_beginMending_X7_holds
set_option maxRecDepth 20000 in
theorem ggX7_beginMending_X7_save : GoodIn wsX7_beginMending wsX7_save := goodIn_r _ [21, 22, 23, 6, 24, 25, 4, 26, 31, 32, 33, 34, 35, 36, 37, 38, 39, 40, 41, 42, 43] (by decide +kernel) (by decide +kernel)
set_option maxRecDepth 20000 in
theorem gX7_beginMending_X7_save : GoodIn wsX7_beginMending (wsV RX7 115 RX7 yX7_save wsX7_save) := goodIn_app (goodIn_of _ (by decide +kernel)) ggX7_beginMending_X7_save
set_option maxRecDepth 20000 in
theorem ggX7_beginMending_X7_doBegin : GoodIn wsX7_beginMending wsX7_doBegin := goodIn_r _ [30, 6, 31, 32, 33, 34, 35, 36, 37, 38, 39, 40, 41, 42, 43] (by decide +kernel) (by decide +kernel)
set_option maxRecDepth 20000 in
theorem gX7_beginMending_X7_doBegin : GoodIn wsX7_beginMending (wsV RX7 133 RX7 yX7_doBegin wsX7_doBegin) := goodIn_app (goodIn_of _ (by decide +kernel)) ggX7_beginMending_X7_doBegin
theorem dX7_beginMending_0 : decode cX7_beginMending 0 = .ok (.aload_n 0, 1) := by decide +kernel
theorem dX7_beginMending_1 : decode cX7_beginMending 1 = .ok (.aload_n 0, 1) := by decide +kernel
theorem dX7_beginMending_2 : decode cX7_beginMending 2 = .ok (.iload_n 1, 1) := by decide +kernel
theorem dX7_beginMending_3 : decode cX7_beginMending 3 = .ok (.invokevirtual 130, 3) := by decide +kernel
theorem dX7_beginMending_6 : decode cX7_beginMending 6 = .ok (.invokevirtual 112, 3) := by decide +kernel
theorem dX7_beginMending_9 : decode cX7_beginMending 9 = .ok (.ifCond .ne 5, 3) := by decide +kernel
theorem dX7_beginMending_12 : decode cX7_beginMending 12 = .ok (.iconst 0, 1) := by decide +kernel
theorem dX7_beginMending_13 : decode cX7_beginMending 13 = .ok (.ireturn, 1) := by decide +kernel
theorem dX7_beginMending_14 : decode cX7_beginMending 14 = .ok (.aload_n 0, 1) := by decide +kernel
theorem dX7_beginMending_15 : decode cX7_beginMending 15 = .ok (.invokevirtual 115, 3) := by decide +kernel
theorem dX7_beginMending_18 : decode cX7_beginMending 18 = .ok (.aload_n 0, 1) := by decide +kernel
theorem dX7_beginMending_19 : decode cX7_beginMending 19 = .ok (.iload_n 1, 1) := by decide +kernel
theorem dX7_beginMending_20 : decode cX7_beginMending 20 = .ok (.invokevirtual 133, 3) := by decide +kernel
theorem dX7_beginMending_23 : decode cX7_beginMending 23 = .ok (.ireturn, 1) := by decide +kernel
set_option maxRecDepth 20000 in
theorem ggX7_mend_X7_in : GoodIn wsX7_mend wsX7_in := goodIn_r _ [4] (by decide +kernel) (by decide +kernel)
set_option maxRecDepth 20000 in
theorem gX7_mend_X7_in : GoodIn wsX7_mend (va_wsS RX7 26 yX7_in wsX7_in) := goodIn_app (goodIn_of _ (by decide +kernel)) ggX7_mend_X7_in
set_option maxRecDepth 20000 in
theorem ggX7_mend_X7_holds : GoodIn wsX7_mend wsX7_holds := goodIn_r _ [8, 9, 77, 78, 79, 80, 81, 82, 83, 84, 85, 86, 87, 88, 89] (by decide +kernel) (by decide +kernel)
set_option maxRecDepth 20000 in
theorem gX7_mend_X7_holds : GoodIn wsX7_mend (wsV RX7 112 RX7 yX7_holds wsX7_holds) := goodIn_app (goodIn_of _ (by decide +kernel)) ggX7_mend_X7_holds
set_option maxRecDepth 20000 in
theorem ggX7_mend_X7_save : GoodIn wsX7_mend wsX7_save := goodIn_r _ [13, 14, 15, 16, 17, 18, 3, 19, 77, 78, 79, 80, 81, 82, 83, 84, 85, 86, 87, 88, 89] (by decide +kernel) (by decide +kernel)
set_option maxRecDepth 20000 in
theorem gX7_mend_X7_save : GoodIn wsX7_mend (wsV RX7 115 RX7 yX7_save wsX7_save) := goodIn_app (goodIn_of _ (by decide +kernel)) ggX7_mend_X7_save
set_option maxRecDepth 20000 in
theorem ggX7_mend_X7_doMend : GoodIn wsX7_mend wsX7_doMend := goodIn_r _ [23, 24, 25, 26, 3, 27, 16, 1, 2, 4, 28, 29, 30, 31, 32, 33, 34, 35, 36, 37, 38, 39, 40, 41, 42, 43, 44, 45, 46, 47, 48, 49, 50, 51, 52, 53, 54, 55, 56, 57, 58, 59, 60, 61, 62, 63, 64, 65, 66, 67, 68, 69, 70, 71, 72, 73, 74, 75, 76, 77, 78, 79, 80, 81, 82, 83, 84, 85, 86, 87, 88, 89] (by decide +kernel) (by decide +kernel)
set_option maxRecDepth 20000 in
theorem gX7_mend_X7_doMend : GoodIn wsX7_mend (wsV RX7 136 RX7 yX7_doMend wsX7_doMend) := goodIn_app (goodIn_of _ (by decide +kernel)) ggX7_mend_X7_doMend
theorem dX7_mend_0 : decode cX7_mend 0 = .ok (.aload_n 0, 1) := by decide +kernel
theorem dX7_mend_1 : decode cX7_mend 1 = .ok (.iload_n 1, 1) := by decide +kernel
theorem dX7_mend_2 : decode cX7_mend 2 = .ok (.iconst 1, 1) := by decide +kernel
theorem dX7_mend_3 : decode cX7_mend 3 = .ok (.bipush 9, 2) := by decide +kernel
theorem dX7_mend_5 : decode cX7_mend 5 = .ok (.invokestatic 26, 3) := by decide +kernel
theorem dX7_mend_8 : decode cX7_mend 8 = .ok (.ifCond .eq 7, 3) := by decide +kernel
theorem dX7_mend_11 : decode cX7_mend 11 = .ok (.iconst 0, 1) := by decide +kernel
theorem dX7_mend_12 : decode cX7_mend 12 = .ok (.goto 4, 3) := by decide +kernel
theorem dX7_mend_15 : decode cX7_mend 15 = .ok (.iconst 1, 1) := by decide +kernel
theorem dX7_mend_16 : decode cX7_mend 16 = .ok (.invokevirtual 112, 3) := by decide +kernel
theorem dX7_mend_19 : decode cX7_mend 19 = .ok (.ifCond .ne 5, 3) := by decide +kernel
theorem dX7_mend_22 : decode cX7_mend 22 = .ok (.iconst 0, 1) := by decide +kernel
theorem dX7_mend_23 : decode cX7_mend 23 = .ok (.ireturn, 1) := by decide +kernel
theorem dX7_mend_24 : decode cX7_mend 24 = .ok (.aload_n 0, 1) := by decide +kernel
theorem dX7_mend_25 : decode cX7_mend 25 = .ok (.invokevirtual 115, 3) := by decide +kernel
theorem dX7_mend_28 : decode cX7_mend 28 = .ok (.aload_n 0, 1) := by decide +kernel
theorem dX7_mend_29 : decode cX7_mend 29 = .ok (.iload_n 1, 1) := by decide +kernel
theorem dX7_mend_30 : decode cX7_mend 30 = .ok (.invokevirtual 136, 3) := by decide +kernel
theorem dX7_mend_33 : decode cX7_mend 33 = .ok (.ireturn, 1) := by decide +kernel
set_option maxRecDepth 20000 in
theorem ggX7_addSpare_X7_holds : GoodIn wsX7_addSpare wsX7_holds := goodIn_r _ [6, 7, 17, 18, 19, 20, 21, 22, 23, 24, 25, 26, 27, 28, 29] (by decide +kernel) (by decide +kernel)
set_option maxRecDepth 20000 in
theorem gX7_addSpare_X7_holds : GoodIn wsX7_addSpare (wsV RX7 112 RX7 yX7_holds wsX7_holds) := goodIn_app (goodIn_of _ (by decide +kernel)) ggX7_addSpare_X7_holds
set_option maxRecDepth 20000 in
theorem ggX7_addSpare_X7_save : GoodIn wsX7_addSpare wsX7_save := goodIn_r _ [11, 12, 13, 1, 14, 15, 5, 16, 17, 18, 19, 20, 21, 22, 23, 24, 25, 26, 27, 28, 29] (by decide +kernel) (by decide +kernel)
set_option maxRecDepth 20000 in
theorem gX7_addSpare_X7_save : GoodIn wsX7_addSpare (wsV RX7 115 RX7 yX7_save wsX7_save) := goodIn_app (goodIn_of _ (by decide +kernel)) ggX7_addSpare_X7_save
theorem dX7_addSpare_0 : decode cX7_addSpare 0 = .ok (.aload_n 0, 1) := by decide +kernel
theorem dX7_addSpare_1 : decode cX7_addSpare 1 = .ok (.aload_n 0, 1) := by decide +kernel
theorem dX7_addSpare_2 : decode cX7_addSpare 2 = .ok (.getfield 7, 3) := by decide +kernel
theorem dX7_addSpare_5 : decode cX7_addSpare 5 = .ok (.bipush 84, 2) := by decide +kernel
theorem dX7_addSpare_7 : decode cX7_addSpare 7 = .ok (.iaload, 1) := by decide +kernel
theorem dX7_addSpare_8 : decode cX7_addSpare 8 = .ok (.iconst 5, 1) := by decide +kernel
theorem dX7_addSpare_9 : decode cX7_addSpare 9 = .ok (.if_icmp .ne 7, 3) := by decide +kernel
theorem dX7_addSpare_12 : decode cX7_addSpare 12 = .ok (.iconst 1, 1) := by decide +kernel
theorem dX7_addSpare_13 : decode cX7_addSpare 13 = .ok (.goto 4, 3) := by decide +kernel
theorem dX7_addSpare_16 : decode cX7_addSpare 16 = .ok (.iconst 0, 1) := by decide +kernel
theorem dX7_addSpare_17 : decode cX7_addSpare 17 = .ok (.invokevirtual 112, 3) := by decide +kernel
theorem dX7_addSpare_20 : decode cX7_addSpare 20 = .ok (.ifCond .ne 5, 3) := by decide +kernel
theorem dX7_addSpare_23 : decode cX7_addSpare 23 = .ok (.iconst 0, 1) := by decide +kernel
theorem dX7_addSpare_24 : decode cX7_addSpare 24 = .ok (.ireturn, 1) := by decide +kernel
theorem dX7_addSpare_25 : decode cX7_addSpare 25 = .ok (.aload_n 0, 1) := by decide +kernel
theorem dX7_addSpare_26 : decode cX7_addSpare 26 = .ok (.invokevirtual 115, 3) := by decide +kernel
theorem dX7_addSpare_29 : decode cX7_addSpare 29 = .ok (.aload_n 0, 1) := by decide +kernel
theorem dX7_addSpare_30 : decode cX7_addSpare 30 = .ok (.getfield 7, 3) := by decide +kernel
theorem dX7_addSpare_33 : decode cX7_addSpare 33 = .ok (.bipush 84, 2) := by decide +kernel
theorem dX7_addSpare_35 : decode cX7_addSpare 35 = .ok (.dup2, 1) := by decide +kernel
theorem dX7_addSpare_36 : decode cX7_addSpare 36 = .ok (.iaload, 1) := by decide +kernel
theorem dX7_addSpare_37 : decode cX7_addSpare 37 = .ok (.iconst 1, 1) := by decide +kernel
theorem dX7_addSpare_38 : decode cX7_addSpare 38 = .ok (.iadd, 1) := by decide +kernel
theorem dX7_addSpare_39 : decode cX7_addSpare 39 = .ok (.iastore, 1) := by decide +kernel
theorem dX7_addSpare_40 : decode cX7_addSpare 40 = .ok (.aload_n 0, 1) := by decide +kernel
theorem dX7_addSpare_41 : decode cX7_addSpare 41 = .ok (.getfield 7, 3) := by decide +kernel
theorem dX7_addSpare_44 : decode cX7_addSpare 44 = .ok (.bipush 84, 2) := by decide +kernel
theorem dX7_addSpare_46 : decode cX7_addSpare 46 = .ok (.iaload, 1) := by decide +kernel
theorem dX7_addSpare_47 : decode cX7_addSpare 47 = .ok (.ireturn, 1) := by decide +kernel
set_option maxRecDepth 20000 in
theorem ggX7_corrupt_X7_isDisc : GoodIn wsX7_corrupt wsX7_isDisc := goodIn_r _ [6, 7, 8, 5, 9] (by decide +kernel) (by decide +kernel)
set_option maxRecDepth 20000 in
theorem gX7_corrupt_X7_isDisc : GoodIn wsX7_corrupt (va_wsS RX7 109 yX7_isDisc wsX7_isDisc) := goodIn_app (goodIn_of _ (by decide +kernel)) ggX7_corrupt_X7_isDisc
set_option maxRecDepth 20000 in
theorem ggX7_corrupt_X7_isPlace : GoodIn wsX7_corrupt wsX7_isPlace := goodIn_r _ [12, 7, 8, 5, 9] (by decide +kernel) (by decide +kernel)
set_option maxRecDepth 20000 in
theorem gX7_corrupt_X7_isPlace : GoodIn wsX7_corrupt (va_wsS RX7 139 yX7_isPlace wsX7_isPlace) := goodIn_app (goodIn_of _ (by decide +kernel)) ggX7_corrupt_X7_isPlace
set_option maxRecDepth 20000 in
theorem ggX7_corrupt_X7_in : GoodIn wsX7_corrupt wsX7_in := goodIn_r _ [9] (by decide +kernel) (by decide +kernel)
set_option maxRecDepth 20000 in
theorem gX7_corrupt_X7_in : GoodIn wsX7_corrupt (va_wsS RX7 26 yX7_in wsX7_in) := goodIn_app (goodIn_of _ (by decide +kernel)) ggX7_corrupt_X7_in
set_option maxRecDepth 20000 in
theorem ggX7_corrupt_X7_isUnit : GoodIn wsX7_corrupt wsX7_isUnit := goodIn_r _ [16, 2, 31, 32, 33, 34, 35, 36, 37, 38, 39, 40, 41, 42, 43] (by decide +kernel) (by decide +kernel)
set_option maxRecDepth 20000 in
theorem gX7_corrupt_X7_isUnit : GoodIn wsX7_corrupt (wsV RX7 51 RX7 yX7_isUnit wsX7_isUnit) := goodIn_app (goodIn_of _ (by decide +kernel)) ggX7_corrupt_X7_isUnit
set_option maxRecDepth 20000 in
theorem ggX7_corrupt_X7_holds : GoodIn wsX7_corrupt wsX7_holds := goodIn_r _ [20, 21, 31, 32, 33, 34, 35, 36, 37, 38, 39, 40, 41, 42, 43] (by decide +kernel) (by decide +kernel)
set_option maxRecDepth 20000 in
theorem gX7_corrupt_X7_holds : GoodIn wsX7_corrupt (wsV RX7 112 RX7 yX7_holds wsX7_holds) := goodIn_app (goodIn_of _ (by decide +kernel)) ggX7_corrupt_X7_holds
set_option maxRecDepth 20000 in
theorem ggX7_corrupt_X7_save : GoodIn wsX7_corrupt wsX7_save := goodIn_r _ [25, 26, 27, 2, 28, 29, 5, 30, 31, 32, 33, 34, 35, 36, 37, 38, 39, 40, 41, 42, 43] (by decide +kernel) (by decide +kernel)
set_option maxRecDepth 20000 in
theorem gX7_corrupt_X7_save : GoodIn wsX7_corrupt (wsV RX7 115 RX7 yX7_save wsX7_save) := goodIn_app (goodIn_of _ (by decide +kernel)) ggX7_corrupt_X7_save
theorem dX7_corrupt_0 : decode cX7_corrupt 0 = .ok (.iload_n 1, 1) := by decide +kernel
theorem dX7_corrupt_1 : decode cX7_corrupt 1 = .ok (.invokestatic 109, 3) := by decide +kernel
theorem dX7_corrupt_4 : decode cX7_corrupt 4 = .ok (.ifCond .eq 14, 3) := by decide +kernel
theorem dX7_corrupt_7 : decode cX7_corrupt 7 = .ok (.iload_n 2, 1) := by decide +kernel
theorem dX7_corrupt_8 : decode cX7_corrupt 8 = .ok (.invokestatic 139, 3) := by decide +kernel
theorem dX7_corrupt_11 : decode cX7_corrupt 11 = .ok (.ifCond .eq 7, 3) := by decide +kernel
theorem dX7_corrupt_14 : decode cX7_corrupt 14 = .ok (.iconst 1, 1) := by decide +kernel
theorem dX7_corrupt_15 : decode cX7_corrupt 15 = .ok (.goto 4, 3) := by decide +kernel
theorem dX7_corrupt_18 : decode cX7_corrupt 18 = .ok (.iconst 0, 1) := by decide +kernel
theorem dX7_corrupt_19 : decode cX7_corrupt 19 = .ok (.istore 4, 2) := by decide +kernel
theorem dX7_corrupt_21 : decode cX7_corrupt 21 = .ok (.aload_n 0, 1) := by decide +kernel
theorem dX7_corrupt_22 : decode cX7_corrupt 22 = .ok (.iload 4, 2) := by decide +kernel
theorem dX7_corrupt_24 : decode cX7_corrupt 24 = .ok (.ifCond .ne 7, 3) := by decide +kernel
theorem dX7_corrupt_27 : decode cX7_corrupt 27 = .ok (.iconst 1, 1) := by decide +kernel
theorem dX7_corrupt_28 : decode cX7_corrupt 28 = .ok (.goto 35, 3) := by decide +kernel
theorem dX7_corrupt_31 : decode cX7_corrupt 31 = .ok (.iload_n 3, 1) := by decide +kernel
theorem dX7_corrupt_32 : decode cX7_corrupt 32 = .ok (.iconst 0, 1) := by decide +kernel
theorem dX7_corrupt_33 : decode cX7_corrupt 33 = .ok (.ldc 105, 2) := by decide +kernel
theorem dX7_corrupt_35 : decode cX7_corrupt 35 = .ok (.invokestatic 26, 3) := by decide +kernel
theorem dX7_corrupt_38 : decode cX7_corrupt 38 = .ok (.ifCond .ne 7, 3) := by decide +kernel
theorem dX7_corrupt_41 : decode cX7_corrupt 41 = .ok (.iconst 2, 1) := by decide +kernel
theorem dX7_corrupt_42 : decode cX7_corrupt 42 = .ok (.goto 21, 3) := by decide +kernel
theorem dX7_corrupt_45 : decode cX7_corrupt 45 = .ok (.aload_n 0, 1) := by decide +kernel
theorem dX7_corrupt_46 : decode cX7_corrupt 46 = .ok (.bipush 9, 2) := by decide +kernel
theorem dX7_corrupt_48 : decode cX7_corrupt 48 = .ok (.iload_n 1, 1) := by decide +kernel
theorem dX7_corrupt_49 : decode cX7_corrupt 49 = .ok (.imul, 1) := by decide +kernel
theorem dX7_corrupt_50 : decode cX7_corrupt 50 = .ok (.iload_n 2, 1) := by decide +kernel
theorem dX7_corrupt_51 : decode cX7_corrupt 51 = .ok (.iadd, 1) := by decide +kernel
theorem dX7_corrupt_52 : decode cX7_corrupt 52 = .ok (.invokevirtual 51, 3) := by decide +kernel
theorem dX7_corrupt_55 : decode cX7_corrupt 55 = .ok (.ifCond .eq 7, 3) := by decide +kernel
theorem dX7_corrupt_58 : decode cX7_corrupt 58 = .ok (.iconst 0, 1) := by decide +kernel
theorem dX7_corrupt_59 : decode cX7_corrupt 59 = .ok (.goto 4, 3) := by decide +kernel
theorem dX7_corrupt_62 : decode cX7_corrupt 62 = .ok (.iconst 3, 1) := by decide +kernel
theorem dX7_corrupt_63 : decode cX7_corrupt 63 = .ok (.invokevirtual 112, 3) := by decide +kernel
theorem dX7_corrupt_66 : decode cX7_corrupt 66 = .ok (.ifCond .ne 5, 3) := by decide +kernel
theorem dX7_corrupt_69 : decode cX7_corrupt 69 = .ok (.iconst 0, 1) := by decide +kernel
theorem dX7_corrupt_70 : decode cX7_corrupt 70 = .ok (.ireturn, 1) := by decide +kernel
theorem dX7_corrupt_71 : decode cX7_corrupt 71 = .ok (.aload_n 0, 1) := by decide +kernel
theorem dX7_corrupt_72 : decode cX7_corrupt 72 = .ok (.invokevirtual 115, 3) := by decide +kernel
theorem dX7_corrupt_75 : decode cX7_corrupt 75 = .ok (.aload_n 0, 1) := by decide +kernel
theorem dX7_corrupt_76 : decode cX7_corrupt 76 = .ok (.getfield 7, 3) := by decide +kernel
theorem dX7_corrupt_79 : decode cX7_corrupt 79 = .ok (.bipush 7, 2) := by decide +kernel
theorem dX7_corrupt_81 : decode cX7_corrupt 81 = .ok (.bipush 9, 2) := by decide +kernel
theorem dX7_corrupt_83 : decode cX7_corrupt 83 = .ok (.iload_n 1, 1) := by decide +kernel
theorem dX7_corrupt_84 : decode cX7_corrupt 84 = .ok (.imul, 1) := by decide +kernel
theorem dX7_corrupt_85 : decode cX7_corrupt 85 = .ok (.iadd, 1) := by decide +kernel
theorem dX7_corrupt_86 : decode cX7_corrupt 86 = .ok (.iload_n 2, 1) := by decide +kernel
theorem dX7_corrupt_87 : decode cX7_corrupt 87 = .ok (.iadd, 1) := by decide +kernel
theorem dX7_corrupt_88 : decode cX7_corrupt 88 = .ok (.iaload, 1) := by decide +kernel
theorem dX7_corrupt_89 : decode cX7_corrupt 89 = .ok (.istore 5, 2) := by decide +kernel
theorem dX7_corrupt_91 : decode cX7_corrupt 91 = .ok (.aload_n 0, 1) := by decide +kernel
theorem dX7_corrupt_92 : decode cX7_corrupt 92 = .ok (.getfield 7, 3) := by decide +kernel
theorem dX7_corrupt_95 : decode cX7_corrupt 95 = .ok (.bipush 7, 2) := by decide +kernel
theorem dX7_corrupt_97 : decode cX7_corrupt 97 = .ok (.bipush 9, 2) := by decide +kernel
theorem dX7_corrupt_99 : decode cX7_corrupt 99 = .ok (.iload_n 1, 1) := by decide +kernel
theorem dX7_corrupt_100 : decode cX7_corrupt 100 = .ok (.imul, 1) := by decide +kernel
theorem dX7_corrupt_101 : decode cX7_corrupt 101 = .ok (.iadd, 1) := by decide +kernel
theorem dX7_corrupt_102 : decode cX7_corrupt 102 = .ok (.iload_n 2, 1) := by decide +kernel
theorem dX7_corrupt_103 : decode cX7_corrupt 103 = .ok (.iadd, 1) := by decide +kernel
theorem dX7_corrupt_104 : decode cX7_corrupt 104 = .ok (.iload_n 3, 1) := by decide +kernel
theorem dX7_corrupt_105 : decode cX7_corrupt 105 = .ok (.iastore, 1) := by decide +kernel
theorem dX7_corrupt_106 : decode cX7_corrupt 106 = .ok (.iload 5, 2) := by decide +kernel
theorem dX7_corrupt_108 : decode cX7_corrupt 108 = .ok (.ireturn, 1) := by decide +kernel
set_option maxRecDepth 20000 in
theorem ggX7_scrub_X7_save : GoodIn wsX7_scrub wsX7_save := goodIn_r _ [6, 7, 8, 9, 10, 11, 5, 12, 54, 55, 56, 57, 58, 59, 60, 61, 62, 63, 64, 65, 66] (by decide +kernel) (by decide +kernel)
set_option maxRecDepth 20000 in
theorem gX7_scrub_X7_save : GoodIn wsX7_scrub (wsV RX7 115 RX7 yX7_save wsX7_save) := goodIn_app (goodIn_of _ (by decide +kernel)) ggX7_scrub_X7_save
set_option maxRecDepth 20000 in
theorem ggX7_scrub_X7_doScrub : GoodIn wsX7_scrub wsX7_doScrub := goodIn_r _ [16, 17, 18, 19, 5, 20, 21, 22, 23, 24, 25, 26, 27, 28, 29, 30, 31, 32, 33, 34, 35, 36, 37, 9, 38, 39, 40, 41, 42, 43, 44, 45, 46, 47, 48, 49, 50, 51, 52, 53, 54, 55, 56, 57, 58, 59, 60, 61, 62, 63, 64, 65, 66] (by decide +kernel) (by decide +kernel)
set_option maxRecDepth 20000 in
theorem gX7_scrub_X7_doScrub : GoodIn wsX7_scrub (wsV RX7 142 RX7 yX7_doScrub wsX7_doScrub) := goodIn_app (goodIn_of _ (by decide +kernel)) ggX7_scrub_X7_doScrub
theorem dX7_scrub_0 : decode cX7_scrub 0 = .ok (.aload_n 0, 1) := by decide +kernel
theorem dX7_scrub_1 : decode cX7_scrub 1 = .ok (.iconst 0, 1) := by decide +kernel
theorem dX7_scrub_2 : decode cX7_scrub 2 = .ok (.putfield 22, 3) := by decide +kernel
theorem dX7_scrub_5 : decode cX7_scrub 5 = .ok (.aload_n 0, 1) := by decide +kernel
theorem dX7_scrub_6 : decode cX7_scrub 6 = .ok (.invokevirtual 115, 3) := by decide +kernel
theorem dX7_scrub_9 : decode cX7_scrub 9 = .ok (.aload_n 0, 1) := by decide +kernel
theorem dX7_scrub_10 : decode cX7_scrub 10 = .ok (.invokevirtual 142, 3) := by decide +kernel
theorem dX7_scrub_13 : decode cX7_scrub 13 = .ok (.ireturn, 1) := by decide +kernel
set_option maxRecDepth 20000 in
theorem ggX7_state_X7_isDisc : GoodIn wsX7_state wsX7_isDisc := goodIn_r _ [5, 6, 7, 4, 8] (by decide +kernel) (by decide +kernel)
set_option maxRecDepth 20000 in
theorem gX7_state_X7_isDisc : GoodIn wsX7_state (va_wsS RX7 109 yX7_isDisc wsX7_isDisc) := goodIn_app (goodIn_of _ (by decide +kernel)) ggX7_state_X7_isDisc
set_option maxRecDepth 20000 in
theorem ggX7_state_X7_holds : GoodIn wsX7_state wsX7_holds := goodIn_r _ [12, 13, 14, 15, 16, 17, 18, 19, 20, 21, 22, 23, 24, 25, 26] (by decide +kernel) (by decide +kernel)
set_option maxRecDepth 20000 in
theorem gX7_state_X7_holds : GoodIn wsX7_state (wsV RX7 112 RX7 yX7_holds wsX7_holds) := goodIn_app (goodIn_of _ (by decide +kernel)) ggX7_state_X7_holds
theorem dX7_state_0 : decode cX7_state 0 = .ok (.aload_n 0, 1) := by decide +kernel
theorem dX7_state_1 : decode cX7_state 1 = .ok (.iload_n 1, 1) := by decide +kernel
theorem dX7_state_2 : decode cX7_state 2 = .ok (.invokestatic 109, 3) := by decide +kernel
theorem dX7_state_5 : decode cX7_state 5 = .ok (.ifCond .eq 7, 3) := by decide +kernel
theorem dX7_state_8 : decode cX7_state 8 = .ok (.iconst 0, 1) := by decide +kernel
theorem dX7_state_9 : decode cX7_state 9 = .ok (.goto 4, 3) := by decide +kernel
theorem dX7_state_12 : decode cX7_state 12 = .ok (.iconst 1, 1) := by decide +kernel
theorem dX7_state_13 : decode cX7_state 13 = .ok (.invokevirtual 112, 3) := by decide +kernel
theorem dX7_state_16 : decode cX7_state 16 = .ok (.ifCond .eq 14, 3) := by decide +kernel
theorem dX7_state_19 : decode cX7_state 19 = .ok (.aload_n 0, 1) := by decide +kernel
theorem dX7_state_20 : decode cX7_state 20 = .ok (.getfield 7, 3) := by decide +kernel
theorem dX7_state_23 : decode cX7_state 23 = .ok (.iconst 0, 1) := by decide +kernel
theorem dX7_state_24 : decode cX7_state 24 = .ok (.iload_n 1, 1) := by decide +kernel
theorem dX7_state_25 : decode cX7_state 25 = .ok (.iadd, 1) := by decide +kernel
theorem dX7_state_26 : decode cX7_state 26 = .ok (.iaload, 1) := by decide +kernel
theorem dX7_state_27 : decode cX7_state 27 = .ok (.goto 4, 3) := by decide +kernel
theorem dX7_state_30 : decode cX7_state 30 = .ok (.iconst 0, 1) := by decide +kernel
theorem dX7_state_31 : decode cX7_state 31 = .ok (.ireturn, 1) := by decide +kernel
set_option maxRecDepth 20000 in
theorem ggX7_member_X7_isStripe : GoodIn wsX7_member wsX7_isStripe := goodIn_r _ [4, 5, 6, 3, 7] (by decide +kernel) (by decide +kernel)
set_option maxRecDepth 20000 in
theorem gX7_member_X7_isStripe : GoodIn wsX7_member (va_wsS RX7 145 yX7_isStripe wsX7_isStripe) := goodIn_app (goodIn_of _ (by decide +kernel)) ggX7_member_X7_isStripe
set_option maxRecDepth 20000 in
theorem ggX7_member_X7_in : GoodIn wsX7_member wsX7_in := goodIn_r _ [7] (by decide +kernel) (by decide +kernel)
set_option maxRecDepth 20000 in
theorem gX7_member_X7_in : GoodIn wsX7_member (va_wsS RX7 26 yX7_in wsX7_in) := goodIn_app (goodIn_of _ (by decide +kernel)) ggX7_member_X7_in
set_option maxRecDepth 20000 in
theorem ggX7_member_X7_holds : GoodIn wsX7_member wsX7_holds := goodIn_r _ [11, 12, 16, 17, 18, 19, 20, 21, 22, 23, 24, 25, 26, 27, 28] (by decide +kernel) (by decide +kernel)
set_option maxRecDepth 20000 in
theorem gX7_member_X7_holds : GoodIn wsX7_member (wsV RX7 112 RX7 yX7_holds wsX7_holds) := goodIn_app (goodIn_of _ (by decide +kernel)) ggX7_member_X7_holds
set_option maxRecDepth 20000 in
theorem ggX7_member_X7_memberOf : GoodIn wsX7_member wsX7_memberOf := goodIn_r _ [15] (by decide +kernel) (by decide +kernel)
set_option maxRecDepth 20000 in
theorem gX7_member_X7_memberOf : GoodIn wsX7_member (va_wsS RX7 37 yX7_memberOf wsX7_memberOf) := goodIn_app (goodIn_of _ (by decide +kernel)) ggX7_member_X7_memberOf
theorem dX7_member_0 : decode cX7_member 0 = .ok (.aload_n 0, 1) := by decide +kernel
theorem dX7_member_1 : decode cX7_member 1 = .ok (.iload_n 1, 1) := by decide +kernel
theorem dX7_member_2 : decode cX7_member 2 = .ok (.invokestatic 145, 3) := by decide +kernel
theorem dX7_member_5 : decode cX7_member 5 = .ok (.ifCond .eq 16, 3) := by decide +kernel
theorem dX7_member_8 : decode cX7_member 8 = .ok (.iload_n 2, 1) := by decide +kernel
theorem dX7_member_9 : decode cX7_member 9 = .ok (.iconst 0, 1) := by decide +kernel
theorem dX7_member_10 : decode cX7_member 10 = .ok (.iconst 2, 1) := by decide +kernel
theorem dX7_member_11 : decode cX7_member 11 = .ok (.invokestatic 26, 3) := by decide +kernel
theorem dX7_member_14 : decode cX7_member 14 = .ok (.ifCond .eq 7, 3) := by decide +kernel
theorem dX7_member_17 : decode cX7_member 17 = .ok (.iconst 0, 1) := by decide +kernel
theorem dX7_member_18 : decode cX7_member 18 = .ok (.goto 4, 3) := by decide +kernel
theorem dX7_member_21 : decode cX7_member 21 = .ok (.iconst 1, 1) := by decide +kernel
theorem dX7_member_22 : decode cX7_member 22 = .ok (.invokevirtual 112, 3) := by decide +kernel
theorem dX7_member_25 : decode cX7_member 25 = .ok (.ifCond .eq 11, 3) := by decide +kernel
theorem dX7_member_28 : decode cX7_member 28 = .ok (.iload_n 1, 1) := by decide +kernel
theorem dX7_member_29 : decode cX7_member 29 = .ok (.iload_n 2, 1) := by decide +kernel
theorem dX7_member_30 : decode cX7_member 30 = .ok (.invokestatic 37, 3) := by decide +kernel
theorem dX7_member_33 : decode cX7_member 33 = .ok (.goto 4, 3) := by decide +kernel
theorem dX7_member_36 : decode cX7_member 36 = .ok (.iconst 0, 1) := by decide +kernel
theorem dX7_member_37 : decode cX7_member 37 = .ok (.ireturn, 1) := by decide +kernel
set_option maxRecDepth 20000 in
theorem ggX7_stripeAt_X7_isDisc : GoodIn wsX7_stripeAt wsX7_isDisc := goodIn_r _ [4, 5, 6, 3, 7] (by decide +kernel) (by decide +kernel)
set_option maxRecDepth 20000 in
theorem gX7_stripeAt_X7_isDisc : GoodIn wsX7_stripeAt (va_wsS RX7 109 yX7_isDisc wsX7_isDisc) := goodIn_app (goodIn_of _ (by decide +kernel)) ggX7_stripeAt_X7_isDisc
set_option maxRecDepth 20000 in
theorem ggX7_stripeAt_X7_isPlace : GoodIn wsX7_stripeAt wsX7_isPlace := goodIn_r _ [10, 5, 6, 3, 7] (by decide +kernel) (by decide +kernel)
set_option maxRecDepth 20000 in
theorem gX7_stripeAt_X7_isPlace : GoodIn wsX7_stripeAt (va_wsS RX7 139 yX7_isPlace wsX7_isPlace) := goodIn_app (goodIn_of _ (by decide +kernel)) ggX7_stripeAt_X7_isPlace
set_option maxRecDepth 20000 in
theorem ggX7_stripeAt_X7_holds : GoodIn wsX7_stripeAt wsX7_holds := goodIn_r _ [14, 15, 25, 26, 27, 28, 29, 30, 31, 32, 33, 34, 35, 36, 37] (by decide +kernel) (by decide +kernel)
set_option maxRecDepth 20000 in
theorem gX7_stripeAt_X7_holds : GoodIn wsX7_stripeAt (wsV RX7 112 RX7 yX7_holds wsX7_holds) := goodIn_app (goodIn_of _ (by decide +kernel)) ggX7_stripeAt_X7_holds
set_option maxRecDepth 20000 in
theorem ggX7_stripeAt_X7_stripeOf : GoodIn wsX7_stripeAt wsX7_stripeOf := goodIn_r _ [18, 19, 20, 3, 21, 22, 23, 24] (by decide +kernel) (by decide +kernel)
set_option maxRecDepth 20000 in
theorem gX7_stripeAt_X7_stripeOf : GoodIn wsX7_stripeAt (va_wsS RX7 45 yX7_stripeOf wsX7_stripeOf) := goodIn_app (goodIn_of _ (by decide +kernel)) ggX7_stripeAt_X7_stripeOf
theorem dX7_stripeAt_0 : decode cX7_stripeAt 0 = .ok (.aload_n 0, 1) := by decide +kernel
theorem dX7_stripeAt_1 : decode cX7_stripeAt 1 = .ok (.iload_n 1, 1) := by decide +kernel
theorem dX7_stripeAt_2 : decode cX7_stripeAt 2 = .ok (.invokestatic 109, 3) := by decide +kernel
theorem dX7_stripeAt_5 : decode cX7_stripeAt 5 = .ok (.ifCond .eq 14, 3) := by decide +kernel
theorem dX7_stripeAt_8 : decode cX7_stripeAt 8 = .ok (.iload_n 2, 1) := by decide +kernel
theorem dX7_stripeAt_9 : decode cX7_stripeAt 9 = .ok (.invokestatic 139, 3) := by decide +kernel
theorem dX7_stripeAt_12 : decode cX7_stripeAt 12 = .ok (.ifCond .eq 7, 3) := by decide +kernel
theorem dX7_stripeAt_15 : decode cX7_stripeAt 15 = .ok (.iconst 0, 1) := by decide +kernel
theorem dX7_stripeAt_16 : decode cX7_stripeAt 16 = .ok (.goto 4, 3) := by decide +kernel
theorem dX7_stripeAt_19 : decode cX7_stripeAt 19 = .ok (.iconst 1, 1) := by decide +kernel
theorem dX7_stripeAt_20 : decode cX7_stripeAt 20 = .ok (.invokevirtual 112, 3) := by decide +kernel
theorem dX7_stripeAt_23 : decode cX7_stripeAt 23 = .ok (.ifCond .eq 11, 3) := by decide +kernel
theorem dX7_stripeAt_26 : decode cX7_stripeAt 26 = .ok (.iload_n 1, 1) := by decide +kernel
theorem dX7_stripeAt_27 : decode cX7_stripeAt 27 = .ok (.iload_n 2, 1) := by decide +kernel
theorem dX7_stripeAt_28 : decode cX7_stripeAt 28 = .ok (.invokestatic 45, 3) := by decide +kernel
theorem dX7_stripeAt_31 : decode cX7_stripeAt 31 = .ok (.goto 4, 3) := by decide +kernel
theorem dX7_stripeAt_34 : decode cX7_stripeAt 34 = .ok (.iconst 0, 1) := by decide +kernel
theorem dX7_stripeAt_35 : decode cX7_stripeAt 35 = .ok (.ireturn, 1) := by decide +kernel
set_option maxRecDepth 20000 in
theorem ggX7_place_X7_isStripe : GoodIn wsX7_place wsX7_isStripe := goodIn_r _ [4, 5, 6, 3, 7] (by decide +kernel) (by decide +kernel)
set_option maxRecDepth 20000 in
theorem gX7_place_X7_isStripe : GoodIn wsX7_place (va_wsS RX7 145 yX7_isStripe wsX7_isStripe) := goodIn_app (goodIn_of _ (by decide +kernel)) ggX7_place_X7_isStripe
set_option maxRecDepth 20000 in
theorem ggX7_place_X7_in : GoodIn wsX7_place wsX7_in := goodIn_r _ [7] (by decide +kernel) (by decide +kernel)
set_option maxRecDepth 20000 in
theorem gX7_place_X7_in : GoodIn wsX7_place (va_wsS RX7 26 yX7_in wsX7_in) := goodIn_app (goodIn_of _ (by decide +kernel)) ggX7_place_X7_in
set_option maxRecDepth 20000 in
theorem ggX7_place_X7_holds : GoodIn wsX7_place wsX7_holds := goodIn_r _ [11, 12, 22, 23, 24, 25, 26, 27, 28, 29, 30, 31, 32, 33, 34] (by decide +kernel) (by decide +kernel)
set_option maxRecDepth 20000 in
theorem gX7_place_X7_holds : GoodIn wsX7_place (wsV RX7 112 RX7 yX7_holds wsX7_holds) := goodIn_app (goodIn_of _ (by decide +kernel)) ggX7_place_X7_holds
set_option maxRecDepth 20000 in
theorem ggX7_place_X7_where : GoodIn wsX7_place wsX7_where := goodIn_r _ [15, 16, 17, 3, 18, 19, 20, 21] (by decide +kernel) (by decide +kernel)
set_option maxRecDepth 20000 in
theorem gX7_place_X7_where : GoodIn wsX7_place (va_wsS RX7 48 yX7_where wsX7_where) := goodIn_app (goodIn_of _ (by decide +kernel)) ggX7_place_X7_where
theorem dX7_place_0 : decode cX7_place 0 = .ok (.aload_n 0, 1) := by decide +kernel
theorem dX7_place_1 : decode cX7_place 1 = .ok (.iload_n 1, 1) := by decide +kernel
theorem dX7_place_2 : decode cX7_place 2 = .ok (.invokestatic 145, 3) := by decide +kernel
theorem dX7_place_5 : decode cX7_place 5 = .ok (.ifCond .eq 16, 3) := by decide +kernel
theorem dX7_place_8 : decode cX7_place 8 = .ok (.iload_n 2, 1) := by decide +kernel
theorem dX7_place_9 : decode cX7_place 9 = .ok (.iconst 0, 1) := by decide +kernel
theorem dX7_place_10 : decode cX7_place 10 = .ok (.iconst 2, 1) := by decide +kernel
theorem dX7_place_11 : decode cX7_place 11 = .ok (.invokestatic 26, 3) := by decide +kernel
theorem dX7_place_14 : decode cX7_place 14 = .ok (.ifCond .eq 7, 3) := by decide +kernel
theorem dX7_place_17 : decode cX7_place 17 = .ok (.iconst 0, 1) := by decide +kernel
theorem dX7_place_18 : decode cX7_place 18 = .ok (.goto 4, 3) := by decide +kernel
theorem dX7_place_21 : decode cX7_place 21 = .ok (.iconst 1, 1) := by decide +kernel
theorem dX7_place_22 : decode cX7_place 22 = .ok (.invokevirtual 112, 3) := by decide +kernel
theorem dX7_place_25 : decode cX7_place 25 = .ok (.ifCond .ne 5, 3) := by decide +kernel
theorem dX7_place_28 : decode cX7_place 28 = .ok (.iconst 0, 1) := by decide +kernel
theorem dX7_place_29 : decode cX7_place 29 = .ok (.ireturn, 1) := by decide +kernel
theorem dX7_place_30 : decode cX7_place 30 = .ok (.iload_n 1, 1) := by decide +kernel
theorem dX7_place_31 : decode cX7_place 31 = .ok (.iload_n 2, 1) := by decide +kernel
theorem dX7_place_32 : decode cX7_place 32 = .ok (.invokestatic 48, 3) := by decide +kernel
theorem dX7_place_35 : decode cX7_place 35 = .ok (.istore_n 3, 1) := by decide +kernel
theorem dX7_place_36 : decode cX7_place 36 = .ok (.bipush 10, 2) := by decide +kernel
theorem dX7_place_38 : decode cX7_place 38 = .ok (.iload_n 3, 1) := by decide +kernel
theorem dX7_place_39 : decode cX7_place 39 = .ok (.bipush 9, 2) := by decide +kernel
theorem dX7_place_41 : decode cX7_place 41 = .ok (.idiv, 1) := by decide +kernel
theorem dX7_place_42 : decode cX7_place 42 = .ok (.imul, 1) := by decide +kernel
theorem dX7_place_43 : decode cX7_place 43 = .ok (.iload_n 3, 1) := by decide +kernel
theorem dX7_place_44 : decode cX7_place 44 = .ok (.bipush 9, 2) := by decide +kernel
theorem dX7_place_46 : decode cX7_place 46 = .ok (.irem, 1) := by decide +kernel
theorem dX7_place_47 : decode cX7_place 47 = .ok (.iadd, 1) := by decide +kernel
theorem dX7_place_48 : decode cX7_place 48 = .ok (.ireturn, 1) := by decide +kernel
set_option maxRecDepth 20000 in
theorem ggX7_unitTold_X7_isUnit : GoodIn wsX7_unitTold wsX7_isUnit := goodIn_r _ [6, 1, 7, 8, 9, 10, 11, 12, 13, 14, 15, 16, 17, 18, 19] (by decide +kernel) (by decide +kernel)
set_option maxRecDepth 20000 in
theorem gX7_unitTold_X7_isUnit : GoodIn wsX7_unitTold (wsV RX7 51 RX7 yX7_isUnit wsX7_isUnit) := goodIn_app (goodIn_of _ (by decide +kernel)) ggX7_unitTold_X7_isUnit
theorem dX7_unitTold_0 : decode cX7_unitTold 0 = .ok (.aload_n 0, 1) := by decide +kernel
theorem dX7_unitTold_1 : decode cX7_unitTold 1 = .ok (.iload_n 1, 1) := by decide +kernel
theorem dX7_unitTold_2 : decode cX7_unitTold 2 = .ok (.invokevirtual 51, 3) := by decide +kernel
theorem dX7_unitTold_5 : decode cX7_unitTold 5 = .ok (.ifCond .eq 15, 3) := by decide +kernel
theorem dX7_unitTold_8 : decode cX7_unitTold 8 = .ok (.aload_n 0, 1) := by decide +kernel
theorem dX7_unitTold_9 : decode cX7_unitTold 9 = .ok (.getfield 7, 3) := by decide +kernel
theorem dX7_unitTold_12 : decode cX7_unitTold 12 = .ok (.bipush 7, 2) := by decide +kernel
theorem dX7_unitTold_14 : decode cX7_unitTold 14 = .ok (.iload_n 1, 1) := by decide +kernel
theorem dX7_unitTold_15 : decode cX7_unitTold 15 = .ok (.iadd, 1) := by decide +kernel
theorem dX7_unitTold_16 : decode cX7_unitTold 16 = .ok (.iaload, 1) := by decide +kernel
theorem dX7_unitTold_17 : decode cX7_unitTold 17 = .ok (.goto 4, 3) := by decide +kernel
theorem dX7_unitTold_20 : decode cX7_unitTold 20 = .ok (.iconst (-1), 1) := by decide +kernel
theorem dX7_unitTold_21 : decode cX7_unitTold 21 = .ok (.ireturn, 1) := by decide +kernel
set_option maxRecDepth 20000 in
theorem ggX7_unit_X7_isDisc : GoodIn wsX7_unit wsX7_isDisc := goodIn_r _ [4, 5, 6, 3, 7] (by decide +kernel) (by decide +kernel)
set_option maxRecDepth 20000 in
theorem gX7_unit_X7_isDisc : GoodIn wsX7_unit (va_wsS RX7 109 yX7_isDisc wsX7_isDisc) := goodIn_app (goodIn_of _ (by decide +kernel)) ggX7_unit_X7_isDisc
set_option maxRecDepth 20000 in
theorem ggX7_unit_X7_isPlace : GoodIn wsX7_unit wsX7_isPlace := goodIn_r _ [10, 5, 6, 3, 7] (by decide +kernel) (by decide +kernel)
set_option maxRecDepth 20000 in
theorem gX7_unit_X7_isPlace : GoodIn wsX7_unit (va_wsS RX7 139 yX7_isPlace wsX7_isPlace) := goodIn_app (goodIn_of _ (by decide +kernel)) ggX7_unit_X7_isPlace
set_option maxRecDepth 20000 in
theorem ggX7_unit_X7_holds : GoodIn wsX7_unit wsX7_holds := goodIn_r _ [14, 15, 25, 26, 27, 28, 29, 30, 31, 32, 33, 34, 35, 36, 37] (by decide +kernel) (by decide +kernel)
set_option maxRecDepth 20000 in
theorem gX7_unit_X7_holds : GoodIn wsX7_unit (wsV RX7 112 RX7 yX7_holds wsX7_holds) := goodIn_app (goodIn_of _ (by decide +kernel)) ggX7_unit_X7_holds
set_option maxRecDepth 20000 in
theorem ggX7_unit_X7_unitTold : GoodIn wsX7_unit wsX7_unitTold := goodIn_r _ [19, 20, 21, 22, 23, 3, 24, 25, 26, 27, 28, 29, 30, 31, 32, 33, 34, 35, 36, 37] (by decide +kernel) (by decide +kernel)
set_option maxRecDepth 20000 in
theorem gX7_unit_X7_unitTold : GoodIn wsX7_unit (wsV RX7 148 RX7 yX7_unitTold wsX7_unitTold) := goodIn_app (goodIn_of _ (by decide +kernel)) ggX7_unit_X7_unitTold
theorem dX7_unit_0 : decode cX7_unit 0 = .ok (.aload_n 0, 1) := by decide +kernel
theorem dX7_unit_1 : decode cX7_unit 1 = .ok (.iload_n 1, 1) := by decide +kernel
theorem dX7_unit_2 : decode cX7_unit 2 = .ok (.invokestatic 109, 3) := by decide +kernel
theorem dX7_unit_5 : decode cX7_unit 5 = .ok (.ifCond .eq 14, 3) := by decide +kernel
theorem dX7_unit_8 : decode cX7_unit 8 = .ok (.iload_n 2, 1) := by decide +kernel
theorem dX7_unit_9 : decode cX7_unit 9 = .ok (.invokestatic 139, 3) := by decide +kernel
theorem dX7_unit_12 : decode cX7_unit 12 = .ok (.ifCond .eq 7, 3) := by decide +kernel
theorem dX7_unit_15 : decode cX7_unit 15 = .ok (.iconst 0, 1) := by decide +kernel
theorem dX7_unit_16 : decode cX7_unit 16 = .ok (.goto 4, 3) := by decide +kernel
theorem dX7_unit_19 : decode cX7_unit 19 = .ok (.iconst 1, 1) := by decide +kernel
theorem dX7_unit_20 : decode cX7_unit 20 = .ok (.invokevirtual 112, 3) := by decide +kernel
theorem dX7_unit_23 : decode cX7_unit 23 = .ok (.ifCond .eq 16, 3) := by decide +kernel
theorem dX7_unit_26 : decode cX7_unit 26 = .ok (.aload_n 0, 1) := by decide +kernel
theorem dX7_unit_27 : decode cX7_unit 27 = .ok (.bipush 9, 2) := by decide +kernel
theorem dX7_unit_29 : decode cX7_unit 29 = .ok (.iload_n 1, 1) := by decide +kernel
theorem dX7_unit_30 : decode cX7_unit 30 = .ok (.imul, 1) := by decide +kernel
theorem dX7_unit_31 : decode cX7_unit 31 = .ok (.iload_n 2, 1) := by decide +kernel
theorem dX7_unit_32 : decode cX7_unit 32 = .ok (.iadd, 1) := by decide +kernel
theorem dX7_unit_33 : decode cX7_unit 33 = .ok (.invokevirtual 148, 3) := by decide +kernel
theorem dX7_unit_36 : decode cX7_unit 36 = .ok (.goto 4, 3) := by decide +kernel
theorem dX7_unit_39 : decode cX7_unit 39 = .ok (.iconst 0, 1) := by decide +kernel
theorem dX7_unit_40 : decode cX7_unit 40 = .ok (.ireturn, 1) := by decide +kernel
set_option maxRecDepth 20000 in
theorem ggX7_peek_X7_isAddress : GoodIn wsX7_peek wsX7_isAddress := goodIn_r _ [4, 5, 6, 3, 7] (by decide +kernel) (by decide +kernel)
set_option maxRecDepth 20000 in
theorem gX7_peek_X7_isAddress : GoodIn wsX7_peek (va_wsS RX7 102 yX7_isAddress wsX7_isAddress) := goodIn_app (goodIn_of _ (by decide +kernel)) ggX7_peek_X7_isAddress
set_option maxRecDepth 20000 in
theorem ggX7_peek_X7_holds : GoodIn wsX7_peek wsX7_holds := goodIn_r _ [11, 12, 49, 50, 51, 52, 53, 54, 55, 56, 57, 58, 59, 60, 61] (by decide +kernel) (by decide +kernel)
set_option maxRecDepth 20000 in
theorem gX7_peek_X7_holds : GoodIn wsX7_peek (wsV RX7 112 RX7 yX7_holds wsX7_holds) := goodIn_app (goodIn_of _ (by decide +kernel)) ggX7_peek_X7_holds
set_option maxRecDepth 20000 in
theorem ggX7_peek_X7_look : GoodIn wsX7_peek wsX7_look := goodIn_r _ [16, 17, 18, 19, 3, 20, 21, 22, 23, 24, 25, 26, 27, 28, 29, 30, 31, 32, 33, 34, 35, 36, 37, 38, 39, 40, 41, 42, 43, 44, 45, 46, 47, 48, 49, 50, 51, 52, 53, 54, 55, 56, 57, 58, 59, 60, 61] (by decide +kernel) (by decide +kernel)
set_option maxRecDepth 20000 in
theorem gX7_peek_X7_look : GoodIn wsX7_peek (wsV RX7 71 RX7 yX7_look wsX7_look) := goodIn_app (goodIn_of _ (by decide +kernel)) ggX7_peek_X7_look
theorem dX7_peek_0 : decode cX7_peek 0 = .ok (.aload_n 0, 1) := by decide +kernel
theorem dX7_peek_1 : decode cX7_peek 1 = .ok (.iload_n 1, 1) := by decide +kernel
theorem dX7_peek_2 : decode cX7_peek 2 = .ok (.invokestatic 102, 3) := by decide +kernel
theorem dX7_peek_5 : decode cX7_peek 5 = .ok (.ifCond .eq 7, 3) := by decide +kernel
theorem dX7_peek_8 : decode cX7_peek 8 = .ok (.iconst 0, 1) := by decide +kernel
theorem dX7_peek_9 : decode cX7_peek 9 = .ok (.goto 4, 3) := by decide +kernel
theorem dX7_peek_12 : decode cX7_peek 12 = .ok (.iconst 1, 1) := by decide +kernel
theorem dX7_peek_13 : decode cX7_peek 13 = .ok (.invokevirtual 112, 3) := by decide +kernel
theorem dX7_peek_16 : decode cX7_peek 16 = .ok (.ifCond .eq 16, 3) := by decide +kernel
theorem dX7_peek_19 : decode cX7_peek 19 = .ok (.aload_n 0, 1) := by decide +kernel
theorem dX7_peek_20 : decode cX7_peek 20 = .ok (.iload_n 1, 1) := by decide +kernel
theorem dX7_peek_21 : decode cX7_peek 21 = .ok (.iconst 2, 1) := by decide +kernel
theorem dX7_peek_22 : decode cX7_peek 22 = .ok (.idiv, 1) := by decide +kernel
theorem dX7_peek_23 : decode cX7_peek 23 = .ok (.iload_n 1, 1) := by decide +kernel
theorem dX7_peek_24 : decode cX7_peek 24 = .ok (.iconst 2, 1) := by decide +kernel
theorem dX7_peek_25 : decode cX7_peek 25 = .ok (.irem, 1) := by decide +kernel
theorem dX7_peek_26 : decode cX7_peek 26 = .ok (.invokevirtual 71, 3) := by decide +kernel
theorem dX7_peek_29 : decode cX7_peek 29 = .ok (.goto 4, 3) := by decide +kernel
theorem dX7_peek_32 : decode cX7_peek 32 = .ok (.iconst 0, 1) := by decide +kernel
theorem dX7_peek_33 : decode cX7_peek 33 = .ok (.ireturn, 1) := by decide +kernel
theorem dX7_told_0 : decode cX7_told 0 = .ok (.aload_n 0, 1) := by decide +kernel
theorem dX7_told_1 : decode cX7_told 1 = .ok (.iconst 0, 1) := by decide +kernel
theorem dX7_told_2 : decode cX7_told 2 = .ok (.putfield 22, 3) := by decide +kernel
theorem dX7_told_5 : decode cX7_told 5 = .ok (.iload_n 1, 1) := by decide +kernel
theorem dX7_told_6 : decode cX7_told 6 = .ok (.ireturn, 1) := by decide +kernel
set_option maxRecDepth 20000 in
theorem ggX7_lost_X7_lostAddresses : GoodIn wsX7_lost wsX7_lostAddresses := goodIn_r _ [5, 6, 7, 8, 4, 9, 10, 11, 12, 13, 14, 15, 16, 17, 18, 19, 20, 21, 22, 23, 24, 25, 26, 27, 28, 29, 30, 31, 32, 33, 34, 35, 36, 37, 38, 39, 40, 41, 47, 48, 49, 50, 51, 52, 53, 54, 55, 56, 57, 58, 59] (by decide +kernel) (by decide +kernel)
set_option maxRecDepth 20000 in
theorem gX7_lost_X7_lostAddresses : GoodIn wsX7_lost (wsV RX7 85 RX7 yX7_lostAddresses wsX7_lostAddresses) := goodIn_app (goodIn_of _ (by decide +kernel)) ggX7_lost_X7_lostAddresses
set_option maxRecDepth 20000 in
theorem ggX7_lost_X7_told : GoodIn wsX7_lost wsX7_told := goodIn_r _ [45, 46, 47, 48, 49, 50, 51, 52, 53, 54, 55, 56, 57, 58, 59] (by decide +kernel) (by decide +kernel)
set_option maxRecDepth 20000 in
theorem gX7_lost_X7_told : GoodIn wsX7_lost (wsV RX7 151 RX7 yX7_told wsX7_told) := goodIn_app (goodIn_of _ (by decide +kernel)) ggX7_lost_X7_told
theorem dX7_lost_0 : decode cX7_lost 0 = .ok (.aload_n 0, 1) := by decide +kernel
theorem dX7_lost_1 : decode cX7_lost 1 = .ok (.aload_n 0, 1) := by decide +kernel
theorem dX7_lost_2 : decode cX7_lost 2 = .ok (.invokevirtual 85, 3) := by decide +kernel
theorem dX7_lost_5 : decode cX7_lost 5 = .ok (.invokevirtual 151, 3) := by decide +kernel
theorem dX7_lost_8 : decode cX7_lost 8 = .ok (.ireturn, 1) := by decide +kernel
set_option maxRecDepth 20000 in
theorem ggX7_wrongStripes_X7_isWrong : GoodIn wsX7_wrongStripes wsX7_isWrong := goodIn_r _ [5, 6, 7, 8, 4, 9, 10, 11, 12, 13, 14, 15, 16, 17, 18, 19, 20, 21, 22, 23, 24, 25, 26, 27, 28, 29, 30, 31, 32, 33, 34, 35, 36, 37, 38, 39, 40, 41, 42, 43, 44] (by decide +kernel) (by decide +kernel)
set_option maxRecDepth 20000 in
theorem gX7_wrongStripes_X7_isWrong : GoodIn wsX7_wrongStripes (wsV RX7 99 RX7 yX7_isWrong wsX7_isWrong) := goodIn_app (goodIn_of _ (by decide +kernel)) ggX7_wrongStripes_X7_isWrong
theorem dX7_wrongStripes_0 : decode cX7_wrongStripes 0 = .ok (.iconst 0, 1) := by decide +kernel
theorem dX7_wrongStripes_1 : decode cX7_wrongStripes 1 = .ok (.istore_n 1, 1) := by decide +kernel
theorem dX7_wrongStripes_2 : decode cX7_wrongStripes 2 = .ok (.iconst 0, 1) := by decide +kernel
theorem dX7_wrongStripes_3 : decode cX7_wrongStripes 3 = .ok (.istore_n 2, 1) := by decide +kernel
theorem dX7_wrongStripes_4 : decode cX7_wrongStripes 4 = .ok (.iload_n 2, 1) := by decide +kernel
theorem dX7_wrongStripes_5 : decode cX7_wrongStripes 5 = .ok (.bipush 21, 2) := by decide +kernel
theorem dX7_wrongStripes_7 : decode cX7_wrongStripes 7 = .ok (.if_icmp .ge 25, 3) := by decide +kernel
theorem dX7_wrongStripes_10 : decode cX7_wrongStripes 10 = .ok (.iload_n 1, 1) := by decide +kernel
theorem dX7_wrongStripes_11 : decode cX7_wrongStripes 11 = .ok (.aload_n 0, 1) := by decide +kernel
theorem dX7_wrongStripes_12 : decode cX7_wrongStripes 12 = .ok (.iload_n 2, 1) := by decide +kernel
theorem dX7_wrongStripes_13 : decode cX7_wrongStripes 13 = .ok (.invokevirtual 99, 3) := by decide +kernel
theorem dX7_wrongStripes_16 : decode cX7_wrongStripes 16 = .ok (.ifCond .eq 7, 3) := by decide +kernel
theorem dX7_wrongStripes_19 : decode cX7_wrongStripes 19 = .ok (.iconst 1, 1) := by decide +kernel
theorem dX7_wrongStripes_20 : decode cX7_wrongStripes 20 = .ok (.goto 4, 3) := by decide +kernel
theorem dX7_wrongStripes_23 : decode cX7_wrongStripes 23 = .ok (.iconst 0, 1) := by decide +kernel
theorem dX7_wrongStripes_24 : decode cX7_wrongStripes 24 = .ok (.iadd, 1) := by decide +kernel
theorem dX7_wrongStripes_25 : decode cX7_wrongStripes 25 = .ok (.istore_n 1, 1) := by decide +kernel
theorem dX7_wrongStripes_26 : decode cX7_wrongStripes 26 = .ok (.iinc 2 1, 3) := by decide +kernel
theorem dX7_wrongStripes_29 : decode cX7_wrongStripes 29 = .ok (.goto (-25), 3) := by decide +kernel
theorem dX7_wrongStripes_32 : decode cX7_wrongStripes 32 = .ok (.iload_n 1, 1) := by decide +kernel
theorem dX7_wrongStripes_33 : decode cX7_wrongStripes 33 = .ok (.ireturn, 1) := by decide +kernel
set_option maxRecDepth 20000 in
theorem ggX7_wrong_X7_wrongStripes : GoodIn wsX7_wrong wsX7_wrongStripes := goodIn_r _ [5, 6, 7, 8, 4, 9, 10, 11, 12, 13, 14, 15, 16, 17, 18, 19, 20, 21, 22, 23, 24, 25, 26, 27, 28, 29, 30, 31, 32, 33, 34, 35, 41, 42, 43, 44, 45, 46, 47, 48, 49, 50, 51, 52, 53] (by decide +kernel) (by decide +kernel)
set_option maxRecDepth 20000 in
theorem gX7_wrong_X7_wrongStripes : GoodIn wsX7_wrong (wsV RX7 154 RX7 yX7_wrongStripes wsX7_wrongStripes) := goodIn_app (goodIn_of _ (by decide +kernel)) ggX7_wrong_X7_wrongStripes
set_option maxRecDepth 20000 in
theorem ggX7_wrong_X7_told : GoodIn wsX7_wrong wsX7_told := goodIn_r _ [39, 40, 41, 42, 43, 44, 45, 46, 47, 48, 49, 50, 51, 52, 53] (by decide +kernel) (by decide +kernel)
set_option maxRecDepth 20000 in
theorem gX7_wrong_X7_told : GoodIn wsX7_wrong (wsV RX7 151 RX7 yX7_told wsX7_told) := goodIn_app (goodIn_of _ (by decide +kernel)) ggX7_wrong_X7_told
theorem dX7_wrong_0 : decode cX7_wrong 0 = .ok (.aload_n 0, 1) := by decide +kernel
theorem dX7_wrong_1 : decode cX7_wrong 1 = .ok (.aload_n 0, 1) := by decide +kernel
theorem dX7_wrong_2 : decode cX7_wrong 2 = .ok (.invokevirtual 154, 3) := by decide +kernel
theorem dX7_wrong_5 : decode cX7_wrong 5 = .ok (.invokevirtual 151, 3) := by decide +kernel
theorem dX7_wrong_8 : decode cX7_wrong 8 = .ok (.ireturn, 1) := by decide +kernel
set_option maxRecDepth 20000 in
theorem ggX7_spares_X7_told : GoodIn wsX7_spares wsX7_told := goodIn_r _ [6, 7, 8, 9, 10, 11, 12, 13, 14, 15, 16, 17, 18, 19, 20] (by decide +kernel) (by decide +kernel)
set_option maxRecDepth 20000 in
theorem gX7_spares_X7_told : GoodIn wsX7_spares (wsV RX7 151 RX7 yX7_told wsX7_told) := goodIn_app (goodIn_of _ (by decide +kernel)) ggX7_spares_X7_told
theorem dX7_spares_0 : decode cX7_spares 0 = .ok (.aload_n 0, 1) := by decide +kernel
theorem dX7_spares_1 : decode cX7_spares 1 = .ok (.aload_n 0, 1) := by decide +kernel
theorem dX7_spares_2 : decode cX7_spares 2 = .ok (.getfield 7, 3) := by decide +kernel
theorem dX7_spares_5 : decode cX7_spares 5 = .ok (.bipush 84, 2) := by decide +kernel
theorem dX7_spares_7 : decode cX7_spares 7 = .ok (.iaload, 1) := by decide +kernel
theorem dX7_spares_8 : decode cX7_spares 8 = .ok (.invokevirtual 151, 3) := by decide +kernel
theorem dX7_spares_11 : decode cX7_spares 11 = .ok (.ireturn, 1) := by decide +kernel
set_option maxRecDepth 20000 in
theorem ggX7_losses_X7_told : GoodIn wsX7_losses wsX7_told := goodIn_r _ [6, 7, 8, 9, 10, 11, 12, 13, 14, 15, 16, 17, 18, 19, 20] (by decide +kernel) (by decide +kernel)
set_option maxRecDepth 20000 in
theorem gX7_losses_X7_told : GoodIn wsX7_losses (wsV RX7 151 RX7 yX7_told wsX7_told) := goodIn_app (goodIn_of _ (by decide +kernel)) ggX7_losses_X7_told
theorem dX7_losses_0 : decode cX7_losses 0 = .ok (.aload_n 0, 1) := by decide +kernel
theorem dX7_losses_1 : decode cX7_losses 1 = .ok (.aload_n 0, 1) := by decide +kernel
theorem dX7_losses_2 : decode cX7_losses 2 = .ok (.getfield 7, 3) := by decide +kernel
theorem dX7_losses_5 : decode cX7_losses 5 = .ok (.bipush 85, 2) := by decide +kernel
theorem dX7_losses_7 : decode cX7_losses 7 = .ok (.iaload, 1) := by decide +kernel
theorem dX7_losses_8 : decode cX7_losses 8 = .ok (.invokevirtual 151, 3) := by decide +kernel
theorem dX7_losses_11 : decode cX7_losses 11 = .ok (.ireturn, 1) := by decide +kernel
set_option maxRecDepth 20000 in
theorem ggX7_reads_X7_isDisc : GoodIn wsX7_reads wsX7_isDisc := goodIn_r _ [5, 6, 7, 4, 8] (by decide +kernel) (by decide +kernel)
set_option maxRecDepth 20000 in
theorem gX7_reads_X7_isDisc : GoodIn wsX7_reads (va_wsS RX7 109 yX7_isDisc wsX7_isDisc) := goodIn_app (goodIn_of _ (by decide +kernel)) ggX7_reads_X7_isDisc
set_option maxRecDepth 20000 in
theorem ggX7_reads_X7_holds : GoodIn wsX7_reads wsX7_holds := goodIn_r _ [12, 13, 14, 15, 16, 17, 18, 19, 20, 21, 22, 23, 24, 25, 26] (by decide +kernel) (by decide +kernel)
set_option maxRecDepth 20000 in
theorem gX7_reads_X7_holds : GoodIn wsX7_reads (wsV RX7 112 RX7 yX7_holds wsX7_holds) := goodIn_app (goodIn_of _ (by decide +kernel)) ggX7_reads_X7_holds
theorem dX7_reads_0 : decode cX7_reads 0 = .ok (.aload_n 0, 1) := by decide +kernel
theorem dX7_reads_1 : decode cX7_reads 1 = .ok (.iload_n 1, 1) := by decide +kernel
theorem dX7_reads_2 : decode cX7_reads 2 = .ok (.invokestatic 109, 3) := by decide +kernel
theorem dX7_reads_5 : decode cX7_reads 5 = .ok (.ifCond .eq 7, 3) := by decide +kernel
theorem dX7_reads_8 : decode cX7_reads 8 = .ok (.iconst 0, 1) := by decide +kernel
theorem dX7_reads_9 : decode cX7_reads 9 = .ok (.goto 4, 3) := by decide +kernel
theorem dX7_reads_12 : decode cX7_reads 12 = .ok (.iconst 1, 1) := by decide +kernel
theorem dX7_reads_13 : decode cX7_reads 13 = .ok (.invokevirtual 112, 3) := by decide +kernel
theorem dX7_reads_16 : decode cX7_reads 16 = .ok (.ifCond .eq 15, 3) := by decide +kernel
theorem dX7_reads_19 : decode cX7_reads 19 = .ok (.aload_n 0, 1) := by decide +kernel
theorem dX7_reads_20 : decode cX7_reads 20 = .ok (.getfield 7, 3) := by decide +kernel
theorem dX7_reads_23 : decode cX7_reads 23 = .ok (.bipush 70, 2) := by decide +kernel
theorem dX7_reads_25 : decode cX7_reads 25 = .ok (.iload_n 1, 1) := by decide +kernel
theorem dX7_reads_26 : decode cX7_reads 26 = .ok (.iadd, 1) := by decide +kernel
theorem dX7_reads_27 : decode cX7_reads 27 = .ok (.iaload, 1) := by decide +kernel
theorem dX7_reads_28 : decode cX7_reads 28 = .ok (.goto 4, 3) := by decide +kernel
theorem dX7_reads_31 : decode cX7_reads 31 = .ok (.iconst 0, 1) := by decide +kernel
theorem dX7_reads_32 : decode cX7_reads 32 = .ok (.ireturn, 1) := by decide +kernel
set_option maxRecDepth 20000 in
theorem ggX7_writes_X7_isDisc : GoodIn wsX7_writes wsX7_isDisc := goodIn_r _ [5, 6, 7, 4, 8] (by decide +kernel) (by decide +kernel)
set_option maxRecDepth 20000 in
theorem gX7_writes_X7_isDisc : GoodIn wsX7_writes (va_wsS RX7 109 yX7_isDisc wsX7_isDisc) := goodIn_app (goodIn_of _ (by decide +kernel)) ggX7_writes_X7_isDisc
set_option maxRecDepth 20000 in
theorem ggX7_writes_X7_holds : GoodIn wsX7_writes wsX7_holds := goodIn_r _ [12, 13, 14, 15, 16, 17, 18, 19, 20, 21, 22, 23, 24, 25, 26] (by decide +kernel) (by decide +kernel)
set_option maxRecDepth 20000 in
theorem gX7_writes_X7_holds : GoodIn wsX7_writes (wsV RX7 112 RX7 yX7_holds wsX7_holds) := goodIn_app (goodIn_of _ (by decide +kernel)) ggX7_writes_X7_holds
theorem dX7_writes_0 : decode cX7_writes 0 = .ok (.aload_n 0, 1) := by decide +kernel
theorem dX7_writes_1 : decode cX7_writes 1 = .ok (.iload_n 1, 1) := by decide +kernel
theorem dX7_writes_2 : decode cX7_writes 2 = .ok (.invokestatic 109, 3) := by decide +kernel
theorem dX7_writes_5 : decode cX7_writes 5 = .ok (.ifCond .eq 7, 3) := by decide +kernel
theorem dX7_writes_8 : decode cX7_writes 8 = .ok (.iconst 0, 1) := by decide +kernel
theorem dX7_writes_9 : decode cX7_writes 9 = .ok (.goto 4, 3) := by decide +kernel
theorem dX7_writes_12 : decode cX7_writes 12 = .ok (.iconst 1, 1) := by decide +kernel
theorem dX7_writes_13 : decode cX7_writes 13 = .ok (.invokevirtual 112, 3) := by decide +kernel
theorem dX7_writes_16 : decode cX7_writes 16 = .ok (.ifCond .eq 15, 3) := by decide +kernel
theorem dX7_writes_19 : decode cX7_writes 19 = .ok (.aload_n 0, 1) := by decide +kernel
theorem dX7_writes_20 : decode cX7_writes 20 = .ok (.getfield 7, 3) := by decide +kernel
theorem dX7_writes_23 : decode cX7_writes 23 = .ok (.bipush 77, 2) := by decide +kernel
theorem dX7_writes_25 : decode cX7_writes 25 = .ok (.iload_n 1, 1) := by decide +kernel
theorem dX7_writes_26 : decode cX7_writes 26 = .ok (.iadd, 1) := by decide +kernel
theorem dX7_writes_27 : decode cX7_writes 27 = .ok (.iaload, 1) := by decide +kernel
theorem dX7_writes_28 : decode cX7_writes 28 = .ok (.goto 4, 3) := by decide +kernel
theorem dX7_writes_31 : decode cX7_writes 31 = .ok (.iconst 0, 1) := by decide +kernel
theorem dX7_writes_32 : decode cX7_writes 32 = .ok (.ireturn, 1) := by decide +kernel
theorem dX7_balance_0 : decode cX7_balance 0 = .ok (.aload_n 0, 1) := by decide +kernel
theorem dX7_balance_1 : decode cX7_balance 1 = .ok (.iconst 0, 1) := by decide +kernel
theorem dX7_balance_2 : decode cX7_balance 2 = .ok (.putfield 22, 3) := by decide +kernel
theorem dX7_balance_5 : decode cX7_balance 5 = .ok (.aload_n 0, 1) := by decide +kernel
theorem dX7_balance_6 : decode cX7_balance 6 = .ok (.getfield 7, 3) := by decide +kernel
theorem dX7_balance_9 : decode cX7_balance 9 = .ok (.bipush 70, 2) := by decide +kernel
theorem dX7_balance_11 : decode cX7_balance 11 = .ok (.iaload, 1) := by decide +kernel
theorem dX7_balance_12 : decode cX7_balance 12 = .ok (.istore_n 1, 1) := by decide +kernel
theorem dX7_balance_13 : decode cX7_balance 13 = .ok (.aload_n 0, 1) := by decide +kernel
theorem dX7_balance_14 : decode cX7_balance 14 = .ok (.getfield 7, 3) := by decide +kernel
theorem dX7_balance_17 : decode cX7_balance 17 = .ok (.bipush 70, 2) := by decide +kernel
theorem dX7_balance_19 : decode cX7_balance 19 = .ok (.iaload, 1) := by decide +kernel
theorem dX7_balance_20 : decode cX7_balance 20 = .ok (.istore_n 2, 1) := by decide +kernel
theorem dX7_balance_21 : decode cX7_balance 21 = .ok (.iconst 1, 1) := by decide +kernel
theorem dX7_balance_22 : decode cX7_balance 22 = .ok (.istore_n 3, 1) := by decide +kernel
theorem dX7_balance_23 : decode cX7_balance 23 = .ok (.iload_n 3, 1) := by decide +kernel
theorem dX7_balance_24 : decode cX7_balance 24 = .ok (.bipush 7, 2) := by decide +kernel
theorem dX7_balance_26 : decode cX7_balance 26 = .ok (.if_icmp .ge 63, 3) := by decide +kernel
theorem dX7_balance_29 : decode cX7_balance 29 = .ok (.aload_n 0, 1) := by decide +kernel
theorem dX7_balance_30 : decode cX7_balance 30 = .ok (.getfield 7, 3) := by decide +kernel
theorem dX7_balance_33 : decode cX7_balance 33 = .ok (.bipush 70, 2) := by decide +kernel
theorem dX7_balance_35 : decode cX7_balance 35 = .ok (.iload_n 3, 1) := by decide +kernel
theorem dX7_balance_36 : decode cX7_balance 36 = .ok (.iadd, 1) := by decide +kernel
theorem dX7_balance_37 : decode cX7_balance 37 = .ok (.iaload, 1) := by decide +kernel
theorem dX7_balance_38 : decode cX7_balance 38 = .ok (.iload_n 1, 1) := by decide +kernel
theorem dX7_balance_39 : decode cX7_balance 39 = .ok (.if_icmp .ge 15, 3) := by decide +kernel
theorem dX7_balance_42 : decode cX7_balance 42 = .ok (.aload_n 0, 1) := by decide +kernel
theorem dX7_balance_43 : decode cX7_balance 43 = .ok (.getfield 7, 3) := by decide +kernel
theorem dX7_balance_46 : decode cX7_balance 46 = .ok (.bipush 70, 2) := by decide +kernel
theorem dX7_balance_48 : decode cX7_balance 48 = .ok (.iload_n 3, 1) := by decide +kernel
theorem dX7_balance_49 : decode cX7_balance 49 = .ok (.iadd, 1) := by decide +kernel
theorem dX7_balance_50 : decode cX7_balance 50 = .ok (.iaload, 1) := by decide +kernel
theorem dX7_balance_51 : decode cX7_balance 51 = .ok (.goto 4, 3) := by decide +kernel
theorem dX7_balance_54 : decode cX7_balance 54 = .ok (.iload_n 1, 1) := by decide +kernel
theorem dX7_balance_55 : decode cX7_balance 55 = .ok (.istore_n 1, 1) := by decide +kernel
theorem dX7_balance_56 : decode cX7_balance 56 = .ok (.aload_n 0, 1) := by decide +kernel
theorem dX7_balance_57 : decode cX7_balance 57 = .ok (.getfield 7, 3) := by decide +kernel
theorem dX7_balance_60 : decode cX7_balance 60 = .ok (.bipush 70, 2) := by decide +kernel
theorem dX7_balance_62 : decode cX7_balance 62 = .ok (.iload_n 3, 1) := by decide +kernel
theorem dX7_balance_63 : decode cX7_balance 63 = .ok (.iadd, 1) := by decide +kernel
theorem dX7_balance_64 : decode cX7_balance 64 = .ok (.iaload, 1) := by decide +kernel
theorem dX7_balance_65 : decode cX7_balance 65 = .ok (.iload_n 2, 1) := by decide +kernel
theorem dX7_balance_66 : decode cX7_balance 66 = .ok (.if_icmp .le 15, 3) := by decide +kernel
theorem dX7_balance_69 : decode cX7_balance 69 = .ok (.aload_n 0, 1) := by decide +kernel
theorem dX7_balance_70 : decode cX7_balance 70 = .ok (.getfield 7, 3) := by decide +kernel
theorem dX7_balance_73 : decode cX7_balance 73 = .ok (.bipush 70, 2) := by decide +kernel
theorem dX7_balance_75 : decode cX7_balance 75 = .ok (.iload_n 3, 1) := by decide +kernel
theorem dX7_balance_76 : decode cX7_balance 76 = .ok (.iadd, 1) := by decide +kernel
theorem dX7_balance_77 : decode cX7_balance 77 = .ok (.iaload, 1) := by decide +kernel
theorem dX7_balance_78 : decode cX7_balance 78 = .ok (.goto 4, 3) := by decide +kernel
theorem dX7_balance_81 : decode cX7_balance 81 = .ok (.iload_n 2, 1) := by decide +kernel
theorem dX7_balance_82 : decode cX7_balance 82 = .ok (.istore_n 2, 1) := by decide +kernel
theorem dX7_balance_83 : decode cX7_balance 83 = .ok (.iinc 3 1, 3) := by decide +kernel
theorem dX7_balance_86 : decode cX7_balance 86 = .ok (.goto (-63), 3) := by decide +kernel
theorem dX7_balance_89 : decode cX7_balance 89 = .ok (.iload_n 2, 1) := by decide +kernel
theorem dX7_balance_90 : decode cX7_balance 90 = .ok (.ifCond .ne 7, 3) := by decide +kernel
theorem dX7_balance_93 : decode cX7_balance 93 = .ok (.dconst 1, 1) := by decide +kernel
theorem dX7_balance_94 : decode cX7_balance 94 = .ok (.goto 8, 3) := by decide +kernel
theorem dX7_balance_97 : decode cX7_balance 97 = .ok (.iload_n 1, 1) := by decide +kernel
theorem dX7_balance_98 : decode cX7_balance 98 = .ok (.i2d, 1) := by decide +kernel
theorem dX7_balance_99 : decode cX7_balance 99 = .ok (.iload_n 2, 1) := by decide +kernel
theorem dX7_balance_100 : decode cX7_balance 100 = .ok (.i2d, 1) := by decide +kernel
theorem dX7_balance_101 : decode cX7_balance 101 = .ok (.ddiv, 1) := by decide +kernel
theorem dX7_balance_102 : decode cX7_balance 102 = .ok (.dreturn, 1) := by decide +kernel
set_option maxRecDepth 20000 in
theorem ggX7_lostBy_X7_copy : GoodIn wsX7_lostBy wsX7_copy := goodIn_r _ [6] (by decide +kernel) (by decide +kernel)
set_option maxRecDepth 20000 in
theorem gX7_lostBy_X7_copy : GoodIn wsX7_lostBy (va_wsS RX7 33 yX7_copy wsX7_copy) := goodIn_app (goodIn_of _ (by decide +kernel)) ggX7_lostBy_X7_copy
set_option maxRecDepth 20000 in
theorem ggX7_lostBy_X7_doFail : GoodIn wsX7_lostBy wsX7_doFail := goodIn_r _ [10, 1, 11, 12, 13, 5, 14, 15, 16, 17, 18, 19, 20, 21, 22, 23, 24, 25, 26, 27, 28, 29, 30, 31, 32, 33, 34, 35, 36, 37, 38, 39, 40, 41, 42, 43, 44, 45, 46, 47, 48, 49, 50, 51, 52, 53, 54, 55, 56, 57, 58, 59, 60, 61, 62] (by decide +kernel) (by decide +kernel)
set_option maxRecDepth 20000 in
theorem gX7_lostBy_X7_doFail : GoodIn wsX7_lostBy (wsV RX7 127 RX7 yX7_doFail wsX7_doFail) := goodIn_app (goodIn_of _ (by decide +kernel)) ggX7_lostBy_X7_doFail
theorem dX7_lostBy_0 : decode cX7_lostBy 0 = .ok (.aload_n 0, 1) := by decide +kernel
theorem dX7_lostBy_1 : decode cX7_lostBy 1 = .ok (.getfield 7, 3) := by decide +kernel
theorem dX7_lostBy_4 : decode cX7_lostBy 4 = .ok (.iconst 0, 1) := by decide +kernel
theorem dX7_lostBy_5 : decode cX7_lostBy 5 = .ok (.aload_n 0, 1) := by decide +kernel
theorem dX7_lostBy_6 : decode cX7_lostBy 6 = .ok (.getfield 16, 3) := by decide +kernel
theorem dX7_lostBy_9 : decode cX7_lostBy 9 = .ok (.iconst 0, 1) := by decide +kernel
theorem dX7_lostBy_10 : decode cX7_lostBy 10 = .ok (.invokestatic 33, 3) := by decide +kernel
theorem dX7_lostBy_13 : decode cX7_lostBy 13 = .ok (.aload_n 0, 1) := by decide +kernel
theorem dX7_lostBy_14 : decode cX7_lostBy 14 = .ok (.iload_n 1, 1) := by decide +kernel
theorem dX7_lostBy_15 : decode cX7_lostBy 15 = .ok (.invokevirtual 127, 3) := by decide +kernel
theorem dX7_lostBy_18 : decode cX7_lostBy 18 = .ok (.istore_n 2, 1) := by decide +kernel
theorem dX7_lostBy_19 : decode cX7_lostBy 19 = .ok (.aload_n 0, 1) := by decide +kernel
theorem dX7_lostBy_20 : decode cX7_lostBy 20 = .ok (.getfield 16, 3) := by decide +kernel
theorem dX7_lostBy_23 : decode cX7_lostBy 23 = .ok (.iconst 0, 1) := by decide +kernel
theorem dX7_lostBy_24 : decode cX7_lostBy 24 = .ok (.aload_n 0, 1) := by decide +kernel
theorem dX7_lostBy_25 : decode cX7_lostBy 25 = .ok (.getfield 7, 3) := by decide +kernel
theorem dX7_lostBy_28 : decode cX7_lostBy 28 = .ok (.iconst 0, 1) := by decide +kernel
theorem dX7_lostBy_29 : decode cX7_lostBy 29 = .ok (.invokestatic 33, 3) := by decide +kernel
theorem dX7_lostBy_32 : decode cX7_lostBy 32 = .ok (.iload_n 2, 1) := by decide +kernel
theorem dX7_lostBy_33 : decode cX7_lostBy 33 = .ok (.ireturn, 1) := by decide +kernel
set_option maxRecDepth 20000 in
theorem ggX7_lostIfFailed_X7_isDisc : GoodIn wsX7_lostIfFailed wsX7_isDisc := goodIn_r _ [4, 5, 6, 3, 7] (by decide +kernel) (by decide +kernel)
set_option maxRecDepth 20000 in
theorem gX7_lostIfFailed_X7_isDisc : GoodIn wsX7_lostIfFailed (va_wsS RX7 109 yX7_isDisc wsX7_isDisc) := goodIn_app (goodIn_of _ (by decide +kernel)) ggX7_lostIfFailed_X7_isDisc
set_option maxRecDepth 20000 in
theorem ggX7_lostIfFailed_X7_holds : GoodIn wsX7_lostIfFailed wsX7_holds := goodIn_r _ [11, 12, 65, 66, 67, 68, 69, 70, 71, 72, 73, 74, 75, 76, 77] (by decide +kernel) (by decide +kernel)
set_option maxRecDepth 20000 in
theorem gX7_lostIfFailed_X7_holds : GoodIn wsX7_lostIfFailed (wsV RX7 112 RX7 yX7_holds wsX7_holds) := goodIn_app (goodIn_of _ (by decide +kernel)) ggX7_lostIfFailed_X7_holds
set_option maxRecDepth 20000 in
theorem ggX7_lostIfFailed_X7_lostBy : GoodIn wsX7_lostIfFailed wsX7_lostBy := goodIn_r _ [16, 17, 18, 19, 20, 3, 21, 22, 23, 24, 25, 26, 27, 28, 29, 30, 31, 32, 33, 34, 35, 36, 37, 38, 39, 40, 41, 42, 43, 44, 45, 46, 47, 48, 49, 50, 51, 52, 53, 54, 55, 56, 57, 58, 59, 60, 61, 62, 63, 64, 65, 66, 67, 68, 69, 70, 71, 72, 73, 74, 75, 76, 77] (by decide +kernel) (by decide +kernel)
set_option maxRecDepth 20000 in
theorem gX7_lostIfFailed_X7_lostBy : GoodIn wsX7_lostIfFailed (wsV RX7 157 RX7 yX7_lostBy wsX7_lostBy) := goodIn_app (goodIn_of _ (by decide +kernel)) ggX7_lostIfFailed_X7_lostBy
theorem dX7_lostIfFailed_0 : decode cX7_lostIfFailed 0 = .ok (.aload_n 0, 1) := by decide +kernel
theorem dX7_lostIfFailed_1 : decode cX7_lostIfFailed 1 = .ok (.iload_n 1, 1) := by decide +kernel
theorem dX7_lostIfFailed_2 : decode cX7_lostIfFailed 2 = .ok (.invokestatic 109, 3) := by decide +kernel
theorem dX7_lostIfFailed_5 : decode cX7_lostIfFailed 5 = .ok (.ifCond .eq 7, 3) := by decide +kernel
theorem dX7_lostIfFailed_8 : decode cX7_lostIfFailed 8 = .ok (.iconst 0, 1) := by decide +kernel
theorem dX7_lostIfFailed_9 : decode cX7_lostIfFailed 9 = .ok (.goto 4, 3) := by decide +kernel
theorem dX7_lostIfFailed_12 : decode cX7_lostIfFailed 12 = .ok (.iconst 1, 1) := by decide +kernel
theorem dX7_lostIfFailed_13 : decode cX7_lostIfFailed 13 = .ok (.invokevirtual 112, 3) := by decide +kernel
theorem dX7_lostIfFailed_16 : decode cX7_lostIfFailed 16 = .ok (.ifCond .eq 11, 3) := by decide +kernel
theorem dX7_lostIfFailed_19 : decode cX7_lostIfFailed 19 = .ok (.aload_n 0, 1) := by decide +kernel
theorem dX7_lostIfFailed_20 : decode cX7_lostIfFailed 20 = .ok (.iload_n 1, 1) := by decide +kernel
theorem dX7_lostIfFailed_21 : decode cX7_lostIfFailed 21 = .ok (.invokevirtual 157, 3) := by decide +kernel
theorem dX7_lostIfFailed_24 : decode cX7_lostIfFailed 24 = .ok (.goto 4, 3) := by decide +kernel
theorem dX7_lostIfFailed_27 : decode cX7_lostIfFailed 27 = .ok (.iconst 0, 1) := by decide +kernel
theorem dX7_lostIfFailed_28 : decode cX7_lostIfFailed 28 = .ok (.ireturn, 1) := by decide +kernel
set_option maxRecDepth 20000 in
theorem ggX7_loadOf_X7_isDisc : GoodIn wsX7_loadOf wsX7_isDisc := goodIn_r _ [4, 5, 6, 3, 7] (by decide +kernel) (by decide +kernel)
set_option maxRecDepth 20000 in
theorem gX7_loadOf_X7_isDisc : GoodIn wsX7_loadOf (va_wsS RX7 109 yX7_isDisc wsX7_isDisc) := goodIn_app (goodIn_of _ (by decide +kernel)) ggX7_loadOf_X7_isDisc
set_option maxRecDepth 20000 in
theorem ggX7_loadOf_X7_holds : GoodIn wsX7_loadOf wsX7_holds := goodIn_r _ [11, 12, 19, 20, 21, 22, 23, 24, 25, 26, 27, 28, 29, 30, 31] (by decide +kernel) (by decide +kernel)
set_option maxRecDepth 20000 in
theorem gX7_loadOf_X7_holds : GoodIn wsX7_loadOf (wsV RX7 112 RX7 yX7_holds wsX7_holds) := goodIn_app (goodIn_of _ (by decide +kernel)) ggX7_loadOf_X7_holds
set_option maxRecDepth 20000 in
theorem ggX7_loadOf_X7_lies : GoodIn wsX7_loadOf wsX7_lies := goodIn_r _ [15, 16, 17, 3, 18] (by decide +kernel) (by decide +kernel)
set_option maxRecDepth 20000 in
theorem gX7_loadOf_X7_lies : GoodIn wsX7_loadOf (va_wsS RX7 41 yX7_lies wsX7_lies) := goodIn_app (goodIn_of _ (by decide +kernel)) ggX7_loadOf_X7_lies
theorem dX7_loadOf_0 : decode cX7_loadOf 0 = .ok (.aload_n 0, 1) := by decide +kernel
theorem dX7_loadOf_1 : decode cX7_loadOf 1 = .ok (.iload_n 1, 1) := by decide +kernel
theorem dX7_loadOf_2 : decode cX7_loadOf 2 = .ok (.invokestatic 109, 3) := by decide +kernel
theorem dX7_loadOf_5 : decode cX7_loadOf 5 = .ok (.ifCond .eq 14, 3) := by decide +kernel
theorem dX7_loadOf_8 : decode cX7_loadOf 8 = .ok (.iload_n 2, 1) := by decide +kernel
theorem dX7_loadOf_9 : decode cX7_loadOf 9 = .ok (.invokestatic 109, 3) := by decide +kernel
theorem dX7_loadOf_12 : decode cX7_loadOf 12 = .ok (.ifCond .eq 7, 3) := by decide +kernel
theorem dX7_loadOf_15 : decode cX7_loadOf 15 = .ok (.iconst 0, 1) := by decide +kernel
theorem dX7_loadOf_16 : decode cX7_loadOf 16 = .ok (.goto 4, 3) := by decide +kernel
theorem dX7_loadOf_19 : decode cX7_loadOf 19 = .ok (.iconst 1, 1) := by decide +kernel
theorem dX7_loadOf_20 : decode cX7_loadOf 20 = .ok (.invokevirtual 112, 3) := by decide +kernel
theorem dX7_loadOf_23 : decode cX7_loadOf 23 = .ok (.ifCond .ne 5, 3) := by decide +kernel
theorem dX7_loadOf_26 : decode cX7_loadOf 26 = .ok (.iconst 0, 1) := by decide +kernel
theorem dX7_loadOf_27 : decode cX7_loadOf 27 = .ok (.ireturn, 1) := by decide +kernel
theorem dX7_loadOf_28 : decode cX7_loadOf 28 = .ok (.iconst 0, 1) := by decide +kernel
theorem dX7_loadOf_29 : decode cX7_loadOf 29 = .ok (.istore_n 3, 1) := by decide +kernel
theorem dX7_loadOf_30 : decode cX7_loadOf 30 = .ok (.iconst 0, 1) := by decide +kernel
theorem dX7_loadOf_31 : decode cX7_loadOf 31 = .ok (.istore 4, 2) := by decide +kernel
theorem dX7_loadOf_33 : decode cX7_loadOf 33 = .ok (.iload 4, 2) := by decide +kernel
theorem dX7_loadOf_35 : decode cX7_loadOf 35 = .ok (.bipush 21, 2) := by decide +kernel
theorem dX7_loadOf_37 : decode cX7_loadOf 37 = .ok (.if_icmp .ge 40, 3) := by decide +kernel
theorem dX7_loadOf_40 : decode cX7_loadOf 40 = .ok (.iload_n 3, 1) := by decide +kernel
theorem dX7_loadOf_41 : decode cX7_loadOf 41 = .ok (.iload_n 1, 1) := by decide +kernel
theorem dX7_loadOf_42 : decode cX7_loadOf 42 = .ok (.iload_n 2, 1) := by decide +kernel
theorem dX7_loadOf_43 : decode cX7_loadOf 43 = .ok (.if_icmp .eq 25, 3) := by decide +kernel
theorem dX7_loadOf_46 : decode cX7_loadOf 46 = .ok (.iload 4, 2) := by decide +kernel
theorem dX7_loadOf_48 : decode cX7_loadOf 48 = .ok (.iload_n 1, 1) := by decide +kernel
theorem dX7_loadOf_49 : decode cX7_loadOf 49 = .ok (.invokestatic 41, 3) := by decide +kernel
theorem dX7_loadOf_52 : decode cX7_loadOf 52 = .ok (.ifCond .eq 16, 3) := by decide +kernel
theorem dX7_loadOf_55 : decode cX7_loadOf 55 = .ok (.iload 4, 2) := by decide +kernel
theorem dX7_loadOf_57 : decode cX7_loadOf 57 = .ok (.iload_n 2, 1) := by decide +kernel
theorem dX7_loadOf_58 : decode cX7_loadOf 58 = .ok (.invokestatic 41, 3) := by decide +kernel
theorem dX7_loadOf_61 : decode cX7_loadOf 61 = .ok (.ifCond .eq 7, 3) := by decide +kernel
theorem dX7_loadOf_64 : decode cX7_loadOf 64 = .ok (.iconst 1, 1) := by decide +kernel
theorem dX7_loadOf_65 : decode cX7_loadOf 65 = .ok (.goto 4, 3) := by decide +kernel
theorem dX7_loadOf_68 : decode cX7_loadOf 68 = .ok (.iconst 0, 1) := by decide +kernel
theorem dX7_loadOf_69 : decode cX7_loadOf 69 = .ok (.iadd, 1) := by decide +kernel
theorem dX7_loadOf_70 : decode cX7_loadOf 70 = .ok (.istore_n 3, 1) := by decide +kernel
theorem dX7_loadOf_71 : decode cX7_loadOf 71 = .ok (.iinc 4 1, 3) := by decide +kernel
theorem dX7_loadOf_74 : decode cX7_loadOf 74 = .ok (.goto (-41), 3) := by decide +kernel
theorem dX7_loadOf_77 : decode cX7_loadOf 77 = .ok (.iload_n 3, 1) := by decide +kernel
theorem dX7_loadOf_78 : decode cX7_loadOf 78 = .ok (.ireturn, 1) := by decide +kernel
set_option maxRecDepth 20000 in
theorem ggX7_worstDisc_X7_lostBy : GoodIn wsX7_worstDisc wsX7_lostBy := goodIn_r _ [6, 1, 7, 8, 9, 5, 10, 11, 12, 13, 14, 15, 16, 17, 18, 19, 20, 21, 22, 23, 24, 25, 26, 27, 28, 29, 30, 31, 32, 33, 34, 35, 36, 37, 38, 39, 40, 41, 42, 43, 44, 45, 46, 47, 48, 49, 50, 51, 52, 53, 54, 55, 56, 57, 58, 59, 60, 61, 62, 63, 64, 65, 66] (by decide +kernel) (by decide +kernel)
set_option maxRecDepth 20000 in
theorem gX7_worstDisc_X7_lostBy : GoodIn wsX7_worstDisc (wsV RX7 157 RX7 yX7_lostBy wsX7_lostBy) := goodIn_app (goodIn_of _ (by decide +kernel)) ggX7_worstDisc_X7_lostBy
theorem dX7_worstDisc_0 : decode cX7_worstDisc 0 = .ok (.iconst (-1), 1) := by decide +kernel
theorem dX7_worstDisc_1 : decode cX7_worstDisc 1 = .ok (.istore_n 1, 1) := by decide +kernel
theorem dX7_worstDisc_2 : decode cX7_worstDisc 2 = .ok (.iconst 0, 1) := by decide +kernel
theorem dX7_worstDisc_3 : decode cX7_worstDisc 3 = .ok (.istore_n 2, 1) := by decide +kernel
theorem dX7_worstDisc_4 : decode cX7_worstDisc 4 = .ok (.iload_n 2, 1) := by decide +kernel
theorem dX7_worstDisc_5 : decode cX7_worstDisc 5 = .ok (.bipush 7, 2) := by decide +kernel
theorem dX7_worstDisc_7 : decode cX7_worstDisc 7 = .ok (.if_icmp .ge 46, 3) := by decide +kernel
theorem dX7_worstDisc_10 : decode cX7_worstDisc 10 = .ok (.aload_n 0, 1) := by decide +kernel
theorem dX7_worstDisc_11 : decode cX7_worstDisc 11 = .ok (.getfield 7, 3) := by decide +kernel
theorem dX7_worstDisc_14 : decode cX7_worstDisc 14 = .ok (.iconst 0, 1) := by decide +kernel
theorem dX7_worstDisc_15 : decode cX7_worstDisc 15 = .ok (.iload_n 2, 1) := by decide +kernel
theorem dX7_worstDisc_16 : decode cX7_worstDisc 16 = .ok (.iadd, 1) := by decide +kernel
theorem dX7_worstDisc_17 : decode cX7_worstDisc 17 = .ok (.iaload, 1) := by decide +kernel
theorem dX7_worstDisc_18 : decode cX7_worstDisc 18 = .ok (.bipush 9, 2) := by decide +kernel
theorem dX7_worstDisc_20 : decode cX7_worstDisc 20 = .ok (.if_icmp .ne 25, 3) := by decide +kernel
theorem dX7_worstDisc_23 : decode cX7_worstDisc 23 = .ok (.iload_n 1, 1) := by decide +kernel
theorem dX7_worstDisc_24 : decode cX7_worstDisc 24 = .ok (.iconst (-1), 1) := by decide +kernel
theorem dX7_worstDisc_25 : decode cX7_worstDisc 25 = .ok (.if_icmp .eq 16, 3) := by decide +kernel
theorem dX7_worstDisc_28 : decode cX7_worstDisc 28 = .ok (.aload_n 0, 1) := by decide +kernel
theorem dX7_worstDisc_29 : decode cX7_worstDisc 29 = .ok (.iload_n 2, 1) := by decide +kernel
theorem dX7_worstDisc_30 : decode cX7_worstDisc 30 = .ok (.invokevirtual 157, 3) := by decide +kernel
theorem dX7_worstDisc_33 : decode cX7_worstDisc 33 = .ok (.aload_n 0, 1) := by decide +kernel
theorem dX7_worstDisc_34 : decode cX7_worstDisc 34 = .ok (.iload_n 1, 1) := by decide +kernel
theorem dX7_worstDisc_35 : decode cX7_worstDisc 35 = .ok (.invokevirtual 157, 3) := by decide +kernel
theorem dX7_worstDisc_38 : decode cX7_worstDisc 38 = .ok (.if_icmp .le 7, 3) := by decide +kernel
theorem dX7_worstDisc_41 : decode cX7_worstDisc 41 = .ok (.iload_n 2, 1) := by decide +kernel
theorem dX7_worstDisc_42 : decode cX7_worstDisc 42 = .ok (.goto 4, 3) := by decide +kernel
theorem dX7_worstDisc_45 : decode cX7_worstDisc 45 = .ok (.iload_n 1, 1) := by decide +kernel
theorem dX7_worstDisc_46 : decode cX7_worstDisc 46 = .ok (.istore_n 1, 1) := by decide +kernel
theorem dX7_worstDisc_47 : decode cX7_worstDisc 47 = .ok (.iinc 2 1, 3) := by decide +kernel
theorem dX7_worstDisc_50 : decode cX7_worstDisc 50 = .ok (.goto (-46), 3) := by decide +kernel
theorem dX7_worstDisc_53 : decode cX7_worstDisc 53 = .ok (.iload_n 1, 1) := by decide +kernel
theorem dX7_worstDisc_54 : decode cX7_worstDisc 54 = .ok (.ireturn, 1) := by decide +kernel
set_option maxRecDepth 20000 in
theorem ggX7_worst_X7_worstDisc : GoodIn wsX7_worst wsX7_worstDisc := goodIn_r _ [5, 6, 7, 8, 9, 4, 10, 11, 12, 13, 14, 15, 16, 17, 18, 19, 20, 21, 22, 23, 24, 25, 26, 27, 28, 29, 30, 31, 32, 33, 34, 35, 36, 37, 38, 39, 40, 41, 42, 43, 44, 45, 46, 47, 48, 49, 50, 51, 52, 53, 54, 55, 56, 57, 63, 64, 65, 66, 67, 68, 69, 70, 71, 72, 73, 74, 75] (by decide +kernel) (by decide +kernel)
set_option maxRecDepth 20000 in
theorem gX7_worst_X7_worstDisc : GoodIn wsX7_worst (wsV RX7 160 RX7 yX7_worstDisc wsX7_worstDisc) := goodIn_app (goodIn_of _ (by decide +kernel)) ggX7_worst_X7_worstDisc
set_option maxRecDepth 20000 in
theorem ggX7_worst_X7_told : GoodIn wsX7_worst wsX7_told := goodIn_r _ [61, 62, 63, 64, 65, 66, 67, 68, 69, 70, 71, 72, 73, 74, 75] (by decide +kernel) (by decide +kernel)
set_option maxRecDepth 20000 in
theorem gX7_worst_X7_told : GoodIn wsX7_worst (wsV RX7 151 RX7 yX7_told wsX7_told) := goodIn_app (goodIn_of _ (by decide +kernel)) ggX7_worst_X7_told
theorem dX7_worst_0 : decode cX7_worst 0 = .ok (.aload_n 0, 1) := by decide +kernel
theorem dX7_worst_1 : decode cX7_worst 1 = .ok (.aload_n 0, 1) := by decide +kernel
theorem dX7_worst_2 : decode cX7_worst 2 = .ok (.invokevirtual 160, 3) := by decide +kernel
theorem dX7_worst_5 : decode cX7_worst 5 = .ok (.invokevirtual 151, 3) := by decide +kernel
theorem dX7_worst_8 : decode cX7_worst 8 = .ok (.ireturn, 1) := by decide +kernel
set_option maxRecDepth 20000 in
theorem ggX7_append_X7_in : GoodIn wsX7_append wsX7_in := goodIn_r _ [6] (by decide +kernel) (by decide +kernel)
set_option maxRecDepth 20000 in
theorem gX7_append_X7_in : GoodIn wsX7_append (va_wsS RX7 26 yX7_in wsX7_in) := goodIn_app (goodIn_of _ (by decide +kernel)) ggX7_append_X7_in
set_option maxRecDepth 20000 in
theorem ggX7_append_X7_holds : GoodIn wsX7_append wsX7_holds := goodIn_r _ [10, 11, 12, 13, 14, 15, 16, 17, 18, 19, 20, 21, 22, 23, 24] (by decide +kernel) (by decide +kernel)
set_option maxRecDepth 20000 in
theorem gX7_append_X7_holds : GoodIn wsX7_append (wsV RX7 112 RX7 yX7_holds wsX7_holds) := goodIn_app (goodIn_of _ (by decide +kernel)) ggX7_append_X7_holds
theorem dX7_append_0 : decode cX7_append 0 = .ok (.aload_n 0, 1) := by decide +kernel
theorem dX7_append_1 : decode cX7_append 1 = .ok (.iload_n 1, 1) := by decide +kernel
theorem dX7_append_2 : decode cX7_append 2 = .ok (.bipush 33, 2) := by decide +kernel
theorem dX7_append_4 : decode cX7_append 4 = .ok (.bipush 126, 2) := by decide +kernel
theorem dX7_append_6 : decode cX7_append 6 = .ok (.invokestatic 26, 3) := by decide +kernel
theorem dX7_append_9 : decode cX7_append 9 = .ok (.ifCond .ne 7, 3) := by decide +kernel
theorem dX7_append_12 : decode cX7_append 12 = .ok (.iconst 1, 1) := by decide +kernel
theorem dX7_append_13 : decode cX7_append 13 = .ok (.goto 17, 3) := by decide +kernel
theorem dX7_append_16 : decode cX7_append 16 = .ok (.aload_n 0, 1) := by decide +kernel
theorem dX7_append_17 : decode cX7_append 17 = .ok (.getfield 163, 3) := by decide +kernel
theorem dX7_append_20 : decode cX7_append 20 = .ok (.bipush 60, 2) := by decide +kernel
theorem dX7_append_22 : decode cX7_append 22 = .ok (.if_icmp .ne 7, 3) := by decide +kernel
theorem dX7_append_25 : decode cX7_append 25 = .ok (.iconst 2, 1) := by decide +kernel
theorem dX7_append_26 : decode cX7_append 26 = .ok (.goto 4, 3) := by decide +kernel
theorem dX7_append_29 : decode cX7_append 29 = .ok (.iconst 0, 1) := by decide +kernel
theorem dX7_append_30 : decode cX7_append 30 = .ok (.invokevirtual 112, 3) := by decide +kernel
theorem dX7_append_33 : decode cX7_append 33 = .ok (.ifCond .ne 5, 3) := by decide +kernel
theorem dX7_append_36 : decode cX7_append 36 = .ok (.iconst 0, 1) := by decide +kernel
theorem dX7_append_37 : decode cX7_append 37 = .ok (.ireturn, 1) := by decide +kernel
theorem dX7_append_38 : decode cX7_append 38 = .ok (.aload_n 0, 1) := by decide +kernel
theorem dX7_append_39 : decode cX7_append 39 = .ok (.getfield 19, 3) := by decide +kernel
theorem dX7_append_42 : decode cX7_append 42 = .ok (.aload_n 0, 1) := by decide +kernel
theorem dX7_append_43 : decode cX7_append 43 = .ok (.getfield 163, 3) := by decide +kernel
theorem dX7_append_46 : decode cX7_append 46 = .ok (.iload_n 1, 1) := by decide +kernel
theorem dX7_append_47 : decode cX7_append 47 = .ok (.iastore, 1) := by decide +kernel
theorem dX7_append_48 : decode cX7_append 48 = .ok (.aload_n 0, 1) := by decide +kernel
theorem dX7_append_49 : decode cX7_append 49 = .ok (.dup, 1) := by decide +kernel
theorem dX7_append_50 : decode cX7_append 50 = .ok (.getfield 163, 3) := by decide +kernel
theorem dX7_append_53 : decode cX7_append 53 = .ok (.iconst 1, 1) := by decide +kernel
theorem dX7_append_54 : decode cX7_append 54 = .ok (.iadd, 1) := by decide +kernel
theorem dX7_append_55 : decode cX7_append 55 = .ok (.putfield 163, 3) := by decide +kernel
theorem dX7_append_58 : decode cX7_append 58 = .ok (.aload_n 0, 1) := by decide +kernel
theorem dX7_append_59 : decode cX7_append 59 = .ok (.getfield 163, 3) := by decide +kernel
theorem dX7_append_62 : decode cX7_append 62 = .ok (.ireturn, 1) := by decide +kernel
set_option maxRecDepth 20000 in
theorem ggX7_clearText_X7_told : GoodIn wsX7_clearText wsX7_told := goodIn_r _ [6, 7, 8, 9, 10, 11, 12, 13, 14, 15, 16, 17, 18, 19, 20] (by decide +kernel) (by decide +kernel)
set_option maxRecDepth 20000 in
theorem gX7_clearText_X7_told : GoodIn wsX7_clearText (wsV RX7 151 RX7 yX7_told wsX7_told) := goodIn_app (goodIn_of _ (by decide +kernel)) ggX7_clearText_X7_told
theorem dX7_clearText_0 : decode cX7_clearText 0 = .ok (.aload_n 0, 1) := by decide +kernel
theorem dX7_clearText_1 : decode cX7_clearText 1 = .ok (.getfield 163, 3) := by decide +kernel
theorem dX7_clearText_4 : decode cX7_clearText 4 = .ok (.istore_n 1, 1) := by decide +kernel
theorem dX7_clearText_5 : decode cX7_clearText 5 = .ok (.aload_n 0, 1) := by decide +kernel
theorem dX7_clearText_6 : decode cX7_clearText 6 = .ok (.iconst 0, 1) := by decide +kernel
theorem dX7_clearText_7 : decode cX7_clearText 7 = .ok (.putfield 163, 3) := by decide +kernel
theorem dX7_clearText_10 : decode cX7_clearText 10 = .ok (.aload_n 0, 1) := by decide +kernel
theorem dX7_clearText_11 : decode cX7_clearText 11 = .ok (.iload_n 1, 1) := by decide +kernel
theorem dX7_clearText_12 : decode cX7_clearText 12 = .ok (.invokevirtual 151, 3) := by decide +kernel
theorem dX7_clearText_15 : decode cX7_clearText 15 = .ok (.ireturn, 1) := by decide +kernel
set_option maxRecDepth 20000 in
theorem ggX7_isNext_X7_in : GoodIn wsX7_isNext wsX7_in := goodIn_r _ [7] (by decide +kernel) (by decide +kernel)
set_option maxRecDepth 20000 in
theorem gX7_isNext_X7_in : GoodIn wsX7_isNext (va_wsS RX7 26 yX7_in wsX7_in) := goodIn_app (goodIn_of _ (by decide +kernel)) ggX7_isNext_X7_in
theorem dX7_isNext_0 : decode cX7_isNext 0 = .ok (.aload_n 0, 1) := by decide +kernel
theorem dX7_isNext_1 : decode cX7_isNext 1 = .ok (.getfield 166, 3) := by decide +kernel
theorem dX7_isNext_4 : decode cX7_isNext 4 = .ok (.aload_n 0, 1) := by decide +kernel
theorem dX7_isNext_5 : decode cX7_isNext 5 = .ok (.getfield 163, 3) := by decide +kernel
theorem dX7_isNext_8 : decode cX7_isNext 8 = .ok (.if_icmp .ge 24, 3) := by decide +kernel
theorem dX7_isNext_11 : decode cX7_isNext 11 = .ok (.aload_n 0, 1) := by decide +kernel
theorem dX7_isNext_12 : decode cX7_isNext 12 = .ok (.getfield 19, 3) := by decide +kernel
theorem dX7_isNext_15 : decode cX7_isNext 15 = .ok (.aload_n 0, 1) := by decide +kernel
theorem dX7_isNext_16 : decode cX7_isNext 16 = .ok (.getfield 166, 3) := by decide +kernel
theorem dX7_isNext_19 : decode cX7_isNext 19 = .ok (.iaload, 1) := by decide +kernel
theorem dX7_isNext_20 : decode cX7_isNext 20 = .ok (.iload_n 1, 1) := by decide +kernel
theorem dX7_isNext_21 : decode cX7_isNext 21 = .ok (.iload_n 2, 1) := by decide +kernel
theorem dX7_isNext_22 : decode cX7_isNext 22 = .ok (.invokestatic 26, 3) := by decide +kernel
theorem dX7_isNext_25 : decode cX7_isNext 25 = .ok (.ifCond .eq 7, 3) := by decide +kernel
theorem dX7_isNext_28 : decode cX7_isNext 28 = .ok (.iconst 1, 1) := by decide +kernel
theorem dX7_isNext_29 : decode cX7_isNext 29 = .ok (.goto 4, 3) := by decide +kernel
theorem dX7_isNext_32 : decode cX7_isNext 32 = .ok (.iconst 0, 1) := by decide +kernel
theorem dX7_isNext_33 : decode cX7_isNext 33 = .ok (.ireturn, 1) := by decide +kernel
set_option maxRecDepth 20000 in
theorem ggX7_takes_X7_isNext : GoodIn wsX7_takes wsX7_isNext := goodIn_r _ [6, 1, 7, 8, 9, 10, 5, 11, 12, 13, 14, 15, 16, 17, 18, 19, 20, 21, 22, 23, 24] (by decide +kernel) (by decide +kernel)
set_option maxRecDepth 20000 in
theorem gX7_takes_X7_isNext : GoodIn wsX7_takes (wsV RX7 169 RX7 yX7_isNext wsX7_isNext) := goodIn_app (goodIn_of _ (by decide +kernel)) ggX7_takes_X7_isNext
theorem dX7_takes_0 : decode cX7_takes 0 = .ok (.aload_n 0, 1) := by decide +kernel
theorem dX7_takes_1 : decode cX7_takes 1 = .ok (.iload_n 1, 1) := by decide +kernel
theorem dX7_takes_2 : decode cX7_takes 2 = .ok (.iload_n 1, 1) := by decide +kernel
theorem dX7_takes_3 : decode cX7_takes 3 = .ok (.invokevirtual 169, 3) := by decide +kernel
theorem dX7_takes_6 : decode cX7_takes 6 = .ok (.istore_n 2, 1) := by decide +kernel
theorem dX7_takes_7 : decode cX7_takes 7 = .ok (.aload_n 0, 1) := by decide +kernel
theorem dX7_takes_8 : decode cX7_takes 8 = .ok (.dup, 1) := by decide +kernel
theorem dX7_takes_9 : decode cX7_takes 9 = .ok (.getfield 166, 3) := by decide +kernel
theorem dX7_takes_12 : decode cX7_takes 12 = .ok (.iload_n 2, 1) := by decide +kernel
theorem dX7_takes_13 : decode cX7_takes 13 = .ok (.ifCond .eq 7, 3) := by decide +kernel
theorem dX7_takes_16 : decode cX7_takes 16 = .ok (.iconst 1, 1) := by decide +kernel
theorem dX7_takes_17 : decode cX7_takes 17 = .ok (.goto 4, 3) := by decide +kernel
theorem dX7_takes_20 : decode cX7_takes 20 = .ok (.iconst 0, 1) := by decide +kernel
theorem dX7_takes_21 : decode cX7_takes 21 = .ok (.iadd, 1) := by decide +kernel
theorem dX7_takes_22 : decode cX7_takes 22 = .ok (.putfield 166, 3) := by decide +kernel
theorem dX7_takes_25 : decode cX7_takes 25 = .ok (.iload_n 2, 1) := by decide +kernel
theorem dX7_takes_26 : decode cX7_takes 26 = .ok (.ireturn, 1) := by decide +kernel
set_option maxRecDepth 20000 in
theorem ggX7_readNumber_X7_isNext : GoodIn wsX7_readNumber wsX7_isNext := goodIn_r _ [7, 2, 8, 1, 9, 10, 6, 11, 12, 13, 14, 15, 16, 17, 18, 19, 20, 21, 22, 23, 24] (by decide +kernel) (by decide +kernel)
set_option maxRecDepth 20000 in
theorem gX7_readNumber_X7_isNext : GoodIn wsX7_readNumber (wsV RX7 169 RX7 yX7_isNext wsX7_isNext) := goodIn_app (goodIn_of _ (by decide +kernel)) ggX7_readNumber_X7_isNext
theorem dX7_readNumber_0 : decode cX7_readNumber 0 = .ok (.aload_n 0, 1) := by decide +kernel
theorem dX7_readNumber_1 : decode cX7_readNumber 1 = .ok (.bipush 48, 2) := by decide +kernel
theorem dX7_readNumber_3 : decode cX7_readNumber 3 = .ok (.bipush 57, 2) := by decide +kernel
theorem dX7_readNumber_5 : decode cX7_readNumber 5 = .ok (.invokevirtual 169, 3) := by decide +kernel
theorem dX7_readNumber_8 : decode cX7_readNumber 8 = .ok (.ifCond .ne 5, 3) := by decide +kernel
theorem dX7_readNumber_11 : decode cX7_readNumber 11 = .ok (.iconst (-1), 1) := by decide +kernel
theorem dX7_readNumber_12 : decode cX7_readNumber 12 = .ok (.ireturn, 1) := by decide +kernel
theorem dX7_readNumber_13 : decode cX7_readNumber 13 = .ok (.aload_n 0, 1) := by decide +kernel
theorem dX7_readNumber_14 : decode cX7_readNumber 14 = .ok (.getfield 19, 3) := by decide +kernel
theorem dX7_readNumber_17 : decode cX7_readNumber 17 = .ok (.aload_n 0, 1) := by decide +kernel
theorem dX7_readNumber_18 : decode cX7_readNumber 18 = .ok (.getfield 166, 3) := by decide +kernel
theorem dX7_readNumber_21 : decode cX7_readNumber 21 = .ok (.iaload, 1) := by decide +kernel
theorem dX7_readNumber_22 : decode cX7_readNumber 22 = .ok (.bipush 48, 2) := by decide +kernel
theorem dX7_readNumber_24 : decode cX7_readNumber 24 = .ok (.isub, 1) := by decide +kernel
theorem dX7_readNumber_25 : decode cX7_readNumber 25 = .ok (.istore_n 2, 1) := by decide +kernel
theorem dX7_readNumber_26 : decode cX7_readNumber 26 = .ok (.aload_n 0, 1) := by decide +kernel
theorem dX7_readNumber_27 : decode cX7_readNumber 27 = .ok (.dup, 1) := by decide +kernel
theorem dX7_readNumber_28 : decode cX7_readNumber 28 = .ok (.getfield 166, 3) := by decide +kernel
theorem dX7_readNumber_31 : decode cX7_readNumber 31 = .ok (.iconst 1, 1) := by decide +kernel
theorem dX7_readNumber_32 : decode cX7_readNumber 32 = .ok (.iadd, 1) := by decide +kernel
theorem dX7_readNumber_33 : decode cX7_readNumber 33 = .ok (.putfield 166, 3) := by decide +kernel
theorem dX7_readNumber_36 : decode cX7_readNumber 36 = .ok (.iload_n 2, 1) := by decide +kernel
theorem dX7_readNumber_37 : decode cX7_readNumber 37 = .ok (.ifCond .le 66, 3) := by decide +kernel
theorem dX7_readNumber_40 : decode cX7_readNumber 40 = .ok (.aload_n 0, 1) := by decide +kernel
theorem dX7_readNumber_41 : decode cX7_readNumber 41 = .ok (.bipush 48, 2) := by decide +kernel
theorem dX7_readNumber_43 : decode cX7_readNumber 43 = .ok (.bipush 57, 2) := by decide +kernel
theorem dX7_readNumber_45 : decode cX7_readNumber 45 = .ok (.invokevirtual 169, 3) := by decide +kernel
theorem dX7_readNumber_48 : decode cX7_readNumber 48 = .ok (.ifCond .eq 55, 3) := by decide +kernel
theorem dX7_readNumber_51 : decode cX7_readNumber 51 = .ok (.bipush 10, 2) := by decide +kernel
theorem dX7_readNumber_53 : decode cX7_readNumber 53 = .ok (.iload_n 2, 1) := by decide +kernel
theorem dX7_readNumber_54 : decode cX7_readNumber 54 = .ok (.imul, 1) := by decide +kernel
theorem dX7_readNumber_55 : decode cX7_readNumber 55 = .ok (.aload_n 0, 1) := by decide +kernel
theorem dX7_readNumber_56 : decode cX7_readNumber 56 = .ok (.getfield 19, 3) := by decide +kernel
theorem dX7_readNumber_59 : decode cX7_readNumber 59 = .ok (.aload_n 0, 1) := by decide +kernel
theorem dX7_readNumber_60 : decode cX7_readNumber 60 = .ok (.getfield 166, 3) := by decide +kernel
theorem dX7_readNumber_63 : decode cX7_readNumber 63 = .ok (.iaload, 1) := by decide +kernel
theorem dX7_readNumber_64 : decode cX7_readNumber 64 = .ok (.iadd, 1) := by decide +kernel
theorem dX7_readNumber_65 : decode cX7_readNumber 65 = .ok (.bipush 48, 2) := by decide +kernel
theorem dX7_readNumber_67 : decode cX7_readNumber 67 = .ok (.isub, 1) := by decide +kernel
theorem dX7_readNumber_68 : decode cX7_readNumber 68 = .ok (.iload_n 1, 1) := by decide +kernel
theorem dX7_readNumber_69 : decode cX7_readNumber 69 = .ok (.if_icmp .gt 34, 3) := by decide +kernel
theorem dX7_readNumber_72 : decode cX7_readNumber 72 = .ok (.bipush 10, 2) := by decide +kernel
theorem dX7_readNumber_74 : decode cX7_readNumber 74 = .ok (.iload_n 2, 1) := by decide +kernel
theorem dX7_readNumber_75 : decode cX7_readNumber 75 = .ok (.imul, 1) := by decide +kernel
theorem dX7_readNumber_76 : decode cX7_readNumber 76 = .ok (.aload_n 0, 1) := by decide +kernel
theorem dX7_readNumber_77 : decode cX7_readNumber 77 = .ok (.getfield 19, 3) := by decide +kernel
theorem dX7_readNumber_80 : decode cX7_readNumber 80 = .ok (.aload_n 0, 1) := by decide +kernel
theorem dX7_readNumber_81 : decode cX7_readNumber 81 = .ok (.getfield 166, 3) := by decide +kernel
theorem dX7_readNumber_84 : decode cX7_readNumber 84 = .ok (.iaload, 1) := by decide +kernel
theorem dX7_readNumber_85 : decode cX7_readNumber 85 = .ok (.iadd, 1) := by decide +kernel
theorem dX7_readNumber_86 : decode cX7_readNumber 86 = .ok (.bipush 48, 2) := by decide +kernel
theorem dX7_readNumber_88 : decode cX7_readNumber 88 = .ok (.isub, 1) := by decide +kernel
theorem dX7_readNumber_89 : decode cX7_readNumber 89 = .ok (.istore_n 2, 1) := by decide +kernel
theorem dX7_readNumber_90 : decode cX7_readNumber 90 = .ok (.aload_n 0, 1) := by decide +kernel
theorem dX7_readNumber_91 : decode cX7_readNumber 91 = .ok (.dup, 1) := by decide +kernel
theorem dX7_readNumber_92 : decode cX7_readNumber 92 = .ok (.getfield 166, 3) := by decide +kernel
theorem dX7_readNumber_95 : decode cX7_readNumber 95 = .ok (.iconst 1, 1) := by decide +kernel
theorem dX7_readNumber_96 : decode cX7_readNumber 96 = .ok (.iadd, 1) := by decide +kernel
theorem dX7_readNumber_97 : decode cX7_readNumber 97 = .ok (.putfield 166, 3) := by decide +kernel
theorem dX7_readNumber_100 : decode cX7_readNumber 100 = .ok (.goto (-64), 3) := by decide +kernel
theorem dX7_readNumber_103 : decode cX7_readNumber 103 = .ok (.iload_n 2, 1) := by decide +kernel
theorem dX7_readNumber_104 : decode cX7_readNumber 104 = .ok (.ireturn, 1) := by decide +kernel
set_option maxRecDepth 20000 in
theorem ggX7_readDigit_X7_isNext : GoodIn wsX7_readDigit wsX7_isNext := goodIn_r _ [7, 2, 8, 1, 9, 10, 6, 11, 12, 13, 14, 15, 16, 17, 18, 19, 20, 21, 22, 23, 24] (by decide +kernel) (by decide +kernel)
set_option maxRecDepth 20000 in
theorem gX7_readDigit_X7_isNext : GoodIn wsX7_readDigit (wsV RX7 169 RX7 yX7_isNext wsX7_isNext) := goodIn_app (goodIn_of _ (by decide +kernel)) ggX7_readDigit_X7_isNext
theorem dX7_readDigit_0 : decode cX7_readDigit 0 = .ok (.aload_n 0, 1) := by decide +kernel
theorem dX7_readDigit_1 : decode cX7_readDigit 1 = .ok (.bipush 48, 2) := by decide +kernel
theorem dX7_readDigit_3 : decode cX7_readDigit 3 = .ok (.iload_n 1, 1) := by decide +kernel
theorem dX7_readDigit_4 : decode cX7_readDigit 4 = .ok (.iadd, 1) := by decide +kernel
theorem dX7_readDigit_5 : decode cX7_readDigit 5 = .ok (.bipush 48, 2) := by decide +kernel
theorem dX7_readDigit_7 : decode cX7_readDigit 7 = .ok (.iload_n 2, 1) := by decide +kernel
theorem dX7_readDigit_8 : decode cX7_readDigit 8 = .ok (.iadd, 1) := by decide +kernel
theorem dX7_readDigit_9 : decode cX7_readDigit 9 = .ok (.invokevirtual 169, 3) := by decide +kernel
theorem dX7_readDigit_12 : decode cX7_readDigit 12 = .ok (.ifCond .eq 18, 3) := by decide +kernel
theorem dX7_readDigit_15 : decode cX7_readDigit 15 = .ok (.aload_n 0, 1) := by decide +kernel
theorem dX7_readDigit_16 : decode cX7_readDigit 16 = .ok (.getfield 19, 3) := by decide +kernel
theorem dX7_readDigit_19 : decode cX7_readDigit 19 = .ok (.aload_n 0, 1) := by decide +kernel
theorem dX7_readDigit_20 : decode cX7_readDigit 20 = .ok (.getfield 166, 3) := by decide +kernel
theorem dX7_readDigit_23 : decode cX7_readDigit 23 = .ok (.iaload, 1) := by decide +kernel
theorem dX7_readDigit_24 : decode cX7_readDigit 24 = .ok (.bipush 48, 2) := by decide +kernel
theorem dX7_readDigit_26 : decode cX7_readDigit 26 = .ok (.isub, 1) := by decide +kernel
theorem dX7_readDigit_27 : decode cX7_readDigit 27 = .ok (.goto 4, 3) := by decide +kernel
theorem dX7_readDigit_30 : decode cX7_readDigit 30 = .ok (.iconst (-1), 1) := by decide +kernel
theorem dX7_readDigit_31 : decode cX7_readDigit 31 = .ok (.istore_n 3, 1) := by decide +kernel
theorem dX7_readDigit_32 : decode cX7_readDigit 32 = .ok (.aload_n 0, 1) := by decide +kernel
theorem dX7_readDigit_33 : decode cX7_readDigit 33 = .ok (.dup, 1) := by decide +kernel
theorem dX7_readDigit_34 : decode cX7_readDigit 34 = .ok (.getfield 166, 3) := by decide +kernel
theorem dX7_readDigit_37 : decode cX7_readDigit 37 = .ok (.iload_n 3, 1) := by decide +kernel
theorem dX7_readDigit_38 : decode cX7_readDigit 38 = .ok (.iconst (-1), 1) := by decide +kernel
theorem dX7_readDigit_39 : decode cX7_readDigit 39 = .ok (.if_icmp .ne 7, 3) := by decide +kernel
theorem dX7_readDigit_42 : decode cX7_readDigit 42 = .ok (.iconst 0, 1) := by decide +kernel
theorem dX7_readDigit_43 : decode cX7_readDigit 43 = .ok (.goto 4, 3) := by decide +kernel
theorem dX7_readDigit_46 : decode cX7_readDigit 46 = .ok (.iconst 1, 1) := by decide +kernel
theorem dX7_readDigit_47 : decode cX7_readDigit 47 = .ok (.iadd, 1) := by decide +kernel
theorem dX7_readDigit_48 : decode cX7_readDigit 48 = .ok (.putfield 166, 3) := by decide +kernel
theorem dX7_readDigit_51 : decode cX7_readDigit 51 = .ok (.iload_n 3, 1) := by decide +kernel
theorem dX7_readDigit_52 : decode cX7_readDigit 52 = .ok (.ireturn, 1) := by decide +kernel
set_option maxRecDepth 20000 in
theorem ggX7_readOrder_X7_readNumber : GoodIn wsX7_readOrder wsX7_readNumber := goodIn_r _ [12, 3, 1, 13, 14, 15, 11, 16, 2, 17, 18, 19, 28, 29, 30, 31, 32, 33, 34, 35, 36, 37, 38, 39, 40] (by decide +kernel) (by decide +kernel)
set_option maxRecDepth 20000 in
theorem gX7_readOrder_X7_readNumber : GoodIn wsX7_readOrder (wsV RX7 175 RX7 yX7_readNumber wsX7_readNumber) := goodIn_app (goodIn_of _ (by decide +kernel)) ggX7_readOrder_X7_readNumber
set_option maxRecDepth 20000 in
theorem ggX7_readOrder_X7_takes : GoodIn wsX7_readOrder wsX7_takes := goodIn_r _ [23, 1, 13, 14, 15, 11, 16, 2, 3, 17, 18, 19, 28, 29, 30, 31, 32, 33, 34, 35, 36, 37, 38, 39, 40] (by decide +kernel) (by decide +kernel)
set_option maxRecDepth 20000 in
theorem gX7_readOrder_X7_takes : GoodIn wsX7_readOrder (wsV RX7 181 RX7 yX7_takes wsX7_takes) := goodIn_app (goodIn_of _ (by decide +kernel)) ggX7_readOrder_X7_takes
set_option maxRecDepth 20000 in
theorem ggX7_readOrder_X7_readDigit : GoodIn wsX7_readOrder wsX7_readDigit := goodIn_r _ [27, 3, 1, 13, 14, 15, 11, 16, 2, 17, 18, 19, 28, 29, 30, 31, 32, 33, 34, 35, 36, 37, 38, 39, 40] (by decide +kernel) (by decide +kernel)
set_option maxRecDepth 20000 in
theorem gX7_readOrder_X7_readDigit : GoodIn wsX7_readOrder (wsV RX7 187 RX7 yX7_readDigit wsX7_readDigit) := goodIn_app (goodIn_of _ (by decide +kernel)) ggX7_readOrder_X7_readDigit
theorem dX7_readOrder_0 : decode cX7_readOrder 0 = .ok (.aload_n 0, 1) := by decide +kernel
theorem dX7_readOrder_1 : decode cX7_readOrder 1 = .ok (.aload_n 0, 1) := by decide +kernel
theorem dX7_readOrder_2 : decode cX7_readOrder 2 = .ok (.getfield 166, 3) := by decide +kernel
theorem dX7_readOrder_5 : decode cX7_readOrder 5 = .ok (.aload_n 0, 1) := by decide +kernel
theorem dX7_readOrder_6 : decode cX7_readOrder 6 = .ok (.getfield 163, 3) := by decide +kernel
theorem dX7_readOrder_9 : decode cX7_readOrder 9 = .ok (.if_icmp .ge 15, 3) := by decide +kernel
theorem dX7_readOrder_12 : decode cX7_readOrder 12 = .ok (.aload_n 0, 1) := by decide +kernel
theorem dX7_readOrder_13 : decode cX7_readOrder 13 = .ok (.getfield 19, 3) := by decide +kernel
theorem dX7_readOrder_16 : decode cX7_readOrder 16 = .ok (.aload_n 0, 1) := by decide +kernel
theorem dX7_readOrder_17 : decode cX7_readOrder 17 = .ok (.getfield 166, 3) := by decide +kernel
theorem dX7_readOrder_20 : decode cX7_readOrder 20 = .ok (.iaload, 1) := by decide +kernel
theorem dX7_readOrder_21 : decode cX7_readOrder 21 = .ok (.goto 4, 3) := by decide +kernel
theorem dX7_readOrder_24 : decode cX7_readOrder 24 = .ok (.iconst 0, 1) := by decide +kernel
theorem dX7_readOrder_25 : decode cX7_readOrder 25 = .ok (.putfield 172, 3) := by decide +kernel
theorem dX7_readOrder_28 : decode cX7_readOrder 28 = .ok (.aload_n 0, 1) := by decide +kernel
theorem dX7_readOrder_29 : decode cX7_readOrder 29 = .ok (.dup, 1) := by decide +kernel
theorem dX7_readOrder_30 : decode cX7_readOrder 30 = .ok (.getfield 166, 3) := by decide +kernel
theorem dX7_readOrder_33 : decode cX7_readOrder 33 = .ok (.iconst 1, 1) := by decide +kernel
theorem dX7_readOrder_34 : decode cX7_readOrder 34 = .ok (.iadd, 1) := by decide +kernel
theorem dX7_readOrder_35 : decode cX7_readOrder 35 = .ok (.putfield 166, 3) := by decide +kernel
theorem dX7_readOrder_38 : decode cX7_readOrder 38 = .ok (.aload_n 0, 1) := by decide +kernel
theorem dX7_readOrder_39 : decode cX7_readOrder 39 = .ok (.getfield 172, 3) := by decide +kernel
theorem dX7_readOrder_42 : decode cX7_readOrder 42 = .ok (.lookupswitch 155 #[(99, 153), (102, 103), (109, 103), (115, 128), (119, 50)], 50) := by decide +kernel
theorem dX7_readOrder_92 : decode cX7_readOrder 92 = .ok (.aload_n 0, 1) := by decide +kernel
theorem dX7_readOrder_93 : decode cX7_readOrder 93 = .ok (.aload_n 0, 1) := by decide +kernel
theorem dX7_readOrder_94 : decode cX7_readOrder 94 = .ok (.bipush 41, 2) := by decide +kernel
theorem dX7_readOrder_96 : decode cX7_readOrder 96 = .ok (.invokevirtual 175, 3) := by decide +kernel
theorem dX7_readOrder_99 : decode cX7_readOrder 99 = .ok (.putfield 178, 3) := by decide +kernel
theorem dX7_readOrder_102 : decode cX7_readOrder 102 = .ok (.aload_n 0, 1) := by decide +kernel
theorem dX7_readOrder_103 : decode cX7_readOrder 103 = .ok (.getfield 178, 3) := by decide +kernel
theorem dX7_readOrder_106 : decode cX7_readOrder 106 = .ok (.iconst (-1), 1) := by decide +kernel
theorem dX7_readOrder_107 : decode cX7_readOrder 107 = .ok (.if_icmp .eq 12, 3) := by decide +kernel
theorem dX7_readOrder_110 : decode cX7_readOrder 110 = .ok (.aload_n 0, 1) := by decide +kernel
theorem dX7_readOrder_111 : decode cX7_readOrder 111 = .ok (.bipush 61, 2) := by decide +kernel
theorem dX7_readOrder_113 : decode cX7_readOrder 113 = .ok (.invokevirtual 181, 3) := by decide +kernel
theorem dX7_readOrder_116 : decode cX7_readOrder 116 = .ok (.ifCond .ne 5, 3) := by decide +kernel
theorem dX7_readOrder_119 : decode cX7_readOrder 119 = .ok (.iconst 0, 1) := by decide +kernel
theorem dX7_readOrder_120 : decode cX7_readOrder 120 = .ok (.ireturn, 1) := by decide +kernel
theorem dX7_readOrder_121 : decode cX7_readOrder 121 = .ok (.aload_n 0, 1) := by decide +kernel
theorem dX7_readOrder_122 : decode cX7_readOrder 122 = .ok (.aload_n 0, 1) := by decide +kernel
theorem dX7_readOrder_123 : decode cX7_readOrder 123 = .ok (.ldc 105, 2) := by decide +kernel
theorem dX7_readOrder_125 : decode cX7_readOrder 125 = .ok (.invokevirtual 175, 3) := by decide +kernel
theorem dX7_readOrder_128 : decode cX7_readOrder 128 = .ok (.putfield 184, 3) := by decide +kernel
theorem dX7_readOrder_131 : decode cX7_readOrder 131 = .ok (.aload_n 0, 1) := by decide +kernel
theorem dX7_readOrder_132 : decode cX7_readOrder 132 = .ok (.getfield 184, 3) := by decide +kernel
theorem dX7_readOrder_135 : decode cX7_readOrder 135 = .ok (.iconst (-1), 1) := by decide +kernel
theorem dX7_readOrder_136 : decode cX7_readOrder 136 = .ok (.if_icmp .eq 7, 3) := by decide +kernel
theorem dX7_readOrder_139 : decode cX7_readOrder 139 = .ok (.iconst 1, 1) := by decide +kernel
theorem dX7_readOrder_140 : decode cX7_readOrder 140 = .ok (.goto 4, 3) := by decide +kernel
theorem dX7_readOrder_143 : decode cX7_readOrder 143 = .ok (.iconst 0, 1) := by decide +kernel
theorem dX7_readOrder_144 : decode cX7_readOrder 144 = .ok (.ireturn, 1) := by decide +kernel
theorem dX7_readOrder_145 : decode cX7_readOrder 145 = .ok (.aload_n 0, 1) := by decide +kernel
theorem dX7_readOrder_146 : decode cX7_readOrder 146 = .ok (.aload_n 0, 1) := by decide +kernel
theorem dX7_readOrder_147 : decode cX7_readOrder 147 = .ok (.iconst 0, 1) := by decide +kernel
theorem dX7_readOrder_148 : decode cX7_readOrder 148 = .ok (.bipush 6, 2) := by decide +kernel
theorem dX7_readOrder_150 : decode cX7_readOrder 150 = .ok (.invokevirtual 187, 3) := by decide +kernel
theorem dX7_readOrder_153 : decode cX7_readOrder 153 = .ok (.putfield 178, 3) := by decide +kernel
theorem dX7_readOrder_156 : decode cX7_readOrder 156 = .ok (.aload_n 0, 1) := by decide +kernel
theorem dX7_readOrder_157 : decode cX7_readOrder 157 = .ok (.getfield 178, 3) := by decide +kernel
theorem dX7_readOrder_160 : decode cX7_readOrder 160 = .ok (.iconst (-1), 1) := by decide +kernel
theorem dX7_readOrder_161 : decode cX7_readOrder 161 = .ok (.if_icmp .eq 7, 3) := by decide +kernel
theorem dX7_readOrder_164 : decode cX7_readOrder 164 = .ok (.iconst 1, 1) := by decide +kernel
theorem dX7_readOrder_165 : decode cX7_readOrder 165 = .ok (.goto 4, 3) := by decide +kernel
theorem dX7_readOrder_168 : decode cX7_readOrder 168 = .ok (.iconst 0, 1) := by decide +kernel
theorem dX7_readOrder_169 : decode cX7_readOrder 169 = .ok (.ireturn, 1) := by decide +kernel
theorem dX7_readOrder_170 : decode cX7_readOrder 170 = .ok (.aload_n 0, 1) := by decide +kernel
theorem dX7_readOrder_171 : decode cX7_readOrder 171 = .ok (.aload_n 0, 1) := by decide +kernel
theorem dX7_readOrder_172 : decode cX7_readOrder 172 = .ok (.iconst 1, 1) := by decide +kernel
theorem dX7_readOrder_173 : decode cX7_readOrder 173 = .ok (.bipush 9, 2) := by decide +kernel
theorem dX7_readOrder_175 : decode cX7_readOrder 175 = .ok (.invokevirtual 187, 3) := by decide +kernel
theorem dX7_readOrder_178 : decode cX7_readOrder 178 = .ok (.putfield 178, 3) := by decide +kernel
theorem dX7_readOrder_181 : decode cX7_readOrder 181 = .ok (.aload_n 0, 1) := by decide +kernel
theorem dX7_readOrder_182 : decode cX7_readOrder 182 = .ok (.getfield 178, 3) := by decide +kernel
theorem dX7_readOrder_185 : decode cX7_readOrder 185 = .ok (.iconst (-1), 1) := by decide +kernel
theorem dX7_readOrder_186 : decode cX7_readOrder 186 = .ok (.if_icmp .eq 7, 3) := by decide +kernel
theorem dX7_readOrder_189 : decode cX7_readOrder 189 = .ok (.iconst 1, 1) := by decide +kernel
theorem dX7_readOrder_190 : decode cX7_readOrder 190 = .ok (.goto 4, 3) := by decide +kernel
theorem dX7_readOrder_193 : decode cX7_readOrder 193 = .ok (.iconst 0, 1) := by decide +kernel
theorem dX7_readOrder_194 : decode cX7_readOrder 194 = .ok (.ireturn, 1) := by decide +kernel
theorem dX7_readOrder_195 : decode cX7_readOrder 195 = .ok (.iconst 1, 1) := by decide +kernel
theorem dX7_readOrder_196 : decode cX7_readOrder 196 = .ok (.ireturn, 1) := by decide +kernel
theorem dX7_readOrder_197 : decode cX7_readOrder 197 = .ok (.aload_n 0, 1) := by decide +kernel
theorem dX7_readOrder_198 : decode cX7_readOrder 198 = .ok (.dup, 1) := by decide +kernel
theorem dX7_readOrder_199 : decode cX7_readOrder 199 = .ok (.getfield 166, 3) := by decide +kernel
theorem dX7_readOrder_202 : decode cX7_readOrder 202 = .ok (.iconst 1, 1) := by decide +kernel
theorem dX7_readOrder_203 : decode cX7_readOrder 203 = .ok (.isub, 1) := by decide +kernel
theorem dX7_readOrder_204 : decode cX7_readOrder 204 = .ok (.putfield 166, 3) := by decide +kernel
theorem dX7_readOrder_207 : decode cX7_readOrder 207 = .ok (.iconst 0, 1) := by decide +kernel
theorem dX7_readOrder_208 : decode cX7_readOrder 208 = .ok (.ireturn, 1) := by decide +kernel
set_option maxRecDepth 20000 in
theorem ggX7_errorOfOrder_X7_writeError : GoodIn wsX7_errorOfOrder wsX7_writeError := goodIn_r _ [8, 9, 10, 11, 7, 12, 13, 14, 15, 16, 17, 18, 19, 20, 21, 22, 23, 24, 25, 26, 27, 28, 29, 30, 31, 32, 33, 34, 35, 36, 37, 49, 50, 51, 52, 53, 54, 55, 56, 57, 58, 59, 60, 61] (by decide +kernel) (by decide +kernel)
set_option maxRecDepth 20000 in
theorem gX7_errorOfOrder_X7_writeError : GoodIn wsX7_errorOfOrder (wsV RX7 118 RX7 yX7_writeError wsX7_writeError) := goodIn_app (goodIn_of _ (by decide +kernel)) ggX7_errorOfOrder_X7_writeError
set_option maxRecDepth 20000 in
theorem ggX7_errorOfOrder_X7_failError : GoodIn wsX7_errorOfOrder wsX7_failError := goodIn_r _ [41, 37, 42, 43, 7, 44, 13, 14, 15, 49, 50, 51, 52, 53, 54, 55, 56, 57, 58, 59, 60, 61] (by decide +kernel) (by decide +kernel)
set_option maxRecDepth 20000 in
theorem gX7_errorOfOrder_X7_failError : GoodIn wsX7_errorOfOrder (wsV RX7 124 RX7 yX7_failError wsX7_failError) := goodIn_app (goodIn_of _ (by decide +kernel)) ggX7_errorOfOrder_X7_failError
set_option maxRecDepth 20000 in
theorem ggX7_errorOfOrder_X7_beginError : GoodIn wsX7_errorOfOrder wsX7_beginError := goodIn_r _ [48, 37, 42, 43, 7, 44, 13, 14, 15, 49, 50, 51, 52, 53, 54, 55, 56, 57, 58, 59, 60, 61] (by decide +kernel) (by decide +kernel)
set_option maxRecDepth 20000 in
theorem gX7_errorOfOrder_X7_beginError : GoodIn wsX7_errorOfOrder (wsV RX7 130 RX7 yX7_beginError wsX7_beginError) := goodIn_app (goodIn_of _ (by decide +kernel)) ggX7_errorOfOrder_X7_beginError
theorem dX7_errorOfOrder_0 : decode cX7_errorOfOrder 0 = .ok (.aload_n 0, 1) := by decide +kernel
theorem dX7_errorOfOrder_1 : decode cX7_errorOfOrder 1 = .ok (.getfield 172, 3) := by decide +kernel
theorem dX7_errorOfOrder_4 : decode cX7_errorOfOrder 4 = .ok (.bipush 119, 2) := by decide +kernel
theorem dX7_errorOfOrder_6 : decode cX7_errorOfOrder 6 = .ok (.if_icmp .ne 18, 3) := by decide +kernel
theorem dX7_errorOfOrder_9 : decode cX7_errorOfOrder 9 = .ok (.aload_n 0, 1) := by decide +kernel
theorem dX7_errorOfOrder_10 : decode cX7_errorOfOrder 10 = .ok (.aload_n 0, 1) := by decide +kernel
theorem dX7_errorOfOrder_11 : decode cX7_errorOfOrder 11 = .ok (.getfield 178, 3) := by decide +kernel
theorem dX7_errorOfOrder_14 : decode cX7_errorOfOrder 14 = .ok (.aload_n 0, 1) := by decide +kernel
theorem dX7_errorOfOrder_15 : decode cX7_errorOfOrder 15 = .ok (.getfield 184, 3) := by decide +kernel
theorem dX7_errorOfOrder_18 : decode cX7_errorOfOrder 18 = .ok (.invokevirtual 118, 3) := by decide +kernel
theorem dX7_errorOfOrder_21 : decode cX7_errorOfOrder 21 = .ok (.goto 44, 3) := by decide +kernel
theorem dX7_errorOfOrder_24 : decode cX7_errorOfOrder 24 = .ok (.aload_n 0, 1) := by decide +kernel
theorem dX7_errorOfOrder_25 : decode cX7_errorOfOrder 25 = .ok (.getfield 172, 3) := by decide +kernel
theorem dX7_errorOfOrder_28 : decode cX7_errorOfOrder 28 = .ok (.bipush 102, 2) := by decide +kernel
theorem dX7_errorOfOrder_30 : decode cX7_errorOfOrder 30 = .ok (.if_icmp .ne 14, 3) := by decide +kernel
theorem dX7_errorOfOrder_33 : decode cX7_errorOfOrder 33 = .ok (.aload_n 0, 1) := by decide +kernel
theorem dX7_errorOfOrder_34 : decode cX7_errorOfOrder 34 = .ok (.aload_n 0, 1) := by decide +kernel
theorem dX7_errorOfOrder_35 : decode cX7_errorOfOrder 35 = .ok (.getfield 178, 3) := by decide +kernel
theorem dX7_errorOfOrder_38 : decode cX7_errorOfOrder 38 = .ok (.invokevirtual 124, 3) := by decide +kernel
theorem dX7_errorOfOrder_41 : decode cX7_errorOfOrder 41 = .ok (.goto 24, 3) := by decide +kernel
theorem dX7_errorOfOrder_44 : decode cX7_errorOfOrder 44 = .ok (.aload_n 0, 1) := by decide +kernel
theorem dX7_errorOfOrder_45 : decode cX7_errorOfOrder 45 = .ok (.getfield 172, 3) := by decide +kernel
theorem dX7_errorOfOrder_48 : decode cX7_errorOfOrder 48 = .ok (.bipush 109, 2) := by decide +kernel
theorem dX7_errorOfOrder_50 : decode cX7_errorOfOrder 50 = .ok (.if_icmp .ne 14, 3) := by decide +kernel
theorem dX7_errorOfOrder_53 : decode cX7_errorOfOrder 53 = .ok (.aload_n 0, 1) := by decide +kernel
theorem dX7_errorOfOrder_54 : decode cX7_errorOfOrder 54 = .ok (.aload_n 0, 1) := by decide +kernel
theorem dX7_errorOfOrder_55 : decode cX7_errorOfOrder 55 = .ok (.getfield 178, 3) := by decide +kernel
theorem dX7_errorOfOrder_58 : decode cX7_errorOfOrder 58 = .ok (.invokevirtual 130, 3) := by decide +kernel
theorem dX7_errorOfOrder_61 : decode cX7_errorOfOrder 61 = .ok (.goto 4, 3) := by decide +kernel
theorem dX7_errorOfOrder_64 : decode cX7_errorOfOrder 64 = .ok (.iconst 0, 1) := by decide +kernel
theorem dX7_errorOfOrder_65 : decode cX7_errorOfOrder 65 = .ok (.ireturn, 1) := by decide +kernel
set_option maxRecDepth 20000 in
theorem ggX7_does_X7_doWrite : GoodIn wsX7_does wsX7_doWrite := goodIn_r _ [8, 9, 10, 11, 7, 12, 13, 14, 15, 16, 17, 18, 19, 20, 21, 22, 23, 24, 25, 26, 27, 28, 29, 30, 31, 32, 33, 34, 35, 36, 37, 38, 98, 99, 100, 101, 102, 103, 104, 105, 106, 107, 108, 109, 110] (by decide +kernel) (by decide +kernel)
set_option maxRecDepth 20000 in
theorem gX7_does_X7_doWrite : GoodIn wsX7_does (wsV RX7 121 RX7 yX7_doWrite wsX7_doWrite) := goodIn_app (goodIn_of _ (by decide +kernel)) ggX7_does_X7_doWrite
set_option maxRecDepth 20000 in
theorem ggX7_does_X7_doFail : GoodIn wsX7_does wsX7_doFail := goodIn_r _ [42, 26, 43, 44, 45, 7, 46, 47, 48, 49, 50, 9, 10, 11, 12, 13, 14, 15, 16, 17, 18, 19, 20, 21, 22, 23, 24, 25, 31, 32, 33, 34, 51, 52, 53, 54, 55, 56, 57, 58, 59, 60, 98, 99, 100, 101, 102, 103, 104, 105, 106, 107, 108, 109, 110] (by decide +kernel) (by decide +kernel)
set_option maxRecDepth 20000 in
theorem gX7_does_X7_doFail : GoodIn wsX7_does (wsV RX7 127 RX7 yX7_doFail wsX7_doFail) := goodIn_app (goodIn_of _ (by decide +kernel)) ggX7_does_X7_doFail
set_option maxRecDepth 20000 in
theorem ggX7_does_X7_doBegin : GoodIn wsX7_does wsX7_doBegin := goodIn_r _ [64, 26, 98, 99, 100, 101, 102, 103, 104, 105, 106, 107, 108, 109, 110] (by decide +kernel) (by decide +kernel)
set_option maxRecDepth 20000 in
theorem gX7_does_X7_doBegin : GoodIn wsX7_does (wsV RX7 133 RX7 yX7_doBegin wsX7_doBegin) := goodIn_app (goodIn_of _ (by decide +kernel)) ggX7_does_X7_doBegin
set_option maxRecDepth 20000 in
theorem ggX7_does_X7_doMend : GoodIn wsX7_does wsX7_doMend := goodIn_r _ [68, 69, 70, 71, 7, 72, 26, 73, 74, 75, 76, 77, 78, 79, 80, 81, 82, 19, 20, 21, 16, 17, 18, 83, 84, 85, 13, 14, 15, 51, 52, 53, 54, 55, 56, 57, 9, 10, 11, 12, 22, 23, 24, 25, 58, 59, 60, 27, 28, 29, 30, 31, 32, 33, 34, 35, 36, 37, 38, 98, 99, 100, 101, 102, 103, 104, 105, 106, 107, 108, 109, 110] (by decide +kernel) (by decide +kernel)
set_option maxRecDepth 20000 in
theorem gX7_does_X7_doMend : GoodIn wsX7_does (wsV RX7 136 RX7 yX7_doMend wsX7_doMend) := goodIn_app (goodIn_of _ (by decide +kernel)) ggX7_does_X7_doMend
set_option maxRecDepth 20000 in
theorem ggX7_does_X7_doScrub : GoodIn wsX7_does wsX7_doScrub := goodIn_r _ [89, 90, 91, 92, 7, 93, 9, 10, 11, 12, 13, 14, 15, 16, 17, 18, 19, 20, 21, 22, 23, 24, 25, 26, 27, 28, 29, 30, 94, 95, 96, 97, 31, 32, 33, 34, 35, 36, 37, 38, 98, 99, 100, 101, 102, 103, 104, 105, 106, 107, 108, 109, 110] (by decide +kernel) (by decide +kernel)
set_option maxRecDepth 20000 in
theorem gX7_does_X7_doScrub : GoodIn wsX7_does (wsV RX7 142 RX7 yX7_doScrub wsX7_doScrub) := goodIn_app (goodIn_of _ (by decide +kernel)) ggX7_does_X7_doScrub
theorem dX7_does_0 : decode cX7_does 0 = .ok (.aload_n 0, 1) := by decide +kernel
theorem dX7_does_1 : decode cX7_does 1 = .ok (.getfield 172, 3) := by decide +kernel
theorem dX7_does_4 : decode cX7_does 4 = .ok (.lookupswitch 84 #[(102, 57), (109, 66), (115, 75), (119, 44)], 44) := by decide +kernel
theorem dX7_does_48 : decode cX7_does 48 = .ok (.aload_n 0, 1) := by decide +kernel
theorem dX7_does_49 : decode cX7_does 49 = .ok (.aload_n 0, 1) := by decide +kernel
theorem dX7_does_50 : decode cX7_does 50 = .ok (.getfield 178, 3) := by decide +kernel
theorem dX7_does_53 : decode cX7_does 53 = .ok (.aload_n 0, 1) := by decide +kernel
theorem dX7_does_54 : decode cX7_does 54 = .ok (.getfield 184, 3) := by decide +kernel
theorem dX7_does_57 : decode cX7_does 57 = .ok (.invokevirtual 121, 3) := by decide +kernel
theorem dX7_does_60 : decode cX7_does 60 = .ok (.ireturn, 1) := by decide +kernel
theorem dX7_does_61 : decode cX7_does 61 = .ok (.aload_n 0, 1) := by decide +kernel
theorem dX7_does_62 : decode cX7_does 62 = .ok (.aload_n 0, 1) := by decide +kernel
theorem dX7_does_63 : decode cX7_does 63 = .ok (.getfield 178, 3) := by decide +kernel
theorem dX7_does_66 : decode cX7_does 66 = .ok (.invokevirtual 127, 3) := by decide +kernel
theorem dX7_does_69 : decode cX7_does 69 = .ok (.ireturn, 1) := by decide +kernel
theorem dX7_does_70 : decode cX7_does 70 = .ok (.aload_n 0, 1) := by decide +kernel
theorem dX7_does_71 : decode cX7_does 71 = .ok (.aload_n 0, 1) := by decide +kernel
theorem dX7_does_72 : decode cX7_does 72 = .ok (.getfield 178, 3) := by decide +kernel
theorem dX7_does_75 : decode cX7_does 75 = .ok (.invokevirtual 133, 3) := by decide +kernel
theorem dX7_does_78 : decode cX7_does 78 = .ok (.ireturn, 1) := by decide +kernel
theorem dX7_does_79 : decode cX7_does 79 = .ok (.aload_n 0, 1) := by decide +kernel
theorem dX7_does_80 : decode cX7_does 80 = .ok (.aload_n 0, 1) := by decide +kernel
theorem dX7_does_81 : decode cX7_does 81 = .ok (.getfield 178, 3) := by decide +kernel
theorem dX7_does_84 : decode cX7_does 84 = .ok (.invokevirtual 136, 3) := by decide +kernel
theorem dX7_does_87 : decode cX7_does 87 = .ok (.ireturn, 1) := by decide +kernel
theorem dX7_does_88 : decode cX7_does 88 = .ok (.aload_n 0, 1) := by decide +kernel
theorem dX7_does_89 : decode cX7_does 89 = .ok (.invokevirtual 142, 3) := by decide +kernel
theorem dX7_does_92 : decode cX7_does 92 = .ok (.ireturn, 1) := by decide +kernel
set_option maxRecDepth 20000 in
theorem ggX7_readText_X7_readOrder : GoodIn wsX7_readText wsX7_readOrder := goodIn_r _ [8, 1, 3, 9, 10, 11, 12, 13, 14, 15, 16, 7, 17, 18, 19, 20, 21, 22, 23, 24, 25, 26, 27, 28, 29, 30, 31, 32, 153, 154, 155, 156, 157, 158, 159, 160, 161, 162, 163, 164, 165] (by decide +kernel) (by decide +kernel)
set_option maxRecDepth 20000 in
theorem gX7_readText_X7_readOrder : GoodIn wsX7_readText (wsV RX7 193 RX7 yX7_readOrder wsX7_readOrder) := goodIn_app (goodIn_of _ (by decide +kernel)) ggX7_readText_X7_readOrder
set_option maxRecDepth 20000 in
theorem ggX7_readText_X7_errorOfOrder : GoodIn wsX7_readText wsX7_errorOfOrder := goodIn_r _ [36, 10, 11, 13, 37, 38, 39, 7, 40, 12, 41, 42, 43, 22, 23, 24, 44, 45, 46, 47, 48, 49, 50, 51, 52, 53, 54, 55, 56, 57, 58, 59, 60, 61, 62, 63, 64, 65, 66, 67, 68, 69, 70, 71, 72, 73, 74, 75, 76, 153, 154, 155, 156, 157, 158, 159, 160, 161, 162, 163, 164, 165] (by decide +kernel) (by decide +kernel)
set_option maxRecDepth 20000 in
theorem gX7_readText_X7_errorOfOrder : GoodIn wsX7_readText (wsV RX7 197 RX7 yX7_errorOfOrder wsX7_errorOfOrder) := goodIn_app (goodIn_of _ (by decide +kernel)) ggX7_readText_X7_errorOfOrder
set_option maxRecDepth 20000 in
theorem ggX7_readText_X7_does : GoodIn wsX7_readText wsX7_does := goodIn_r _ [80, 10, 11, 13, 81, 82, 83, 7, 84, 48, 49, 50, 51, 52, 53, 54, 55, 56, 57, 58, 59, 60, 61, 62, 63, 64, 65, 85, 86, 87, 88, 89, 90, 91, 92, 93, 94, 95, 96, 97, 98, 99, 100, 101, 102, 103, 104, 105, 106, 107, 108, 109, 110, 111, 112, 113, 114, 115, 116, 117, 118, 119, 120, 121, 122, 123, 124, 125, 126, 127, 128, 129, 130, 22, 23, 24, 131, 132, 133, 134, 135, 136, 137, 138, 139, 140, 141, 142, 143, 144, 145, 146, 147, 148, 149, 150, 151, 152, 153, 154, 155, 156, 157, 158, 159, 160, 161, 162, 163, 164, 165] (by decide +kernel) (by decide +kernel)
set_option maxRecDepth 20000 in
theorem gX7_readText_X7_does : GoodIn wsX7_readText (wsV RX7 200 RX7 yX7_does wsX7_does) := goodIn_app (goodIn_of _ (by decide +kernel)) ggX7_readText_X7_does
set_option maxRecDepth 20000 in
theorem ggX7_readText_X7_takes : GoodIn wsX7_readText wsX7_takes := goodIn_r _ [28, 1, 18, 19, 20, 7, 21, 3, 9, 22, 23, 24, 153, 154, 155, 156, 157, 158, 159, 160, 161, 162, 163, 164, 165] (by decide +kernel) (by decide +kernel)
set_option maxRecDepth 20000 in
theorem gX7_readText_X7_takes : GoodIn wsX7_readText (wsV RX7 181 RX7 yX7_takes wsX7_takes) := goodIn_app (goodIn_of _ (by decide +kernel)) ggX7_readText_X7_takes
theorem dX7_readText_0 : decode cX7_readText 0 = .ok (.aload_n 0, 1) := by decide +kernel
theorem dX7_readText_1 : decode cX7_readText 1 = .ok (.iconst 0, 1) := by decide +kernel
theorem dX7_readText_2 : decode cX7_readText 2 = .ok (.putfield 166, 3) := by decide +kernel
theorem dX7_readText_5 : decode cX7_readText 5 = .ok (.aload_n 0, 1) := by decide +kernel
theorem dX7_readText_6 : decode cX7_readText 6 = .ok (.iconst 0, 1) := by decide +kernel
theorem dX7_readText_7 : decode cX7_readText 7 = .ok (.putfield 190, 3) := by decide +kernel
theorem dX7_readText_10 : decode cX7_readText 10 = .ok (.aload_n 0, 1) := by decide +kernel
theorem dX7_readText_11 : decode cX7_readText 11 = .ok (.invokevirtual 193, 3) := by decide +kernel
theorem dX7_readText_14 : decode cX7_readText 14 = .ok (.istore_n 2, 1) := by decide +kernel
theorem dX7_readText_15 : decode cX7_readText 15 = .ok (.iload_n 2, 1) := by decide +kernel
theorem dX7_readText_16 : decode cX7_readText 16 = .ok (.ifCond .eq 69, 3) := by decide +kernel
theorem dX7_readText_19 : decode cX7_readText 19 = .ok (.iload_n 1, 1) := by decide +kernel
theorem dX7_readText_20 : decode cX7_readText 20 = .ok (.ifCond .eq 17, 3) := by decide +kernel
theorem dX7_readText_23 : decode cX7_readText 23 = .ok (.aload_n 0, 1) := by decide +kernel
theorem dX7_readText_24 : decode cX7_readText 24 = .ok (.invokevirtual 197, 3) := by decide +kernel
theorem dX7_readText_27 : decode cX7_readText 27 = .ok (.ifCond .le 5, 3) := by decide +kernel
theorem dX7_readText_30 : decode cX7_readText 30 = .ok (.iconst 1, 1) := by decide +kernel
theorem dX7_readText_31 : decode cX7_readText 31 = .ok (.ireturn, 1) := by decide +kernel
theorem dX7_readText_32 : decode cX7_readText 32 = .ok (.aload_n 0, 1) := by decide +kernel
theorem dX7_readText_33 : decode cX7_readText 33 = .ok (.invokevirtual 200, 3) := by decide +kernel
theorem dX7_readText_36 : decode cX7_readText 36 = .ok (.pop, 1) := by decide +kernel
theorem dX7_readText_37 : decode cX7_readText 37 = .ok (.aload_n 0, 1) := by decide +kernel
theorem dX7_readText_38 : decode cX7_readText 38 = .ok (.dup, 1) := by decide +kernel
theorem dX7_readText_39 : decode cX7_readText 39 = .ok (.getfield 190, 3) := by decide +kernel
theorem dX7_readText_42 : decode cX7_readText 42 = .ok (.iconst 1, 1) := by decide +kernel
theorem dX7_readText_43 : decode cX7_readText 43 = .ok (.iadd, 1) := by decide +kernel
theorem dX7_readText_44 : decode cX7_readText 44 = .ok (.putfield 190, 3) := by decide +kernel
theorem dX7_readText_47 : decode cX7_readText 47 = .ok (.aload_n 0, 1) := by decide +kernel
theorem dX7_readText_48 : decode cX7_readText 48 = .ok (.getfield 166, 3) := by decide +kernel
theorem dX7_readText_51 : decode cX7_readText 51 = .ok (.aload_n 0, 1) := by decide +kernel
theorem dX7_readText_52 : decode cX7_readText 52 = .ok (.getfield 163, 3) := by decide +kernel
theorem dX7_readText_55 : decode cX7_readText 55 = .ok (.if_icmp .ne 5, 3) := by decide +kernel
theorem dX7_readText_58 : decode cX7_readText 58 = .ok (.iconst 1, 1) := by decide +kernel
theorem dX7_readText_59 : decode cX7_readText 59 = .ok (.ireturn, 1) := by decide +kernel
theorem dX7_readText_60 : decode cX7_readText 60 = .ok (.aload_n 0, 1) := by decide +kernel
theorem dX7_readText_61 : decode cX7_readText 61 = .ok (.bipush 59, 2) := by decide +kernel
theorem dX7_readText_63 : decode cX7_readText 63 = .ok (.invokevirtual 181, 3) := by decide +kernel
theorem dX7_readText_66 : decode cX7_readText 66 = .ok (.ifCond .eq 14, 3) := by decide +kernel
theorem dX7_readText_69 : decode cX7_readText 69 = .ok (.aload_n 0, 1) := by decide +kernel
theorem dX7_readText_70 : decode cX7_readText 70 = .ok (.invokevirtual 193, 3) := by decide +kernel
theorem dX7_readText_73 : decode cX7_readText 73 = .ok (.ifCond .eq 7, 3) := by decide +kernel
theorem dX7_readText_76 : decode cX7_readText 76 = .ok (.iconst 1, 1) := by decide +kernel
theorem dX7_readText_77 : decode cX7_readText 77 = .ok (.goto 4, 3) := by decide +kernel
theorem dX7_readText_80 : decode cX7_readText 80 = .ok (.iconst 0, 1) := by decide +kernel
theorem dX7_readText_81 : decode cX7_readText 81 = .ok (.istore_n 2, 1) := by decide +kernel
theorem dX7_readText_82 : decode cX7_readText 82 = .ok (.goto (-67), 3) := by decide +kernel
theorem dX7_readText_85 : decode cX7_readText 85 = .ok (.iconst 0, 1) := by decide +kernel
theorem dX7_readText_86 : decode cX7_readText 86 = .ok (.ireturn, 1) := by decide +kernel
set_option maxRecDepth 20000 in
theorem ggX7_firstError_X7_readText : GoodIn wsX7_firstError wsX7_readText := goodIn_r _ [7, 2, 8, 1, 9, 10, 11, 6, 12, 13, 14, 15, 16, 17, 18, 19, 20, 21, 22, 23, 24, 25, 26, 27, 28, 29, 30, 31, 32, 33, 34, 35, 36, 37, 38, 39, 40, 41, 42, 43, 44, 45, 46, 47, 48, 49, 50, 51, 52, 53, 54, 55, 56, 57, 58, 59, 60, 61, 62, 63, 64, 65, 66, 67, 68, 69, 70, 71, 72, 73, 74, 75, 76, 77, 78, 79, 80, 81, 82, 83, 84, 85, 86, 87, 88, 89, 90, 91, 92, 93, 94, 95, 96, 97, 98, 99, 100, 101, 102, 103, 104, 105, 106, 107, 108, 109, 110, 111, 112, 113, 114, 115, 116, 117, 118, 119, 120, 121, 122, 123, 124, 125, 126, 127, 128, 129, 130, 131, 132, 133, 134, 135, 136, 137, 138, 139, 140, 141, 142, 143, 144, 145, 146, 147, 148, 149, 150, 151, 152, 153, 154, 155, 156, 162, 163, 164, 165, 166, 167, 168, 169, 170, 171, 172, 173, 174] (by decide +kernel) (by decide +kernel)
set_option maxRecDepth 20000 in
theorem gX7_firstError_X7_readText : GoodIn wsX7_firstError (wsV RX7 203 RX7 yX7_readText wsX7_readText) := goodIn_app (goodIn_of _ (by decide +kernel)) ggX7_firstError_X7_readText
set_option maxRecDepth 20000 in
theorem ggX7_firstError_X7_told : GoodIn wsX7_firstError wsX7_told := goodIn_r _ [160, 161, 162, 163, 164, 165, 166, 167, 168, 169, 170, 171, 172, 173, 174] (by decide +kernel) (by decide +kernel)
set_option maxRecDepth 20000 in
theorem gX7_firstError_X7_told : GoodIn wsX7_firstError (wsV RX7 151 RX7 yX7_told wsX7_told) := goodIn_app (goodIn_of _ (by decide +kernel)) ggX7_firstError_X7_told
theorem dX7_firstError_0 : decode cX7_firstError 0 = .ok (.aload_n 0, 1) := by decide +kernel
theorem dX7_firstError_1 : decode cX7_firstError 1 = .ok (.aload_n 0, 1) := by decide +kernel
theorem dX7_firstError_2 : decode cX7_firstError 2 = .ok (.iconst 0, 1) := by decide +kernel
theorem dX7_firstError_3 : decode cX7_firstError 3 = .ok (.invokevirtual 203, 3) := by decide +kernel
theorem dX7_firstError_6 : decode cX7_firstError 6 = .ok (.ifCond .eq 10, 3) := by decide +kernel
theorem dX7_firstError_9 : decode cX7_firstError 9 = .ok (.aload_n 0, 1) := by decide +kernel
theorem dX7_firstError_10 : decode cX7_firstError 10 = .ok (.getfield 163, 3) := by decide +kernel
theorem dX7_firstError_13 : decode cX7_firstError 13 = .ok (.goto 7, 3) := by decide +kernel
theorem dX7_firstError_16 : decode cX7_firstError 16 = .ok (.aload_n 0, 1) := by decide +kernel
theorem dX7_firstError_17 : decode cX7_firstError 17 = .ok (.getfield 166, 3) := by decide +kernel
theorem dX7_firstError_20 : decode cX7_firstError 20 = .ok (.invokevirtual 151, 3) := by decide +kernel
theorem dX7_firstError_23 : decode cX7_firstError 23 = .ok (.ireturn, 1) := by decide +kernel
set_option maxRecDepth 20000 in
theorem ggX7_run_X7_readText : GoodIn wsX7_run wsX7_readText := goodIn_r _ [7, 8, 2, 1, 9, 10, 11, 6, 12, 13, 14, 15, 16, 17, 18, 19, 20, 21, 22, 23, 24, 25, 26, 27, 28, 29, 30, 31, 32, 33, 34, 35, 36, 37, 38, 39, 40, 41, 42, 43, 44, 45, 46, 47, 48, 49, 50, 51, 52, 53, 54, 55, 56, 57, 58, 59, 60, 61, 62, 63, 64, 65, 66, 67, 68, 69, 70, 71, 72, 73, 74, 75, 76, 77, 78, 79, 80, 81, 82, 83, 84, 85, 86, 87, 88, 89, 90, 91, 92, 93, 94, 95, 96, 97, 98, 99, 100, 101, 102, 103, 104, 105, 106, 107, 108, 109, 110, 111, 112, 113, 114, 115, 116, 117, 118, 119, 120, 121, 122, 123, 124, 125, 126, 127, 128, 129, 130, 131, 132, 133, 134, 135, 136, 137, 138, 139, 140, 141, 142, 143, 144, 145, 146, 147, 148, 149, 150, 151, 152, 153, 154, 155, 156, 171, 172, 173, 174, 175, 176, 177, 178, 179, 180, 181, 182, 183] (by decide +kernel) (by decide +kernel)
set_option maxRecDepth 20000 in
theorem gX7_run_X7_readText : GoodIn wsX7_run (wsV RX7 203 RX7 yX7_readText wsX7_readText) := goodIn_app (goodIn_of _ (by decide +kernel)) ggX7_run_X7_readText
set_option maxRecDepth 20000 in
theorem ggX7_run_X7_holds : GoodIn wsX7_run wsX7_holds := goodIn_r _ [160, 161, 171, 172, 173, 174, 175, 176, 177, 178, 179, 180, 181, 182, 183] (by decide +kernel) (by decide +kernel)
set_option maxRecDepth 20000 in
theorem gX7_run_X7_holds : GoodIn wsX7_run (wsV RX7 112 RX7 yX7_holds wsX7_holds) := goodIn_app (goodIn_of _ (by decide +kernel)) ggX7_run_X7_holds
set_option maxRecDepth 20000 in
theorem ggX7_run_X7_save : GoodIn wsX7_run wsX7_save := goodIn_r _ [165, 166, 167, 69, 168, 169, 6, 170, 171, 172, 173, 174, 175, 176, 177, 178, 179, 180, 181, 182, 183] (by decide +kernel) (by decide +kernel)
set_option maxRecDepth 20000 in
theorem gX7_run_X7_save : GoodIn wsX7_run (wsV RX7 115 RX7 yX7_save wsX7_save) := goodIn_app (goodIn_of _ (by decide +kernel)) ggX7_run_X7_save
theorem dX7_run_0 : decode cX7_run 0 = .ok (.aload_n 0, 1) := by decide +kernel
theorem dX7_run_1 : decode cX7_run 1 = .ok (.aload_n 0, 1) := by decide +kernel
theorem dX7_run_2 : decode cX7_run 2 = .ok (.iconst 0, 1) := by decide +kernel
theorem dX7_run_3 : decode cX7_run 3 = .ok (.invokevirtual 203, 3) := by decide +kernel
theorem dX7_run_6 : decode cX7_run 6 = .ok (.ifCond .eq 7, 3) := by decide +kernel
theorem dX7_run_9 : decode cX7_run 9 = .ok (.iconst 0, 1) := by decide +kernel
theorem dX7_run_10 : decode cX7_run 10 = .ok (.goto 4, 3) := by decide +kernel
theorem dX7_run_13 : decode cX7_run 13 = .ok (.iconst 1, 1) := by decide +kernel
theorem dX7_run_14 : decode cX7_run 14 = .ok (.invokevirtual 112, 3) := by decide +kernel
theorem dX7_run_17 : decode cX7_run 17 = .ok (.ifCond .ne 5, 3) := by decide +kernel
theorem dX7_run_20 : decode cX7_run 20 = .ok (.iconst 0, 1) := by decide +kernel
theorem dX7_run_21 : decode cX7_run 21 = .ok (.ireturn, 1) := by decide +kernel
theorem dX7_run_22 : decode cX7_run 22 = .ok (.aload_n 0, 1) := by decide +kernel
theorem dX7_run_23 : decode cX7_run 23 = .ok (.invokevirtual 115, 3) := by decide +kernel
theorem dX7_run_26 : decode cX7_run 26 = .ok (.aload_n 0, 1) := by decide +kernel
theorem dX7_run_27 : decode cX7_run 27 = .ok (.iconst 1, 1) := by decide +kernel
theorem dX7_run_28 : decode cX7_run 28 = .ok (.invokevirtual 203, 3) := by decide +kernel
theorem dX7_run_31 : decode cX7_run 31 = .ok (.istore_n 1, 1) := by decide +kernel
theorem dX7_run_32 : decode cX7_run 32 = .ok (.aload_n 0, 1) := by decide +kernel
theorem dX7_run_33 : decode cX7_run 33 = .ok (.iconst 0, 1) := by decide +kernel
theorem dX7_run_34 : decode cX7_run 34 = .ok (.putfield 163, 3) := by decide +kernel
theorem dX7_run_37 : decode cX7_run 37 = .ok (.iload_n 1, 1) := by decide +kernel
theorem dX7_run_38 : decode cX7_run 38 = .ok (.ifCond .eq 10, 3) := by decide +kernel
theorem dX7_run_41 : decode cX7_run 41 = .ok (.aload_n 0, 1) := by decide +kernel
theorem dX7_run_42 : decode cX7_run 42 = .ok (.getfield 190, 3) := by decide +kernel
theorem dX7_run_45 : decode cX7_run 45 = .ok (.goto 4, 3) := by decide +kernel
theorem dX7_run_48 : decode cX7_run 48 = .ok (.iconst 0, 1) := by decide +kernel
theorem dX7_run_49 : decode cX7_run 49 = .ok (.ireturn, 1) := by decide +kernel
set_option maxRecDepth 20000 in
theorem ggX7_undo_X7_holds : GoodIn wsX7_undo wsX7_holds := goodIn_r _ [8, 9, 13, 14, 15, 16, 17, 18, 19, 20, 21, 22, 23, 24, 25] (by decide +kernel) (by decide +kernel)
set_option maxRecDepth 20000 in
theorem gX7_undo_X7_holds : GoodIn wsX7_undo (wsV RX7 112 RX7 yX7_holds wsX7_holds) := goodIn_app (goodIn_of _ (by decide +kernel)) ggX7_undo_X7_holds
set_option maxRecDepth 20000 in
theorem ggX7_undo_X7_copy : GoodIn wsX7_undo wsX7_copy := goodIn_r _ [12] (by decide +kernel) (by decide +kernel)
set_option maxRecDepth 20000 in
theorem gX7_undo_X7_copy : GoodIn wsX7_undo (va_wsS RX7 33 yX7_copy wsX7_copy) := goodIn_app (goodIn_of _ (by decide +kernel)) ggX7_undo_X7_copy
theorem dX7_undo_0 : decode cX7_undo 0 = .ok (.aload_n 0, 1) := by decide +kernel
theorem dX7_undo_1 : decode cX7_undo 1 = .ok (.aload_n 0, 1) := by decide +kernel
theorem dX7_undo_2 : decode cX7_undo 2 = .ok (.getfield 30, 3) := by decide +kernel
theorem dX7_undo_5 : decode cX7_undo 5 = .ok (.ifCond .le 7, 3) := by decide +kernel
theorem dX7_undo_8 : decode cX7_undo 8 = .ok (.iconst 0, 1) := by decide +kernel
theorem dX7_undo_9 : decode cX7_undo 9 = .ok (.goto 4, 3) := by decide +kernel
theorem dX7_undo_12 : decode cX7_undo 12 = .ok (.iconst 1, 1) := by decide +kernel
theorem dX7_undo_13 : decode cX7_undo 13 = .ok (.invokevirtual 112, 3) := by decide +kernel
theorem dX7_undo_16 : decode cX7_undo 16 = .ok (.ifCond .ne 5, 3) := by decide +kernel
theorem dX7_undo_19 : decode cX7_undo 19 = .ok (.iconst 0, 1) := by decide +kernel
theorem dX7_undo_20 : decode cX7_undo 20 = .ok (.ireturn, 1) := by decide +kernel
theorem dX7_undo_21 : decode cX7_undo 21 = .ok (.aload_n 0, 1) := by decide +kernel
theorem dX7_undo_22 : decode cX7_undo 22 = .ok (.dup, 1) := by decide +kernel
theorem dX7_undo_23 : decode cX7_undo 23 = .ok (.getfield 30, 3) := by decide +kernel
theorem dX7_undo_26 : decode cX7_undo 26 = .ok (.iconst 1, 1) := by decide +kernel
theorem dX7_undo_27 : decode cX7_undo 27 = .ok (.isub, 1) := by decide +kernel
theorem dX7_undo_28 : decode cX7_undo 28 = .ok (.putfield 30, 3) := by decide +kernel
theorem dX7_undo_31 : decode cX7_undo 31 = .ok (.aload_n 0, 1) := by decide +kernel
theorem dX7_undo_32 : decode cX7_undo 32 = .ok (.getfield 13, 3) := by decide +kernel
theorem dX7_undo_35 : decode cX7_undo 35 = .ok (.bipush 86, 2) := by decide +kernel
theorem dX7_undo_37 : decode cX7_undo 37 = .ok (.aload_n 0, 1) := by decide +kernel
theorem dX7_undo_38 : decode cX7_undo 38 = .ok (.getfield 30, 3) := by decide +kernel
theorem dX7_undo_41 : decode cX7_undo 41 = .ok (.imul, 1) := by decide +kernel
theorem dX7_undo_42 : decode cX7_undo 42 = .ok (.aload_n 0, 1) := by decide +kernel
theorem dX7_undo_43 : decode cX7_undo 43 = .ok (.getfield 7, 3) := by decide +kernel
theorem dX7_undo_46 : decode cX7_undo 46 = .ok (.iconst 0, 1) := by decide +kernel
theorem dX7_undo_47 : decode cX7_undo 47 = .ok (.invokestatic 33, 3) := by decide +kernel
theorem dX7_undo_50 : decode cX7_undo 50 = .ok (.aload_n 0, 1) := by decide +kernel
theorem dX7_undo_51 : decode cX7_undo 51 = .ok (.getfield 30, 3) := by decide +kernel
theorem dX7_undo_54 : decode cX7_undo 54 = .ok (.ireturn, 1) := by decide +kernel
set_option maxRecDepth 20000 in
theorem ggX7_savedStates_X7_told : GoodIn wsX7_savedStates wsX7_told := goodIn_r _ [6, 7, 8, 9, 10, 11, 12, 13, 14, 15, 16, 17, 18, 19, 20] (by decide +kernel) (by decide +kernel)
set_option maxRecDepth 20000 in
theorem gX7_savedStates_X7_told : GoodIn wsX7_savedStates (wsV RX7 151 RX7 yX7_told wsX7_told) := goodIn_app (goodIn_of _ (by decide +kernel)) ggX7_savedStates_X7_told
theorem dX7_savedStates_0 : decode cX7_savedStates 0 = .ok (.aload_n 0, 1) := by decide +kernel
theorem dX7_savedStates_1 : decode cX7_savedStates 1 = .ok (.aload_n 0, 1) := by decide +kernel
theorem dX7_savedStates_2 : decode cX7_savedStates 2 = .ok (.getfield 30, 3) := by decide +kernel
theorem dX7_savedStates_5 : decode cX7_savedStates 5 = .ok (.invokevirtual 151, 3) := by decide +kernel
theorem dX7_savedStates_8 : decode cX7_savedStates 8 = .ok (.ireturn, 1) := by decide +kernel
theorem dX7_mix_0 : decode cX7_mix 0 = .ok (.aload_n 0, 1) := by decide +kernel
theorem dX7_mix_1 : decode cX7_mix 1 = .ok (.ldc2_w 207, 3) := by decide +kernel
theorem dX7_mix_4 : decode cX7_mix 4 = .ok (.aload_n 0, 1) := by decide +kernel
theorem dX7_mix_5 : decode cX7_mix 5 = .ok (.getfield 209, 3) := by decide +kernel
theorem dX7_mix_8 : decode cX7_mix 8 = .ok (.lmul, 1) := by decide +kernel
theorem dX7_mix_9 : decode cX7_mix 9 = .ok (.lload_n 1, 1) := by decide +kernel
theorem dX7_mix_10 : decode cX7_mix 10 = .ok (.ladd, 1) := by decide +kernel
theorem dX7_mix_11 : decode cX7_mix 11 = .ok (.putfield 209, 3) := by decide +kernel
theorem dX7_mix_14 : decode cX7_mix 14 = .ok (.return_, 1) := by decide +kernel
set_option maxRecDepth 20000 in
theorem ggX7_digest_X7_lostAddresses : GoodIn wsX7_digest wsX7_lostAddresses := goodIn_r _ [9, 10, 11, 12, 8, 13, 14, 15, 16, 17, 18, 19, 20, 21, 22, 23, 24, 25, 26, 27, 28, 29, 30, 4, 31, 32, 33, 34, 35, 36, 37, 38, 39, 40, 41, 42, 43, 44, 82, 83, 84, 85, 86, 87, 88, 89, 90, 91, 92, 93, 94] (by decide +kernel) (by decide +kernel)
set_option maxRecDepth 20000 in
theorem gX7_digest_X7_lostAddresses : GoodIn wsX7_digest (wsV RX7 85 RX7 yX7_lostAddresses wsX7_lostAddresses) := goodIn_app (goodIn_of _ (by decide +kernel)) ggX7_digest_X7_lostAddresses
set_option maxRecDepth 20000 in
theorem ggX7_digest_X7_mix : GoodIn wsX7_digest wsX7_mix := goodIn_r _ [48, 49, 3, 82, 83, 84, 85, 86, 87, 88, 89, 90, 91, 92, 93, 94] (by decide +kernel) (by decide +kernel)
set_option maxRecDepth 20000 in
theorem gX7_digest_X7_mix : GoodIn wsX7_digest (wsV RX7 215 RX7 yX7_mix wsX7_mix) := goodIn_app (goodIn_of _ (by decide +kernel)) ggX7_digest_X7_mix
set_option maxRecDepth 20000 in
theorem ggX7_digest_X7_wrongStripes : GoodIn wsX7_digest wsX7_wrongStripes := goodIn_r _ [53, 54, 55, 56, 8, 57, 58, 59, 60, 61, 14, 15, 16, 17, 18, 19, 20, 21, 22, 23, 24, 25, 26, 27, 28, 29, 30, 4, 31, 32, 33, 34, 82, 83, 84, 85, 86, 87, 88, 89, 90, 91, 92, 93, 94] (by decide +kernel) (by decide +kernel)
set_option maxRecDepth 20000 in
theorem gX7_digest_X7_wrongStripes : GoodIn wsX7_digest (wsV RX7 154 RX7 yX7_wrongStripes wsX7_wrongStripes) := goodIn_app (goodIn_of _ (by decide +kernel)) ggX7_digest_X7_wrongStripes
set_option maxRecDepth 20000 in
theorem ggX7_digest_X7_worstDisc : GoodIn wsX7_digest wsX7_worstDisc := goodIn_r _ [65, 4, 66, 67, 68, 8, 69, 70, 71, 72, 73, 74, 75, 76, 77, 5, 6, 7, 9, 10, 11, 12, 13, 14, 15, 16, 17, 18, 19, 20, 21, 22, 23, 24, 25, 26, 27, 28, 29, 30, 31, 32, 33, 34, 35, 36, 37, 38, 39, 40, 41, 42, 43, 44, 82, 83, 84, 85, 86, 87, 88, 89, 90, 91, 92, 93, 94] (by decide +kernel) (by decide +kernel)
set_option maxRecDepth 20000 in
theorem gX7_digest_X7_worstDisc : GoodIn wsX7_digest (wsV RX7 160 RX7 yX7_worstDisc wsX7_worstDisc) := goodIn_app (goodIn_of _ (by decide +kernel)) ggX7_digest_X7_worstDisc
set_option maxRecDepth 20000 in
theorem ggX7_digest_X7_lostBy : GoodIn wsX7_digest wsX7_lostBy := goodIn_r _ [69, 4, 70, 71, 72, 8, 73, 74, 75, 76, 77, 5, 6, 7, 9, 10, 11, 12, 13, 14, 15, 16, 17, 18, 19, 20, 21, 22, 23, 24, 25, 26, 27, 28, 29, 30, 31, 32, 33, 34, 35, 36, 37, 38, 39, 40, 41, 42, 43, 44, 82, 83, 84, 85, 86, 87, 88, 89, 90, 91, 92, 93, 94] (by decide +kernel) (by decide +kernel)
set_option maxRecDepth 20000 in
theorem gX7_digest_X7_lostBy : GoodIn wsX7_digest (wsV RX7 157 RX7 yX7_lostBy wsX7_lostBy) := goodIn_app (goodIn_of _ (by decide +kernel)) ggX7_digest_X7_lostBy
set_option maxRecDepth 20000 in
theorem ggX7_digest_X7_look : GoodIn wsX7_digest wsX7_look := goodIn_r _ [13, 14, 15, 16, 8, 17, 18, 19, 20, 21, 22, 23, 24, 25, 26, 27, 28, 29, 30, 4, 31, 32, 33, 34, 35, 36, 37, 38, 39, 40, 41, 42, 43, 44, 82, 83, 84, 85, 86, 87, 88, 89, 90, 91, 92, 93, 94] (by decide +kernel) (by decide +kernel)
set_option maxRecDepth 20000 in
theorem gX7_digest_X7_look : GoodIn wsX7_digest (wsV RX7 71 RX7 yX7_look wsX7_look) := goodIn_app (goodIn_of _ (by decide +kernel)) ggX7_digest_X7_look
set_option maxRecDepth 20000 in
theorem ggX7_digest_X7_unitTold : GoodIn wsX7_digest wsX7_unitTold := goodIn_r _ [81, 4, 27, 28, 29, 8, 30, 82, 83, 84, 85, 86, 87, 88, 89, 90, 91, 92, 93, 94] (by decide +kernel) (by decide +kernel)
set_option maxRecDepth 20000 in
theorem gX7_digest_X7_unitTold : GoodIn wsX7_digest (wsV RX7 148 RX7 yX7_unitTold wsX7_unitTold) := goodIn_app (goodIn_of _ (by decide +kernel)) ggX7_digest_X7_unitTold
theorem dX7_digest_0 : decode cX7_digest 0 = .ok (.aload_n 0, 1) := by decide +kernel
theorem dX7_digest_1 : decode cX7_digest 1 = .ok (.iconst 0, 1) := by decide +kernel
theorem dX7_digest_2 : decode cX7_digest 2 = .ok (.putfield 22, 3) := by decide +kernel
theorem dX7_digest_5 : decode cX7_digest 5 = .ok (.aload_n 0, 1) := by decide +kernel
theorem dX7_digest_6 : decode cX7_digest 6 = .ok (.ldc2_w 213, 3) := by decide +kernel
theorem dX7_digest_9 : decode cX7_digest 9 = .ok (.putfield 209, 3) := by decide +kernel
theorem dX7_digest_12 : decode cX7_digest 12 = .ok (.aload_n 0, 1) := by decide +kernel
theorem dX7_digest_13 : decode cX7_digest 13 = .ok (.aload_n 0, 1) := by decide +kernel
theorem dX7_digest_14 : decode cX7_digest 14 = .ok (.invokevirtual 85, 3) := by decide +kernel
theorem dX7_digest_17 : decode cX7_digest 17 = .ok (.i2l, 1) := by decide +kernel
theorem dX7_digest_18 : decode cX7_digest 18 = .ok (.invokevirtual 215, 3) := by decide +kernel
theorem dX7_digest_21 : decode cX7_digest 21 = .ok (.aload_n 0, 1) := by decide +kernel
theorem dX7_digest_22 : decode cX7_digest 22 = .ok (.aload_n 0, 1) := by decide +kernel
theorem dX7_digest_23 : decode cX7_digest 23 = .ok (.invokevirtual 154, 3) := by decide +kernel
theorem dX7_digest_26 : decode cX7_digest 26 = .ok (.i2l, 1) := by decide +kernel
theorem dX7_digest_27 : decode cX7_digest 27 = .ok (.invokevirtual 215, 3) := by decide +kernel
theorem dX7_digest_30 : decode cX7_digest 30 = .ok (.aload_n 0, 1) := by decide +kernel
theorem dX7_digest_31 : decode cX7_digest 31 = .ok (.aload_n 0, 1) := by decide +kernel
theorem dX7_digest_32 : decode cX7_digest 32 = .ok (.getfield 7, 3) := by decide +kernel
theorem dX7_digest_35 : decode cX7_digest 35 = .ok (.bipush 84, 2) := by decide +kernel
theorem dX7_digest_37 : decode cX7_digest 37 = .ok (.iaload, 1) := by decide +kernel
theorem dX7_digest_38 : decode cX7_digest 38 = .ok (.i2l, 1) := by decide +kernel
theorem dX7_digest_39 : decode cX7_digest 39 = .ok (.invokevirtual 215, 3) := by decide +kernel
theorem dX7_digest_42 : decode cX7_digest 42 = .ok (.aload_n 0, 1) := by decide +kernel
theorem dX7_digest_43 : decode cX7_digest 43 = .ok (.aload_n 0, 1) := by decide +kernel
theorem dX7_digest_44 : decode cX7_digest 44 = .ok (.getfield 7, 3) := by decide +kernel
theorem dX7_digest_47 : decode cX7_digest 47 = .ok (.bipush 85, 2) := by decide +kernel
theorem dX7_digest_49 : decode cX7_digest 49 = .ok (.iaload, 1) := by decide +kernel
theorem dX7_digest_50 : decode cX7_digest 50 = .ok (.i2l, 1) := by decide +kernel
theorem dX7_digest_51 : decode cX7_digest 51 = .ok (.invokevirtual 215, 3) := by decide +kernel
theorem dX7_digest_54 : decode cX7_digest 54 = .ok (.aload_n 0, 1) := by decide +kernel
theorem dX7_digest_55 : decode cX7_digest 55 = .ok (.aload_n 0, 1) := by decide +kernel
theorem dX7_digest_56 : decode cX7_digest 56 = .ok (.invokevirtual 160, 3) := by decide +kernel
theorem dX7_digest_59 : decode cX7_digest 59 = .ok (.i2l, 1) := by decide +kernel
theorem dX7_digest_60 : decode cX7_digest 60 = .ok (.invokevirtual 215, 3) := by decide +kernel
theorem dX7_digest_63 : decode cX7_digest 63 = .ok (.iconst 0, 1) := by decide +kernel
theorem dX7_digest_64 : decode cX7_digest 64 = .ok (.istore_n 1, 1) := by decide +kernel
theorem dX7_digest_65 : decode cX7_digest 65 = .ok (.iload_n 1, 1) := by decide +kernel
theorem dX7_digest_66 : decode cX7_digest 66 = .ok (.bipush 7, 2) := by decide +kernel
theorem dX7_digest_68 : decode cX7_digest 68 = .ok (.if_icmp .ge 60, 3) := by decide +kernel
theorem dX7_digest_71 : decode cX7_digest 71 = .ok (.aload_n 0, 1) := by decide +kernel
theorem dX7_digest_72 : decode cX7_digest 72 = .ok (.aload_n 0, 1) := by decide +kernel
theorem dX7_digest_73 : decode cX7_digest 73 = .ok (.getfield 7, 3) := by decide +kernel
theorem dX7_digest_76 : decode cX7_digest 76 = .ok (.iconst 0, 1) := by decide +kernel
theorem dX7_digest_77 : decode cX7_digest 77 = .ok (.iload_n 1, 1) := by decide +kernel
theorem dX7_digest_78 : decode cX7_digest 78 = .ok (.iadd, 1) := by decide +kernel
theorem dX7_digest_79 : decode cX7_digest 79 = .ok (.iaload, 1) := by decide +kernel
theorem dX7_digest_80 : decode cX7_digest 80 = .ok (.i2l, 1) := by decide +kernel
theorem dX7_digest_81 : decode cX7_digest 81 = .ok (.invokevirtual 215, 3) := by decide +kernel
theorem dX7_digest_84 : decode cX7_digest 84 = .ok (.aload_n 0, 1) := by decide +kernel
theorem dX7_digest_85 : decode cX7_digest 85 = .ok (.aload_n 0, 1) := by decide +kernel
theorem dX7_digest_86 : decode cX7_digest 86 = .ok (.getfield 7, 3) := by decide +kernel
theorem dX7_digest_89 : decode cX7_digest 89 = .ok (.bipush 70, 2) := by decide +kernel
theorem dX7_digest_91 : decode cX7_digest 91 = .ok (.iload_n 1, 1) := by decide +kernel
theorem dX7_digest_92 : decode cX7_digest 92 = .ok (.iadd, 1) := by decide +kernel
theorem dX7_digest_93 : decode cX7_digest 93 = .ok (.iaload, 1) := by decide +kernel
theorem dX7_digest_94 : decode cX7_digest 94 = .ok (.i2l, 1) := by decide +kernel
theorem dX7_digest_95 : decode cX7_digest 95 = .ok (.invokevirtual 215, 3) := by decide +kernel
theorem dX7_digest_98 : decode cX7_digest 98 = .ok (.aload_n 0, 1) := by decide +kernel
theorem dX7_digest_99 : decode cX7_digest 99 = .ok (.aload_n 0, 1) := by decide +kernel
theorem dX7_digest_100 : decode cX7_digest 100 = .ok (.getfield 7, 3) := by decide +kernel
theorem dX7_digest_103 : decode cX7_digest 103 = .ok (.bipush 77, 2) := by decide +kernel
theorem dX7_digest_105 : decode cX7_digest 105 = .ok (.iload_n 1, 1) := by decide +kernel
theorem dX7_digest_106 : decode cX7_digest 106 = .ok (.iadd, 1) := by decide +kernel
theorem dX7_digest_107 : decode cX7_digest 107 = .ok (.iaload, 1) := by decide +kernel
theorem dX7_digest_108 : decode cX7_digest 108 = .ok (.i2l, 1) := by decide +kernel
theorem dX7_digest_109 : decode cX7_digest 109 = .ok (.invokevirtual 215, 3) := by decide +kernel
theorem dX7_digest_112 : decode cX7_digest 112 = .ok (.aload_n 0, 1) := by decide +kernel
theorem dX7_digest_113 : decode cX7_digest 113 = .ok (.aload_n 0, 1) := by decide +kernel
theorem dX7_digest_114 : decode cX7_digest 114 = .ok (.iload_n 1, 1) := by decide +kernel
theorem dX7_digest_115 : decode cX7_digest 115 = .ok (.invokevirtual 157, 3) := by decide +kernel
theorem dX7_digest_118 : decode cX7_digest 118 = .ok (.i2l, 1) := by decide +kernel
theorem dX7_digest_119 : decode cX7_digest 119 = .ok (.invokevirtual 215, 3) := by decide +kernel
theorem dX7_digest_122 : decode cX7_digest 122 = .ok (.iinc 1 1, 3) := by decide +kernel
theorem dX7_digest_125 : decode cX7_digest 125 = .ok (.goto (-60), 3) := by decide +kernel
theorem dX7_digest_128 : decode cX7_digest 128 = .ok (.iconst 0, 1) := by decide +kernel
theorem dX7_digest_129 : decode cX7_digest 129 = .ok (.istore_n 1, 1) := by decide +kernel
theorem dX7_digest_130 : decode cX7_digest 130 = .ok (.iload_n 1, 1) := by decide +kernel
theorem dX7_digest_131 : decode cX7_digest 131 = .ok (.bipush 42, 2) := by decide +kernel
theorem dX7_digest_133 : decode cX7_digest 133 = .ok (.if_icmp .ge 24, 3) := by decide +kernel
theorem dX7_digest_136 : decode cX7_digest 136 = .ok (.aload_n 0, 1) := by decide +kernel
theorem dX7_digest_137 : decode cX7_digest 137 = .ok (.aload_n 0, 1) := by decide +kernel
theorem dX7_digest_138 : decode cX7_digest 138 = .ok (.iload_n 1, 1) := by decide +kernel
theorem dX7_digest_139 : decode cX7_digest 139 = .ok (.iconst 2, 1) := by decide +kernel
theorem dX7_digest_140 : decode cX7_digest 140 = .ok (.idiv, 1) := by decide +kernel
theorem dX7_digest_141 : decode cX7_digest 141 = .ok (.iload_n 1, 1) := by decide +kernel
theorem dX7_digest_142 : decode cX7_digest 142 = .ok (.iconst 2, 1) := by decide +kernel
theorem dX7_digest_143 : decode cX7_digest 143 = .ok (.irem, 1) := by decide +kernel
theorem dX7_digest_144 : decode cX7_digest 144 = .ok (.invokevirtual 71, 3) := by decide +kernel
theorem dX7_digest_147 : decode cX7_digest 147 = .ok (.i2l, 1) := by decide +kernel
theorem dX7_digest_148 : decode cX7_digest 148 = .ok (.invokevirtual 215, 3) := by decide +kernel
theorem dX7_digest_151 : decode cX7_digest 151 = .ok (.iinc 1 1, 3) := by decide +kernel
theorem dX7_digest_154 : decode cX7_digest 154 = .ok (.goto (-24), 3) := by decide +kernel
theorem dX7_digest_157 : decode cX7_digest 157 = .ok (.iconst 0, 1) := by decide +kernel
theorem dX7_digest_158 : decode cX7_digest 158 = .ok (.istore_n 1, 1) := by decide +kernel
theorem dX7_digest_159 : decode cX7_digest 159 = .ok (.iload_n 1, 1) := by decide +kernel
theorem dX7_digest_160 : decode cX7_digest 160 = .ok (.bipush 63, 2) := by decide +kernel
theorem dX7_digest_162 : decode cX7_digest 162 = .ok (.if_icmp .ge 19, 3) := by decide +kernel
theorem dX7_digest_165 : decode cX7_digest 165 = .ok (.aload_n 0, 1) := by decide +kernel
theorem dX7_digest_166 : decode cX7_digest 166 = .ok (.aload_n 0, 1) := by decide +kernel
theorem dX7_digest_167 : decode cX7_digest 167 = .ok (.iload_n 1, 1) := by decide +kernel
theorem dX7_digest_168 : decode cX7_digest 168 = .ok (.invokevirtual 148, 3) := by decide +kernel
theorem dX7_digest_171 : decode cX7_digest 171 = .ok (.i2l, 1) := by decide +kernel
theorem dX7_digest_172 : decode cX7_digest 172 = .ok (.invokevirtual 215, 3) := by decide +kernel
theorem dX7_digest_175 : decode cX7_digest 175 = .ok (.iinc 1 1, 3) := by decide +kernel
theorem dX7_digest_178 : decode cX7_digest 178 = .ok (.goto (-19), 3) := by decide +kernel
theorem dX7_digest_181 : decode cX7_digest 181 = .ok (.aload_n 0, 1) := by decide +kernel
theorem dX7_digest_182 : decode cX7_digest 182 = .ok (.getfield 209, 3) := by decide +kernel
theorem dX7_digest_185 : decode cX7_digest 185 = .ok (.lreturn, 1) := by decide +kernel
