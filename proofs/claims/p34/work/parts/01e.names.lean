set_option maxRecDepth 20000 in
theorem ggX6_init_X1_init : GoodIn wsX6_init wsX1_init := goodIn_r _ [22, 23, 2, 3, 24, 25, 26, 27, 28, 29, 30, 31, 32, 33, 34, 35, 36, 37, 38, 39, 40, 41, 6, 42, 43, 44, 45, 46, 47, 48, 49, 50, 51, 52, 53, 54, 55, 56, 57, 58, 59, 60, 61, 107, 92, 93, 94] (by decide +kernel) (by decide +kernel)
set_option maxRecDepth 20000 in
theorem gX6_init_X1_init : GoodIn wsX6_init (wsX1_init) := ggX6_init_X1_init
set_option maxRecDepth 20000 in
theorem ggX6_init_X5_init : GoodIn wsX6_init wsX5_init := goodIn_r _ [64, 65, 2, 3, 66, 25, 26, 67, 68, 31, 32, 33, 34, 35, 36, 37, 38, 39, 69, 59, 60, 61, 107, 99] (by decide +kernel) (by decide +kernel)
set_option maxRecDepth 20000 in
theorem gX6_init_X5_init : GoodIn wsX6_init (wsX5_init) := ggX6_init_X5_init
set_option maxRecDepth 20000 in
theorem ggX6_init_X0_init : GoodIn wsX6_init wsX0_init := goodIn_r _ [71, 72, 2, 3, 73, 25, 26, 74, 75, 31, 32, 33, 34, 35, 36, 37, 38, 39, 107, 100, 101, 102] (by decide +kernel) (by decide +kernel)
set_option maxRecDepth 20000 in
theorem gX6_init_X0_init_n25 : GoodIn wsX6_init (wsX0_init) := ggX6_init_X0_init
set_option maxRecDepth 20000 in
theorem ggX6_init_X3_init : GoodIn wsX6_init wsX3_init := goodIn_r _ [77, 78, 2, 3, 79, 25, 26, 80, 81, 82, 83, 84, 85, 31, 32, 33, 34, 35, 36, 37, 38, 39, 86, 87, 88, 89, 90, 91, 107, 103, 104, 105, 106, 108, 109, 110, 111] (by decide +kernel) (by decide +kernel)
set_option maxRecDepth 20000 in
theorem gX6_init_X3_init_n32 : GoodIn wsX6_init (wsX3_init) := ggX6_init_X3_init
theorem dX6_init_0 : decode cX6_init 0 = .ok (.aload_n 0, 1) := by decide +kernel
theorem dX6_init_1 : decode cX6_init 1 = .ok (.invokespecial 1, 3) := by decide +kernel
theorem dX6_init_4 : decode cX6_init 4 = .ok (.aload_n 0, 1) := by decide +kernel
theorem dX6_init_5 : decode cX6_init 5 = .ok (.new 7, 3) := by decide +kernel
theorem dX6_init_8 : decode cX6_init 8 = .ok (.dup, 1) := by decide +kernel
theorem dX6_init_9 : decode cX6_init 9 = .ok (.invokespecial 9, 3) := by decide +kernel
theorem dX6_init_12 : decode cX6_init 12 = .ok (.putfield 10, 3) := by decide +kernel
theorem dX6_init_15 : decode cX6_init 15 = .ok (.aload_n 0, 1) := by decide +kernel
theorem dX6_init_16 : decode cX6_init 16 = .ok (.new 16, 3) := by decide +kernel
theorem dX6_init_19 : decode cX6_init 19 = .ok (.dup, 1) := by decide +kernel
theorem dX6_init_20 : decode cX6_init 20 = .ok (.invokespecial 18, 3) := by decide +kernel
theorem dX6_init_23 : decode cX6_init 23 = .ok (.putfield 19, 3) := by decide +kernel
theorem dX6_init_26 : decode cX6_init 26 = .ok (.aload_n 0, 1) := by decide +kernel
theorem dX6_init_27 : decode cX6_init 27 = .ok (.new 23, 3) := by decide +kernel
theorem dX6_init_30 : decode cX6_init 30 = .ok (.dup, 1) := by decide +kernel
theorem dX6_init_31 : decode cX6_init 31 = .ok (.invokespecial 25, 3) := by decide +kernel
theorem dX6_init_34 : decode cX6_init 34 = .ok (.putfield 26, 3) := by decide +kernel
theorem dX6_init_37 : decode cX6_init 37 = .ok (.aload_n 0, 1) := by decide +kernel
theorem dX6_init_38 : decode cX6_init 38 = .ok (.new 30, 3) := by decide +kernel
theorem dX6_init_41 : decode cX6_init 41 = .ok (.dup, 1) := by decide +kernel
theorem dX6_init_42 : decode cX6_init 42 = .ok (.invokespecial 32, 3) := by decide +kernel
theorem dX6_init_45 : decode cX6_init 45 = .ok (.putfield 33, 3) := by decide +kernel
theorem dX6_init_48 : decode cX6_init 48 = .ok (.return_, 1) := by decide +kernel
set_option maxRecDepth 20000 in
theorem ggX6_read_X6_isAddress : GoodIn wsX6_read wsX6_isAddress := goodIn_r _ [11] (by decide +kernel) (by decide +kernel)
set_option maxRecDepth 20000 in
theorem gX6_read_X6_isAddress : GoodIn wsX6_read (va_wsS RX6 37 yX6_isAddress wsX6_isAddress) := goodIn_app (goodIn_of _ (by decide +kernel)) ggX6_read_X6_isAddress
set_option maxRecDepth 20000 in
theorem ggX6_read_X1_spotOfAddress : GoodIn wsX6_read wsX1_spotOfAddress := goodIn_r _ [16, 17, 18, 19, 15, 20, 21, 22, 23, 24, 25, 26, 27, 91, 92, 93, 94] (by decide +kernel) (by decide +kernel)
set_option maxRecDepth 20000 in
theorem gX6_read_X1_spotOfAddress : GoodIn wsX6_read (wsV RX6 48 RX1 yX1_spotOfAddress wsX1_spotOfAddress) := goodIn_app (goodIn_of _ (by decide +kernel)) ggX6_read_X1_spotOfAddress
set_option maxRecDepth 20000 in
theorem ggX6_read_X6_isLost : GoodIn wsX6_read wsX6_isLost := goodIn_r _ [31, 7, 32, 33, 34, 35, 36, 37, 38, 39, 15, 40, 41, 23, 24, 25, 26, 27, 42, 43, 44, 45, 46, 47, 10, 48, 5, 49, 50, 51, 52, 53, 21, 54, 22, 87, 88, 89, 90, 95, 94, 91, 92, 93] (by decide +kernel) (by decide +kernel)
set_option maxRecDepth 20000 in
theorem gX6_read_X6_isLost : GoodIn wsX6_read (wsV RX6 52 RX6 yX6_isLost wsX6_isLost) := goodIn_app (goodIn_of _ (by decide +kernel)) ggX6_read_X6_isLost
set_option maxRecDepth 20000 in
theorem ggX6_read_X0_keep : GoodIn wsX6_read wsX0_keep := goodIn_r _ [59, 60, 61, 62, 63, 64, 65, 66, 67, 68, 69, 35, 70, 37, 41, 23, 24, 25, 26, 27, 71, 72, 73, 74, 96, 97, 98, 95, 94] (by decide +kernel) (by decide +kernel)
set_option maxRecDepth 20000 in
theorem gX6_read_X0_keep : GoodIn wsX6_read (wsV RX6 61 RX0 yX0_keep wsX0_keep) := goodIn_app (goodIn_of _ (by decide +kernel)) ggX6_read_X0_keep
set_option maxRecDepth 20000 in
theorem ggX6_read_X5_hasUnit : GoodIn wsX6_read wsX5_hasUnit := goodIn_r _ [36, 37, 38, 39, 15, 40, 41, 23, 24, 25, 26, 27, 42, 43, 44, 95, 94] (by decide +kernel) (by decide +kernel)
set_option maxRecDepth 20000 in
theorem gX6_read_X5_hasUnit : GoodIn wsX6_read (wsV RX6 65 RX5 yX5_hasUnit wsX5_hasUnit) := goodIn_app (goodIn_of _ (by decide +kernel)) ggX6_read_X5_hasUnit
set_option maxRecDepth 20000 in
theorem ggX6_read_X5_fetch : GoodIn wsX6_read wsX5_fetch := goodIn_r _ [78, 37, 38, 39, 15, 40, 79, 80, 81, 25, 82, 27, 41, 23, 24, 26, 95, 94] (by decide +kernel) (by decide +kernel)
set_option maxRecDepth 20000 in
theorem gX6_read_X5_fetch : GoodIn wsX6_read (wsV RX6 68 RX5 yX5_fetch wsX5_fetch) := goodIn_app (goodIn_of _ (by decide +kernel)) ggX6_read_X5_fetch
set_option maxRecDepth 20000 in
theorem ggX6_read_X6_fetchOthers : GoodIn wsX6_read wsX6_fetchOthers := goodIn_r _ [86, 7, 5, 49, 50, 51, 15, 52, 53, 21, 54, 22, 23, 24, 25, 26, 27, 75, 76, 77, 35, 78, 37, 38, 39, 40, 79, 80, 81, 82, 41, 87, 88, 89, 90, 91, 92, 93, 94, 95] (by decide +kernel) (by decide +kernel)
set_option maxRecDepth 20000 in
theorem gX6_read_X6_fetchOthers : GoodIn wsX6_read (wsV RX6 71 RX6 yX6_fetchOthers wsX6_fetchOthers) := goodIn_app (goodIn_of _ (by decide +kernel)) ggX6_read_X6_fetchOthers
theorem dX6_read_0 : decode cX6_read 0 = .ok (.iload_n 1, 1) := by decide +kernel
theorem dX6_read_1 : decode cX6_read 1 = .ok (.invokestatic 37, 3) := by decide +kernel
theorem dX6_read_4 : decode cX6_read 4 = .ok (.ifCond .ne 13, 3) := by decide +kernel
theorem dX6_read_7 : decode cX6_read 7 = .ok (.new 41, 3) := by decide +kernel
theorem dX6_read_10 : decode cX6_read 10 = .ok (.dup, 1) := by decide +kernel
theorem dX6_read_11 : decode cX6_read 11 = .ok (.ldc 43, 2) := by decide +kernel
theorem dX6_read_13 : decode cX6_read 13 = .ok (.invokespecial 45, 3) := by decide +kernel
theorem dX6_read_16 : decode cX6_read 16 = .ok (.athrow, 1) := by decide +kernel
theorem dX6_read_17 : decode cX6_read 17 = .ok (.aload_n 0, 1) := by decide +kernel
theorem dX6_read_18 : decode cX6_read 18 = .ok (.getfield 10, 3) := by decide +kernel
theorem dX6_read_21 : decode cX6_read 21 = .ok (.iload_n 1, 1) := by decide +kernel
theorem dX6_read_22 : decode cX6_read 22 = .ok (.invokevirtual 48, 3) := by decide +kernel
theorem dX6_read_25 : decode cX6_read 25 = .ok (.istore_n 2, 1) := by decide +kernel
theorem dX6_read_26 : decode cX6_read 26 = .ok (.aload_n 0, 1) := by decide +kernel
theorem dX6_read_27 : decode cX6_read 27 = .ok (.iload_n 2, 1) := by decide +kernel
theorem dX6_read_28 : decode cX6_read 28 = .ok (.iconst (-1), 1) := by decide +kernel
theorem dX6_read_29 : decode cX6_read 29 = .ok (.invokevirtual 52, 3) := by decide +kernel
theorem dX6_read_32 : decode cX6_read 32 = .ok (.ifCond .eq 13, 3) := by decide +kernel
theorem dX6_read_35 : decode cX6_read 35 = .ok (.new 56, 3) := by decide +kernel
theorem dX6_read_38 : decode cX6_read 38 = .ok (.dup, 1) := by decide +kernel
theorem dX6_read_39 : decode cX6_read 39 = .ok (.ldc 58, 2) := by decide +kernel
theorem dX6_read_41 : decode cX6_read 41 = .ok (.invokespecial 60, 3) := by decide +kernel
theorem dX6_read_44 : decode cX6_read 44 = .ok (.athrow, 1) := by decide +kernel
theorem dX6_read_45 : decode cX6_read 45 = .ok (.aload_n 0, 1) := by decide +kernel
theorem dX6_read_46 : decode cX6_read 46 = .ok (.getfield 26, 3) := by decide +kernel
theorem dX6_read_49 : decode cX6_read 49 = .ok (.aload_n 0, 1) := by decide +kernel
theorem dX6_read_50 : decode cX6_read 50 = .ok (.getfield 19, 3) := by decide +kernel
theorem dX6_read_53 : decode cX6_read 53 = .ok (.invokevirtual 61, 3) := by decide +kernel
theorem dX6_read_56 : decode cX6_read 56 = .ok (.aload_n 0, 1) := by decide +kernel
theorem dX6_read_57 : decode cX6_read 57 = .ok (.getfield 19, 3) := by decide +kernel
theorem dX6_read_60 : decode cX6_read 60 = .ok (.iload_n 2, 1) := by decide +kernel
theorem dX6_read_61 : decode cX6_read 61 = .ok (.iconst (-1), 1) := by decide +kernel
theorem dX6_read_62 : decode cX6_read 62 = .ok (.invokevirtual 65, 3) := by decide +kernel
theorem dX6_read_65 : decode cX6_read 65 = .ok (.ifCond .eq 14, 3) := by decide +kernel
theorem dX6_read_68 : decode cX6_read 68 = .ok (.aload_n 0, 1) := by decide +kernel
theorem dX6_read_69 : decode cX6_read 69 = .ok (.getfield 19, 3) := by decide +kernel
theorem dX6_read_72 : decode cX6_read 72 = .ok (.iload_n 2, 1) := by decide +kernel
theorem dX6_read_73 : decode cX6_read 73 = .ok (.invokevirtual 68, 3) := by decide +kernel
theorem dX6_read_76 : decode cX6_read 76 = .ok (.goto 8, 3) := by decide +kernel
theorem dX6_read_79 : decode cX6_read 79 = .ok (.aload_n 0, 1) := by decide +kernel
theorem dX6_read_80 : decode cX6_read 80 = .ok (.iload_n 2, 1) := by decide +kernel
theorem dX6_read_81 : decode cX6_read 81 = .ok (.invokevirtual 71, 3) := by decide +kernel
theorem dX6_read_84 : decode cX6_read 84 = .ok (.ireturn, 1) := by decide +kernel
set_option maxRecDepth 20000 in
theorem ggX6_write_X6_isAddress : GoodIn wsX6_write wsX6_isAddress := goodIn_r _ [12] (by decide +kernel) (by decide +kernel)
set_option maxRecDepth 20000 in
theorem gX6_write_X6_isAddress : GoodIn wsX6_write (va_wsS RX6 37 yX6_isAddress wsX6_isAddress) := goodIn_app (goodIn_of _ (by decide +kernel)) ggX6_write_X6_isAddress
set_option maxRecDepth 20000 in
theorem ggX6_write_X6_isValue : GoodIn wsX6_write wsX6_isValue := goodIn_r _ [15, 16] (by decide +kernel) (by decide +kernel)
set_option maxRecDepth 20000 in
theorem gX6_write_X6_isValue : GoodIn wsX6_write (va_wsS RX6 74 yX6_isValue wsX6_isValue) := goodIn_app (goodIn_of _ (by decide +kernel)) ggX6_write_X6_isValue
set_option maxRecDepth 20000 in
theorem ggX6_write_X6_canStore : GoodIn wsX6_write wsX6_canStore := goodIn_r _ [20, 21, 22, 23, 24, 25, 26, 27, 28, 29, 30, 31, 32, 33, 34, 35, 36, 37, 38, 39, 40, 11, 41, 8, 42, 43, 44, 45, 46, 47, 48, 49, 50, 51, 52, 53, 54, 55, 56, 57, 58, 59, 60, 61, 62, 63, 64, 109, 110, 111, 112, 113, 114, 115, 116, 117] (by decide +kernel) (by decide +kernel)
set_option maxRecDepth 20000 in
theorem gX6_write_X6_canStore : GoodIn wsX6_write (wsV RX6 82 RX6 yX6_canStore wsX6_canStore) := goodIn_app (goodIn_of _ (by decide +kernel)) ggX6_write_X6_canStore
set_option maxRecDepth 20000 in
theorem ggX6_write_X0_keep : GoodIn wsX6_write wsX0_keep := goodIn_r _ [69, 70, 71, 72, 73, 74, 75, 76, 77, 78, 79, 45, 80, 47, 51, 33, 34, 35, 36, 37, 81, 82, 83, 84, 118, 119, 120, 117, 116] (by decide +kernel) (by decide +kernel)
set_option maxRecDepth 20000 in
theorem gX6_write_X0_keep : GoodIn wsX6_write (wsV RX6 61 RX0 yX0_keep wsX0_keep) := goodIn_app (goodIn_of _ (by decide +kernel)) ggX6_write_X0_keep
set_option maxRecDepth 20000 in
theorem ggX6_write_X6_storeData : GoodIn wsX6_write wsX6_storeData := goodIn_r _ [88, 21, 8, 22, 23, 24, 25, 26, 27, 28, 29, 30, 31, 32, 33, 34, 35, 36, 37, 89, 90, 91, 92, 42, 43, 44, 45, 46, 47, 48, 49, 50, 51, 52, 53, 54, 93, 94, 95, 96, 97, 98, 99, 100, 101, 102, 103, 104, 105, 106, 107, 108, 81, 82, 83, 84, 109, 110, 111, 112, 113, 114, 115, 116, 117] (by decide +kernel) (by decide +kernel)
set_option maxRecDepth 20000 in
theorem gX6_write_X6_storeData : GoodIn wsX6_write (wsV RX6 87 RX6 yX6_storeData wsX6_storeData) := goodIn_app (goodIn_of _ (by decide +kernel)) ggX6_write_X6_storeData
theorem dX6_write_0 : decode cX6_write 0 = .ok (.iload_n 1, 1) := by decide +kernel
theorem dX6_write_1 : decode cX6_write 1 = .ok (.invokestatic 37, 3) := by decide +kernel
theorem dX6_write_4 : decode cX6_write 4 = .ok (.ifCond .ne 13, 3) := by decide +kernel
theorem dX6_write_7 : decode cX6_write 7 = .ok (.new 41, 3) := by decide +kernel
theorem dX6_write_10 : decode cX6_write 10 = .ok (.dup, 1) := by decide +kernel
theorem dX6_write_11 : decode cX6_write 11 = .ok (.ldc 43, 2) := by decide +kernel
theorem dX6_write_13 : decode cX6_write 13 = .ok (.invokespecial 45, 3) := by decide +kernel
theorem dX6_write_16 : decode cX6_write 16 = .ok (.athrow, 1) := by decide +kernel
theorem dX6_write_17 : decode cX6_write 17 = .ok (.iload_n 2, 1) := by decide +kernel
theorem dX6_write_18 : decode cX6_write 18 = .ok (.invokestatic 74, 3) := by decide +kernel
theorem dX6_write_21 : decode cX6_write 21 = .ok (.ifCond .ne 13, 3) := by decide +kernel
theorem dX6_write_24 : decode cX6_write 24 = .ok (.new 77, 3) := by decide +kernel
theorem dX6_write_27 : decode cX6_write 27 = .ok (.dup, 1) := by decide +kernel
theorem dX6_write_28 : decode cX6_write 28 = .ok (.ldc 79, 2) := by decide +kernel
theorem dX6_write_30 : decode cX6_write 30 = .ok (.invokespecial 81, 3) := by decide +kernel
theorem dX6_write_33 : decode cX6_write 33 = .ok (.athrow, 1) := by decide +kernel
theorem dX6_write_34 : decode cX6_write 34 = .ok (.aload_n 0, 1) := by decide +kernel
theorem dX6_write_35 : decode cX6_write 35 = .ok (.iload_n 1, 1) := by decide +kernel
theorem dX6_write_36 : decode cX6_write 36 = .ok (.invokevirtual 82, 3) := by decide +kernel
theorem dX6_write_39 : decode cX6_write 39 = .ok (.ifCond .ne 13, 3) := by decide +kernel
theorem dX6_write_42 : decode cX6_write 42 = .ok (.new 56, 3) := by decide +kernel
theorem dX6_write_45 : decode cX6_write 45 = .ok (.dup, 1) := by decide +kernel
theorem dX6_write_46 : decode cX6_write 46 = .ok (.ldc 85, 2) := by decide +kernel
theorem dX6_write_48 : decode cX6_write 48 = .ok (.invokespecial 60, 3) := by decide +kernel
theorem dX6_write_51 : decode cX6_write 51 = .ok (.athrow, 1) := by decide +kernel
theorem dX6_write_52 : decode cX6_write 52 = .ok (.aload_n 0, 1) := by decide +kernel
theorem dX6_write_53 : decode cX6_write 53 = .ok (.getfield 26, 3) := by decide +kernel
theorem dX6_write_56 : decode cX6_write 56 = .ok (.aload_n 0, 1) := by decide +kernel
theorem dX6_write_57 : decode cX6_write 57 = .ok (.getfield 19, 3) := by decide +kernel
theorem dX6_write_60 : decode cX6_write 60 = .ok (.invokevirtual 61, 3) := by decide +kernel
theorem dX6_write_63 : decode cX6_write 63 = .ok (.aload_n 0, 1) := by decide +kernel
theorem dX6_write_64 : decode cX6_write 64 = .ok (.iload_n 1, 1) := by decide +kernel
theorem dX6_write_65 : decode cX6_write 65 = .ok (.iload_n 2, 1) := by decide +kernel
theorem dX6_write_66 : decode cX6_write 66 = .ok (.invokevirtual 87, 3) := by decide +kernel
theorem dX6_write_69 : decode cX6_write 69 = .ok (.ireturn, 1) := by decide +kernel
set_option maxRecDepth 20000 in
theorem ggX6_fail_X6_isDisc : GoodIn wsX6_fail wsX6_isDisc := goodIn_r _ [10] (by decide +kernel) (by decide +kernel)
set_option maxRecDepth 20000 in
theorem gX6_fail_X6_isDisc : GoodIn wsX6_fail (va_wsS RX6 91 yX6_isDisc wsX6_isDisc) := goodIn_app (goodIn_of _ (by decide +kernel)) ggX6_fail_X6_isDisc
set_option maxRecDepth 20000 in
theorem ggX6_fail_X6_canDrop : GoodIn wsX6_fail wsX6_canDrop := goodIn_r _ [14, 6, 15, 16, 17, 18, 19, 20, 21, 22, 23, 24, 25, 26, 98, 99, 100, 101, 102, 103] (by decide +kernel) (by decide +kernel)
set_option maxRecDepth 20000 in
theorem gX6_fail_X6_canDrop : GoodIn wsX6_fail (wsV RX6 96 RX6 yX6_canDrop wsX6_canDrop) := goodIn_app (goodIn_of _ (by decide +kernel)) ggX6_fail_X6_canDrop
set_option maxRecDepth 20000 in
theorem ggX6_fail_X0_keep : GoodIn wsX6_fail wsX0_keep := goodIn_r _ [31, 32, 33, 34, 35, 36, 37, 38, 39, 40, 41, 18, 42, 20, 21, 22, 23, 24, 25, 26, 43, 44, 45, 46, 104, 105, 106, 102, 103] (by decide +kernel) (by decide +kernel)
set_option maxRecDepth 20000 in
theorem gX6_fail_X0_keep : GoodIn wsX6_fail (wsV RX6 61 RX0 yX0_keep wsX0_keep) := goodIn_app (goodIn_of _ (by decide +kernel)) ggX6_fail_X0_keep
set_option maxRecDepth 20000 in
theorem ggX6_fail_X5_dropDisc : GoodIn wsX6_fail wsX5_dropDisc := goodIn_r _ [50, 20, 43, 44, 45, 24, 46, 26, 51, 52, 53, 54, 55, 56, 57, 18, 58, 102, 103] (by decide +kernel) (by decide +kernel)
set_option maxRecDepth 20000 in
theorem gX6_fail_X5_dropDisc : GoodIn wsX6_fail (wsV RX6 101 RX5 yX5_dropDisc wsX5_dropDisc) := goodIn_app (goodIn_of _ (by decide +kernel)) ggX6_fail_X5_dropDisc
set_option maxRecDepth 20000 in
theorem ggX6_fail_X6_countLost : GoodIn wsX6_fail wsX6_countLost := goodIn_r _ [62, 63, 64, 65, 66, 53, 67, 68, 69, 70, 71, 72, 73, 22, 23, 24, 25, 26, 74, 75, 76, 9, 77, 6, 78, 79, 80, 18, 81, 20, 82, 83, 84, 21, 85, 86, 87, 88, 89, 90, 91, 92, 93, 94, 95, 96, 97, 98, 99, 100, 101, 107, 108, 109, 103, 102] (by decide +kernel) (by decide +kernel)
set_option maxRecDepth 20000 in
theorem gX6_fail_X6_countLost : GoodIn wsX6_fail (wsV RX6 105 RX6 yX6_countLost wsX6_countLost) := goodIn_app (goodIn_of _ (by decide +kernel)) ggX6_fail_X6_countLost
theorem dX6_fail_0 : decode cX6_fail 0 = .ok (.iload_n 1, 1) := by decide +kernel
theorem dX6_fail_1 : decode cX6_fail 1 = .ok (.invokestatic 91, 3) := by decide +kernel
theorem dX6_fail_4 : decode cX6_fail 4 = .ok (.ifCond .ne 13, 3) := by decide +kernel
theorem dX6_fail_7 : decode cX6_fail 7 = .ok (.new 41, 3) := by decide +kernel
theorem dX6_fail_10 : decode cX6_fail 10 = .ok (.dup, 1) := by decide +kernel
theorem dX6_fail_11 : decode cX6_fail 11 = .ok (.ldc 94, 2) := by decide +kernel
theorem dX6_fail_13 : decode cX6_fail 13 = .ok (.invokespecial 45, 3) := by decide +kernel
theorem dX6_fail_16 : decode cX6_fail 16 = .ok (.athrow, 1) := by decide +kernel
theorem dX6_fail_17 : decode cX6_fail 17 = .ok (.aload_n 0, 1) := by decide +kernel
theorem dX6_fail_18 : decode cX6_fail 18 = .ok (.iload_n 1, 1) := by decide +kernel
theorem dX6_fail_19 : decode cX6_fail 19 = .ok (.invokevirtual 96, 3) := by decide +kernel
theorem dX6_fail_22 : decode cX6_fail 22 = .ok (.ifCond .ne 13, 3) := by decide +kernel
theorem dX6_fail_25 : decode cX6_fail 25 = .ok (.new 56, 3) := by decide +kernel
theorem dX6_fail_28 : decode cX6_fail 28 = .ok (.dup, 1) := by decide +kernel
theorem dX6_fail_29 : decode cX6_fail 29 = .ok (.ldc 99, 2) := by decide +kernel
theorem dX6_fail_31 : decode cX6_fail 31 = .ok (.invokespecial 60, 3) := by decide +kernel
theorem dX6_fail_34 : decode cX6_fail 34 = .ok (.athrow, 1) := by decide +kernel
theorem dX6_fail_35 : decode cX6_fail 35 = .ok (.aload_n 0, 1) := by decide +kernel
theorem dX6_fail_36 : decode cX6_fail 36 = .ok (.getfield 26, 3) := by decide +kernel
theorem dX6_fail_39 : decode cX6_fail 39 = .ok (.aload_n 0, 1) := by decide +kernel
theorem dX6_fail_40 : decode cX6_fail 40 = .ok (.getfield 19, 3) := by decide +kernel
theorem dX6_fail_43 : decode cX6_fail 43 = .ok (.invokevirtual 61, 3) := by decide +kernel
theorem dX6_fail_46 : decode cX6_fail 46 = .ok (.aload_n 0, 1) := by decide +kernel
theorem dX6_fail_47 : decode cX6_fail 47 = .ok (.getfield 19, 3) := by decide +kernel
theorem dX6_fail_50 : decode cX6_fail 50 = .ok (.iload_n 1, 1) := by decide +kernel
theorem dX6_fail_51 : decode cX6_fail 51 = .ok (.invokevirtual 101, 3) := by decide +kernel
theorem dX6_fail_54 : decode cX6_fail 54 = .ok (.aload_n 0, 1) := by decide +kernel
theorem dX6_fail_55 : decode cX6_fail 55 = .ok (.iconst (-1), 1) := by decide +kernel
theorem dX6_fail_56 : decode cX6_fail 56 = .ok (.invokevirtual 105, 3) := by decide +kernel
theorem dX6_fail_59 : decode cX6_fail 59 = .ok (.ireturn, 1) := by decide +kernel
set_option maxRecDepth 20000 in
theorem ggX6_beginMending_X6_isDisc : GoodIn wsX6_beginMending wsX6_isDisc := goodIn_r _ [10] (by decide +kernel) (by decide +kernel)
set_option maxRecDepth 20000 in
theorem gX6_beginMending_X6_isDisc : GoodIn wsX6_beginMending (va_wsS RX6 91 yX6_isDisc wsX6_isDisc) := goodIn_app (goodIn_of _ (by decide +kernel)) ggX6_beginMending_X6_isDisc
set_option maxRecDepth 20000 in
theorem ggX6_beginMending_X6_canReplace : GoodIn wsX6_beginMending wsX6_canReplace := goodIn_r _ [14, 6, 15, 16, 17, 18, 19, 20, 21, 22, 23, 24, 25, 26, 27, 28, 29, 30, 56, 57, 58, 59, 60, 61] (by decide +kernel) (by decide +kernel)
set_option maxRecDepth 20000 in
theorem gX6_beginMending_X6_canReplace : GoodIn wsX6_beginMending (wsV RX6 108 RX6 yX6_canReplace wsX6_canReplace) := goodIn_app (goodIn_of _ (by decide +kernel)) ggX6_beginMending_X6_canReplace
set_option maxRecDepth 20000 in
theorem ggX6_beginMending_X0_keep : GoodIn wsX6_beginMending wsX0_keep := goodIn_r _ [35, 36, 37, 38, 39, 40, 41, 42, 43, 44, 45, 18, 46, 20, 21, 22, 23, 24, 25, 26, 47, 48, 49, 50, 62, 63, 64, 60, 61] (by decide +kernel) (by decide +kernel)
set_option maxRecDepth 20000 in
theorem gX6_beginMending_X0_keep : GoodIn wsX6_beginMending (wsV RX6 61 RX0 yX0_keep wsX0_keep) := goodIn_app (goodIn_of _ (by decide +kernel)) ggX6_beginMending_X0_keep
set_option maxRecDepth 20000 in
theorem ggX6_beginMending_X5_replaceDisc : GoodIn wsX6_beginMending wsX5_replaceDisc := goodIn_r _ [54, 20, 55, 28, 29, 18, 30, 21, 22, 23, 24, 25, 26, 47, 48, 49, 50, 60, 61] (by decide +kernel) (by decide +kernel)
set_option maxRecDepth 20000 in
theorem gX6_beginMending_X5_replaceDisc : GoodIn wsX6_beginMending (wsV RX6 113 RX5 yX5_replaceDisc wsX5_replaceDisc) := goodIn_app (goodIn_of _ (by decide +kernel)) ggX6_beginMending_X5_replaceDisc
set_option maxRecDepth 20000 in
theorem ggX6_beginMending_X5_spareDiscs : GoodIn wsX6_beginMending wsX5_spareDiscs := goodIn_r _ [30, 20, 21, 22, 23, 24, 25, 26, 60, 61] (by decide +kernel) (by decide +kernel)
set_option maxRecDepth 20000 in
theorem gX6_beginMending_X5_spareDiscs : GoodIn wsX6_beginMending (wsV RX6 116 RX5 yX5_spareDiscs wsX5_spareDiscs) := goodIn_app (goodIn_of _ (by decide +kernel)) ggX6_beginMending_X5_spareDiscs
theorem dX6_beginMending_0 : decode cX6_beginMending 0 = .ok (.iload_n 1, 1) := by decide +kernel
theorem dX6_beginMending_1 : decode cX6_beginMending 1 = .ok (.invokestatic 91, 3) := by decide +kernel
theorem dX6_beginMending_4 : decode cX6_beginMending 4 = .ok (.ifCond .ne 13, 3) := by decide +kernel
theorem dX6_beginMending_7 : decode cX6_beginMending 7 = .ok (.new 41, 3) := by decide +kernel
theorem dX6_beginMending_10 : decode cX6_beginMending 10 = .ok (.dup, 1) := by decide +kernel
theorem dX6_beginMending_11 : decode cX6_beginMending 11 = .ok (.ldc 94, 2) := by decide +kernel
theorem dX6_beginMending_13 : decode cX6_beginMending 13 = .ok (.invokespecial 45, 3) := by decide +kernel
theorem dX6_beginMending_16 : decode cX6_beginMending 16 = .ok (.athrow, 1) := by decide +kernel
theorem dX6_beginMending_17 : decode cX6_beginMending 17 = .ok (.aload_n 0, 1) := by decide +kernel
theorem dX6_beginMending_18 : decode cX6_beginMending 18 = .ok (.iload_n 1, 1) := by decide +kernel
theorem dX6_beginMending_19 : decode cX6_beginMending 19 = .ok (.invokevirtual 108, 3) := by decide +kernel
theorem dX6_beginMending_22 : decode cX6_beginMending 22 = .ok (.ifCond .ne 13, 3) := by decide +kernel
theorem dX6_beginMending_25 : decode cX6_beginMending 25 = .ok (.new 56, 3) := by decide +kernel
theorem dX6_beginMending_28 : decode cX6_beginMending 28 = .ok (.dup, 1) := by decide +kernel
theorem dX6_beginMending_29 : decode cX6_beginMending 29 = .ok (.ldc 111, 2) := by decide +kernel
theorem dX6_beginMending_31 : decode cX6_beginMending 31 = .ok (.invokespecial 60, 3) := by decide +kernel
theorem dX6_beginMending_34 : decode cX6_beginMending 34 = .ok (.athrow, 1) := by decide +kernel
theorem dX6_beginMending_35 : decode cX6_beginMending 35 = .ok (.aload_n 0, 1) := by decide +kernel
theorem dX6_beginMending_36 : decode cX6_beginMending 36 = .ok (.getfield 26, 3) := by decide +kernel
theorem dX6_beginMending_39 : decode cX6_beginMending 39 = .ok (.aload_n 0, 1) := by decide +kernel
theorem dX6_beginMending_40 : decode cX6_beginMending 40 = .ok (.getfield 19, 3) := by decide +kernel
theorem dX6_beginMending_43 : decode cX6_beginMending 43 = .ok (.invokevirtual 61, 3) := by decide +kernel
theorem dX6_beginMending_46 : decode cX6_beginMending 46 = .ok (.aload_n 0, 1) := by decide +kernel
theorem dX6_beginMending_47 : decode cX6_beginMending 47 = .ok (.getfield 19, 3) := by decide +kernel
theorem dX6_beginMending_50 : decode cX6_beginMending 50 = .ok (.iload_n 1, 1) := by decide +kernel
theorem dX6_beginMending_51 : decode cX6_beginMending 51 = .ok (.invokevirtual 113, 3) := by decide +kernel
theorem dX6_beginMending_54 : decode cX6_beginMending 54 = .ok (.aload_n 0, 1) := by decide +kernel
theorem dX6_beginMending_55 : decode cX6_beginMending 55 = .ok (.getfield 19, 3) := by decide +kernel
theorem dX6_beginMending_58 : decode cX6_beginMending 58 = .ok (.invokevirtual 116, 3) := by decide +kernel
theorem dX6_beginMending_61 : decode cX6_beginMending 61 = .ok (.ireturn, 1) := by decide +kernel
set_option maxRecDepth 20000 in
theorem ggX6_mend_X0_keep : GoodIn wsX6_mend wsX0_keep := goodIn_r _ [9, 10, 11, 12, 13, 14, 15, 16, 17, 18, 19, 20, 21, 22, 23, 24, 25, 26, 27, 28, 29, 30, 31, 32, 105, 106, 107, 108, 109] (by decide +kernel) (by decide +kernel)
set_option maxRecDepth 20000 in
theorem gX6_mend_X0_keep : GoodIn wsX6_mend (wsV RX6 61 RX0 yX0_keep wsX0_keep) := goodIn_app (goodIn_of _ (by decide +kernel)) ggX6_mend_X0_keep
set_option maxRecDepth 20000 in
theorem ggX6_mend_X6_makeSteps : GoodIn wsX6_mend wsX6_makeSteps := goodIn_r _ [37, 38, 39, 40, 36, 41, 4, 42, 43, 44, 20, 45, 22, 23, 24, 25, 26, 27, 28, 46, 47, 48, 49, 50, 51, 52, 53, 54, 55, 56, 57, 58, 59, 60, 61, 62, 63, 64, 65, 66, 67, 68, 69, 70, 71, 72, 73, 74, 75, 76, 77, 78, 79, 80, 81, 82, 83, 84, 85, 86, 87, 88, 89, 90, 91, 92, 29, 30, 31, 32, 93, 94, 95, 96, 97, 98, 99, 100, 101, 102, 103, 104, 108, 109, 110, 111, 112] (by decide +kernel) (by decide +kernel)
set_option maxRecDepth 20000 in
theorem gX6_mend_X6_makeSteps : GoodIn wsX6_mend (wsV RX6 122 RX6 yX6_makeSteps wsX6_makeSteps) := goodIn_app (goodIn_of _ (by decide +kernel)) ggX6_mend_X6_makeSteps
theorem dX6_mend_0 : decode cX6_mend 0 = .ok (.iload_n 1, 1) := by decide +kernel
theorem dX6_mend_1 : decode cX6_mend 1 = .ok (.iconst 1, 1) := by decide +kernel
theorem dX6_mend_2 : decode cX6_mend 2 = .ok (.if_icmp .lt 9, 3) := by decide +kernel
theorem dX6_mend_5 : decode cX6_mend 5 = .ok (.iload_n 1, 1) := by decide +kernel
theorem dX6_mend_6 : decode cX6_mend 6 = .ok (.bipush 9, 2) := by decide +kernel
theorem dX6_mend_8 : decode cX6_mend 8 = .ok (.if_icmp .le 13, 3) := by decide +kernel
theorem dX6_mend_11 : decode cX6_mend 11 = .ok (.new 77, 3) := by decide +kernel
theorem dX6_mend_14 : decode cX6_mend 14 = .ok (.dup, 1) := by decide +kernel
theorem dX6_mend_15 : decode cX6_mend 15 = .ok (.ldc 120, 2) := by decide +kernel
theorem dX6_mend_17 : decode cX6_mend 17 = .ok (.invokespecial 81, 3) := by decide +kernel
theorem dX6_mend_20 : decode cX6_mend 20 = .ok (.athrow, 1) := by decide +kernel
theorem dX6_mend_21 : decode cX6_mend 21 = .ok (.aload_n 0, 1) := by decide +kernel
theorem dX6_mend_22 : decode cX6_mend 22 = .ok (.getfield 26, 3) := by decide +kernel
theorem dX6_mend_25 : decode cX6_mend 25 = .ok (.aload_n 0, 1) := by decide +kernel
theorem dX6_mend_26 : decode cX6_mend 26 = .ok (.getfield 19, 3) := by decide +kernel
theorem dX6_mend_29 : decode cX6_mend 29 = .ok (.invokevirtual 61, 3) := by decide +kernel
theorem dX6_mend_32 : decode cX6_mend 32 = .ok (.aload_n 0, 1) := by decide +kernel
theorem dX6_mend_33 : decode cX6_mend 33 = .ok (.iload_n 1, 1) := by decide +kernel
theorem dX6_mend_34 : decode cX6_mend 34 = .ok (.invokevirtual 122, 3) := by decide +kernel
theorem dX6_mend_37 : decode cX6_mend 37 = .ok (.ireturn, 1) := by decide +kernel
set_option maxRecDepth 20000 in
theorem ggX6_addSpare_X5_spareDiscs : GoodIn wsX6_addSpare wsX5_spareDiscs := goodIn_r _ [9, 10, 11, 12, 13, 14, 15, 16, 49, 50] (by decide +kernel) (by decide +kernel)
set_option maxRecDepth 20000 in
theorem gX6_addSpare_X5_spareDiscs : GoodIn wsX6_addSpare (wsV RX6 116 RX5 yX5_spareDiscs wsX5_spareDiscs) := goodIn_app (goodIn_of _ (by decide +kernel)) ggX6_addSpare_X5_spareDiscs
set_option maxRecDepth 20000 in
theorem ggX6_addSpare_X0_keep : GoodIn wsX6_addSpare wsX0_keep := goodIn_r _ [21, 22, 23, 24, 25, 26, 27, 28, 29, 30, 31, 8, 32, 10, 11, 12, 13, 14, 15, 16, 33, 34, 35, 36, 51, 52, 53, 49, 50] (by decide +kernel) (by decide +kernel)
set_option maxRecDepth 20000 in
theorem gX6_addSpare_X0_keep : GoodIn wsX6_addSpare (wsV RX6 61 RX0 yX0_keep wsX0_keep) := goodIn_app (goodIn_of _ (by decide +kernel)) ggX6_addSpare_X0_keep
set_option maxRecDepth 20000 in
theorem ggX6_addSpare_X5_addSpareDisc : GoodIn wsX6_addSpare wsX5_addSpareDisc := goodIn_r _ [40, 10, 41, 42, 43, 14, 44, 16, 49, 50] (by decide +kernel) (by decide +kernel)
set_option maxRecDepth 20000 in
theorem gX6_addSpare_X5_addSpareDisc : GoodIn wsX6_addSpare (wsV RX6 127 RX5 yX5_addSpareDisc wsX5_addSpareDisc) := goodIn_app (goodIn_of _ (by decide +kernel)) ggX6_addSpare_X5_addSpareDisc
theorem dX6_addSpare_0 : decode cX6_addSpare 0 = .ok (.aload_n 0, 1) := by decide +kernel
theorem dX6_addSpare_1 : decode cX6_addSpare 1 = .ok (.getfield 19, 3) := by decide +kernel
theorem dX6_addSpare_4 : decode cX6_addSpare 4 = .ok (.invokevirtual 116, 3) := by decide +kernel
theorem dX6_addSpare_7 : decode cX6_addSpare 7 = .ok (.iconst 5, 1) := by decide +kernel
theorem dX6_addSpare_8 : decode cX6_addSpare 8 = .ok (.if_icmp .lt 13, 3) := by decide +kernel
theorem dX6_addSpare_11 : decode cX6_addSpare 11 = .ok (.new 56, 3) := by decide +kernel
theorem dX6_addSpare_14 : decode cX6_addSpare 14 = .ok (.dup, 1) := by decide +kernel
theorem dX6_addSpare_15 : decode cX6_addSpare 15 = .ok (.ldc 125, 2) := by decide +kernel
theorem dX6_addSpare_17 : decode cX6_addSpare 17 = .ok (.invokespecial 60, 3) := by decide +kernel
theorem dX6_addSpare_20 : decode cX6_addSpare 20 = .ok (.athrow, 1) := by decide +kernel
theorem dX6_addSpare_21 : decode cX6_addSpare 21 = .ok (.aload_n 0, 1) := by decide +kernel
theorem dX6_addSpare_22 : decode cX6_addSpare 22 = .ok (.getfield 26, 3) := by decide +kernel
theorem dX6_addSpare_25 : decode cX6_addSpare 25 = .ok (.aload_n 0, 1) := by decide +kernel
theorem dX6_addSpare_26 : decode cX6_addSpare 26 = .ok (.getfield 19, 3) := by decide +kernel
theorem dX6_addSpare_29 : decode cX6_addSpare 29 = .ok (.invokevirtual 61, 3) := by decide +kernel
theorem dX6_addSpare_32 : decode cX6_addSpare 32 = .ok (.aload_n 0, 1) := by decide +kernel
theorem dX6_addSpare_33 : decode cX6_addSpare 33 = .ok (.getfield 19, 3) := by decide +kernel
theorem dX6_addSpare_36 : decode cX6_addSpare 36 = .ok (.invokevirtual 127, 3) := by decide +kernel
theorem dX6_addSpare_39 : decode cX6_addSpare 39 = .ok (.aload_n 0, 1) := by decide +kernel
theorem dX6_addSpare_40 : decode cX6_addSpare 40 = .ok (.getfield 19, 3) := by decide +kernel
theorem dX6_addSpare_43 : decode cX6_addSpare 43 = .ok (.invokevirtual 116, 3) := by decide +kernel
theorem dX6_addSpare_46 : decode cX6_addSpare 46 = .ok (.ireturn, 1) := by decide +kernel
set_option maxRecDepth 20000 in
theorem ggX6_corrupt_X6_isDisc : GoodIn wsX6_corrupt wsX6_isDisc := goodIn_r _ [12] (by decide +kernel) (by decide +kernel)
set_option maxRecDepth 20000 in
theorem gX6_corrupt_X6_isDisc : GoodIn wsX6_corrupt (va_wsS RX6 91 yX6_isDisc wsX6_isDisc) := goodIn_app (goodIn_of _ (by decide +kernel)) ggX6_corrupt_X6_isDisc
set_option maxRecDepth 20000 in
theorem ggX6_corrupt_X6_isPlace : GoodIn wsX6_corrupt wsX6_isPlace := goodIn_r _ [15] (by decide +kernel) (by decide +kernel)
set_option maxRecDepth 20000 in
theorem gX6_corrupt_X6_isPlace : GoodIn wsX6_corrupt (va_wsS RX6 130 yX6_isPlace wsX6_isPlace) := goodIn_app (goodIn_of _ (by decide +kernel)) ggX6_corrupt_X6_isPlace
set_option maxRecDepth 20000 in
theorem ggX6_corrupt_X6_isValue : GoodIn wsX6_corrupt wsX6_isValue := goodIn_r _ [18, 19] (by decide +kernel) (by decide +kernel)
set_option maxRecDepth 20000 in
theorem gX6_corrupt_X6_isValue : GoodIn wsX6_corrupt (va_wsS RX6 74 yX6_isValue wsX6_isValue) := goodIn_app (goodIn_of _ (by decide +kernel)) ggX6_corrupt_X6_isValue
set_option maxRecDepth 20000 in
theorem ggX6_corrupt_X1_spotAt : GoodIn wsX6_corrupt wsX1_spotAt := goodIn_r _ [23] (by decide +kernel) (by decide +kernel)
set_option maxRecDepth 20000 in
theorem gX6_corrupt_X1_spotAt : GoodIn wsX6_corrupt (va_wsS RX6 135 yX1_spotAt wsX1_spotAt) := goodIn_app (goodIn_of _ (by decide +kernel)) ggX6_corrupt_X1_spotAt
set_option maxRecDepth 20000 in
theorem ggX6_corrupt_X5_hasUnit : GoodIn wsX6_corrupt wsX5_hasUnit := goodIn_r _ [28, 29, 30, 31, 22, 32, 33, 34, 35, 36, 37, 38, 39, 40, 41, 74, 75] (by decide +kernel) (by decide +kernel)
set_option maxRecDepth 20000 in
theorem gX6_corrupt_X5_hasUnit : GoodIn wsX6_corrupt (wsV RX6 65 RX5 yX5_hasUnit wsX5_hasUnit) := goodIn_app (goodIn_of _ (by decide +kernel)) ggX6_corrupt_X5_hasUnit
set_option maxRecDepth 20000 in
theorem ggX6_corrupt_X0_keep : GoodIn wsX6_corrupt wsX0_keep := goodIn_r _ [46, 47, 48, 49, 50, 51, 52, 53, 54, 55, 56, 27, 57, 29, 33, 34, 35, 36, 37, 38, 58, 59, 60, 61, 76, 77, 78, 74, 75] (by decide +kernel) (by decide +kernel)
set_option maxRecDepth 20000 in
theorem gX6_corrupt_X0_keep : GoodIn wsX6_corrupt (wsV RX6 61 RX0 yX0_keep wsX0_keep) := goodIn_app (goodIn_of _ (by decide +kernel)) ggX6_corrupt_X0_keep
set_option maxRecDepth 20000 in
theorem ggX6_corrupt_X5_valueAt : GoodIn wsX6_corrupt wsX5_valueAt := goodIn_r _ [65, 29, 33, 34, 35, 36, 37, 38, 74, 75] (by decide +kernel) (by decide +kernel)
set_option maxRecDepth 20000 in
theorem gX6_corrupt_X5_valueAt : GoodIn wsX6_corrupt (wsV RX6 140 RX5 yX5_valueAt wsX5_valueAt) := goodIn_app (goodIn_of _ (by decide +kernel)) ggX6_corrupt_X5_valueAt
set_option maxRecDepth 20000 in
theorem ggX6_corrupt_X5_setValue : GoodIn wsX6_corrupt wsX5_setValue := goodIn_r _ [69, 29, 58, 59, 60, 36, 61, 38, 74, 75] (by decide +kernel) (by decide +kernel)
set_option maxRecDepth 20000 in
theorem gX6_corrupt_X5_setValue : GoodIn wsX6_corrupt (wsV RX6 143 RX5 yX5_setValue wsX5_setValue) := goodIn_app (goodIn_of _ (by decide +kernel)) ggX6_corrupt_X5_setValue
theorem dX6_corrupt_0 : decode cX6_corrupt 0 = .ok (.iload_n 1, 1) := by decide +kernel
theorem dX6_corrupt_1 : decode cX6_corrupt 1 = .ok (.invokestatic 91, 3) := by decide +kernel
theorem dX6_corrupt_4 : decode cX6_corrupt 4 = .ok (.ifCond .eq 10, 3) := by decide +kernel
theorem dX6_corrupt_7 : decode cX6_corrupt 7 = .ok (.iload_n 2, 1) := by decide +kernel
theorem dX6_corrupt_8 : decode cX6_corrupt 8 = .ok (.invokestatic 130, 3) := by decide +kernel
theorem dX6_corrupt_11 : decode cX6_corrupt 11 = .ok (.ifCond .ne 13, 3) := by decide +kernel
theorem dX6_corrupt_14 : decode cX6_corrupt 14 = .ok (.new 41, 3) := by decide +kernel
theorem dX6_corrupt_17 : decode cX6_corrupt 17 = .ok (.dup, 1) := by decide +kernel
theorem dX6_corrupt_18 : decode cX6_corrupt 18 = .ok (.ldc 133, 2) := by decide +kernel
theorem dX6_corrupt_20 : decode cX6_corrupt 20 = .ok (.invokespecial 45, 3) := by decide +kernel
theorem dX6_corrupt_23 : decode cX6_corrupt 23 = .ok (.athrow, 1) := by decide +kernel
theorem dX6_corrupt_24 : decode cX6_corrupt 24 = .ok (.iload_n 3, 1) := by decide +kernel
theorem dX6_corrupt_25 : decode cX6_corrupt 25 = .ok (.invokestatic 74, 3) := by decide +kernel
theorem dX6_corrupt_28 : decode cX6_corrupt 28 = .ok (.ifCond .ne 13, 3) := by decide +kernel
theorem dX6_corrupt_31 : decode cX6_corrupt 31 = .ok (.new 77, 3) := by decide +kernel
theorem dX6_corrupt_34 : decode cX6_corrupt 34 = .ok (.dup, 1) := by decide +kernel
theorem dX6_corrupt_35 : decode cX6_corrupt 35 = .ok (.ldc 79, 2) := by decide +kernel
theorem dX6_corrupt_37 : decode cX6_corrupt 37 = .ok (.invokespecial 81, 3) := by decide +kernel
theorem dX6_corrupt_40 : decode cX6_corrupt 40 = .ok (.athrow, 1) := by decide +kernel
theorem dX6_corrupt_41 : decode cX6_corrupt 41 = .ok (.iload_n 1, 1) := by decide +kernel
theorem dX6_corrupt_42 : decode cX6_corrupt 42 = .ok (.iload_n 2, 1) := by decide +kernel
theorem dX6_corrupt_43 : decode cX6_corrupt 43 = .ok (.invokestatic 135, 3) := by decide +kernel
theorem dX6_corrupt_46 : decode cX6_corrupt 46 = .ok (.istore 4, 2) := by decide +kernel
theorem dX6_corrupt_48 : decode cX6_corrupt 48 = .ok (.aload_n 0, 1) := by decide +kernel
theorem dX6_corrupt_49 : decode cX6_corrupt 49 = .ok (.getfield 19, 3) := by decide +kernel
theorem dX6_corrupt_52 : decode cX6_corrupt 52 = .ok (.iload 4, 2) := by decide +kernel
theorem dX6_corrupt_54 : decode cX6_corrupt 54 = .ok (.iconst (-1), 1) := by decide +kernel
theorem dX6_corrupt_55 : decode cX6_corrupt 55 = .ok (.invokevirtual 65, 3) := by decide +kernel
theorem dX6_corrupt_58 : decode cX6_corrupt 58 = .ok (.ifCond .ne 13, 3) := by decide +kernel
theorem dX6_corrupt_61 : decode cX6_corrupt 61 = .ok (.new 56, 3) := by decide +kernel
theorem dX6_corrupt_64 : decode cX6_corrupt 64 = .ok (.dup, 1) := by decide +kernel
theorem dX6_corrupt_65 : decode cX6_corrupt 65 = .ok (.ldc 138, 2) := by decide +kernel
theorem dX6_corrupt_67 : decode cX6_corrupt 67 = .ok (.invokespecial 60, 3) := by decide +kernel
theorem dX6_corrupt_70 : decode cX6_corrupt 70 = .ok (.athrow, 1) := by decide +kernel
theorem dX6_corrupt_71 : decode cX6_corrupt 71 = .ok (.aload_n 0, 1) := by decide +kernel
theorem dX6_corrupt_72 : decode cX6_corrupt 72 = .ok (.getfield 26, 3) := by decide +kernel
theorem dX6_corrupt_75 : decode cX6_corrupt 75 = .ok (.aload_n 0, 1) := by decide +kernel
theorem dX6_corrupt_76 : decode cX6_corrupt 76 = .ok (.getfield 19, 3) := by decide +kernel
theorem dX6_corrupt_79 : decode cX6_corrupt 79 = .ok (.invokevirtual 61, 3) := by decide +kernel
theorem dX6_corrupt_82 : decode cX6_corrupt 82 = .ok (.aload_n 0, 1) := by decide +kernel
theorem dX6_corrupt_83 : decode cX6_corrupt 83 = .ok (.getfield 19, 3) := by decide +kernel
theorem dX6_corrupt_86 : decode cX6_corrupt 86 = .ok (.iload 4, 2) := by decide +kernel
theorem dX6_corrupt_88 : decode cX6_corrupt 88 = .ok (.invokevirtual 140, 3) := by decide +kernel
theorem dX6_corrupt_91 : decode cX6_corrupt 91 = .ok (.istore 5, 2) := by decide +kernel
theorem dX6_corrupt_93 : decode cX6_corrupt 93 = .ok (.aload_n 0, 1) := by decide +kernel
theorem dX6_corrupt_94 : decode cX6_corrupt 94 = .ok (.getfield 19, 3) := by decide +kernel
theorem dX6_corrupt_97 : decode cX6_corrupt 97 = .ok (.iload 4, 2) := by decide +kernel
theorem dX6_corrupt_99 : decode cX6_corrupt 99 = .ok (.iload_n 3, 1) := by decide +kernel
theorem dX6_corrupt_100 : decode cX6_corrupt 100 = .ok (.invokevirtual 143, 3) := by decide +kernel
theorem dX6_corrupt_103 : decode cX6_corrupt 103 = .ok (.iload 5, 2) := by decide +kernel
theorem dX6_corrupt_105 : decode cX6_corrupt 105 = .ok (.ireturn, 1) := by decide +kernel
set_option maxRecDepth 20000 in
theorem ggX6_scrub_X0_keep : GoodIn wsX6_scrub wsX0_keep := goodIn_r _ [7, 8, 9, 10, 11, 12, 13, 14, 15, 16, 17, 18, 19, 20, 21, 22, 23, 24, 25, 26, 27, 28, 29, 30, 92, 93, 94, 95, 96] (by decide +kernel) (by decide +kernel)
set_option maxRecDepth 20000 in
theorem gX6_scrub_X0_keep : GoodIn wsX6_scrub (wsV RX6 61 RX0 yX0_keep wsX0_keep) := goodIn_app (goodIn_of _ (by decide +kernel)) ggX6_scrub_X0_keep
set_option maxRecDepth 20000 in
theorem ggX6_scrub_X6_scrubStripes : GoodIn wsX6_scrub wsX6_scrubStripes := goodIn_r _ [35, 36, 37, 38, 39, 34, 40, 2, 41, 42, 43, 44, 45, 46, 47, 22, 23, 24, 25, 26, 48, 49, 50, 18, 51, 20, 52, 53, 54, 21, 55, 56, 57, 58, 59, 60, 61, 62, 63, 64, 65, 66, 67, 68, 69, 70, 71, 72, 73, 74, 75, 76, 77, 78, 79, 80, 81, 82, 83, 84, 85, 86, 87, 27, 28, 29, 30, 88, 89, 90, 91, 97, 98, 99, 96, 95] (by decide +kernel) (by decide +kernel)
set_option maxRecDepth 20000 in
theorem gX6_scrub_X6_scrubStripes : GoodIn wsX6_scrub (wsV RX6 147 RX6 yX6_scrubStripes wsX6_scrubStripes) := goodIn_app (goodIn_of _ (by decide +kernel)) ggX6_scrub_X6_scrubStripes
theorem dX6_scrub_0 : decode cX6_scrub 0 = .ok (.aload_n 0, 1) := by decide +kernel
theorem dX6_scrub_1 : decode cX6_scrub 1 = .ok (.getfield 26, 3) := by decide +kernel
theorem dX6_scrub_4 : decode cX6_scrub 4 = .ok (.aload_n 0, 1) := by decide +kernel
theorem dX6_scrub_5 : decode cX6_scrub 5 = .ok (.getfield 19, 3) := by decide +kernel
theorem dX6_scrub_8 : decode cX6_scrub 8 = .ok (.invokevirtual 61, 3) := by decide +kernel
theorem dX6_scrub_11 : decode cX6_scrub 11 = .ok (.aload_n 0, 1) := by decide +kernel
theorem dX6_scrub_12 : decode cX6_scrub 12 = .ok (.invokevirtual 147, 3) := by decide +kernel
theorem dX6_scrub_15 : decode cX6_scrub 15 = .ok (.ireturn, 1) := by decide +kernel
set_option maxRecDepth 20000 in
theorem ggX6_state_X6_isDisc : GoodIn wsX6_state wsX6_isDisc := goodIn_r _ [7] (by decide +kernel) (by decide +kernel)
set_option maxRecDepth 20000 in
theorem gX6_state_X6_isDisc : GoodIn wsX6_state (va_wsS RX6 91 yX6_isDisc wsX6_isDisc) := goodIn_app (goodIn_of _ (by decide +kernel)) ggX6_state_X6_isDisc
set_option maxRecDepth 20000 in
theorem ggX6_state_X5_progressOf : GoodIn wsX6_state wsX5_progressOf := goodIn_r _ [12, 13, 14, 15, 16, 17, 18, 19, 24, 25] (by decide +kernel) (by decide +kernel)
set_option maxRecDepth 20000 in
theorem gX6_state_X5_progressOf : GoodIn wsX6_state (wsV RX6 150 RX5 yX5_progressOf wsX5_progressOf) := goodIn_app (goodIn_of _ (by decide +kernel)) ggX6_state_X5_progressOf
theorem dX6_state_0 : decode cX6_state 0 = .ok (.iload_n 1, 1) := by decide +kernel
theorem dX6_state_1 : decode cX6_state 1 = .ok (.invokestatic 91, 3) := by decide +kernel
theorem dX6_state_4 : decode cX6_state 4 = .ok (.ifCond .ne 13, 3) := by decide +kernel
theorem dX6_state_7 : decode cX6_state 7 = .ok (.new 41, 3) := by decide +kernel
theorem dX6_state_10 : decode cX6_state 10 = .ok (.dup, 1) := by decide +kernel
theorem dX6_state_11 : decode cX6_state 11 = .ok (.ldc 94, 2) := by decide +kernel
theorem dX6_state_13 : decode cX6_state 13 = .ok (.invokespecial 45, 3) := by decide +kernel
theorem dX6_state_16 : decode cX6_state 16 = .ok (.athrow, 1) := by decide +kernel
theorem dX6_state_17 : decode cX6_state 17 = .ok (.aload_n 0, 1) := by decide +kernel
theorem dX6_state_18 : decode cX6_state 18 = .ok (.getfield 19, 3) := by decide +kernel
theorem dX6_state_21 : decode cX6_state 21 = .ok (.iload_n 1, 1) := by decide +kernel
theorem dX6_state_22 : decode cX6_state 22 = .ok (.invokevirtual 150, 3) := by decide +kernel
theorem dX6_state_25 : decode cX6_state 25 = .ok (.ireturn, 1) := by decide +kernel
set_option maxRecDepth 20000 in
theorem ggX6_member_X6_isStripe : GoodIn wsX6_member wsX6_isStripe := goodIn_r _ [6] (by decide +kernel) (by decide +kernel)
set_option maxRecDepth 20000 in
theorem gX6_member_X6_isStripe : GoodIn wsX6_member (va_wsS RX6 153 yX6_isStripe wsX6_isStripe) := goodIn_app (goodIn_of _ (by decide +kernel)) ggX6_member_X6_isStripe
set_option maxRecDepth 20000 in
theorem ggX6_member_X6_isWithinStripe : GoodIn wsX6_member wsX6_isWithinStripe := goodIn_r _ [9] (by decide +kernel) (by decide +kernel)
set_option maxRecDepth 20000 in
theorem gX6_member_X6_isWithinStripe : GoodIn wsX6_member (va_wsS RX6 156 yX6_isWithinStripe wsX6_isWithinStripe) := goodIn_app (goodIn_of _ (by decide +kernel)) ggX6_member_X6_isWithinStripe
set_option maxRecDepth 20000 in
theorem ggX6_member_X1_discOfMember : GoodIn wsX6_member wsX1_discOfMember := goodIn_r _ [13] (by decide +kernel) (by decide +kernel)
set_option maxRecDepth 20000 in
theorem gX6_member_X1_discOfMember : GoodIn wsX6_member (va_wsS RX6 161 yX1_discOfMember wsX1_discOfMember) := goodIn_app (goodIn_of _ (by decide +kernel)) ggX6_member_X1_discOfMember
theorem dX6_member_0 : decode cX6_member 0 = .ok (.iload_n 1, 1) := by decide +kernel
theorem dX6_member_1 : decode cX6_member 1 = .ok (.invokestatic 153, 3) := by decide +kernel
theorem dX6_member_4 : decode cX6_member 4 = .ok (.ifCond .eq 10, 3) := by decide +kernel
theorem dX6_member_7 : decode cX6_member 7 = .ok (.iload_n 2, 1) := by decide +kernel
theorem dX6_member_8 : decode cX6_member 8 = .ok (.invokestatic 156, 3) := by decide +kernel
theorem dX6_member_11 : decode cX6_member 11 = .ok (.ifCond .ne 13, 3) := by decide +kernel
theorem dX6_member_14 : decode cX6_member 14 = .ok (.new 41, 3) := by decide +kernel
theorem dX6_member_17 : decode cX6_member 17 = .ok (.dup, 1) := by decide +kernel
theorem dX6_member_18 : decode cX6_member 18 = .ok (.ldc 159, 2) := by decide +kernel
theorem dX6_member_20 : decode cX6_member 20 = .ok (.invokespecial 45, 3) := by decide +kernel
theorem dX6_member_23 : decode cX6_member 23 = .ok (.athrow, 1) := by decide +kernel
theorem dX6_member_24 : decode cX6_member 24 = .ok (.iload_n 1, 1) := by decide +kernel
theorem dX6_member_25 : decode cX6_member 25 = .ok (.iload_n 2, 1) := by decide +kernel
theorem dX6_member_26 : decode cX6_member 26 = .ok (.invokestatic 161, 3) := by decide +kernel
theorem dX6_member_29 : decode cX6_member 29 = .ok (.ireturn, 1) := by decide +kernel
set_option maxRecDepth 20000 in
theorem ggX6_stripeAt_X6_isDisc : GoodIn wsX6_stripeAt wsX6_isDisc := goodIn_r _ [7] (by decide +kernel) (by decide +kernel)
set_option maxRecDepth 20000 in
theorem gX6_stripeAt_X6_isDisc : GoodIn wsX6_stripeAt (va_wsS RX6 91 yX6_isDisc wsX6_isDisc) := goodIn_app (goodIn_of _ (by decide +kernel)) ggX6_stripeAt_X6_isDisc
set_option maxRecDepth 20000 in
theorem ggX6_stripeAt_X6_isPlace : GoodIn wsX6_stripeAt wsX6_isPlace := goodIn_r _ [10] (by decide +kernel) (by decide +kernel)
set_option maxRecDepth 20000 in
theorem gX6_stripeAt_X6_isPlace : GoodIn wsX6_stripeAt (va_wsS RX6 130 yX6_isPlace wsX6_isPlace) := goodIn_app (goodIn_of _ (by decide +kernel)) ggX6_stripeAt_X6_isPlace
set_option maxRecDepth 20000 in
theorem ggX6_stripeAt_X1_spotAt : GoodIn wsX6_stripeAt wsX1_spotAt := goodIn_r _ [14] (by decide +kernel) (by decide +kernel)
set_option maxRecDepth 20000 in
theorem gX6_stripeAt_X1_spotAt : GoodIn wsX6_stripeAt (va_wsS RX6 135 yX1_spotAt wsX1_spotAt) := goodIn_app (goodIn_of _ (by decide +kernel)) ggX6_stripeAt_X1_spotAt
set_option maxRecDepth 20000 in
theorem ggX6_stripeAt_X1_stripeOfSpot : GoodIn wsX6_stripeAt wsX1_stripeOfSpot := goodIn_r _ [18, 19, 20, 21, 22, 23, 24, 25, 30, 31, 32, 33] (by decide +kernel) (by decide +kernel)
set_option maxRecDepth 20000 in
theorem gX6_stripeAt_X1_stripeOfSpot : GoodIn wsX6_stripeAt (wsV RX6 164 RX1 yX1_stripeOfSpot wsX1_stripeOfSpot) := goodIn_app (goodIn_of _ (by decide +kernel)) ggX6_stripeAt_X1_stripeOfSpot
theorem dX6_stripeAt_0 : decode cX6_stripeAt 0 = .ok (.iload_n 1, 1) := by decide +kernel
theorem dX6_stripeAt_1 : decode cX6_stripeAt 1 = .ok (.invokestatic 91, 3) := by decide +kernel
theorem dX6_stripeAt_4 : decode cX6_stripeAt 4 = .ok (.ifCond .eq 10, 3) := by decide +kernel
theorem dX6_stripeAt_7 : decode cX6_stripeAt 7 = .ok (.iload_n 2, 1) := by decide +kernel
theorem dX6_stripeAt_8 : decode cX6_stripeAt 8 = .ok (.invokestatic 130, 3) := by decide +kernel
theorem dX6_stripeAt_11 : decode cX6_stripeAt 11 = .ok (.ifCond .ne 13, 3) := by decide +kernel
theorem dX6_stripeAt_14 : decode cX6_stripeAt 14 = .ok (.new 41, 3) := by decide +kernel
theorem dX6_stripeAt_17 : decode cX6_stripeAt 17 = .ok (.dup, 1) := by decide +kernel
theorem dX6_stripeAt_18 : decode cX6_stripeAt 18 = .ok (.ldc 133, 2) := by decide +kernel
theorem dX6_stripeAt_20 : decode cX6_stripeAt 20 = .ok (.invokespecial 45, 3) := by decide +kernel
theorem dX6_stripeAt_23 : decode cX6_stripeAt 23 = .ok (.athrow, 1) := by decide +kernel
theorem dX6_stripeAt_24 : decode cX6_stripeAt 24 = .ok (.aload_n 0, 1) := by decide +kernel
theorem dX6_stripeAt_25 : decode cX6_stripeAt 25 = .ok (.getfield 10, 3) := by decide +kernel
theorem dX6_stripeAt_28 : decode cX6_stripeAt 28 = .ok (.iload_n 1, 1) := by decide +kernel
theorem dX6_stripeAt_29 : decode cX6_stripeAt 29 = .ok (.iload_n 2, 1) := by decide +kernel
theorem dX6_stripeAt_30 : decode cX6_stripeAt 30 = .ok (.invokestatic 135, 3) := by decide +kernel
theorem dX6_stripeAt_33 : decode cX6_stripeAt 33 = .ok (.invokevirtual 164, 3) := by decide +kernel
theorem dX6_stripeAt_36 : decode cX6_stripeAt 36 = .ok (.ireturn, 1) := by decide +kernel
set_option maxRecDepth 20000 in
theorem ggX6_place_X6_isStripe : GoodIn wsX6_place wsX6_isStripe := goodIn_r _ [7] (by decide +kernel) (by decide +kernel)
set_option maxRecDepth 20000 in
theorem gX6_place_X6_isStripe : GoodIn wsX6_place (va_wsS RX6 153 yX6_isStripe wsX6_isStripe) := goodIn_app (goodIn_of _ (by decide +kernel)) ggX6_place_X6_isStripe
set_option maxRecDepth 20000 in
theorem ggX6_place_X6_isWithinStripe : GoodIn wsX6_place wsX6_isWithinStripe := goodIn_r _ [10] (by decide +kernel) (by decide +kernel)
set_option maxRecDepth 20000 in
theorem gX6_place_X6_isWithinStripe : GoodIn wsX6_place (va_wsS RX6 156 yX6_isWithinStripe wsX6_isWithinStripe) := goodIn_app (goodIn_of _ (by decide +kernel)) ggX6_place_X6_isWithinStripe
set_option maxRecDepth 20000 in
theorem ggX6_place_X1_spotOf : GoodIn wsX6_place wsX1_spotOf := goodIn_r _ [15, 16, 17, 18, 19, 20, 21, 22, 33, 34, 35, 36] (by decide +kernel) (by decide +kernel)
set_option maxRecDepth 20000 in
theorem gX6_place_X1_spotOf : GoodIn wsX6_place (wsV RX6 169 RX1 yX1_spotOf wsX1_spotOf) := goodIn_app (goodIn_of _ (by decide +kernel)) ggX6_place_X1_spotOf
set_option maxRecDepth 20000 in
theorem ggX6_place_X1_discOfSpot : GoodIn wsX6_place wsX1_discOfSpot := goodIn_r _ [25] (by decide +kernel) (by decide +kernel)
set_option maxRecDepth 20000 in
theorem gX6_place_X1_discOfSpot : GoodIn wsX6_place (va_wsS RX6 172 yX1_discOfSpot wsX1_discOfSpot) := goodIn_app (goodIn_of _ (by decide +kernel)) ggX6_place_X1_discOfSpot
set_option maxRecDepth 20000 in
theorem ggX6_place_X1_placeOfSpot : GoodIn wsX6_place wsX1_placeOfSpot := goodIn_r _ [28] (by decide +kernel) (by decide +kernel)
set_option maxRecDepth 20000 in
theorem gX6_place_X1_placeOfSpot : GoodIn wsX6_place (va_wsS RX6 175 yX1_placeOfSpot wsX1_placeOfSpot) := goodIn_app (goodIn_of _ (by decide +kernel)) ggX6_place_X1_placeOfSpot
theorem dX6_place_0 : decode cX6_place 0 = .ok (.iload_n 1, 1) := by decide +kernel
theorem dX6_place_1 : decode cX6_place 1 = .ok (.invokestatic 153, 3) := by decide +kernel
theorem dX6_place_4 : decode cX6_place 4 = .ok (.ifCond .eq 10, 3) := by decide +kernel
theorem dX6_place_7 : decode cX6_place 7 = .ok (.iload_n 2, 1) := by decide +kernel
theorem dX6_place_8 : decode cX6_place 8 = .ok (.invokestatic 156, 3) := by decide +kernel
theorem dX6_place_11 : decode cX6_place 11 = .ok (.ifCond .ne 13, 3) := by decide +kernel
theorem dX6_place_14 : decode cX6_place 14 = .ok (.new 41, 3) := by decide +kernel
theorem dX6_place_17 : decode cX6_place 17 = .ok (.dup, 1) := by decide +kernel
theorem dX6_place_18 : decode cX6_place 18 = .ok (.ldc 167, 2) := by decide +kernel
theorem dX6_place_20 : decode cX6_place 20 = .ok (.invokespecial 45, 3) := by decide +kernel
theorem dX6_place_23 : decode cX6_place 23 = .ok (.athrow, 1) := by decide +kernel
theorem dX6_place_24 : decode cX6_place 24 = .ok (.aload_n 0, 1) := by decide +kernel
theorem dX6_place_25 : decode cX6_place 25 = .ok (.getfield 10, 3) := by decide +kernel
theorem dX6_place_28 : decode cX6_place 28 = .ok (.iload_n 1, 1) := by decide +kernel
theorem dX6_place_29 : decode cX6_place 29 = .ok (.iload_n 2, 1) := by decide +kernel
theorem dX6_place_30 : decode cX6_place 30 = .ok (.invokevirtual 169, 3) := by decide +kernel
theorem dX6_place_33 : decode cX6_place 33 = .ok (.istore_n 3, 1) := by decide +kernel
theorem dX6_place_34 : decode cX6_place 34 = .ok (.bipush 10, 2) := by decide +kernel
theorem dX6_place_36 : decode cX6_place 36 = .ok (.iload_n 3, 1) := by decide +kernel
theorem dX6_place_37 : decode cX6_place 37 = .ok (.invokestatic 172, 3) := by decide +kernel
theorem dX6_place_40 : decode cX6_place 40 = .ok (.imul, 1) := by decide +kernel
theorem dX6_place_41 : decode cX6_place 41 = .ok (.iload_n 3, 1) := by decide +kernel
theorem dX6_place_42 : decode cX6_place 42 = .ok (.invokestatic 175, 3) := by decide +kernel
theorem dX6_place_45 : decode cX6_place 45 = .ok (.iadd, 1) := by decide +kernel
theorem dX6_place_46 : decode cX6_place 46 = .ok (.ireturn, 1) := by decide +kernel
set_option maxRecDepth 20000 in
theorem ggX6_unit_X6_isDisc : GoodIn wsX6_unit wsX6_isDisc := goodIn_r _ [6] (by decide +kernel) (by decide +kernel)
set_option maxRecDepth 20000 in
theorem gX6_unit_X6_isDisc : GoodIn wsX6_unit (va_wsS RX6 91 yX6_isDisc wsX6_isDisc) := goodIn_app (goodIn_of _ (by decide +kernel)) ggX6_unit_X6_isDisc
set_option maxRecDepth 20000 in
theorem ggX6_unit_X6_isPlace : GoodIn wsX6_unit wsX6_isPlace := goodIn_r _ [9] (by decide +kernel) (by decide +kernel)
set_option maxRecDepth 20000 in
theorem gX6_unit_X6_isPlace : GoodIn wsX6_unit (va_wsS RX6 130 yX6_isPlace wsX6_isPlace) := goodIn_app (goodIn_of _ (by decide +kernel)) ggX6_unit_X6_isPlace
set_option maxRecDepth 20000 in
theorem ggX6_unit_X1_spotAt : GoodIn wsX6_unit wsX1_spotAt := goodIn_r _ [13] (by decide +kernel) (by decide +kernel)
set_option maxRecDepth 20000 in
theorem gX6_unit_X1_spotAt : GoodIn wsX6_unit (va_wsS RX6 135 yX1_spotAt wsX1_spotAt) := goodIn_app (goodIn_of _ (by decide +kernel)) ggX6_unit_X1_spotAt
set_option maxRecDepth 20000 in
theorem ggX6_unit_X6_visibleValue : GoodIn wsX6_unit wsX6_visibleValue := goodIn_r _ [17, 18, 19, 20, 21, 22, 23, 24, 25, 26, 12, 27, 28, 29, 30, 31, 32, 33, 34, 35, 36, 37, 38, 39, 40, 41, 42, 43, 44, 45, 46] (by decide +kernel) (by decide +kernel)
set_option maxRecDepth 20000 in
theorem gX6_unit_X6_visibleValue : GoodIn wsX6_unit (wsV RX6 178 RX6 yX6_visibleValue wsX6_visibleValue) := goodIn_app (goodIn_of _ (by decide +kernel)) ggX6_unit_X6_visibleValue
theorem dX6_unit_0 : decode cX6_unit 0 = .ok (.iload_n 1, 1) := by decide +kernel
theorem dX6_unit_1 : decode cX6_unit 1 = .ok (.invokestatic 91, 3) := by decide +kernel
theorem dX6_unit_4 : decode cX6_unit 4 = .ok (.ifCond .eq 10, 3) := by decide +kernel
theorem dX6_unit_7 : decode cX6_unit 7 = .ok (.iload_n 2, 1) := by decide +kernel
theorem dX6_unit_8 : decode cX6_unit 8 = .ok (.invokestatic 130, 3) := by decide +kernel
theorem dX6_unit_11 : decode cX6_unit 11 = .ok (.ifCond .ne 13, 3) := by decide +kernel
theorem dX6_unit_14 : decode cX6_unit 14 = .ok (.new 41, 3) := by decide +kernel
theorem dX6_unit_17 : decode cX6_unit 17 = .ok (.dup, 1) := by decide +kernel
theorem dX6_unit_18 : decode cX6_unit 18 = .ok (.ldc 133, 2) := by decide +kernel
theorem dX6_unit_20 : decode cX6_unit 20 = .ok (.invokespecial 45, 3) := by decide +kernel
theorem dX6_unit_23 : decode cX6_unit 23 = .ok (.athrow, 1) := by decide +kernel
theorem dX6_unit_24 : decode cX6_unit 24 = .ok (.aload_n 0, 1) := by decide +kernel
theorem dX6_unit_25 : decode cX6_unit 25 = .ok (.iload_n 1, 1) := by decide +kernel
theorem dX6_unit_26 : decode cX6_unit 26 = .ok (.iload_n 2, 1) := by decide +kernel
theorem dX6_unit_27 : decode cX6_unit 27 = .ok (.invokestatic 135, 3) := by decide +kernel
theorem dX6_unit_30 : decode cX6_unit 30 = .ok (.invokevirtual 178, 3) := by decide +kernel
theorem dX6_unit_33 : decode cX6_unit 33 = .ok (.ireturn, 1) := by decide +kernel
set_option maxRecDepth 20000 in
theorem ggX6_peek_X6_isAddress : GoodIn wsX6_peek wsX6_isAddress := goodIn_r _ [7] (by decide +kernel) (by decide +kernel)
set_option maxRecDepth 20000 in
theorem gX6_peek_X6_isAddress : GoodIn wsX6_peek (va_wsS RX6 37 yX6_isAddress wsX6_isAddress) := goodIn_app (goodIn_of _ (by decide +kernel)) ggX6_peek_X6_isAddress
set_option maxRecDepth 20000 in
theorem ggX6_peek_X1_spotOfAddress : GoodIn wsX6_peek wsX1_spotOfAddress := goodIn_r _ [12, 13, 14, 15, 11, 16, 17, 18, 19, 20, 21, 22, 23, 68, 69, 70, 71] (by decide +kernel) (by decide +kernel)
set_option maxRecDepth 20000 in
theorem gX6_peek_X1_spotOfAddress : GoodIn wsX6_peek (wsV RX6 48 RX1 yX1_spotOfAddress wsX1_spotOfAddress) := goodIn_app (goodIn_of _ (by decide +kernel)) ggX6_peek_X1_spotOfAddress
set_option maxRecDepth 20000 in
theorem ggX6_peek_X6_knownValue : GoodIn wsX6_peek wsX6_knownValue := goodIn_r _ [27, 28, 29, 30, 31, 6, 32, 33, 34, 35, 36, 37, 38, 39, 40, 11, 41, 42, 19, 20, 21, 22, 23, 43, 44, 45, 46, 47, 48, 49, 3, 50, 51, 52, 53, 54, 17, 55, 18, 56, 57, 58, 59, 60, 61, 62, 63, 64, 65, 66, 67, 72, 71, 68, 69, 70] (by decide +kernel) (by decide +kernel)
set_option maxRecDepth 20000 in
theorem gX6_peek_X6_knownValue : GoodIn wsX6_peek (wsV RX6 181 RX6 yX6_knownValue wsX6_knownValue) := goodIn_app (goodIn_of _ (by decide +kernel)) ggX6_peek_X6_knownValue
theorem dX6_peek_0 : decode cX6_peek 0 = .ok (.iload_n 1, 1) := by decide +kernel
theorem dX6_peek_1 : decode cX6_peek 1 = .ok (.invokestatic 37, 3) := by decide +kernel
theorem dX6_peek_4 : decode cX6_peek 4 = .ok (.ifCond .ne 13, 3) := by decide +kernel
theorem dX6_peek_7 : decode cX6_peek 7 = .ok (.new 41, 3) := by decide +kernel
theorem dX6_peek_10 : decode cX6_peek 10 = .ok (.dup, 1) := by decide +kernel
theorem dX6_peek_11 : decode cX6_peek 11 = .ok (.ldc 43, 2) := by decide +kernel
theorem dX6_peek_13 : decode cX6_peek 13 = .ok (.invokespecial 45, 3) := by decide +kernel
theorem dX6_peek_16 : decode cX6_peek 16 = .ok (.athrow, 1) := by decide +kernel
theorem dX6_peek_17 : decode cX6_peek 17 = .ok (.aload_n 0, 1) := by decide +kernel
theorem dX6_peek_18 : decode cX6_peek 18 = .ok (.aload_n 0, 1) := by decide +kernel
theorem dX6_peek_19 : decode cX6_peek 19 = .ok (.getfield 10, 3) := by decide +kernel
theorem dX6_peek_22 : decode cX6_peek 22 = .ok (.iload_n 1, 1) := by decide +kernel
theorem dX6_peek_23 : decode cX6_peek 23 = .ok (.invokevirtual 48, 3) := by decide +kernel
theorem dX6_peek_26 : decode cX6_peek 26 = .ok (.invokevirtual 181, 3) := by decide +kernel
theorem dX6_peek_29 : decode cX6_peek 29 = .ok (.ireturn, 1) := by decide +kernel
set_option maxRecDepth 20000 in
theorem ggX6_lost_X6_countLost : GoodIn wsX6_lost wsX6_countLost := goodIn_r _ [5, 6, 7, 8, 9, 10, 11, 12, 13, 14, 15, 16, 17, 18, 19, 20, 21, 22, 23, 24, 25, 4, 26, 27, 28, 29, 30, 31, 32, 33, 34, 35, 36, 37, 38, 39, 40, 41, 42, 43, 44, 45, 46, 47, 48, 49, 50, 51, 52, 53, 54, 55, 56, 57, 58, 59] (by decide +kernel) (by decide +kernel)
set_option maxRecDepth 20000 in
theorem gX6_lost_X6_countLost : GoodIn wsX6_lost (wsV RX6 105 RX6 yX6_countLost wsX6_countLost) := goodIn_app (goodIn_of _ (by decide +kernel)) ggX6_lost_X6_countLost
theorem dX6_lost_0 : decode cX6_lost 0 = .ok (.aload_n 0, 1) := by decide +kernel
theorem dX6_lost_1 : decode cX6_lost 1 = .ok (.iconst (-1), 1) := by decide +kernel
theorem dX6_lost_2 : decode cX6_lost 2 = .ok (.invokevirtual 105, 3) := by decide +kernel
theorem dX6_lost_5 : decode cX6_lost 5 = .ok (.ireturn, 1) := by decide +kernel
set_option maxRecDepth 20000 in
theorem ggX6_wrong_X6_countWrong : GoodIn wsX6_wrong wsX6_countWrong := goodIn_r _ [5, 6, 7, 8, 9, 10, 11, 12, 13, 14, 15, 16, 17, 18, 19, 20, 21, 22, 4, 23, 24, 25, 26, 27, 28, 29, 30, 31, 32, 33, 34, 35, 36, 37, 38, 39, 40, 41, 42, 43, 44, 45, 46, 47, 48, 49, 50, 51, 52, 53, 54, 55, 56, 57, 58, 59, 60, 61, 62, 63] (by decide +kernel) (by decide +kernel)
set_option maxRecDepth 20000 in
theorem gX6_wrong_X6_countWrong : GoodIn wsX6_wrong (wsV RX6 184 RX6 yX6_countWrong wsX6_countWrong) := goodIn_app (goodIn_of _ (by decide +kernel)) ggX6_wrong_X6_countWrong
theorem dX6_wrong_0 : decode cX6_wrong 0 = .ok (.aload_n 0, 1) := by decide +kernel
theorem dX6_wrong_1 : decode cX6_wrong 1 = .ok (.invokevirtual 184, 3) := by decide +kernel
theorem dX6_wrong_4 : decode cX6_wrong 4 = .ok (.ireturn, 1) := by decide +kernel
set_option maxRecDepth 20000 in
theorem ggX6_spares_X5_spareDiscs : GoodIn wsX6_spares wsX5_spareDiscs := goodIn_r _ [6, 7, 8, 9, 10, 11, 12, 13, 18, 19] (by decide +kernel) (by decide +kernel)
set_option maxRecDepth 20000 in
theorem gX6_spares_X5_spareDiscs : GoodIn wsX6_spares (wsV RX6 116 RX5 yX5_spareDiscs wsX5_spareDiscs) := goodIn_app (goodIn_of _ (by decide +kernel)) ggX6_spares_X5_spareDiscs
theorem dX6_spares_0 : decode cX6_spares 0 = .ok (.aload_n 0, 1) := by decide +kernel
theorem dX6_spares_1 : decode cX6_spares 1 = .ok (.getfield 19, 3) := by decide +kernel
theorem dX6_spares_4 : decode cX6_spares 4 = .ok (.invokevirtual 116, 3) := by decide +kernel
theorem dX6_spares_7 : decode cX6_spares 7 = .ok (.ireturn, 1) := by decide +kernel
set_option maxRecDepth 20000 in
theorem ggX6_losses_X5_lossCount : GoodIn wsX6_losses wsX5_lossCount := goodIn_r _ [6, 7, 8, 9, 10, 11, 12, 13, 18, 19] (by decide +kernel) (by decide +kernel)
set_option maxRecDepth 20000 in
theorem gX6_losses_X5_lossCount : GoodIn wsX6_losses (wsV RX6 187 RX5 yX5_lossCount wsX5_lossCount) := goodIn_app (goodIn_of _ (by decide +kernel)) ggX6_losses_X5_lossCount
theorem dX6_losses_0 : decode cX6_losses 0 = .ok (.aload_n 0, 1) := by decide +kernel
theorem dX6_losses_1 : decode cX6_losses 1 = .ok (.getfield 19, 3) := by decide +kernel
theorem dX6_losses_4 : decode cX6_losses 4 = .ok (.invokevirtual 187, 3) := by decide +kernel
theorem dX6_losses_7 : decode cX6_losses 7 = .ok (.ireturn, 1) := by decide +kernel
set_option maxRecDepth 20000 in
theorem ggX6_reads_X6_isDisc : GoodIn wsX6_reads wsX6_isDisc := goodIn_r _ [7] (by decide +kernel) (by decide +kernel)
set_option maxRecDepth 20000 in
theorem gX6_reads_X6_isDisc : GoodIn wsX6_reads (va_wsS RX6 91 yX6_isDisc wsX6_isDisc) := goodIn_app (goodIn_of _ (by decide +kernel)) ggX6_reads_X6_isDisc
set_option maxRecDepth 20000 in
theorem ggX6_reads_X5_readCount : GoodIn wsX6_reads wsX5_readCount := goodIn_r _ [12, 13, 14, 15, 16, 17, 18, 19, 24, 25] (by decide +kernel) (by decide +kernel)
set_option maxRecDepth 20000 in
theorem gX6_reads_X5_readCount : GoodIn wsX6_reads (wsV RX6 190 RX5 yX5_readCount wsX5_readCount) := goodIn_app (goodIn_of _ (by decide +kernel)) ggX6_reads_X5_readCount
theorem dX6_reads_0 : decode cX6_reads 0 = .ok (.iload_n 1, 1) := by decide +kernel
theorem dX6_reads_1 : decode cX6_reads 1 = .ok (.invokestatic 91, 3) := by decide +kernel
theorem dX6_reads_4 : decode cX6_reads 4 = .ok (.ifCond .ne 13, 3) := by decide +kernel
theorem dX6_reads_7 : decode cX6_reads 7 = .ok (.new 41, 3) := by decide +kernel
theorem dX6_reads_10 : decode cX6_reads 10 = .ok (.dup, 1) := by decide +kernel
theorem dX6_reads_11 : decode cX6_reads 11 = .ok (.ldc 94, 2) := by decide +kernel
theorem dX6_reads_13 : decode cX6_reads 13 = .ok (.invokespecial 45, 3) := by decide +kernel
theorem dX6_reads_16 : decode cX6_reads 16 = .ok (.athrow, 1) := by decide +kernel
theorem dX6_reads_17 : decode cX6_reads 17 = .ok (.aload_n 0, 1) := by decide +kernel
theorem dX6_reads_18 : decode cX6_reads 18 = .ok (.getfield 19, 3) := by decide +kernel
theorem dX6_reads_21 : decode cX6_reads 21 = .ok (.iload_n 1, 1) := by decide +kernel
theorem dX6_reads_22 : decode cX6_reads 22 = .ok (.invokevirtual 190, 3) := by decide +kernel
theorem dX6_reads_25 : decode cX6_reads 25 = .ok (.ireturn, 1) := by decide +kernel
set_option maxRecDepth 20000 in
theorem ggX6_writes_X6_isDisc : GoodIn wsX6_writes wsX6_isDisc := goodIn_r _ [7] (by decide +kernel) (by decide +kernel)
set_option maxRecDepth 20000 in
theorem gX6_writes_X6_isDisc : GoodIn wsX6_writes (va_wsS RX6 91 yX6_isDisc wsX6_isDisc) := goodIn_app (goodIn_of _ (by decide +kernel)) ggX6_writes_X6_isDisc
set_option maxRecDepth 20000 in
theorem ggX6_writes_X5_writeCount : GoodIn wsX6_writes wsX5_writeCount := goodIn_r _ [12, 13, 14, 15, 16, 17, 18, 19, 24, 25] (by decide +kernel) (by decide +kernel)
set_option maxRecDepth 20000 in
theorem gX6_writes_X5_writeCount : GoodIn wsX6_writes (wsV RX6 193 RX5 yX5_writeCount wsX5_writeCount) := goodIn_app (goodIn_of _ (by decide +kernel)) ggX6_writes_X5_writeCount
theorem dX6_writes_0 : decode cX6_writes 0 = .ok (.iload_n 1, 1) := by decide +kernel
theorem dX6_writes_1 : decode cX6_writes 1 = .ok (.invokestatic 91, 3) := by decide +kernel
theorem dX6_writes_4 : decode cX6_writes 4 = .ok (.ifCond .ne 13, 3) := by decide +kernel
theorem dX6_writes_7 : decode cX6_writes 7 = .ok (.new 41, 3) := by decide +kernel
theorem dX6_writes_10 : decode cX6_writes 10 = .ok (.dup, 1) := by decide +kernel
theorem dX6_writes_11 : decode cX6_writes 11 = .ok (.ldc 94, 2) := by decide +kernel
theorem dX6_writes_13 : decode cX6_writes 13 = .ok (.invokespecial 45, 3) := by decide +kernel
theorem dX6_writes_16 : decode cX6_writes 16 = .ok (.athrow, 1) := by decide +kernel
theorem dX6_writes_17 : decode cX6_writes 17 = .ok (.aload_n 0, 1) := by decide +kernel
theorem dX6_writes_18 : decode cX6_writes 18 = .ok (.getfield 19, 3) := by decide +kernel
theorem dX6_writes_21 : decode cX6_writes 21 = .ok (.iload_n 1, 1) := by decide +kernel
theorem dX6_writes_22 : decode cX6_writes 22 = .ok (.invokevirtual 193, 3) := by decide +kernel
theorem dX6_writes_25 : decode cX6_writes 25 = .ok (.ireturn, 1) := by decide +kernel
set_option maxRecDepth 20000 in
theorem ggX6_balance_X5_readCount : GoodIn wsX6_balance wsX5_readCount := goodIn_r _ [13, 14, 15, 16, 17, 18, 19, 20, 25, 26] (by decide +kernel) (by decide +kernel)
set_option maxRecDepth 20000 in
theorem gX6_balance_X5_readCount : GoodIn wsX6_balance (wsV RX6 190 RX5 yX5_readCount wsX5_readCount) := goodIn_app (goodIn_of _ (by decide +kernel)) ggX6_balance_X5_readCount
theorem dX6_balance_0 : decode cX6_balance 0 = .ok (.aload_n 0, 1) := by decide +kernel
theorem dX6_balance_1 : decode cX6_balance 1 = .ok (.getfield 19, 3) := by decide +kernel
theorem dX6_balance_4 : decode cX6_balance 4 = .ok (.iconst 0, 1) := by decide +kernel
theorem dX6_balance_5 : decode cX6_balance 5 = .ok (.invokevirtual 190, 3) := by decide +kernel
theorem dX6_balance_8 : decode cX6_balance 8 = .ok (.istore_n 1, 1) := by decide +kernel
theorem dX6_balance_9 : decode cX6_balance 9 = .ok (.iload_n 1, 1) := by decide +kernel
theorem dX6_balance_10 : decode cX6_balance 10 = .ok (.istore_n 2, 1) := by decide +kernel
theorem dX6_balance_11 : decode cX6_balance 11 = .ok (.iconst 1, 1) := by decide +kernel
theorem dX6_balance_12 : decode cX6_balance 12 = .ok (.istore_n 3, 1) := by decide +kernel
theorem dX6_balance_13 : decode cX6_balance 13 = .ok (.iload_n 3, 1) := by decide +kernel
theorem dX6_balance_14 : decode cX6_balance 14 = .ok (.bipush 7, 2) := by decide +kernel
theorem dX6_balance_16 : decode cX6_balance 16 = .ok (.if_icmp .ge 35, 3) := by decide +kernel
theorem dX6_balance_19 : decode cX6_balance 19 = .ok (.iload_n 1, 1) := by decide +kernel
theorem dX6_balance_20 : decode cX6_balance 20 = .ok (.aload_n 0, 1) := by decide +kernel
theorem dX6_balance_21 : decode cX6_balance 21 = .ok (.getfield 19, 3) := by decide +kernel
theorem dX6_balance_24 : decode cX6_balance 24 = .ok (.iload_n 3, 1) := by decide +kernel
theorem dX6_balance_25 : decode cX6_balance 25 = .ok (.invokevirtual 190, 3) := by decide +kernel
theorem dX6_balance_28 : decode cX6_balance 28 = .ok (.invokestatic 196, 3) := by decide +kernel
theorem dX6_balance_31 : decode cX6_balance 31 = .ok (.istore_n 1, 1) := by decide +kernel
theorem dX6_balance_32 : decode cX6_balance 32 = .ok (.iload_n 2, 1) := by decide +kernel
theorem dX6_balance_33 : decode cX6_balance 33 = .ok (.aload_n 0, 1) := by decide +kernel
theorem dX6_balance_34 : decode cX6_balance 34 = .ok (.getfield 19, 3) := by decide +kernel
theorem dX6_balance_37 : decode cX6_balance 37 = .ok (.iload_n 3, 1) := by decide +kernel
theorem dX6_balance_38 : decode cX6_balance 38 = .ok (.invokevirtual 190, 3) := by decide +kernel
theorem dX6_balance_41 : decode cX6_balance 41 = .ok (.invokestatic 201, 3) := by decide +kernel
theorem dX6_balance_44 : decode cX6_balance 44 = .ok (.istore_n 2, 1) := by decide +kernel
theorem dX6_balance_45 : decode cX6_balance 45 = .ok (.iinc 3 1, 3) := by decide +kernel
theorem dX6_balance_48 : decode cX6_balance 48 = .ok (.goto (-35), 3) := by decide +kernel
theorem dX6_balance_51 : decode cX6_balance 51 = .ok (.iload_n 2, 1) := by decide +kernel
theorem dX6_balance_52 : decode cX6_balance 52 = .ok (.ifCond .ne 7, 3) := by decide +kernel
theorem dX6_balance_55 : decode cX6_balance 55 = .ok (.dconst 1, 1) := by decide +kernel
theorem dX6_balance_56 : decode cX6_balance 56 = .ok (.goto 8, 3) := by decide +kernel
theorem dX6_balance_59 : decode cX6_balance 59 = .ok (.iload_n 1, 1) := by decide +kernel
theorem dX6_balance_60 : decode cX6_balance 60 = .ok (.i2d, 1) := by decide +kernel
theorem dX6_balance_61 : decode cX6_balance 61 = .ok (.iload_n 2, 1) := by decide +kernel
theorem dX6_balance_62 : decode cX6_balance 62 = .ok (.i2d, 1) := by decide +kernel
theorem dX6_balance_63 : decode cX6_balance 63 = .ok (.ddiv, 1) := by decide +kernel
theorem dX6_balance_64 : decode cX6_balance 64 = .ok (.dreturn, 1) := by decide +kernel
set_option maxRecDepth 20000 in
theorem ggX6_lostIfFailed_X6_isDisc : GoodIn wsX6_lostIfFailed wsX6_isDisc := goodIn_r _ [6] (by decide +kernel) (by decide +kernel)
set_option maxRecDepth 20000 in
theorem gX6_lostIfFailed_X6_isDisc : GoodIn wsX6_lostIfFailed (va_wsS RX6 91 yX6_isDisc wsX6_isDisc) := goodIn_app (goodIn_of _ (by decide +kernel)) ggX6_lostIfFailed_X6_isDisc
set_option maxRecDepth 20000 in
theorem ggX6_lostIfFailed_X6_countLost : GoodIn wsX6_lostIfFailed wsX6_countLost := goodIn_r _ [10, 11, 12, 13, 14, 15, 16, 17, 18, 19, 20, 21, 22, 23, 24, 25, 26, 27, 28, 29, 30, 5, 31, 32, 33, 34, 35, 36, 37, 38, 39, 40, 41, 42, 43, 44, 45, 46, 47, 48, 49, 50, 51, 52, 53, 54, 55, 56, 57, 58, 59, 60, 61, 62, 63, 64] (by decide +kernel) (by decide +kernel)
set_option maxRecDepth 20000 in
theorem gX6_lostIfFailed_X6_countLost : GoodIn wsX6_lostIfFailed (wsV RX6 105 RX6 yX6_countLost wsX6_countLost) := goodIn_app (goodIn_of _ (by decide +kernel)) ggX6_lostIfFailed_X6_countLost
theorem dX6_lostIfFailed_0 : decode cX6_lostIfFailed 0 = .ok (.iload_n 1, 1) := by decide +kernel
theorem dX6_lostIfFailed_1 : decode cX6_lostIfFailed 1 = .ok (.invokestatic 91, 3) := by decide +kernel
theorem dX6_lostIfFailed_4 : decode cX6_lostIfFailed 4 = .ok (.ifCond .ne 13, 3) := by decide +kernel
theorem dX6_lostIfFailed_7 : decode cX6_lostIfFailed 7 = .ok (.new 41, 3) := by decide +kernel
theorem dX6_lostIfFailed_10 : decode cX6_lostIfFailed 10 = .ok (.dup, 1) := by decide +kernel
theorem dX6_lostIfFailed_11 : decode cX6_lostIfFailed 11 = .ok (.ldc 94, 2) := by decide +kernel
theorem dX6_lostIfFailed_13 : decode cX6_lostIfFailed 13 = .ok (.invokespecial 45, 3) := by decide +kernel
theorem dX6_lostIfFailed_16 : decode cX6_lostIfFailed 16 = .ok (.athrow, 1) := by decide +kernel
theorem dX6_lostIfFailed_17 : decode cX6_lostIfFailed 17 = .ok (.aload_n 0, 1) := by decide +kernel
theorem dX6_lostIfFailed_18 : decode cX6_lostIfFailed 18 = .ok (.iload_n 1, 1) := by decide +kernel
theorem dX6_lostIfFailed_19 : decode cX6_lostIfFailed 19 = .ok (.invokevirtual 105, 3) := by decide +kernel
theorem dX6_lostIfFailed_22 : decode cX6_lostIfFailed 22 = .ok (.ireturn, 1) := by decide +kernel
set_option maxRecDepth 20000 in
theorem ggX6_loadOf_X6_isDisc : GoodIn wsX6_loadOf wsX6_isDisc := goodIn_r _ [7] (by decide +kernel) (by decide +kernel)
set_option maxRecDepth 20000 in
theorem gX6_loadOf_X6_isDisc : GoodIn wsX6_loadOf (va_wsS RX6 91 yX6_isDisc wsX6_isDisc) := goodIn_app (goodIn_of _ (by decide +kernel)) ggX6_loadOf_X6_isDisc
set_option maxRecDepth 20000 in
theorem ggX6_loadOf_X1_stripesOnBoth : GoodIn wsX6_loadOf wsX1_stripesOnBoth := goodIn_r _ [12, 13, 14, 11, 15, 16, 17, 18] (by decide +kernel) (by decide +kernel)
set_option maxRecDepth 20000 in
theorem gX6_loadOf_X1_stripesOnBoth : GoodIn wsX6_loadOf (wsV RX6 204 RX1 yX1_stripesOnBoth wsX1_stripesOnBoth) := goodIn_app (goodIn_of _ (by decide +kernel)) ggX6_loadOf_X1_stripesOnBoth
theorem dX6_loadOf_0 : decode cX6_loadOf 0 = .ok (.iload_n 1, 1) := by decide +kernel
theorem dX6_loadOf_1 : decode cX6_loadOf 1 = .ok (.invokestatic 91, 3) := by decide +kernel
theorem dX6_loadOf_4 : decode cX6_loadOf 4 = .ok (.ifCond .eq 10, 3) := by decide +kernel
theorem dX6_loadOf_7 : decode cX6_loadOf 7 = .ok (.iload_n 2, 1) := by decide +kernel
theorem dX6_loadOf_8 : decode cX6_loadOf 8 = .ok (.invokestatic 91, 3) := by decide +kernel
theorem dX6_loadOf_11 : decode cX6_loadOf 11 = .ok (.ifCond .ne 13, 3) := by decide +kernel
theorem dX6_loadOf_14 : decode cX6_loadOf 14 = .ok (.new 41, 3) := by decide +kernel
theorem dX6_loadOf_17 : decode cX6_loadOf 17 = .ok (.dup, 1) := by decide +kernel
theorem dX6_loadOf_18 : decode cX6_loadOf 18 = .ok (.ldc 94, 2) := by decide +kernel
theorem dX6_loadOf_20 : decode cX6_loadOf 20 = .ok (.invokespecial 45, 3) := by decide +kernel
theorem dX6_loadOf_23 : decode cX6_loadOf 23 = .ok (.athrow, 1) := by decide +kernel
theorem dX6_loadOf_24 : decode cX6_loadOf 24 = .ok (.iload_n 1, 1) := by decide +kernel
theorem dX6_loadOf_25 : decode cX6_loadOf 25 = .ok (.iload_n 2, 1) := by decide +kernel
theorem dX6_loadOf_26 : decode cX6_loadOf 26 = .ok (.if_icmp .ne 7, 3) := by decide +kernel
theorem dX6_loadOf_29 : decode cX6_loadOf 29 = .ok (.iconst 0, 1) := by decide +kernel
theorem dX6_loadOf_30 : decode cX6_loadOf 30 = .ok (.goto 12, 3) := by decide +kernel
theorem dX6_loadOf_33 : decode cX6_loadOf 33 = .ok (.aload_n 0, 1) := by decide +kernel
theorem dX6_loadOf_34 : decode cX6_loadOf 34 = .ok (.getfield 10, 3) := by decide +kernel
theorem dX6_loadOf_37 : decode cX6_loadOf 37 = .ok (.iload_n 1, 1) := by decide +kernel
theorem dX6_loadOf_38 : decode cX6_loadOf 38 = .ok (.iload_n 2, 1) := by decide +kernel
theorem dX6_loadOf_39 : decode cX6_loadOf 39 = .ok (.invokevirtual 204, 3) := by decide +kernel
theorem dX6_loadOf_42 : decode cX6_loadOf 42 = .ok (.ireturn, 1) := by decide +kernel
set_option maxRecDepth 20000 in
theorem ggX6_worst_X6_findWorst : GoodIn wsX6_worst wsX6_findWorst := goodIn_r _ [5, 6, 7, 8, 9, 4, 10, 11, 12, 13, 14, 15, 16, 17, 18, 19, 20, 21, 22, 23, 24, 25, 26, 27, 28, 29, 30, 31, 32, 33, 34, 35, 36, 37, 38, 39, 40, 41, 42, 43, 44, 45, 46, 47, 48, 49, 50, 51, 52, 53, 54, 55, 56, 57, 58, 59, 60, 61, 62, 63, 64, 65, 66, 67] (by decide +kernel) (by decide +kernel)
set_option maxRecDepth 20000 in
theorem gX6_worst_X6_findWorst : GoodIn wsX6_worst (wsV RX6 207 RX6 yX6_findWorst wsX6_findWorst) := goodIn_app (goodIn_of _ (by decide +kernel)) ggX6_worst_X6_findWorst
theorem dX6_worst_0 : decode cX6_worst 0 = .ok (.aload_n 0, 1) := by decide +kernel
theorem dX6_worst_1 : decode cX6_worst 1 = .ok (.invokevirtual 207, 3) := by decide +kernel
theorem dX6_worst_4 : decode cX6_worst 4 = .ok (.ireturn, 1) := by decide +kernel
theorem dX6_isDisc_0 : decode cX6_isDisc 0 = .ok (.iload_n 0, 1) := by decide +kernel
theorem dX6_isDisc_1 : decode cX6_isDisc 1 = .ok (.ifCond .lt 13, 3) := by decide +kernel
theorem dX6_isDisc_4 : decode cX6_isDisc 4 = .ok (.iload_n 0, 1) := by decide +kernel
theorem dX6_isDisc_5 : decode cX6_isDisc 5 = .ok (.bipush 7, 2) := by decide +kernel
theorem dX6_isDisc_7 : decode cX6_isDisc 7 = .ok (.if_icmp .ge 7, 3) := by decide +kernel
theorem dX6_isDisc_10 : decode cX6_isDisc 10 = .ok (.iconst 1, 1) := by decide +kernel
theorem dX6_isDisc_11 : decode cX6_isDisc 11 = .ok (.goto 4, 3) := by decide +kernel
theorem dX6_isDisc_14 : decode cX6_isDisc 14 = .ok (.iconst 0, 1) := by decide +kernel
theorem dX6_isDisc_15 : decode cX6_isDisc 15 = .ok (.ireturn, 1) := by decide +kernel
theorem dX6_isPlace_0 : decode cX6_isPlace 0 = .ok (.iload_n 0, 1) := by decide +kernel
theorem dX6_isPlace_1 : decode cX6_isPlace 1 = .ok (.ifCond .lt 13, 3) := by decide +kernel
theorem dX6_isPlace_4 : decode cX6_isPlace 4 = .ok (.iload_n 0, 1) := by decide +kernel
theorem dX6_isPlace_5 : decode cX6_isPlace 5 = .ok (.bipush 9, 2) := by decide +kernel
theorem dX6_isPlace_7 : decode cX6_isPlace 7 = .ok (.if_icmp .ge 7, 3) := by decide +kernel
theorem dX6_isPlace_10 : decode cX6_isPlace 10 = .ok (.iconst 1, 1) := by decide +kernel
theorem dX6_isPlace_11 : decode cX6_isPlace 11 = .ok (.goto 4, 3) := by decide +kernel
theorem dX6_isPlace_14 : decode cX6_isPlace 14 = .ok (.iconst 0, 1) := by decide +kernel
theorem dX6_isPlace_15 : decode cX6_isPlace 15 = .ok (.ireturn, 1) := by decide +kernel
theorem dX6_isStripe_0 : decode cX6_isStripe 0 = .ok (.iload_n 0, 1) := by decide +kernel
theorem dX6_isStripe_1 : decode cX6_isStripe 1 = .ok (.ifCond .lt 13, 3) := by decide +kernel
theorem dX6_isStripe_4 : decode cX6_isStripe 4 = .ok (.iload_n 0, 1) := by decide +kernel
theorem dX6_isStripe_5 : decode cX6_isStripe 5 = .ok (.bipush 21, 2) := by decide +kernel
theorem dX6_isStripe_7 : decode cX6_isStripe 7 = .ok (.if_icmp .ge 7, 3) := by decide +kernel
theorem dX6_isStripe_10 : decode cX6_isStripe 10 = .ok (.iconst 1, 1) := by decide +kernel
theorem dX6_isStripe_11 : decode cX6_isStripe 11 = .ok (.goto 4, 3) := by decide +kernel
theorem dX6_isStripe_14 : decode cX6_isStripe 14 = .ok (.iconst 0, 1) := by decide +kernel
theorem dX6_isStripe_15 : decode cX6_isStripe 15 = .ok (.ireturn, 1) := by decide +kernel
theorem dX6_isWithinStripe_0 : decode cX6_isWithinStripe 0 = .ok (.iload_n 0, 1) := by decide +kernel
theorem dX6_isWithinStripe_1 : decode cX6_isWithinStripe 1 = .ok (.ifCond .lt 12, 3) := by decide +kernel
theorem dX6_isWithinStripe_4 : decode cX6_isWithinStripe 4 = .ok (.iload_n 0, 1) := by decide +kernel
theorem dX6_isWithinStripe_5 : decode cX6_isWithinStripe 5 = .ok (.iconst 3, 1) := by decide +kernel
theorem dX6_isWithinStripe_6 : decode cX6_isWithinStripe 6 = .ok (.if_icmp .ge 7, 3) := by decide +kernel
theorem dX6_isWithinStripe_9 : decode cX6_isWithinStripe 9 = .ok (.iconst 1, 1) := by decide +kernel
theorem dX6_isWithinStripe_10 : decode cX6_isWithinStripe 10 = .ok (.goto 4, 3) := by decide +kernel
theorem dX6_isWithinStripe_13 : decode cX6_isWithinStripe 13 = .ok (.iconst 0, 1) := by decide +kernel
theorem dX6_isWithinStripe_14 : decode cX6_isWithinStripe 14 = .ok (.ireturn, 1) := by decide +kernel
theorem dX6_isAddress_0 : decode cX6_isAddress 0 = .ok (.iload_n 0, 1) := by decide +kernel
theorem dX6_isAddress_1 : decode cX6_isAddress 1 = .ok (.ifCond .lt 13, 3) := by decide +kernel
theorem dX6_isAddress_4 : decode cX6_isAddress 4 = .ok (.iload_n 0, 1) := by decide +kernel
theorem dX6_isAddress_5 : decode cX6_isAddress 5 = .ok (.bipush 42, 2) := by decide +kernel
theorem dX6_isAddress_7 : decode cX6_isAddress 7 = .ok (.if_icmp .ge 7, 3) := by decide +kernel
theorem dX6_isAddress_10 : decode cX6_isAddress 10 = .ok (.iconst 1, 1) := by decide +kernel
theorem dX6_isAddress_11 : decode cX6_isAddress 11 = .ok (.goto 4, 3) := by decide +kernel
theorem dX6_isAddress_14 : decode cX6_isAddress 14 = .ok (.iconst 0, 1) := by decide +kernel
theorem dX6_isAddress_15 : decode cX6_isAddress 15 = .ok (.ireturn, 1) := by decide +kernel
theorem dX6_isValue_0 : decode cX6_isValue 0 = .ok (.iload_n 0, 1) := by decide +kernel
theorem dX6_isValue_1 : decode cX6_isValue 1 = .ok (.ifCond .lt 14, 3) := by decide +kernel
theorem dX6_isValue_4 : decode cX6_isValue 4 = .ok (.iload_n 0, 1) := by decide +kernel
theorem dX6_isValue_5 : decode cX6_isValue 5 = .ok (.ldc_w 277, 3) := by decide +kernel
theorem dX6_isValue_8 : decode cX6_isValue 8 = .ok (.if_icmp .gt 7, 3) := by decide +kernel
theorem dX6_isValue_11 : decode cX6_isValue 11 = .ok (.iconst 1, 1) := by decide +kernel
theorem dX6_isValue_12 : decode cX6_isValue 12 = .ok (.goto 4, 3) := by decide +kernel
theorem dX6_isValue_15 : decode cX6_isValue 15 = .ok (.iconst 0, 1) := by decide +kernel
theorem dX6_isValue_16 : decode cX6_isValue 16 = .ok (.ireturn, 1) := by decide +kernel
set_option maxRecDepth 20000 in
theorem ggX6_canBeFound_X1_nextInStripe : GoodIn wsX6_canBeFound wsX1_nextInStripe := goodIn_r _ [7, 8, 9, 10, 11, 12, 13, 14, 15, 16, 34, 35, 36, 37] (by decide +kernel) (by decide +kernel)
set_option maxRecDepth 20000 in
theorem gX6_canBeFound_X1_nextInStripe : GoodIn wsX6_canBeFound (wsV RX6 278 RX1 yX1_nextInStripe wsX1_nextInStripe) := goodIn_app (goodIn_of _ (by decide +kernel)) ggX6_canBeFound_X1_nextInStripe
set_option maxRecDepth 20000 in
theorem ggX6_canBeFound_X5_hasUnit : GoodIn wsX6_canBeFound wsX5_hasUnit := goodIn_r _ [21, 22, 23, 24, 6, 25, 26, 12, 13, 14, 15, 16, 27, 28, 29, 38, 37] (by decide +kernel) (by decide +kernel)
set_option maxRecDepth 20000 in
theorem gX6_canBeFound_X5_hasUnit : GoodIn wsX6_canBeFound (wsV RX6 65 RX5 yX5_hasUnit wsX5_hasUnit) := goodIn_app (goodIn_of _ (by decide +kernel)) ggX6_canBeFound_X5_hasUnit
theorem dX6_canBeFound_0 : decode cX6_canBeFound 0 = .ok (.aload_n 0, 1) := by decide +kernel
theorem dX6_canBeFound_1 : decode cX6_canBeFound 1 = .ok (.getfield 19, 3) := by decide +kernel
theorem dX6_canBeFound_4 : decode cX6_canBeFound 4 = .ok (.aload_n 0, 1) := by decide +kernel
theorem dX6_canBeFound_5 : decode cX6_canBeFound 5 = .ok (.getfield 10, 3) := by decide +kernel
theorem dX6_canBeFound_8 : decode cX6_canBeFound 8 = .ok (.iload_n 1, 1) := by decide +kernel
theorem dX6_canBeFound_9 : decode cX6_canBeFound 9 = .ok (.iconst 1, 1) := by decide +kernel
theorem dX6_canBeFound_10 : decode cX6_canBeFound 10 = .ok (.invokevirtual 278, 3) := by decide +kernel
theorem dX6_canBeFound_13 : decode cX6_canBeFound 13 = .ok (.iload_n 2, 1) := by decide +kernel
theorem dX6_canBeFound_14 : decode cX6_canBeFound 14 = .ok (.invokevirtual 65, 3) := by decide +kernel
theorem dX6_canBeFound_17 : decode cX6_canBeFound 17 = .ok (.ifCond .eq 27, 3) := by decide +kernel
theorem dX6_canBeFound_20 : decode cX6_canBeFound 20 = .ok (.aload_n 0, 1) := by decide +kernel
theorem dX6_canBeFound_21 : decode cX6_canBeFound 21 = .ok (.getfield 19, 3) := by decide +kernel
theorem dX6_canBeFound_24 : decode cX6_canBeFound 24 = .ok (.aload_n 0, 1) := by decide +kernel
theorem dX6_canBeFound_25 : decode cX6_canBeFound 25 = .ok (.getfield 10, 3) := by decide +kernel
theorem dX6_canBeFound_28 : decode cX6_canBeFound 28 = .ok (.iload_n 1, 1) := by decide +kernel
theorem dX6_canBeFound_29 : decode cX6_canBeFound 29 = .ok (.iconst 2, 1) := by decide +kernel
theorem dX6_canBeFound_30 : decode cX6_canBeFound 30 = .ok (.invokevirtual 278, 3) := by decide +kernel
theorem dX6_canBeFound_33 : decode cX6_canBeFound 33 = .ok (.iload_n 2, 1) := by decide +kernel
theorem dX6_canBeFound_34 : decode cX6_canBeFound 34 = .ok (.invokevirtual 65, 3) := by decide +kernel
theorem dX6_canBeFound_37 : decode cX6_canBeFound 37 = .ok (.ifCond .eq 7, 3) := by decide +kernel
theorem dX6_canBeFound_40 : decode cX6_canBeFound 40 = .ok (.iconst 1, 1) := by decide +kernel
theorem dX6_canBeFound_41 : decode cX6_canBeFound 41 = .ok (.goto 4, 3) := by decide +kernel
theorem dX6_canBeFound_44 : decode cX6_canBeFound 44 = .ok (.iconst 0, 1) := by decide +kernel
theorem dX6_canBeFound_45 : decode cX6_canBeFound 45 = .ok (.ireturn, 1) := by decide +kernel
set_option maxRecDepth 20000 in
theorem ggX6_isLost_X5_hasUnit : GoodIn wsX6_isLost wsX5_hasUnit := goodIn_r _ [6, 7, 8, 9, 10, 11, 12, 13, 14, 15, 16, 17, 18, 19, 20, 39, 40] (by decide +kernel) (by decide +kernel)
set_option maxRecDepth 20000 in
theorem gX6_isLost_X5_hasUnit : GoodIn wsX6_isLost (wsV RX6 65 RX5 yX5_hasUnit wsX5_hasUnit) := goodIn_app (goodIn_of _ (by decide +kernel)) ggX6_isLost_X5_hasUnit
set_option maxRecDepth 20000 in
theorem ggX6_isLost_X6_canBeFound : GoodIn wsX6_isLost wsX6_canBeFound := goodIn_r _ [25, 1, 26, 27, 28, 29, 10, 30, 31, 32, 33, 34, 13, 14, 15, 16, 17, 2, 3, 4, 5, 6, 7, 8, 9, 11, 12, 18, 19, 20, 35, 36, 37, 38, 41, 42, 43, 40, 39] (by decide +kernel) (by decide +kernel)
set_option maxRecDepth 20000 in
theorem gX6_isLost_X6_canBeFound : GoodIn wsX6_isLost (wsV RX6 281 RX6 yX6_canBeFound wsX6_canBeFound) := goodIn_app (goodIn_of _ (by decide +kernel)) ggX6_isLost_X6_canBeFound
theorem dX6_isLost_0 : decode cX6_isLost 0 = .ok (.aload_n 0, 1) := by decide +kernel
theorem dX6_isLost_1 : decode cX6_isLost 1 = .ok (.getfield 19, 3) := by decide +kernel
theorem dX6_isLost_4 : decode cX6_isLost 4 = .ok (.iload_n 1, 1) := by decide +kernel
theorem dX6_isLost_5 : decode cX6_isLost 5 = .ok (.iload_n 2, 1) := by decide +kernel
theorem dX6_isLost_6 : decode cX6_isLost 6 = .ok (.invokevirtual 65, 3) := by decide +kernel
theorem dX6_isLost_9 : decode cX6_isLost 9 = .ok (.ifCond .ne 16, 3) := by decide +kernel
theorem dX6_isLost_12 : decode cX6_isLost 12 = .ok (.aload_n 0, 1) := by decide +kernel
theorem dX6_isLost_13 : decode cX6_isLost 13 = .ok (.iload_n 1, 1) := by decide +kernel
theorem dX6_isLost_14 : decode cX6_isLost 14 = .ok (.iload_n 2, 1) := by decide +kernel
theorem dX6_isLost_15 : decode cX6_isLost 15 = .ok (.invokevirtual 281, 3) := by decide +kernel
theorem dX6_isLost_18 : decode cX6_isLost 18 = .ok (.ifCond .ne 7, 3) := by decide +kernel
theorem dX6_isLost_21 : decode cX6_isLost 21 = .ok (.iconst 1, 1) := by decide +kernel
theorem dX6_isLost_22 : decode cX6_isLost 22 = .ok (.goto 4, 3) := by decide +kernel
theorem dX6_isLost_25 : decode cX6_isLost 25 = .ok (.iconst 0, 1) := by decide +kernel
theorem dX6_isLost_26 : decode cX6_isLost 26 = .ok (.ireturn, 1) := by decide +kernel
set_option maxRecDepth 20000 in
theorem ggX6_countLost_X1_spotOfAddress : GoodIn wsX6_countLost wsX1_spotOfAddress := goodIn_r _ [6, 7, 8, 9, 5, 10, 11, 12, 13, 14, 15, 16, 17, 51, 52, 53, 54] (by decide +kernel) (by decide +kernel)
set_option maxRecDepth 20000 in
theorem gX6_countLost_X1_spotOfAddress : GoodIn wsX6_countLost (wsV RX6 48 RX1 yX1_spotOfAddress wsX1_spotOfAddress) := goodIn_app (goodIn_of _ (by decide +kernel)) ggX6_countLost_X1_spotOfAddress
set_option maxRecDepth 20000 in
theorem ggX6_countLost_X6_isLost : GoodIn wsX6_countLost wsX6_isLost := goodIn_r _ [22, 23, 24, 25, 26, 27, 28, 29, 30, 31, 5, 32, 33, 13, 14, 15, 16, 17, 34, 35, 36, 37, 38, 39, 21, 40, 1, 41, 42, 43, 44, 45, 11, 46, 12, 47, 48, 49, 50, 55, 54, 51, 52, 53] (by decide +kernel) (by decide +kernel)
set_option maxRecDepth 20000 in
theorem gX6_countLost_X6_isLost : GoodIn wsX6_countLost (wsV RX6 52 RX6 yX6_isLost wsX6_isLost) := goodIn_app (goodIn_of _ (by decide +kernel)) ggX6_countLost_X6_isLost
theorem dX6_countLost_0 : decode cX6_countLost 0 = .ok (.iconst 0, 1) := by decide +kernel
theorem dX6_countLost_1 : decode cX6_countLost 1 = .ok (.istore_n 2, 1) := by decide +kernel
theorem dX6_countLost_2 : decode cX6_countLost 2 = .ok (.iconst 0, 1) := by decide +kernel
theorem dX6_countLost_3 : decode cX6_countLost 3 = .ok (.istore_n 3, 1) := by decide +kernel
theorem dX6_countLost_4 : decode cX6_countLost 4 = .ok (.iload_n 3, 1) := by decide +kernel
theorem dX6_countLost_5 : decode cX6_countLost 5 = .ok (.bipush 42, 2) := by decide +kernel
theorem dX6_countLost_7 : decode cX6_countLost 7 = .ok (.if_icmp .ge 28, 3) := by decide +kernel
theorem dX6_countLost_10 : decode cX6_countLost 10 = .ok (.aload_n 0, 1) := by decide +kernel
theorem dX6_countLost_11 : decode cX6_countLost 11 = .ok (.aload_n 0, 1) := by decide +kernel
theorem dX6_countLost_12 : decode cX6_countLost 12 = .ok (.getfield 10, 3) := by decide +kernel
theorem dX6_countLost_15 : decode cX6_countLost 15 = .ok (.iload_n 3, 1) := by decide +kernel
theorem dX6_countLost_16 : decode cX6_countLost 16 = .ok (.invokevirtual 48, 3) := by decide +kernel
theorem dX6_countLost_19 : decode cX6_countLost 19 = .ok (.iload_n 1, 1) := by decide +kernel
theorem dX6_countLost_20 : decode cX6_countLost 20 = .ok (.invokevirtual 52, 3) := by decide +kernel
theorem dX6_countLost_23 : decode cX6_countLost 23 = .ok (.ifCond .eq 6, 3) := by decide +kernel
theorem dX6_countLost_26 : decode cX6_countLost 26 = .ok (.iinc 2 1, 3) := by decide +kernel
theorem dX6_countLost_29 : decode cX6_countLost 29 = .ok (.iinc 3 1, 3) := by decide +kernel
theorem dX6_countLost_32 : decode cX6_countLost 32 = .ok (.goto (-28), 3) := by decide +kernel
theorem dX6_countLost_35 : decode cX6_countLost 35 = .ok (.iload_n 2, 1) := by decide +kernel
theorem dX6_countLost_36 : decode cX6_countLost 36 = .ok (.ireturn, 1) := by decide +kernel
set_option maxRecDepth 20000 in
theorem ggX6_findWorst_X6_countLost : GoodIn wsX6_findWorst wsX6_countLost := goodIn_r _ [6, 7, 8, 9, 10, 11, 12, 13, 14, 15, 16, 17, 18, 19, 20, 21, 22, 23, 24, 25, 26, 5, 27, 1, 28, 29, 30, 31, 32, 33, 34, 35, 36, 37, 38, 39, 40, 41, 42, 43, 44, 45, 46, 47, 48, 49, 50, 55, 56, 57, 58, 59, 60, 61, 62, 63] (by decide +kernel) (by decide +kernel)
set_option maxRecDepth 20000 in
theorem gX6_findWorst_X6_countLost : GoodIn wsX6_findWorst (wsV RX6 105 RX6 yX6_countLost wsX6_countLost) := goodIn_app (goodIn_of _ (by decide +kernel)) ggX6_findWorst_X6_countLost
set_option maxRecDepth 20000 in
theorem ggX6_findWorst_X5_progressOf : GoodIn wsX6_findWorst wsX5_progressOf := goodIn_r _ [54, 33, 37, 19, 20, 21, 22, 23, 63, 62] (by decide +kernel) (by decide +kernel)
set_option maxRecDepth 20000 in
theorem gX6_findWorst_X5_progressOf : GoodIn wsX6_findWorst (wsV RX6 150 RX5 yX5_progressOf wsX5_progressOf) := goodIn_app (goodIn_of _ (by decide +kernel)) ggX6_findWorst_X5_progressOf
theorem dX6_findWorst_0 : decode cX6_findWorst 0 = .ok (.iconst (-1), 1) := by decide +kernel
theorem dX6_findWorst_1 : decode cX6_findWorst 1 = .ok (.istore_n 1, 1) := by decide +kernel
theorem dX6_findWorst_2 : decode cX6_findWorst 2 = .ok (.iconst (-1), 1) := by decide +kernel
theorem dX6_findWorst_3 : decode cX6_findWorst 3 = .ok (.istore_n 2, 1) := by decide +kernel
theorem dX6_findWorst_4 : decode cX6_findWorst 4 = .ok (.iconst 0, 1) := by decide +kernel
theorem dX6_findWorst_5 : decode cX6_findWorst 5 = .ok (.istore_n 3, 1) := by decide +kernel
theorem dX6_findWorst_6 : decode cX6_findWorst 6 = .ok (.iload_n 3, 1) := by decide +kernel
theorem dX6_findWorst_7 : decode cX6_findWorst 7 = .ok (.bipush 7, 2) := by decide +kernel
theorem dX6_findWorst_9 : decode cX6_findWorst 9 = .ok (.if_icmp .ge 40, 3) := by decide +kernel
theorem dX6_findWorst_12 : decode cX6_findWorst 12 = .ok (.aload_n 0, 1) := by decide +kernel
theorem dX6_findWorst_13 : decode cX6_findWorst 13 = .ok (.iload_n 3, 1) := by decide +kernel
theorem dX6_findWorst_14 : decode cX6_findWorst 14 = .ok (.invokevirtual 105, 3) := by decide +kernel
theorem dX6_findWorst_17 : decode cX6_findWorst 17 = .ok (.istore 4, 2) := by decide +kernel
theorem dX6_findWorst_19 : decode cX6_findWorst 19 = .ok (.aload_n 0, 1) := by decide +kernel
theorem dX6_findWorst_20 : decode cX6_findWorst 20 = .ok (.getfield 19, 3) := by decide +kernel
theorem dX6_findWorst_23 : decode cX6_findWorst 23 = .ok (.iload_n 3, 1) := by decide +kernel
theorem dX6_findWorst_24 : decode cX6_findWorst 24 = .ok (.invokevirtual 150, 3) := by decide +kernel
theorem dX6_findWorst_27 : decode cX6_findWorst 27 = .ok (.bipush 9, 2) := by decide +kernel
theorem dX6_findWorst_29 : decode cX6_findWorst 29 = .ok (.if_icmp .ne 14, 3) := by decide +kernel
theorem dX6_findWorst_32 : decode cX6_findWorst 32 = .ok (.iload 4, 2) := by decide +kernel
theorem dX6_findWorst_34 : decode cX6_findWorst 34 = .ok (.iload_n 2, 1) := by decide +kernel
theorem dX6_findWorst_35 : decode cX6_findWorst 35 = .ok (.if_icmp .le 8, 3) := by decide +kernel
theorem dX6_findWorst_38 : decode cX6_findWorst 38 = .ok (.iload_n 3, 1) := by decide +kernel
theorem dX6_findWorst_39 : decode cX6_findWorst 39 = .ok (.istore_n 1, 1) := by decide +kernel
theorem dX6_findWorst_40 : decode cX6_findWorst 40 = .ok (.iload 4, 2) := by decide +kernel
theorem dX6_findWorst_42 : decode cX6_findWorst 42 = .ok (.istore_n 2, 1) := by decide +kernel
theorem dX6_findWorst_43 : decode cX6_findWorst 43 = .ok (.iinc 3 1, 3) := by decide +kernel
theorem dX6_findWorst_46 : decode cX6_findWorst 46 = .ok (.goto (-40), 3) := by decide +kernel
theorem dX6_findWorst_49 : decode cX6_findWorst 49 = .ok (.iload_n 1, 1) := by decide +kernel
theorem dX6_findWorst_50 : decode cX6_findWorst 50 = .ok (.ireturn, 1) := by decide +kernel
set_option maxRecDepth 20000 in
theorem ggX6_visibleValue_X5_hasUnit : GoodIn wsX6_visibleValue wsX5_hasUnit := goodIn_r _ [6, 7, 8, 9, 10, 11, 12, 13, 14, 15, 16, 17, 18, 19, 20, 29, 30] (by decide +kernel) (by decide +kernel)
set_option maxRecDepth 20000 in
theorem gX6_visibleValue_X5_hasUnit : GoodIn wsX6_visibleValue (wsV RX6 65 RX5 yX5_hasUnit wsX5_hasUnit) := goodIn_app (goodIn_of _ (by decide +kernel)) ggX6_visibleValue_X5_hasUnit
set_option maxRecDepth 20000 in
theorem ggX6_visibleValue_X5_valueAt : GoodIn wsX6_visibleValue wsX5_valueAt := goodIn_r _ [24, 7, 12, 13, 14, 15, 16, 17, 29, 30] (by decide +kernel) (by decide +kernel)
set_option maxRecDepth 20000 in
theorem gX6_visibleValue_X5_valueAt : GoodIn wsX6_visibleValue (wsV RX6 140 RX5 yX5_valueAt wsX5_valueAt) := goodIn_app (goodIn_of _ (by decide +kernel)) ggX6_visibleValue_X5_valueAt
theorem dX6_visibleValue_0 : decode cX6_visibleValue 0 = .ok (.aload_n 0, 1) := by decide +kernel
theorem dX6_visibleValue_1 : decode cX6_visibleValue 1 = .ok (.getfield 19, 3) := by decide +kernel
theorem dX6_visibleValue_4 : decode cX6_visibleValue 4 = .ok (.iload_n 1, 1) := by decide +kernel
theorem dX6_visibleValue_5 : decode cX6_visibleValue 5 = .ok (.iconst (-1), 1) := by decide +kernel
theorem dX6_visibleValue_6 : decode cX6_visibleValue 6 = .ok (.invokevirtual 65, 3) := by decide +kernel
theorem dX6_visibleValue_9 : decode cX6_visibleValue 9 = .ok (.ifCond .eq 14, 3) := by decide +kernel
theorem dX6_visibleValue_12 : decode cX6_visibleValue 12 = .ok (.aload_n 0, 1) := by decide +kernel
theorem dX6_visibleValue_13 : decode cX6_visibleValue 13 = .ok (.getfield 19, 3) := by decide +kernel
theorem dX6_visibleValue_16 : decode cX6_visibleValue 16 = .ok (.iload_n 1, 1) := by decide +kernel
theorem dX6_visibleValue_17 : decode cX6_visibleValue 17 = .ok (.invokevirtual 140, 3) := by decide +kernel
theorem dX6_visibleValue_20 : decode cX6_visibleValue 20 = .ok (.goto 4, 3) := by decide +kernel
theorem dX6_visibleValue_23 : decode cX6_visibleValue 23 = .ok (.iconst (-1), 1) := by decide +kernel
theorem dX6_visibleValue_24 : decode cX6_visibleValue 24 = .ok (.ireturn, 1) := by decide +kernel
set_option maxRecDepth 20000 in
theorem ggX6_knownValue_X6_isLost : GoodIn wsX6_knownValue wsX6_isLost := goodIn_r _ [6, 1, 7, 8, 9, 10, 11, 12, 13, 14, 15, 16, 17, 18, 19, 20, 21, 22, 23, 24, 25, 26, 27, 28, 5, 29, 30, 31, 32, 33, 34, 35, 36, 37, 38, 47, 48, 49, 50, 51, 52, 53, 54, 55] (by decide +kernel) (by decide +kernel)
set_option maxRecDepth 20000 in
theorem gX6_knownValue_X6_isLost : GoodIn wsX6_knownValue (wsV RX6 52 RX6 yX6_isLost wsX6_isLost) := goodIn_app (goodIn_of _ (by decide +kernel)) ggX6_knownValue_X6_isLost
set_option maxRecDepth 20000 in
theorem ggX6_knownValue_X5_hasUnit : GoodIn wsX6_knownValue wsX5_hasUnit := goodIn_r _ [11, 12, 13, 14, 15, 16, 17, 18, 19, 20, 21, 22, 23, 24, 25, 51, 52] (by decide +kernel) (by decide +kernel)
set_option maxRecDepth 20000 in
theorem gX6_knownValue_X5_hasUnit : GoodIn wsX6_knownValue (wsV RX6 65 RX5 yX5_hasUnit wsX5_hasUnit) := goodIn_app (goodIn_of _ (by decide +kernel)) ggX6_knownValue_X5_hasUnit
set_option maxRecDepth 20000 in
theorem ggX6_knownValue_X5_valueAt : GoodIn wsX6_knownValue wsX5_valueAt := goodIn_r _ [42, 12, 17, 18, 19, 20, 21, 22, 51, 52] (by decide +kernel) (by decide +kernel)
set_option maxRecDepth 20000 in
theorem gX6_knownValue_X5_valueAt : GoodIn wsX6_knownValue (wsV RX6 140 RX5 yX5_valueAt wsX5_valueAt) := goodIn_app (goodIn_of _ (by decide +kernel)) ggX6_knownValue_X5_valueAt
set_option maxRecDepth 20000 in
theorem ggX6_knownValue_X6_valueFromOthers : GoodIn wsX6_knownValue wsX6_valueFromOthers := goodIn_r _ [46, 1, 30, 31, 32, 33, 15, 34, 35, 36, 37, 38, 18, 19, 20, 21, 22, 39, 40, 41, 10, 42, 12, 17, 47, 48, 49, 50, 53, 54, 55, 52, 51] (by decide +kernel) (by decide +kernel)
set_option maxRecDepth 20000 in
theorem gX6_knownValue_X6_valueFromOthers : GoodIn wsX6_knownValue (wsV RX6 284 RX6 yX6_valueFromOthers wsX6_valueFromOthers) := goodIn_app (goodIn_of _ (by decide +kernel)) ggX6_knownValue_X6_valueFromOthers
theorem dX6_knownValue_0 : decode cX6_knownValue 0 = .ok (.aload_n 0, 1) := by decide +kernel
theorem dX6_knownValue_1 : decode cX6_knownValue 1 = .ok (.iload_n 1, 1) := by decide +kernel
theorem dX6_knownValue_2 : decode cX6_knownValue 2 = .ok (.iconst (-1), 1) := by decide +kernel
theorem dX6_knownValue_3 : decode cX6_knownValue 3 = .ok (.invokevirtual 52, 3) := by decide +kernel
theorem dX6_knownValue_6 : decode cX6_knownValue 6 = .ok (.ifCond .eq 5, 3) := by decide +kernel
theorem dX6_knownValue_9 : decode cX6_knownValue 9 = .ok (.iconst (-1), 1) := by decide +kernel
theorem dX6_knownValue_10 : decode cX6_knownValue 10 = .ok (.ireturn, 1) := by decide +kernel
theorem dX6_knownValue_11 : decode cX6_knownValue 11 = .ok (.aload_n 0, 1) := by decide +kernel
theorem dX6_knownValue_12 : decode cX6_knownValue 12 = .ok (.getfield 19, 3) := by decide +kernel
theorem dX6_knownValue_15 : decode cX6_knownValue 15 = .ok (.iload_n 1, 1) := by decide +kernel
theorem dX6_knownValue_16 : decode cX6_knownValue 16 = .ok (.iconst (-1), 1) := by decide +kernel
theorem dX6_knownValue_17 : decode cX6_knownValue 17 = .ok (.invokevirtual 65, 3) := by decide +kernel
theorem dX6_knownValue_20 : decode cX6_knownValue 20 = .ok (.ifCond .eq 14, 3) := by decide +kernel
theorem dX6_knownValue_23 : decode cX6_knownValue 23 = .ok (.aload_n 0, 1) := by decide +kernel
theorem dX6_knownValue_24 : decode cX6_knownValue 24 = .ok (.getfield 19, 3) := by decide +kernel
theorem dX6_knownValue_27 : decode cX6_knownValue 27 = .ok (.iload_n 1, 1) := by decide +kernel
theorem dX6_knownValue_28 : decode cX6_knownValue 28 = .ok (.invokevirtual 140, 3) := by decide +kernel
theorem dX6_knownValue_31 : decode cX6_knownValue 31 = .ok (.goto 8, 3) := by decide +kernel
theorem dX6_knownValue_34 : decode cX6_knownValue 34 = .ok (.aload_n 0, 1) := by decide +kernel
theorem dX6_knownValue_35 : decode cX6_knownValue 35 = .ok (.iload_n 1, 1) := by decide +kernel
theorem dX6_knownValue_36 : decode cX6_knownValue 36 = .ok (.invokevirtual 284, 3) := by decide +kernel
theorem dX6_knownValue_39 : decode cX6_knownValue 39 = .ok (.ireturn, 1) := by decide +kernel
set_option maxRecDepth 20000 in
theorem ggX6_valueFromOthers_X1_nextInStripe : GoodIn wsX6_valueFromOthers wsX1_nextInStripe := goodIn_r _ [7, 8, 9, 10, 11, 12, 13, 14, 15, 16, 28, 29, 30, 31] (by decide +kernel) (by decide +kernel)
set_option maxRecDepth 20000 in
theorem gX6_valueFromOthers_X1_nextInStripe : GoodIn wsX6_valueFromOthers (wsV RX6 278 RX1 yX1_nextInStripe wsX1_nextInStripe) := goodIn_app (goodIn_of _ (by decide +kernel)) ggX6_valueFromOthers_X1_nextInStripe
set_option maxRecDepth 20000 in
theorem ggX6_valueFromOthers_X5_valueAt : GoodIn wsX6_valueFromOthers wsX5_valueAt := goodIn_r _ [21, 22, 23, 12, 13, 14, 15, 16, 32, 31] (by decide +kernel) (by decide +kernel)
set_option maxRecDepth 20000 in
theorem gX6_valueFromOthers_X5_valueAt : GoodIn wsX6_valueFromOthers (wsV RX6 140 RX5 yX5_valueAt wsX5_valueAt) := goodIn_app (goodIn_of _ (by decide +kernel)) ggX6_valueFromOthers_X5_valueAt
theorem dX6_valueFromOthers_0 : decode cX6_valueFromOthers 0 = .ok (.aload_n 0, 1) := by decide +kernel
theorem dX6_valueFromOthers_1 : decode cX6_valueFromOthers 1 = .ok (.getfield 19, 3) := by decide +kernel
theorem dX6_valueFromOthers_4 : decode cX6_valueFromOthers 4 = .ok (.aload_n 0, 1) := by decide +kernel
theorem dX6_valueFromOthers_5 : decode cX6_valueFromOthers 5 = .ok (.getfield 10, 3) := by decide +kernel
theorem dX6_valueFromOthers_8 : decode cX6_valueFromOthers 8 = .ok (.iload_n 1, 1) := by decide +kernel
theorem dX6_valueFromOthers_9 : decode cX6_valueFromOthers 9 = .ok (.iconst 1, 1) := by decide +kernel
theorem dX6_valueFromOthers_10 : decode cX6_valueFromOthers 10 = .ok (.invokevirtual 278, 3) := by decide +kernel
theorem dX6_valueFromOthers_13 : decode cX6_valueFromOthers 13 = .ok (.invokevirtual 140, 3) := by decide +kernel
theorem dX6_valueFromOthers_16 : decode cX6_valueFromOthers 16 = .ok (.aload_n 0, 1) := by decide +kernel
theorem dX6_valueFromOthers_17 : decode cX6_valueFromOthers 17 = .ok (.getfield 19, 3) := by decide +kernel
theorem dX6_valueFromOthers_20 : decode cX6_valueFromOthers 20 = .ok (.aload_n 0, 1) := by decide +kernel
theorem dX6_valueFromOthers_21 : decode cX6_valueFromOthers 21 = .ok (.getfield 10, 3) := by decide +kernel
theorem dX6_valueFromOthers_24 : decode cX6_valueFromOthers 24 = .ok (.iload_n 1, 1) := by decide +kernel
theorem dX6_valueFromOthers_25 : decode cX6_valueFromOthers 25 = .ok (.iconst 2, 1) := by decide +kernel
theorem dX6_valueFromOthers_26 : decode cX6_valueFromOthers 26 = .ok (.invokevirtual 278, 3) := by decide +kernel
theorem dX6_valueFromOthers_29 : decode cX6_valueFromOthers 29 = .ok (.invokevirtual 140, 3) := by decide +kernel
theorem dX6_valueFromOthers_32 : decode cX6_valueFromOthers 32 = .ok (.ixor, 1) := by decide +kernel
theorem dX6_valueFromOthers_33 : decode cX6_valueFromOthers 33 = .ok (.ireturn, 1) := by decide +kernel
set_option maxRecDepth 20000 in
theorem ggX6_fetchOthers_X1_nextInStripe : GoodIn wsX6_fetchOthers wsX1_nextInStripe := goodIn_r _ [7, 8, 9, 10, 11, 12, 13, 14, 15, 16, 35, 36, 37, 38] (by decide +kernel) (by decide +kernel)
set_option maxRecDepth 20000 in
theorem gX6_fetchOthers_X1_nextInStripe : GoodIn wsX6_fetchOthers (wsV RX6 278 RX1 yX1_nextInStripe wsX1_nextInStripe) := goodIn_app (goodIn_of _ (by decide +kernel)) ggX6_fetchOthers_X1_nextInStripe
set_option maxRecDepth 20000 in
theorem ggX6_fetchOthers_X5_fetch : GoodIn wsX6_fetchOthers wsX5_fetch := goodIn_r _ [21, 22, 23, 24, 6, 25, 26, 27, 28, 14, 29, 16, 30, 12, 13, 15, 39, 38] (by decide +kernel) (by decide +kernel)
set_option maxRecDepth 20000 in
theorem gX6_fetchOthers_X5_fetch : GoodIn wsX6_fetchOthers (wsV RX6 68 RX5 yX5_fetch wsX5_fetch) := goodIn_app (goodIn_of _ (by decide +kernel)) ggX6_fetchOthers_X5_fetch
theorem dX6_fetchOthers_0 : decode cX6_fetchOthers 0 = .ok (.aload_n 0, 1) := by decide +kernel
theorem dX6_fetchOthers_1 : decode cX6_fetchOthers 1 = .ok (.getfield 19, 3) := by decide +kernel
theorem dX6_fetchOthers_4 : decode cX6_fetchOthers 4 = .ok (.aload_n 0, 1) := by decide +kernel
theorem dX6_fetchOthers_5 : decode cX6_fetchOthers 5 = .ok (.getfield 10, 3) := by decide +kernel
theorem dX6_fetchOthers_8 : decode cX6_fetchOthers 8 = .ok (.iload_n 1, 1) := by decide +kernel
theorem dX6_fetchOthers_9 : decode cX6_fetchOthers 9 = .ok (.iconst 1, 1) := by decide +kernel
theorem dX6_fetchOthers_10 : decode cX6_fetchOthers 10 = .ok (.invokevirtual 278, 3) := by decide +kernel
theorem dX6_fetchOthers_13 : decode cX6_fetchOthers 13 = .ok (.invokevirtual 68, 3) := by decide +kernel
theorem dX6_fetchOthers_16 : decode cX6_fetchOthers 16 = .ok (.aload_n 0, 1) := by decide +kernel
theorem dX6_fetchOthers_17 : decode cX6_fetchOthers 17 = .ok (.getfield 19, 3) := by decide +kernel
theorem dX6_fetchOthers_20 : decode cX6_fetchOthers 20 = .ok (.aload_n 0, 1) := by decide +kernel
theorem dX6_fetchOthers_21 : decode cX6_fetchOthers 21 = .ok (.getfield 10, 3) := by decide +kernel
theorem dX6_fetchOthers_24 : decode cX6_fetchOthers 24 = .ok (.iload_n 1, 1) := by decide +kernel
theorem dX6_fetchOthers_25 : decode cX6_fetchOthers 25 = .ok (.iconst 2, 1) := by decide +kernel
theorem dX6_fetchOthers_26 : decode cX6_fetchOthers 26 = .ok (.invokevirtual 278, 3) := by decide +kernel
theorem dX6_fetchOthers_29 : decode cX6_fetchOthers 29 = .ok (.invokevirtual 68, 3) := by decide +kernel
theorem dX6_fetchOthers_32 : decode cX6_fetchOthers 32 = .ok (.ixor, 1) := by decide +kernel
theorem dX6_fetchOthers_33 : decode cX6_fetchOthers 33 = .ok (.ireturn, 1) := by decide +kernel
set_option maxRecDepth 20000 in
theorem ggX6_canStore_X1_spotOfAddress : GoodIn wsX6_canStore wsX1_spotOfAddress := goodIn_r _ [6, 7, 8, 9, 5, 10, 11, 12, 13, 14, 15, 16, 17, 51, 52, 53, 54] (by decide +kernel) (by decide +kernel)
set_option maxRecDepth 20000 in
theorem gX6_canStore_X1_spotOfAddress : GoodIn wsX6_canStore (wsV RX6 48 RX1 yX1_spotOfAddress wsX1_spotOfAddress) := goodIn_app (goodIn_of _ (by decide +kernel)) ggX6_canStore_X1_spotOfAddress
set_option maxRecDepth 20000 in
theorem ggX6_canStore_X6_isLost : GoodIn wsX6_canStore wsX6_isLost := goodIn_r _ [22, 23, 24, 25, 26, 27, 28, 29, 30, 31, 5, 32, 33, 13, 14, 15, 16, 17, 34, 35, 36, 37, 38, 39, 21, 40, 1, 41, 42, 43, 44, 45, 11, 46, 12, 47, 48, 49, 50, 55, 54, 51, 52, 53] (by decide +kernel) (by decide +kernel)
set_option maxRecDepth 20000 in
theorem gX6_canStore_X6_isLost : GoodIn wsX6_canStore (wsV RX6 52 RX6 yX6_isLost wsX6_isLost) := goodIn_app (goodIn_of _ (by decide +kernel)) ggX6_canStore_X6_isLost
theorem dX6_canStore_0 : decode cX6_canStore 0 = .ok (.aload_n 0, 1) := by decide +kernel
theorem dX6_canStore_1 : decode cX6_canStore 1 = .ok (.aload_n 0, 1) := by decide +kernel
theorem dX6_canStore_2 : decode cX6_canStore 2 = .ok (.getfield 10, 3) := by decide +kernel
theorem dX6_canStore_5 : decode cX6_canStore 5 = .ok (.iload_n 1, 1) := by decide +kernel
theorem dX6_canStore_6 : decode cX6_canStore 6 = .ok (.invokevirtual 48, 3) := by decide +kernel
theorem dX6_canStore_9 : decode cX6_canStore 9 = .ok (.iconst (-1), 1) := by decide +kernel
theorem dX6_canStore_10 : decode cX6_canStore 10 = .ok (.invokevirtual 52, 3) := by decide +kernel
theorem dX6_canStore_13 : decode cX6_canStore 13 = .ok (.ifCond .ne 7, 3) := by decide +kernel
theorem dX6_canStore_16 : decode cX6_canStore 16 = .ok (.iconst 1, 1) := by decide +kernel
theorem dX6_canStore_17 : decode cX6_canStore 17 = .ok (.goto 4, 3) := by decide +kernel
theorem dX6_canStore_20 : decode cX6_canStore 20 = .ok (.iconst 0, 1) := by decide +kernel
theorem dX6_canStore_21 : decode cX6_canStore 21 = .ok (.ireturn, 1) := by decide +kernel
set_option maxRecDepth 20000 in
theorem ggX6_storeData_X1_spotOfAddress : GoodIn wsX6_storeData wsX1_spotOfAddress := goodIn_r _ [7, 8, 9, 10, 6, 11, 12, 13, 14, 15, 16, 17, 18, 60, 61, 62, 63] (by decide +kernel) (by decide +kernel)
set_option maxRecDepth 20000 in
theorem gX6_storeData_X1_spotOfAddress : GoodIn wsX6_storeData (wsV RX6 48 RX1 yX1_spotOfAddress wsX1_spotOfAddress) := goodIn_app (goodIn_of _ (by decide +kernel)) ggX6_storeData_X1_spotOfAddress
set_option maxRecDepth 20000 in
theorem ggX6_storeData_X1_parityOfAddress : GoodIn wsX6_storeData wsX1_parityOfAddress := goodIn_r _ [22, 8, 9, 10, 6, 11, 12, 13, 14, 15, 16, 17, 18, 60, 61, 62, 63] (by decide +kernel) (by decide +kernel)
set_option maxRecDepth 20000 in
theorem gX6_storeData_X1_parityOfAddress : GoodIn wsX6_storeData (wsV RX6 287 RX1 yX1_parityOfAddress wsX1_parityOfAddress) := goodIn_app (goodIn_of _ (by decide +kernel)) ggX6_storeData_X1_parityOfAddress
set_option maxRecDepth 20000 in
theorem ggX6_storeData_X5_hasUnit : GoodIn wsX6_storeData wsX5_hasUnit := goodIn_r _ [27, 28, 29, 30, 6, 31, 32, 14, 15, 16, 17, 18, 33, 34, 35, 64, 63] (by decide +kernel) (by decide +kernel)
set_option maxRecDepth 20000 in
theorem gX6_storeData_X5_hasUnit : GoodIn wsX6_storeData (wsV RX6 65 RX5 yX5_hasUnit wsX5_hasUnit) := goodIn_app (goodIn_of _ (by decide +kernel)) ggX6_storeData_X5_hasUnit
set_option maxRecDepth 20000 in
theorem ggX6_storeData_X1_otherDataOfAddress : GoodIn wsX6_storeData wsX1_otherDataOfAddress := goodIn_r _ [39, 8, 9, 10, 6, 11, 12, 13, 14, 15, 16, 17, 18, 60, 61, 62, 63] (by decide +kernel) (by decide +kernel)
set_option maxRecDepth 20000 in
theorem gX6_storeData_X1_otherDataOfAddress : GoodIn wsX6_storeData (wsV RX6 290 RX1 yX1_otherDataOfAddress wsX1_otherDataOfAddress) := goodIn_app (goodIn_of _ (by decide +kernel)) ggX6_storeData_X1_otherDataOfAddress
set_option maxRecDepth 20000 in
theorem ggX6_storeData_X5_fetch : GoodIn wsX6_storeData wsX5_fetch := goodIn_r _ [43, 28, 29, 30, 6, 31, 44, 45, 46, 16, 47, 18, 32, 14, 15, 17, 64, 63] (by decide +kernel) (by decide +kernel)
set_option maxRecDepth 20000 in
theorem gX6_storeData_X5_fetch : GoodIn wsX6_storeData (wsV RX6 68 RX5 yX5_fetch wsX5_fetch) := goodIn_app (goodIn_of _ (by decide +kernel)) ggX6_storeData_X5_fetch
set_option maxRecDepth 20000 in
theorem ggX6_storeData_X5_store : GoodIn wsX6_storeData wsX5_store := goodIn_r _ [51, 28, 29, 30, 6, 31, 44, 45, 46, 16, 47, 18, 52, 53, 54, 55, 64, 63] (by decide +kernel) (by decide +kernel)
set_option maxRecDepth 20000 in
theorem gX6_storeData_X5_store : GoodIn wsX6_storeData (wsV RX6 293 RX5 yX5_store wsX5_store) := goodIn_app (goodIn_of _ (by decide +kernel)) ggX6_storeData_X5_store
theorem dX6_storeData_0 : decode cX6_storeData 0 = .ok (.aload_n 0, 1) := by decide +kernel
theorem dX6_storeData_1 : decode cX6_storeData 1 = .ok (.getfield 10, 3) := by decide +kernel
theorem dX6_storeData_4 : decode cX6_storeData 4 = .ok (.iload_n 1, 1) := by decide +kernel
theorem dX6_storeData_5 : decode cX6_storeData 5 = .ok (.invokevirtual 48, 3) := by decide +kernel
theorem dX6_storeData_8 : decode cX6_storeData 8 = .ok (.istore_n 3, 1) := by decide +kernel
theorem dX6_storeData_9 : decode cX6_storeData 9 = .ok (.aload_n 0, 1) := by decide +kernel
theorem dX6_storeData_10 : decode cX6_storeData 10 = .ok (.getfield 10, 3) := by decide +kernel
theorem dX6_storeData_13 : decode cX6_storeData 13 = .ok (.iload_n 1, 1) := by decide +kernel
theorem dX6_storeData_14 : decode cX6_storeData 14 = .ok (.invokevirtual 287, 3) := by decide +kernel
theorem dX6_storeData_17 : decode cX6_storeData 17 = .ok (.istore 4, 2) := by decide +kernel
theorem dX6_storeData_19 : decode cX6_storeData 19 = .ok (.aload_n 0, 1) := by decide +kernel
theorem dX6_storeData_20 : decode cX6_storeData 20 = .ok (.getfield 19, 3) := by decide +kernel
theorem dX6_storeData_23 : decode cX6_storeData 23 = .ok (.iload_n 3, 1) := by decide +kernel
theorem dX6_storeData_24 : decode cX6_storeData 24 = .ok (.iconst (-1), 1) := by decide +kernel
theorem dX6_storeData_25 : decode cX6_storeData 25 = .ok (.invokevirtual 65, 3) := by decide +kernel
theorem dX6_storeData_28 : decode cX6_storeData 28 = .ok (.ifCond .ne 35, 3) := by decide +kernel
theorem dX6_storeData_31 : decode cX6_storeData 31 = .ok (.aload_n 0, 1) := by decide +kernel
theorem dX6_storeData_32 : decode cX6_storeData 32 = .ok (.getfield 19, 3) := by decide +kernel
theorem dX6_storeData_35 : decode cX6_storeData 35 = .ok (.aload_n 0, 1) := by decide +kernel
theorem dX6_storeData_36 : decode cX6_storeData 36 = .ok (.getfield 10, 3) := by decide +kernel
theorem dX6_storeData_39 : decode cX6_storeData 39 = .ok (.iload_n 1, 1) := by decide +kernel
theorem dX6_storeData_40 : decode cX6_storeData 40 = .ok (.invokevirtual 290, 3) := by decide +kernel
theorem dX6_storeData_43 : decode cX6_storeData 43 = .ok (.invokevirtual 68, 3) := by decide +kernel
theorem dX6_storeData_46 : decode cX6_storeData 46 = .ok (.istore 5, 2) := by decide +kernel
theorem dX6_storeData_48 : decode cX6_storeData 48 = .ok (.aload_n 0, 1) := by decide +kernel
theorem dX6_storeData_49 : decode cX6_storeData 49 = .ok (.getfield 19, 3) := by decide +kernel
theorem dX6_storeData_52 : decode cX6_storeData 52 = .ok (.iload 4, 2) := by decide +kernel
theorem dX6_storeData_54 : decode cX6_storeData 54 = .ok (.iload 5, 2) := by decide +kernel
theorem dX6_storeData_56 : decode cX6_storeData 56 = .ok (.iload_n 2, 1) := by decide +kernel
theorem dX6_storeData_57 : decode cX6_storeData 57 = .ok (.ixor, 1) := by decide +kernel
theorem dX6_storeData_58 : decode cX6_storeData 58 = .ok (.invokevirtual 293, 3) := by decide +kernel
theorem dX6_storeData_61 : decode cX6_storeData 61 = .ok (.iconst 2, 1) := by decide +kernel
theorem dX6_storeData_62 : decode cX6_storeData 62 = .ok (.ireturn, 1) := by decide +kernel
theorem dX6_storeData_63 : decode cX6_storeData 63 = .ok (.aload_n 0, 1) := by decide +kernel
theorem dX6_storeData_64 : decode cX6_storeData 64 = .ok (.getfield 19, 3) := by decide +kernel
theorem dX6_storeData_67 : decode cX6_storeData 67 = .ok (.iload 4, 2) := by decide +kernel
theorem dX6_storeData_69 : decode cX6_storeData 69 = .ok (.iconst (-1), 1) := by decide +kernel
theorem dX6_storeData_70 : decode cX6_storeData 70 = .ok (.invokevirtual 65, 3) := by decide +kernel
theorem dX6_storeData_73 : decode cX6_storeData 73 = .ok (.ifCond .ne 14, 3) := by decide +kernel
theorem dX6_storeData_76 : decode cX6_storeData 76 = .ok (.aload_n 0, 1) := by decide +kernel
theorem dX6_storeData_77 : decode cX6_storeData 77 = .ok (.getfield 19, 3) := by decide +kernel
theorem dX6_storeData_80 : decode cX6_storeData 80 = .ok (.iload_n 3, 1) := by decide +kernel
theorem dX6_storeData_81 : decode cX6_storeData 81 = .ok (.iload_n 2, 1) := by decide +kernel
theorem dX6_storeData_82 : decode cX6_storeData 82 = .ok (.invokevirtual 293, 3) := by decide +kernel
theorem dX6_storeData_85 : decode cX6_storeData 85 = .ok (.iconst 1, 1) := by decide +kernel
theorem dX6_storeData_86 : decode cX6_storeData 86 = .ok (.ireturn, 1) := by decide +kernel
theorem dX6_storeData_87 : decode cX6_storeData 87 = .ok (.aload_n 0, 1) := by decide +kernel
theorem dX6_storeData_88 : decode cX6_storeData 88 = .ok (.getfield 19, 3) := by decide +kernel
theorem dX6_storeData_91 : decode cX6_storeData 91 = .ok (.iload_n 3, 1) := by decide +kernel
theorem dX6_storeData_92 : decode cX6_storeData 92 = .ok (.invokevirtual 68, 3) := by decide +kernel
theorem dX6_storeData_95 : decode cX6_storeData 95 = .ok (.iload_n 2, 1) := by decide +kernel
theorem dX6_storeData_96 : decode cX6_storeData 96 = .ok (.ixor, 1) := by decide +kernel
theorem dX6_storeData_97 : decode cX6_storeData 97 = .ok (.istore 5, 2) := by decide +kernel
theorem dX6_storeData_99 : decode cX6_storeData 99 = .ok (.aload_n 0, 1) := by decide +kernel
theorem dX6_storeData_100 : decode cX6_storeData 100 = .ok (.getfield 19, 3) := by decide +kernel
theorem dX6_storeData_103 : decode cX6_storeData 103 = .ok (.iload 4, 2) := by decide +kernel
theorem dX6_storeData_105 : decode cX6_storeData 105 = .ok (.invokevirtual 68, 3) := by decide +kernel
theorem dX6_storeData_108 : decode cX6_storeData 108 = .ok (.istore 6, 2) := by decide +kernel
theorem dX6_storeData_110 : decode cX6_storeData 110 = .ok (.aload_n 0, 1) := by decide +kernel
theorem dX6_storeData_111 : decode cX6_storeData 111 = .ok (.getfield 19, 3) := by decide +kernel
theorem dX6_storeData_114 : decode cX6_storeData 114 = .ok (.iload_n 3, 1) := by decide +kernel
theorem dX6_storeData_115 : decode cX6_storeData 115 = .ok (.iload_n 2, 1) := by decide +kernel
theorem dX6_storeData_116 : decode cX6_storeData 116 = .ok (.invokevirtual 293, 3) := by decide +kernel
theorem dX6_storeData_119 : decode cX6_storeData 119 = .ok (.aload_n 0, 1) := by decide +kernel
theorem dX6_storeData_120 : decode cX6_storeData 120 = .ok (.getfield 19, 3) := by decide +kernel
theorem dX6_storeData_123 : decode cX6_storeData 123 = .ok (.iload 4, 2) := by decide +kernel
theorem dX6_storeData_125 : decode cX6_storeData 125 = .ok (.iload 6, 2) := by decide +kernel
theorem dX6_storeData_127 : decode cX6_storeData 127 = .ok (.iload 5, 2) := by decide +kernel
theorem dX6_storeData_129 : decode cX6_storeData 129 = .ok (.ixor, 1) := by decide +kernel
theorem dX6_storeData_130 : decode cX6_storeData 130 = .ok (.invokevirtual 293, 3) := by decide +kernel
theorem dX6_storeData_133 : decode cX6_storeData 133 = .ok (.iconst 4, 1) := by decide +kernel
theorem dX6_storeData_134 : decode cX6_storeData 134 = .ok (.ireturn, 1) := by decide +kernel
set_option maxRecDepth 20000 in
theorem ggX6_canDrop_X5_progressOf : GoodIn wsX6_canDrop wsX5_progressOf := goodIn_r _ [6, 7, 8, 9, 10, 11, 12, 13, 18, 19] (by decide +kernel) (by decide +kernel)
set_option maxRecDepth 20000 in
theorem gX6_canDrop_X5_progressOf : GoodIn wsX6_canDrop (wsV RX6 150 RX5 yX5_progressOf wsX5_progressOf) := goodIn_app (goodIn_of _ (by decide +kernel)) ggX6_canDrop_X5_progressOf
theorem dX6_canDrop_0 : decode cX6_canDrop 0 = .ok (.aload_n 0, 1) := by decide +kernel
theorem dX6_canDrop_1 : decode cX6_canDrop 1 = .ok (.getfield 19, 3) := by decide +kernel
theorem dX6_canDrop_4 : decode cX6_canDrop 4 = .ok (.iload_n 1, 1) := by decide +kernel
theorem dX6_canDrop_5 : decode cX6_canDrop 5 = .ok (.invokevirtual 150, 3) := by decide +kernel
theorem dX6_canDrop_8 : decode cX6_canDrop 8 = .ok (.iconst (-1), 1) := by decide +kernel
theorem dX6_canDrop_9 : decode cX6_canDrop 9 = .ok (.if_icmp .eq 7, 3) := by decide +kernel
theorem dX6_canDrop_12 : decode cX6_canDrop 12 = .ok (.iconst 1, 1) := by decide +kernel
theorem dX6_canDrop_13 : decode cX6_canDrop 13 = .ok (.goto 4, 3) := by decide +kernel
theorem dX6_canDrop_16 : decode cX6_canDrop 16 = .ok (.iconst 0, 1) := by decide +kernel
theorem dX6_canDrop_17 : decode cX6_canDrop 17 = .ok (.ireturn, 1) := by decide +kernel
set_option maxRecDepth 20000 in
theorem ggX6_canReplace_X5_progressOf : GoodIn wsX6_canReplace wsX5_progressOf := goodIn_r _ [6, 7, 8, 9, 10, 11, 12, 13, 22, 23] (by decide +kernel) (by decide +kernel)
set_option maxRecDepth 20000 in
theorem gX6_canReplace_X5_progressOf : GoodIn wsX6_canReplace (wsV RX6 150 RX5 yX5_progressOf wsX5_progressOf) := goodIn_app (goodIn_of _ (by decide +kernel)) ggX6_canReplace_X5_progressOf
set_option maxRecDepth 20000 in
theorem ggX6_canReplace_X5_spareDiscs : GoodIn wsX6_canReplace wsX5_spareDiscs := goodIn_r _ [17, 7, 8, 9, 10, 11, 12, 13, 22, 23] (by decide +kernel) (by decide +kernel)
set_option maxRecDepth 20000 in
theorem gX6_canReplace_X5_spareDiscs : GoodIn wsX6_canReplace (wsV RX6 116 RX5 yX5_spareDiscs wsX5_spareDiscs) := goodIn_app (goodIn_of _ (by decide +kernel)) ggX6_canReplace_X5_spareDiscs
theorem dX6_canReplace_0 : decode cX6_canReplace 0 = .ok (.aload_n 0, 1) := by decide +kernel
theorem dX6_canReplace_1 : decode cX6_canReplace 1 = .ok (.getfield 19, 3) := by decide +kernel
theorem dX6_canReplace_4 : decode cX6_canReplace 4 = .ok (.iload_n 1, 1) := by decide +kernel
theorem dX6_canReplace_5 : decode cX6_canReplace 5 = .ok (.invokevirtual 150, 3) := by decide +kernel
theorem dX6_canReplace_8 : decode cX6_canReplace 8 = .ok (.iconst (-1), 1) := by decide +kernel
theorem dX6_canReplace_9 : decode cX6_canReplace 9 = .ok (.if_icmp .ne 17, 3) := by decide +kernel
theorem dX6_canReplace_12 : decode cX6_canReplace 12 = .ok (.aload_n 0, 1) := by decide +kernel
theorem dX6_canReplace_13 : decode cX6_canReplace 13 = .ok (.getfield 19, 3) := by decide +kernel
theorem dX6_canReplace_16 : decode cX6_canReplace 16 = .ok (.invokevirtual 116, 3) := by decide +kernel
theorem dX6_canReplace_19 : decode cX6_canReplace 19 = .ok (.ifCond .le 7, 3) := by decide +kernel
theorem dX6_canReplace_22 : decode cX6_canReplace 22 = .ok (.iconst 1, 1) := by decide +kernel
theorem dX6_canReplace_23 : decode cX6_canReplace 23 = .ok (.goto 4, 3) := by decide +kernel
theorem dX6_canReplace_26 : decode cX6_canReplace 26 = .ok (.iconst 0, 1) := by decide +kernel
theorem dX6_canReplace_27 : decode cX6_canReplace 27 = .ok (.ireturn, 1) := by decide +kernel
set_option maxRecDepth 20000 in
theorem ggX6_makeSteps_X6_leastBeingMended : GoodIn wsX6_makeSteps wsX6_leastBeingMended := goodIn_r _ [5, 6, 7, 8, 9, 10, 11, 12, 13, 14, 15, 16, 17, 18, 78, 79, 80, 81, 82, 83] (by decide +kernel) (by decide +kernel)
set_option maxRecDepth 20000 in
theorem gX6_makeSteps_X6_leastBeingMended : GoodIn wsX6_makeSteps (wsV RX6 296 RX6 yX6_leastBeingMended wsX6_leastBeingMended) := goodIn_app (goodIn_of _ (by decide +kernel)) ggX6_makeSteps_X6_leastBeingMended
set_option maxRecDepth 20000 in
theorem ggX6_makeSteps_X6_makeStep : GoodIn wsX6_makeSteps wsX6_makeStep := goodIn_r _ [22, 6, 7, 8, 9, 10, 11, 12, 13, 14, 15, 16, 17, 18, 23, 24, 25, 26, 27, 28, 29, 4, 30, 31, 32, 33, 34, 35, 36, 37, 38, 39, 40, 41, 42, 43, 44, 45, 46, 47, 48, 49, 50, 51, 52, 53, 54, 55, 56, 57, 58, 59, 60, 61, 62, 63, 64, 65, 66, 67, 68, 69, 70, 71, 72, 73, 74, 75, 76, 77, 78, 79, 80, 81, 82, 83, 84, 85, 86] (by decide +kernel) (by decide +kernel)
set_option maxRecDepth 20000 in
theorem gX6_makeSteps_X6_makeStep : GoodIn wsX6_makeSteps (wsV RX6 299 RX6 yX6_makeStep wsX6_makeStep) := goodIn_app (goodIn_of _ (by decide +kernel)) ggX6_makeSteps_X6_makeStep
theorem dX6_makeSteps_0 : decode cX6_makeSteps 0 = .ok (.iconst 0, 1) := by decide +kernel
theorem dX6_makeSteps_1 : decode cX6_makeSteps 1 = .ok (.istore_n 2, 1) := by decide +kernel
theorem dX6_makeSteps_2 : decode cX6_makeSteps 2 = .ok (.iload_n 2, 1) := by decide +kernel
theorem dX6_makeSteps_3 : decode cX6_makeSteps 3 = .ok (.iload_n 1, 1) := by decide +kernel
theorem dX6_makeSteps_4 : decode cX6_makeSteps 4 = .ok (.if_icmp .ge 26, 3) := by decide +kernel
theorem dX6_makeSteps_7 : decode cX6_makeSteps 7 = .ok (.aload_n 0, 1) := by decide +kernel
theorem dX6_makeSteps_8 : decode cX6_makeSteps 8 = .ok (.invokevirtual 296, 3) := by decide +kernel
theorem dX6_makeSteps_11 : decode cX6_makeSteps 11 = .ok (.istore_n 3, 1) := by decide +kernel
theorem dX6_makeSteps_12 : decode cX6_makeSteps 12 = .ok (.iload_n 3, 1) := by decide +kernel
theorem dX6_makeSteps_13 : decode cX6_makeSteps 13 = .ok (.iconst (-1), 1) := by decide +kernel
theorem dX6_makeSteps_14 : decode cX6_makeSteps 14 = .ok (.if_icmp .ne 5, 3) := by decide +kernel
theorem dX6_makeSteps_17 : decode cX6_makeSteps 17 = .ok (.iload_n 2, 1) := by decide +kernel
theorem dX6_makeSteps_18 : decode cX6_makeSteps 18 = .ok (.ireturn, 1) := by decide +kernel
theorem dX6_makeSteps_19 : decode cX6_makeSteps 19 = .ok (.aload_n 0, 1) := by decide +kernel
theorem dX6_makeSteps_20 : decode cX6_makeSteps 20 = .ok (.iload_n 3, 1) := by decide +kernel
theorem dX6_makeSteps_21 : decode cX6_makeSteps 21 = .ok (.invokevirtual 299, 3) := by decide +kernel
theorem dX6_makeSteps_24 : decode cX6_makeSteps 24 = .ok (.iinc 2 1, 3) := by decide +kernel
theorem dX6_makeSteps_27 : decode cX6_makeSteps 27 = .ok (.goto (-25), 3) := by decide +kernel
theorem dX6_makeSteps_30 : decode cX6_makeSteps 30 = .ok (.iload_n 1, 1) := by decide +kernel
theorem dX6_makeSteps_31 : decode cX6_makeSteps 31 = .ok (.ireturn, 1) := by decide +kernel
set_option maxRecDepth 20000 in
theorem ggX6_leastBeingMended_X5_progressOf : GoodIn wsX6_leastBeingMended wsX5_progressOf := goodIn_r _ [6, 7, 8, 9, 10, 11, 12, 13, 18, 19] (by decide +kernel) (by decide +kernel)
set_option maxRecDepth 20000 in
theorem gX6_leastBeingMended_X5_progressOf : GoodIn wsX6_leastBeingMended (wsV RX6 150 RX5 yX5_progressOf wsX5_progressOf) := goodIn_app (goodIn_of _ (by decide +kernel)) ggX6_leastBeingMended_X5_progressOf
theorem dX6_leastBeingMended_0 : decode cX6_leastBeingMended 0 = .ok (.iconst 0, 1) := by decide +kernel
theorem dX6_leastBeingMended_1 : decode cX6_leastBeingMended 1 = .ok (.istore_n 1, 1) := by decide +kernel
theorem dX6_leastBeingMended_2 : decode cX6_leastBeingMended 2 = .ok (.iload_n 1, 1) := by decide +kernel
theorem dX6_leastBeingMended_3 : decode cX6_leastBeingMended 3 = .ok (.bipush 7, 2) := by decide +kernel
theorem dX6_leastBeingMended_5 : decode cX6_leastBeingMended 5 = .ok (.if_icmp .ge 31, 3) := by decide +kernel
theorem dX6_leastBeingMended_8 : decode cX6_leastBeingMended 8 = .ok (.aload_n 0, 1) := by decide +kernel
theorem dX6_leastBeingMended_9 : decode cX6_leastBeingMended 9 = .ok (.getfield 19, 3) := by decide +kernel
theorem dX6_leastBeingMended_12 : decode cX6_leastBeingMended 12 = .ok (.iload_n 1, 1) := by decide +kernel
theorem dX6_leastBeingMended_13 : decode cX6_leastBeingMended 13 = .ok (.invokevirtual 150, 3) := by decide +kernel
theorem dX6_leastBeingMended_16 : decode cX6_leastBeingMended 16 = .ok (.istore_n 2, 1) := by decide +kernel
theorem dX6_leastBeingMended_17 : decode cX6_leastBeingMended 17 = .ok (.iload_n 2, 1) := by decide +kernel
theorem dX6_leastBeingMended_18 : decode cX6_leastBeingMended 18 = .ok (.iconst (-1), 1) := by decide +kernel
theorem dX6_leastBeingMended_19 : decode cX6_leastBeingMended 19 = .ok (.if_icmp .eq 11, 3) := by decide +kernel
theorem dX6_leastBeingMended_22 : decode cX6_leastBeingMended 22 = .ok (.iload_n 2, 1) := by decide +kernel
theorem dX6_leastBeingMended_23 : decode cX6_leastBeingMended 23 = .ok (.bipush 9, 2) := by decide +kernel
theorem dX6_leastBeingMended_25 : decode cX6_leastBeingMended 25 = .ok (.if_icmp .eq 5, 3) := by decide +kernel
theorem dX6_leastBeingMended_28 : decode cX6_leastBeingMended 28 = .ok (.iload_n 1, 1) := by decide +kernel
theorem dX6_leastBeingMended_29 : decode cX6_leastBeingMended 29 = .ok (.ireturn, 1) := by decide +kernel
theorem dX6_leastBeingMended_30 : decode cX6_leastBeingMended 30 = .ok (.iinc 1 1, 3) := by decide +kernel
theorem dX6_leastBeingMended_33 : decode cX6_leastBeingMended 33 = .ok (.goto (-31), 3) := by decide +kernel
theorem dX6_leastBeingMended_36 : decode cX6_leastBeingMended 36 = .ok (.iconst (-1), 1) := by decide +kernel
theorem dX6_leastBeingMended_37 : decode cX6_leastBeingMended 37 = .ok (.ireturn, 1) := by decide +kernel
set_option maxRecDepth 20000 in
theorem ggX6_makeStep_X5_progressOf : GoodIn wsX6_makeStep wsX5_progressOf := goodIn_r _ [6, 7, 8, 9, 10, 11, 12, 13, 74, 75] (by decide +kernel) (by decide +kernel)
set_option maxRecDepth 20000 in
theorem gX6_makeStep_X5_progressOf : GoodIn wsX6_makeStep (wsV RX6 150 RX5 yX5_progressOf wsX5_progressOf) := goodIn_app (goodIn_of _ (by decide +kernel)) ggX6_makeStep_X5_progressOf
set_option maxRecDepth 20000 in
theorem ggX6_makeStep_X1_spotAt : GoodIn wsX6_makeStep wsX1_spotAt := goodIn_r _ [17] (by decide +kernel) (by decide +kernel)
set_option maxRecDepth 20000 in
theorem gX6_makeStep_X1_spotAt : GoodIn wsX6_makeStep (va_wsS RX6 135 yX1_spotAt wsX1_spotAt) := goodIn_app (goodIn_of _ (by decide +kernel)) ggX6_makeStep_X1_spotAt
set_option maxRecDepth 20000 in
theorem ggX6_makeStep_X6_canBeFound : GoodIn wsX6_makeStep wsX6_canBeFound := goodIn_r _ [22, 1, 23, 24, 25, 26, 16, 27, 28, 29, 30, 31, 9, 10, 11, 12, 13, 32, 33, 34, 5, 35, 7, 36, 37, 38, 8, 39, 40, 41, 70, 71, 72, 73, 76, 77, 78, 75, 74] (by decide +kernel) (by decide +kernel)
set_option maxRecDepth 20000 in
theorem gX6_makeStep_X6_canBeFound : GoodIn wsX6_makeStep (wsV RX6 281 RX6 yX6_canBeFound wsX6_canBeFound) := goodIn_app (goodIn_of _ (by decide +kernel)) ggX6_makeStep_X6_canBeFound
set_option maxRecDepth 20000 in
theorem ggX6_makeStep_X6_fetchOthers : GoodIn wsX6_makeStep wsX6_fetchOthers := goodIn_r _ [45, 1, 23, 24, 25, 26, 16, 27, 28, 29, 30, 31, 9, 10, 11, 12, 13, 46, 47, 48, 5, 49, 7, 36, 37, 38, 50, 51, 52, 53, 8, 70, 71, 72, 73, 76, 77, 78, 75, 74] (by decide +kernel) (by decide +kernel)
set_option maxRecDepth 20000 in
theorem gX6_makeStep_X6_fetchOthers : GoodIn wsX6_makeStep (wsV RX6 71 RX6 yX6_fetchOthers wsX6_fetchOthers) := goodIn_app (goodIn_of _ (by decide +kernel)) ggX6_makeStep_X6_fetchOthers
set_option maxRecDepth 20000 in
theorem ggX6_makeStep_X5_store : GoodIn wsX6_makeStep wsX5_store := goodIn_r _ [57, 7, 36, 37, 16, 38, 50, 51, 52, 11, 53, 13, 58, 59, 60, 61, 74, 75] (by decide +kernel) (by decide +kernel)
set_option maxRecDepth 20000 in
theorem gX6_makeStep_X5_store : GoodIn wsX6_makeStep (wsV RX6 293 RX5 yX5_store wsX5_store) := goodIn_app (goodIn_of _ (by decide +kernel)) ggX6_makeStep_X5_store
set_option maxRecDepth 20000 in
theorem ggX6_makeStep_X5_addLoss : GoodIn wsX6_makeStep wsX5_addLoss := goodIn_r _ [65, 7, 50, 51, 52, 11, 53, 13, 74, 75] (by decide +kernel) (by decide +kernel)
set_option maxRecDepth 20000 in
theorem gX6_makeStep_X5_addLoss : GoodIn wsX6_makeStep (wsV RX6 302 RX5 yX5_addLoss wsX5_addLoss) := goodIn_app (goodIn_of _ (by decide +kernel)) ggX6_makeStep_X5_addLoss
set_option maxRecDepth 20000 in
theorem ggX6_makeStep_X5_advance : GoodIn wsX6_makeStep wsX5_advance := goodIn_r _ [69, 7, 50, 51, 52, 11, 53, 13, 74, 75] (by decide +kernel) (by decide +kernel)
set_option maxRecDepth 20000 in
theorem gX6_makeStep_X5_advance : GoodIn wsX6_makeStep (wsV RX6 305 RX5 yX5_advance wsX5_advance) := goodIn_app (goodIn_of _ (by decide +kernel)) ggX6_makeStep_X5_advance
theorem dX6_makeStep_0 : decode cX6_makeStep 0 = .ok (.iload_n 1, 1) := by decide +kernel
theorem dX6_makeStep_1 : decode cX6_makeStep 1 = .ok (.aload_n 0, 1) := by decide +kernel
theorem dX6_makeStep_2 : decode cX6_makeStep 2 = .ok (.getfield 19, 3) := by decide +kernel
theorem dX6_makeStep_5 : decode cX6_makeStep 5 = .ok (.iload_n 1, 1) := by decide +kernel
theorem dX6_makeStep_6 : decode cX6_makeStep 6 = .ok (.invokevirtual 150, 3) := by decide +kernel
theorem dX6_makeStep_9 : decode cX6_makeStep 9 = .ok (.invokestatic 135, 3) := by decide +kernel
theorem dX6_makeStep_12 : decode cX6_makeStep 12 = .ok (.istore_n 2, 1) := by decide +kernel
theorem dX6_makeStep_13 : decode cX6_makeStep 13 = .ok (.aload_n 0, 1) := by decide +kernel
theorem dX6_makeStep_14 : decode cX6_makeStep 14 = .ok (.iload_n 2, 1) := by decide +kernel
theorem dX6_makeStep_15 : decode cX6_makeStep 15 = .ok (.iconst (-1), 1) := by decide +kernel
theorem dX6_makeStep_16 : decode cX6_makeStep 16 = .ok (.invokevirtual 281, 3) := by decide +kernel
theorem dX6_makeStep_19 : decode cX6_makeStep 19 = .ok (.ifCond .eq 19, 3) := by decide +kernel
theorem dX6_makeStep_22 : decode cX6_makeStep 22 = .ok (.aload_n 0, 1) := by decide +kernel
theorem dX6_makeStep_23 : decode cX6_makeStep 23 = .ok (.getfield 19, 3) := by decide +kernel
theorem dX6_makeStep_26 : decode cX6_makeStep 26 = .ok (.iload_n 2, 1) := by decide +kernel
theorem dX6_makeStep_27 : decode cX6_makeStep 27 = .ok (.aload_n 0, 1) := by decide +kernel
theorem dX6_makeStep_28 : decode cX6_makeStep 28 = .ok (.iload_n 2, 1) := by decide +kernel
theorem dX6_makeStep_29 : decode cX6_makeStep 29 = .ok (.invokevirtual 71, 3) := by decide +kernel
theorem dX6_makeStep_32 : decode cX6_makeStep 32 = .ok (.invokevirtual 293, 3) := by decide +kernel
theorem dX6_makeStep_35 : decode cX6_makeStep 35 = .ok (.goto 10, 3) := by decide +kernel
theorem dX6_makeStep_38 : decode cX6_makeStep 38 = .ok (.aload_n 0, 1) := by decide +kernel
theorem dX6_makeStep_39 : decode cX6_makeStep 39 = .ok (.getfield 19, 3) := by decide +kernel
theorem dX6_makeStep_42 : decode cX6_makeStep 42 = .ok (.invokevirtual 302, 3) := by decide +kernel
theorem dX6_makeStep_45 : decode cX6_makeStep 45 = .ok (.aload_n 0, 1) := by decide +kernel
theorem dX6_makeStep_46 : decode cX6_makeStep 46 = .ok (.getfield 19, 3) := by decide +kernel
theorem dX6_makeStep_49 : decode cX6_makeStep 49 = .ok (.iload_n 1, 1) := by decide +kernel
theorem dX6_makeStep_50 : decode cX6_makeStep 50 = .ok (.invokevirtual 305, 3) := by decide +kernel
theorem dX6_makeStep_53 : decode cX6_makeStep 53 = .ok (.return_, 1) := by decide +kernel
set_option maxRecDepth 20000 in
theorem ggX6_isWhole_X1_spotOf : GoodIn wsX6_isWhole wsX1_spotOf := goodIn_r _ [7, 8, 9, 10, 11, 12, 13, 14, 43, 44, 45, 46] (by decide +kernel) (by decide +kernel)
set_option maxRecDepth 20000 in
theorem gX6_isWhole_X1_spotOf : GoodIn wsX6_isWhole (wsV RX6 169 RX1 yX1_spotOf wsX1_spotOf) := goodIn_app (goodIn_of _ (by decide +kernel)) ggX6_isWhole_X1_spotOf
set_option maxRecDepth 20000 in
theorem ggX6_isWhole_X5_hasUnit : GoodIn wsX6_isWhole wsX5_hasUnit := goodIn_r _ [19, 20, 21, 22, 6, 23, 24, 10, 11, 12, 13, 14, 25, 26, 27, 47, 46] (by decide +kernel) (by decide +kernel)
set_option maxRecDepth 20000 in
theorem gX6_isWhole_X5_hasUnit : GoodIn wsX6_isWhole (wsV RX6 65 RX5 yX5_hasUnit wsX5_hasUnit) := goodIn_app (goodIn_of _ (by decide +kernel)) ggX6_isWhole_X5_hasUnit
set_option maxRecDepth 20000 in
theorem ggX6_isWhole_X6_canBeFound : GoodIn wsX6_isWhole wsX6_canBeFound := goodIn_r _ [32, 2, 1, 33, 34, 35, 6, 36, 37, 8, 38, 9, 10, 11, 12, 13, 14, 15, 16, 17, 18, 19, 20, 21, 22, 23, 24, 25, 26, 27, 39, 40, 41, 42, 43, 44, 45, 46, 47] (by decide +kernel) (by decide +kernel)
set_option maxRecDepth 20000 in
theorem gX6_isWhole_X6_canBeFound : GoodIn wsX6_isWhole (wsV RX6 281 RX6 yX6_canBeFound wsX6_canBeFound) := goodIn_app (goodIn_of _ (by decide +kernel)) ggX6_isWhole_X6_canBeFound
theorem dX6_isWhole_0 : decode cX6_isWhole 0 = .ok (.aload_n 0, 1) := by decide +kernel
theorem dX6_isWhole_1 : decode cX6_isWhole 1 = .ok (.getfield 10, 3) := by decide +kernel
theorem dX6_isWhole_4 : decode cX6_isWhole 4 = .ok (.iload_n 1, 1) := by decide +kernel
theorem dX6_isWhole_5 : decode cX6_isWhole 5 = .ok (.iconst 2, 1) := by decide +kernel
theorem dX6_isWhole_6 : decode cX6_isWhole 6 = .ok (.invokevirtual 169, 3) := by decide +kernel
theorem dX6_isWhole_9 : decode cX6_isWhole 9 = .ok (.istore_n 2, 1) := by decide +kernel
theorem dX6_isWhole_10 : decode cX6_isWhole 10 = .ok (.aload_n 0, 1) := by decide +kernel
theorem dX6_isWhole_11 : decode cX6_isWhole 11 = .ok (.getfield 19, 3) := by decide +kernel
theorem dX6_isWhole_14 : decode cX6_isWhole 14 = .ok (.iload_n 2, 1) := by decide +kernel
theorem dX6_isWhole_15 : decode cX6_isWhole 15 = .ok (.iconst (-1), 1) := by decide +kernel
theorem dX6_isWhole_16 : decode cX6_isWhole 16 = .ok (.invokevirtual 65, 3) := by decide +kernel
theorem dX6_isWhole_19 : decode cX6_isWhole 19 = .ok (.ifCond .eq 16, 3) := by decide +kernel
theorem dX6_isWhole_22 : decode cX6_isWhole 22 = .ok (.aload_n 0, 1) := by decide +kernel
theorem dX6_isWhole_23 : decode cX6_isWhole 23 = .ok (.iload_n 2, 1) := by decide +kernel
theorem dX6_isWhole_24 : decode cX6_isWhole 24 = .ok (.iconst (-1), 1) := by decide +kernel
theorem dX6_isWhole_25 : decode cX6_isWhole 25 = .ok (.invokevirtual 281, 3) := by decide +kernel
theorem dX6_isWhole_28 : decode cX6_isWhole 28 = .ok (.ifCond .eq 7, 3) := by decide +kernel
theorem dX6_isWhole_31 : decode cX6_isWhole 31 = .ok (.iconst 1, 1) := by decide +kernel
theorem dX6_isWhole_32 : decode cX6_isWhole 32 = .ok (.goto 4, 3) := by decide +kernel
theorem dX6_isWhole_35 : decode cX6_isWhole 35 = .ok (.iconst 0, 1) := by decide +kernel
theorem dX6_isWhole_36 : decode cX6_isWhole 36 = .ok (.ireturn, 1) := by decide +kernel
set_option maxRecDepth 20000 in
theorem ggX6_countWrong_X1_spotOf : GoodIn wsX6_countWrong wsX1_spotOf := goodIn_r _ [7, 8, 9, 10, 11, 12, 13, 14, 55, 56, 57, 58] (by decide +kernel) (by decide +kernel)
set_option maxRecDepth 20000 in
theorem gX6_countWrong_X1_spotOf : GoodIn wsX6_countWrong (wsV RX6 169 RX1 yX1_spotOf wsX1_spotOf) := goodIn_app (goodIn_of _ (by decide +kernel)) ggX6_countWrong_X1_spotOf
set_option maxRecDepth 20000 in
theorem ggX6_countWrong_X6_isWhole : GoodIn wsX6_countWrong wsX6_isWhole := goodIn_r _ [19, 1, 2, 3, 4, 5, 6, 7, 8, 9, 10, 11, 12, 13, 14, 20, 21, 22, 23, 24, 25, 26, 27, 28, 29, 30, 31, 32, 33, 34, 35, 18, 36, 37, 38, 39, 40, 41, 42, 51, 52, 53, 54, 55, 56, 57, 58, 59] (by decide +kernel) (by decide +kernel)
set_option maxRecDepth 20000 in
theorem gX6_countWrong_X6_isWhole : GoodIn wsX6_countWrong (wsV RX6 308 RX6 yX6_isWhole wsX6_isWhole) := goodIn_app (goodIn_of _ (by decide +kernel)) ggX6_countWrong_X6_isWhole
set_option maxRecDepth 20000 in
theorem ggX6_countWrong_X5_valueAt : GoodIn wsX6_countWrong wsX5_valueAt := goodIn_r _ [46, 25, 29, 10, 11, 12, 13, 14, 59, 58] (by decide +kernel) (by decide +kernel)
set_option maxRecDepth 20000 in
theorem gX6_countWrong_X5_valueAt : GoodIn wsX6_countWrong (wsV RX6 140 RX5 yX5_valueAt wsX5_valueAt) := goodIn_app (goodIn_of _ (by decide +kernel)) ggX6_countWrong_X5_valueAt
set_option maxRecDepth 20000 in
theorem ggX6_countWrong_X6_valueFromOthers : GoodIn wsX6_countWrong wsX6_valueFromOthers := goodIn_r _ [50, 2, 1, 37, 38, 39, 6, 40, 41, 8, 42, 9, 10, 11, 12, 13, 14, 43, 44, 45, 23, 46, 25, 29, 51, 52, 53, 54, 55, 56, 57, 58, 59] (by decide +kernel) (by decide +kernel)
set_option maxRecDepth 20000 in
theorem gX6_countWrong_X6_valueFromOthers : GoodIn wsX6_countWrong (wsV RX6 284 RX6 yX6_valueFromOthers wsX6_valueFromOthers) := goodIn_app (goodIn_of _ (by decide +kernel)) ggX6_countWrong_X6_valueFromOthers
theorem dX6_countWrong_0 : decode cX6_countWrong 0 = .ok (.iconst 0, 1) := by decide +kernel
theorem dX6_countWrong_1 : decode cX6_countWrong 1 = .ok (.istore_n 1, 1) := by decide +kernel
theorem dX6_countWrong_2 : decode cX6_countWrong 2 = .ok (.iconst 0, 1) := by decide +kernel
theorem dX6_countWrong_3 : decode cX6_countWrong 3 = .ok (.istore_n 2, 1) := by decide +kernel
theorem dX6_countWrong_4 : decode cX6_countWrong 4 = .ok (.iload_n 2, 1) := by decide +kernel
theorem dX6_countWrong_5 : decode cX6_countWrong 5 = .ok (.bipush 21, 2) := by decide +kernel
theorem dX6_countWrong_7 : decode cX6_countWrong 7 = .ok (.if_icmp .ge 46, 3) := by decide +kernel
theorem dX6_countWrong_10 : decode cX6_countWrong 10 = .ok (.aload_n 0, 1) := by decide +kernel
theorem dX6_countWrong_11 : decode cX6_countWrong 11 = .ok (.getfield 10, 3) := by decide +kernel
theorem dX6_countWrong_14 : decode cX6_countWrong 14 = .ok (.iload_n 2, 1) := by decide +kernel
theorem dX6_countWrong_15 : decode cX6_countWrong 15 = .ok (.iconst 2, 1) := by decide +kernel
theorem dX6_countWrong_16 : decode cX6_countWrong 16 = .ok (.invokevirtual 169, 3) := by decide +kernel
theorem dX6_countWrong_19 : decode cX6_countWrong 19 = .ok (.istore_n 3, 1) := by decide +kernel
theorem dX6_countWrong_20 : decode cX6_countWrong 20 = .ok (.aload_n 0, 1) := by decide +kernel
theorem dX6_countWrong_21 : decode cX6_countWrong 21 = .ok (.iload_n 2, 1) := by decide +kernel
theorem dX6_countWrong_22 : decode cX6_countWrong 22 = .ok (.invokevirtual 308, 3) := by decide +kernel
theorem dX6_countWrong_25 : decode cX6_countWrong 25 = .ok (.ifCond .eq 22, 3) := by decide +kernel
theorem dX6_countWrong_28 : decode cX6_countWrong 28 = .ok (.aload_n 0, 1) := by decide +kernel
theorem dX6_countWrong_29 : decode cX6_countWrong 29 = .ok (.getfield 19, 3) := by decide +kernel
theorem dX6_countWrong_32 : decode cX6_countWrong 32 = .ok (.iload_n 3, 1) := by decide +kernel
theorem dX6_countWrong_33 : decode cX6_countWrong 33 = .ok (.invokevirtual 140, 3) := by decide +kernel
theorem dX6_countWrong_36 : decode cX6_countWrong 36 = .ok (.aload_n 0, 1) := by decide +kernel
theorem dX6_countWrong_37 : decode cX6_countWrong 37 = .ok (.iload_n 3, 1) := by decide +kernel
theorem dX6_countWrong_38 : decode cX6_countWrong 38 = .ok (.invokevirtual 284, 3) := by decide +kernel
theorem dX6_countWrong_41 : decode cX6_countWrong 41 = .ok (.if_icmp .eq 6, 3) := by decide +kernel
theorem dX6_countWrong_44 : decode cX6_countWrong 44 = .ok (.iinc 1 1, 3) := by decide +kernel
theorem dX6_countWrong_47 : decode cX6_countWrong 47 = .ok (.iinc 2 1, 3) := by decide +kernel
theorem dX6_countWrong_50 : decode cX6_countWrong 50 = .ok (.goto (-46), 3) := by decide +kernel
theorem dX6_countWrong_53 : decode cX6_countWrong 53 = .ok (.iload_n 1, 1) := by decide +kernel
theorem dX6_countWrong_54 : decode cX6_countWrong 54 = .ok (.ireturn, 1) := by decide +kernel
set_option maxRecDepth 20000 in
theorem ggX6_scrubStripes_X6_isWhole : GoodIn wsX6_scrubStripes wsX6_isWhole := goodIn_r _ [6, 1, 7, 8, 9, 10, 11, 12, 13, 14, 15, 16, 17, 18, 19, 20, 21, 22, 23, 24, 25, 26, 27, 28, 29, 30, 31, 32, 33, 34, 35, 5, 36, 37, 38, 39, 40, 41, 42, 67, 68, 69, 70, 71, 72, 73, 74, 75] (by decide +kernel) (by decide +kernel)
set_option maxRecDepth 20000 in
theorem gX6_scrubStripes_X6_isWhole : GoodIn wsX6_scrubStripes (wsV RX6 308 RX6 yX6_isWhole wsX6_isWhole) := goodIn_app (goodIn_of _ (by decide +kernel)) ggX6_scrubStripes_X6_isWhole
set_option maxRecDepth 20000 in
theorem ggX6_scrubStripes_X1_spotOf : GoodIn wsX6_scrubStripes wsX1_spotOf := goodIn_r _ [12, 13, 14, 15, 16, 17, 18, 19, 71, 72, 73, 74] (by decide +kernel) (by decide +kernel)
set_option maxRecDepth 20000 in
theorem gX6_scrubStripes_X1_spotOf : GoodIn wsX6_scrubStripes (wsV RX6 169 RX1 yX1_spotOf wsX1_spotOf) := goodIn_app (goodIn_of _ (by decide +kernel)) ggX6_scrubStripes_X1_spotOf
set_option maxRecDepth 20000 in
theorem ggX6_scrubStripes_X6_scrubbedRight : GoodIn wsX6_scrubStripes wsX6_scrubbedRight := goodIn_r _ [46, 7, 47, 48, 49, 5, 50, 1, 37, 38, 39, 11, 40, 41, 13, 42, 14, 15, 16, 17, 18, 19, 51, 52, 53, 23, 54, 25, 26, 27, 28, 55, 56, 57, 58, 29, 59, 60, 61, 62, 63, 64, 65, 66, 67, 68, 69, 70, 71, 72, 73, 74, 75] (by decide +kernel) (by decide +kernel)
set_option maxRecDepth 20000 in
theorem gX6_scrubStripes_X6_scrubbedRight : GoodIn wsX6_scrubStripes (wsV RX6 311 RX6 yX6_scrubbedRight wsX6_scrubbedRight) := goodIn_app (goodIn_of _ (by decide +kernel)) ggX6_scrubStripes_X6_scrubbedRight
theorem dX6_scrubStripes_0 : decode cX6_scrubStripes 0 = .ok (.iconst 0, 1) := by decide +kernel
theorem dX6_scrubStripes_1 : decode cX6_scrubStripes 1 = .ok (.istore_n 1, 1) := by decide +kernel
theorem dX6_scrubStripes_2 : decode cX6_scrubStripes 2 = .ok (.iconst 0, 1) := by decide +kernel
theorem dX6_scrubStripes_3 : decode cX6_scrubStripes 3 = .ok (.istore_n 2, 1) := by decide +kernel
theorem dX6_scrubStripes_4 : decode cX6_scrubStripes 4 = .ok (.iload_n 2, 1) := by decide +kernel
theorem dX6_scrubStripes_5 : decode cX6_scrubStripes 5 = .ok (.bipush 21, 2) := by decide +kernel
theorem dX6_scrubStripes_7 : decode cX6_scrubStripes 7 = .ok (.if_icmp .ge 36, 3) := by decide +kernel
theorem dX6_scrubStripes_10 : decode cX6_scrubStripes 10 = .ok (.aload_n 0, 1) := by decide +kernel
theorem dX6_scrubStripes_11 : decode cX6_scrubStripes 11 = .ok (.iload_n 2, 1) := by decide +kernel
theorem dX6_scrubStripes_12 : decode cX6_scrubStripes 12 = .ok (.invokevirtual 308, 3) := by decide +kernel
theorem dX6_scrubStripes_15 : decode cX6_scrubStripes 15 = .ok (.ifCond .eq 22, 3) := by decide +kernel
theorem dX6_scrubStripes_18 : decode cX6_scrubStripes 18 = .ok (.aload_n 0, 1) := by decide +kernel
theorem dX6_scrubStripes_19 : decode cX6_scrubStripes 19 = .ok (.aload_n 0, 1) := by decide +kernel
theorem dX6_scrubStripes_20 : decode cX6_scrubStripes 20 = .ok (.getfield 10, 3) := by decide +kernel
theorem dX6_scrubStripes_23 : decode cX6_scrubStripes 23 = .ok (.iload_n 2, 1) := by decide +kernel
theorem dX6_scrubStripes_24 : decode cX6_scrubStripes 24 = .ok (.iconst 2, 1) := by decide +kernel
theorem dX6_scrubStripes_25 : decode cX6_scrubStripes 25 = .ok (.invokevirtual 169, 3) := by decide +kernel
theorem dX6_scrubStripes_28 : decode cX6_scrubStripes 28 = .ok (.invokevirtual 311, 3) := by decide +kernel
theorem dX6_scrubStripes_31 : decode cX6_scrubStripes 31 = .ok (.ifCond .ne 6, 3) := by decide +kernel
theorem dX6_scrubStripes_34 : decode cX6_scrubStripes 34 = .ok (.iinc 1 1, 3) := by decide +kernel
theorem dX6_scrubStripes_37 : decode cX6_scrubStripes 37 = .ok (.iinc 2 1, 3) := by decide +kernel
theorem dX6_scrubStripes_40 : decode cX6_scrubStripes 40 = .ok (.goto (-36), 3) := by decide +kernel
theorem dX6_scrubStripes_43 : decode cX6_scrubStripes 43 = .ok (.iload_n 1, 1) := by decide +kernel
theorem dX6_scrubStripes_44 : decode cX6_scrubStripes 44 = .ok (.ireturn, 1) := by decide +kernel
set_option maxRecDepth 20000 in
theorem ggX6_scrubbedRight_X6_fetchOthers : GoodIn wsX6_scrubbedRight wsX6_fetchOthers := goodIn_r _ [6, 1, 7, 8, 9, 10, 11, 12, 13, 14, 15, 16, 17, 18, 19, 20, 21, 22, 23, 24, 25, 26, 27, 28, 29, 30, 31, 32, 33, 34, 35, 44, 45, 46, 47, 48, 49, 50, 51, 52] (by decide +kernel) (by decide +kernel)
set_option maxRecDepth 20000 in
theorem gX6_scrubbedRight_X6_fetchOthers : GoodIn wsX6_scrubbedRight (wsV RX6 71 RX6 yX6_fetchOthers wsX6_fetchOthers) := goodIn_app (goodIn_of _ (by decide +kernel)) ggX6_scrubbedRight_X6_fetchOthers
set_option maxRecDepth 20000 in
theorem ggX6_scrubbedRight_X5_fetch : GoodIn wsX6_scrubbedRight wsX5_fetch := goodIn_r _ [26, 27, 28, 29, 11, 30, 31, 32, 33, 19, 34, 21, 35, 17, 18, 20, 52, 51] (by decide +kernel) (by decide +kernel)
set_option maxRecDepth 20000 in
theorem gX6_scrubbedRight_X5_fetch : GoodIn wsX6_scrubbedRight (wsV RX6 68 RX5 yX5_fetch wsX5_fetch) := goodIn_app (goodIn_of _ (by decide +kernel)) ggX6_scrubbedRight_X5_fetch
set_option maxRecDepth 20000 in
theorem ggX6_scrubbedRight_X5_store : GoodIn wsX6_scrubbedRight wsX5_store := goodIn_r _ [39, 27, 28, 29, 11, 30, 31, 32, 33, 19, 34, 21, 40, 41, 42, 43, 52, 51] (by decide +kernel) (by decide +kernel)
set_option maxRecDepth 20000 in
theorem gX6_scrubbedRight_X5_store : GoodIn wsX6_scrubbedRight (wsV RX6 293 RX5 yX5_store wsX5_store) := goodIn_app (goodIn_of _ (by decide +kernel)) ggX6_scrubbedRight_X5_store
theorem dX6_scrubbedRight_0 : decode cX6_scrubbedRight 0 = .ok (.aload_n 0, 1) := by decide +kernel
theorem dX6_scrubbedRight_1 : decode cX6_scrubbedRight 1 = .ok (.iload_n 1, 1) := by decide +kernel
theorem dX6_scrubbedRight_2 : decode cX6_scrubbedRight 2 = .ok (.invokevirtual 71, 3) := by decide +kernel
theorem dX6_scrubbedRight_5 : decode cX6_scrubbedRight 5 = .ok (.istore_n 2, 1) := by decide +kernel
theorem dX6_scrubbedRight_6 : decode cX6_scrubbedRight 6 = .ok (.aload_n 0, 1) := by decide +kernel
theorem dX6_scrubbedRight_7 : decode cX6_scrubbedRight 7 = .ok (.getfield 19, 3) := by decide +kernel
theorem dX6_scrubbedRight_10 : decode cX6_scrubbedRight 10 = .ok (.iload_n 1, 1) := by decide +kernel
theorem dX6_scrubbedRight_11 : decode cX6_scrubbedRight 11 = .ok (.invokevirtual 68, 3) := by decide +kernel
theorem dX6_scrubbedRight_14 : decode cX6_scrubbedRight 14 = .ok (.iload_n 2, 1) := by decide +kernel
theorem dX6_scrubbedRight_15 : decode cX6_scrubbedRight 15 = .ok (.if_icmp .ne 5, 3) := by decide +kernel
theorem dX6_scrubbedRight_18 : decode cX6_scrubbedRight 18 = .ok (.iconst 1, 1) := by decide +kernel
theorem dX6_scrubbedRight_19 : decode cX6_scrubbedRight 19 = .ok (.ireturn, 1) := by decide +kernel
theorem dX6_scrubbedRight_20 : decode cX6_scrubbedRight 20 = .ok (.aload_n 0, 1) := by decide +kernel
theorem dX6_scrubbedRight_21 : decode cX6_scrubbedRight 21 = .ok (.getfield 19, 3) := by decide +kernel
theorem dX6_scrubbedRight_24 : decode cX6_scrubbedRight 24 = .ok (.iload_n 1, 1) := by decide +kernel
theorem dX6_scrubbedRight_25 : decode cX6_scrubbedRight 25 = .ok (.iload_n 2, 1) := by decide +kernel
theorem dX6_scrubbedRight_26 : decode cX6_scrubbedRight 26 = .ok (.invokevirtual 293, 3) := by decide +kernel
theorem dX6_scrubbedRight_29 : decode cX6_scrubbedRight 29 = .ok (.iconst 0, 1) := by decide +kernel
theorem dX6_scrubbedRight_30 : decode cX6_scrubbedRight 30 = .ok (.ireturn, 1) := by decide +kernel
