theorem dL_cell_0 : decode cL_cell 0 = .ok (.iload_n 1, 1) := by decide +kernel
theorem dL_cell_1 : decode cL_cell 1 = .ok (.aload_n 0, 1) := by decide +kernel
theorem dL_cell_2 : decode cL_cell 2 = .ok (.arraylength, 1) := by decide +kernel
theorem dL_cell_3 : decode cL_cell 3 = .ok (.if_icmp .ge 9, 3) := by decide +kernel
theorem dL_cell_6 : decode cL_cell 6 = .ok (.aload_n 0, 1) := by decide +kernel
theorem dL_cell_7 : decode cL_cell 7 = .ok (.iload_n 1, 1) := by decide +kernel
theorem dL_cell_8 : decode cL_cell 8 = .ok (.iaload, 1) := by decide +kernel
theorem dL_cell_9 : decode cL_cell 9 = .ok (.goto 12, 3) := by decide +kernel
theorem dL_cell_12 : decode cL_cell 12 = .ok (.ldc 7, 2) := by decide +kernel
theorem dL_cell_14 : decode cL_cell 14 = .ok (.iload_n 1, 1) := by decide +kernel
theorem dL_cell_15 : decode cL_cell 15 = .ok (.iconst 5, 1) := by decide +kernel
theorem dL_cell_16 : decode cL_cell 16 = .ok (.iadd, 1) := by decide +kernel
theorem dL_cell_17 : decode cL_cell 17 = .ok (.imul, 1) := by decide +kernel
theorem dL_cell_18 : decode cL_cell 18 = .ok (.ldc 8, 2) := by decide +kernel
theorem dL_cell_20 : decode cL_cell 20 = .ok (.iadd, 1) := by decide +kernel
theorem dL_cell_21 : decode cL_cell 21 = .ok (.ireturn, 1) := by decide +kernel
theorem dL_low_0 : decode cL_low 0 = .ok (.iload_n 0, 1) := by decide +kernel
theorem dL_low_1 : decode cL_low 1 = .ok (.ldc 9, 2) := by decide +kernel
theorem dL_low_3 : decode cL_low 3 = .ok (.iand, 1) := by decide +kernel
theorem dL_low_4 : decode cL_low 4 = .ok (.iload_n 1, 1) := by decide +kernel
theorem dL_low_5 : decode cL_low 5 = .ok (.irem, 1) := by decide +kernel
theorem dL_low_6 : decode cL_low 6 = .ok (.ireturn, 1) := by decide +kernel
set_option maxRecDepth 20000 in
theorem ggL_tryRead_X6_read : GoodIn wsL_tryRead wsX6_read := goodIn_ca (goodIn_ca (goodIn_r _ [7, 8, 9, 10, 11, 12, 13, 14, 15, 16, 6, 17, 18, 19, 20, 21, 22, 23, 24, 25, 26, 27, 28, 29, 30, 31, 32, 33, 34, 35, 36, 37, 38, 39, 40, 41, 42, 43, 44, 45, 46, 47, 48, 49, 50, 51, 52, 53, 54, 55, 56, 57, 58, 59, 60, 61, 62, 63, 64, 65, 66, 67, 68, 69, 70, 71, 72, 73, 74, 75, 76, 77, 78, 79, 80, 81, 82, 83, 84, 85, 86, 87, 88, 89, 90, 91, 92, 93, 94, 95, 96, 97, 98, 99, 100, 101, 102, 103, 104] (by decide +kernel) (by decide +kernel)) (goodIn_sub (fun _ h => List.mem_cons_of_mem _ (List.mem_append_left _ (List.mem_append_right _ h))) (by decide +kernel))) (goodIn_sub (fun _ h => List.mem_cons_of_mem _ (List.mem_append_right _ h)) (by decide +kernel))
set_option maxRecDepth 20000 in
theorem gL_tryRead_X6_read : GoodIn wsL_tryRead (wsV RL 10 RX6 yX6_read wsX6_read) := goodIn_app (goodIn_of _ (by decide +kernel)) ggL_tryRead_X6_read
theorem dL_tryRead_0 : decode cL_tryRead 0 = .ok (.aload_n 0, 1) := by decide +kernel
theorem dL_tryRead_1 : decode cL_tryRead 1 = .ok (.iload_n 1, 1) := by decide +kernel
theorem dL_tryRead_2 : decode cL_tryRead 2 = .ok (.invokevirtual 10, 3) := by decide +kernel
theorem dL_tryRead_5 : decode cL_tryRead 5 = .ok (.ireturn, 1) := by decide +kernel
theorem dL_tryRead_6 : decode cL_tryRead 6 = .ok (.astore_n 2, 1) := by decide +kernel
theorem dL_tryRead_7 : decode cL_tryRead 7 = .ok (.sipush (-7001), 3) := by decide +kernel
theorem dL_tryRead_10 : decode cL_tryRead 10 = .ok (.ireturn, 1) := by decide +kernel
theorem dL_tryRead_11 : decode cL_tryRead 11 = .ok (.astore_n 2, 1) := by decide +kernel
theorem dL_tryRead_12 : decode cL_tryRead 12 = .ok (.sipush (-7002), 3) := by decide +kernel
theorem dL_tryRead_15 : decode cL_tryRead 15 = .ok (.ireturn, 1) := by decide +kernel
set_option maxRecDepth 20000 in
theorem ggL_tryWrite_X6_write : GoodIn wsL_tryWrite wsX6_write := goodIn_ca (goodIn_ca (goodIn_ca (goodIn_r _ [8, 9, 10, 11, 12, 13, 14, 15, 16, 17, 18, 7, 19, 20, 21, 22, 23, 24, 25, 26, 27, 28, 29, 30, 31, 32, 33, 34, 35, 36, 37, 38, 39, 40, 41, 42, 43, 44, 45, 46, 47, 48, 49, 50, 51, 52, 53, 54, 55, 56, 57, 58, 59, 60, 61, 62, 63, 64, 65, 66, 67, 68, 69, 70, 71, 72, 73, 74, 75, 76, 77, 78, 79, 80, 81, 82, 83, 84, 85, 86, 87, 88, 89, 90, 91, 92, 93, 94, 95, 96, 97, 98, 99, 100, 101, 102, 103, 104, 105, 106, 107, 108, 109, 110, 111, 112, 113, 114, 115, 116, 117, 118, 119, 120, 121, 122, 123, 124, 125, 126, 127] (by decide +kernel) (by decide +kernel)) (goodIn_sub (fun _ h => List.mem_cons_of_mem _ (List.mem_append_left _ (List.mem_append_left _ (List.mem_append_right _ h)))) (by decide +kernel))) (goodIn_sub (fun _ h => List.mem_cons_of_mem _ (List.mem_append_left _ (List.mem_append_right _ h))) (by decide +kernel))) (goodIn_sub (fun _ h => List.mem_cons_of_mem _ (List.mem_append_right _ h)) (by decide +kernel))
set_option maxRecDepth 20000 in
theorem gL_tryWrite_X6_write : GoodIn wsL_tryWrite (wsV RL 20 RX6 yX6_write wsX6_write) := goodIn_app (goodIn_of _ (by decide +kernel)) ggL_tryWrite_X6_write
theorem dL_tryWrite_0 : decode cL_tryWrite 0 = .ok (.aload_n 0, 1) := by decide +kernel
theorem dL_tryWrite_1 : decode cL_tryWrite 1 = .ok (.iload_n 1, 1) := by decide +kernel
theorem dL_tryWrite_2 : decode cL_tryWrite 2 = .ok (.iload_n 2, 1) := by decide +kernel
theorem dL_tryWrite_3 : decode cL_tryWrite 3 = .ok (.invokevirtual 20, 3) := by decide +kernel
theorem dL_tryWrite_6 : decode cL_tryWrite 6 = .ok (.ireturn, 1) := by decide +kernel
theorem dL_tryWrite_7 : decode cL_tryWrite 7 = .ok (.astore_n 3, 1) := by decide +kernel
theorem dL_tryWrite_8 : decode cL_tryWrite 8 = .ok (.sipush (-7001), 3) := by decide +kernel
theorem dL_tryWrite_11 : decode cL_tryWrite 11 = .ok (.ireturn, 1) := by decide +kernel
theorem dL_tryWrite_12 : decode cL_tryWrite 12 = .ok (.astore_n 3, 1) := by decide +kernel
theorem dL_tryWrite_13 : decode cL_tryWrite 13 = .ok (.sipush (-7003), 3) := by decide +kernel
theorem dL_tryWrite_16 : decode cL_tryWrite 16 = .ok (.ireturn, 1) := by decide +kernel
theorem dL_tryWrite_17 : decode cL_tryWrite 17 = .ok (.astore_n 3, 1) := by decide +kernel
theorem dL_tryWrite_18 : decode cL_tryWrite 18 = .ok (.sipush (-7002), 3) := by decide +kernel
theorem dL_tryWrite_21 : decode cL_tryWrite 21 = .ok (.ireturn, 1) := by decide +kernel
set_option maxRecDepth 20000 in
theorem ggL_tryFail_X6_fail : GoodIn wsL_tryFail wsX6_fail := goodIn_ca (goodIn_ca (goodIn_r _ [7, 8, 9, 10, 11, 12, 13, 14, 15, 6, 16, 17, 18, 19, 20, 21, 22, 23, 24, 25, 26, 27, 28, 29, 30, 31, 32, 33, 34, 35, 36, 37, 38, 39, 40, 41, 42, 43, 44, 45, 46, 47, 48, 49, 50, 51, 52, 53, 54, 55, 56, 57, 58, 59, 60, 61, 62, 63, 64, 65, 66, 67, 68, 69, 70, 71, 72, 73, 74, 75, 76, 77, 78, 79, 80, 81, 82, 83, 84, 85, 86, 87, 88, 89, 90, 91, 92, 93, 94, 95, 96, 97, 98, 99, 100, 101, 102, 103, 104, 105, 106, 107, 108, 109, 110, 111, 112, 113, 114, 115] (by decide +kernel) (by decide +kernel)) (goodIn_sub (fun _ h => List.mem_cons_of_mem _ (List.mem_append_left _ (List.mem_append_right _ h))) (by decide +kernel))) (goodIn_sub (fun _ h => List.mem_cons_of_mem _ (List.mem_append_right _ h)) (by decide +kernel))
set_option maxRecDepth 20000 in
theorem gL_tryFail_X6_fail : GoodIn wsL_tryFail (wsV RL 26 RX6 yX6_fail wsX6_fail) := goodIn_app (goodIn_of _ (by decide +kernel)) ggL_tryFail_X6_fail
theorem dL_tryFail_0 : decode cL_tryFail 0 = .ok (.aload_n 0, 1) := by decide +kernel
theorem dL_tryFail_1 : decode cL_tryFail 1 = .ok (.iload_n 1, 1) := by decide +kernel
theorem dL_tryFail_2 : decode cL_tryFail 2 = .ok (.invokevirtual 26, 3) := by decide +kernel
theorem dL_tryFail_5 : decode cL_tryFail 5 = .ok (.ireturn, 1) := by decide +kernel
theorem dL_tryFail_6 : decode cL_tryFail 6 = .ok (.astore_n 2, 1) := by decide +kernel
theorem dL_tryFail_7 : decode cL_tryFail 7 = .ok (.sipush (-7001), 3) := by decide +kernel
theorem dL_tryFail_10 : decode cL_tryFail 10 = .ok (.ireturn, 1) := by decide +kernel
theorem dL_tryFail_11 : decode cL_tryFail 11 = .ok (.astore_n 2, 1) := by decide +kernel
theorem dL_tryFail_12 : decode cL_tryFail 12 = .ok (.sipush (-7002), 3) := by decide +kernel
theorem dL_tryFail_15 : decode cL_tryFail 15 = .ok (.ireturn, 1) := by decide +kernel
set_option maxRecDepth 20000 in
theorem ggL_tryBegin_X6_beginMending : GoodIn wsL_tryBegin wsX6_beginMending := goodIn_ca (goodIn_ca (goodIn_r _ [7, 8, 9, 10, 11, 12, 13, 14, 15, 6, 16, 17, 18, 19, 20, 21, 22, 23, 24, 25, 26, 27, 28, 29, 30, 31, 32, 33, 34, 35, 36, 37, 38, 39, 40, 41, 42, 43, 44, 45, 46, 47, 48, 49, 50, 51, 52, 53, 54, 55, 56, 57, 58, 59, 60, 61, 62, 63, 64, 65, 66, 67, 68, 69, 70] (by decide +kernel) (by decide +kernel)) (goodIn_sub (fun _ h => List.mem_cons_of_mem _ (List.mem_append_left _ (List.mem_append_right _ h))) (by decide +kernel))) (goodIn_sub (fun _ h => List.mem_cons_of_mem _ (List.mem_append_right _ h)) (by decide +kernel))
set_option maxRecDepth 20000 in
theorem gL_tryBegin_X6_beginMending : GoodIn wsL_tryBegin (wsV RL 29 RX6 yX6_beginMending wsX6_beginMending) := goodIn_app (goodIn_of _ (by decide +kernel)) ggL_tryBegin_X6_beginMending
theorem dL_tryBegin_0 : decode cL_tryBegin 0 = .ok (.aload_n 0, 1) := by decide +kernel
theorem dL_tryBegin_1 : decode cL_tryBegin 1 = .ok (.iload_n 1, 1) := by decide +kernel
theorem dL_tryBegin_2 : decode cL_tryBegin 2 = .ok (.invokevirtual 29, 3) := by decide +kernel
theorem dL_tryBegin_5 : decode cL_tryBegin 5 = .ok (.ireturn, 1) := by decide +kernel
theorem dL_tryBegin_6 : decode cL_tryBegin 6 = .ok (.astore_n 2, 1) := by decide +kernel
theorem dL_tryBegin_7 : decode cL_tryBegin 7 = .ok (.sipush (-7001), 3) := by decide +kernel
theorem dL_tryBegin_10 : decode cL_tryBegin 10 = .ok (.ireturn, 1) := by decide +kernel
theorem dL_tryBegin_11 : decode cL_tryBegin 11 = .ok (.astore_n 2, 1) := by decide +kernel
theorem dL_tryBegin_12 : decode cL_tryBegin 12 = .ok (.sipush (-7002), 3) := by decide +kernel
theorem dL_tryBegin_15 : decode cL_tryBegin 15 = .ok (.ireturn, 1) := by decide +kernel
set_option maxRecDepth 20000 in
theorem ggL_tryCorrupt_X6_corrupt : GoodIn wsL_tryCorrupt wsX6_corrupt := goodIn_ca (goodIn_ca (goodIn_ca (goodIn_r _ [8, 9, 10, 11, 12, 13, 14, 15, 16, 17, 18, 7, 19, 20, 21, 22, 23, 24, 25, 26, 27, 28, 29, 30, 31, 32, 33, 34, 35, 36, 37, 38, 39, 40, 41, 42, 43, 44, 45, 46, 47, 48, 49, 50, 51, 52, 53, 54, 55, 56, 57, 58, 59, 60, 61, 62, 63, 64, 65, 66, 67, 68, 69, 70, 71, 72, 73, 74, 75, 76, 77, 78, 79, 80, 81, 82, 83, 84, 85] (by decide +kernel) (by decide +kernel)) (goodIn_sub (fun _ h => List.mem_cons_of_mem _ (List.mem_append_left _ (List.mem_append_left _ (List.mem_append_right _ h)))) (by decide +kernel))) (goodIn_sub (fun _ h => List.mem_cons_of_mem _ (List.mem_append_left _ (List.mem_append_right _ h))) (by decide +kernel))) (goodIn_sub (fun _ h => List.mem_cons_of_mem _ (List.mem_append_right _ h)) (by decide +kernel))
set_option maxRecDepth 20000 in
theorem gL_tryCorrupt_X6_corrupt : GoodIn wsL_tryCorrupt (wsV RL 32 RX6 yX6_corrupt wsX6_corrupt) := goodIn_app (goodIn_of _ (by decide +kernel)) ggL_tryCorrupt_X6_corrupt
theorem dL_tryCorrupt_0 : decode cL_tryCorrupt 0 = .ok (.aload_n 0, 1) := by decide +kernel
theorem dL_tryCorrupt_1 : decode cL_tryCorrupt 1 = .ok (.iload_n 1, 1) := by decide +kernel
theorem dL_tryCorrupt_2 : decode cL_tryCorrupt 2 = .ok (.iload_n 2, 1) := by decide +kernel
theorem dL_tryCorrupt_3 : decode cL_tryCorrupt 3 = .ok (.iload_n 3, 1) := by decide +kernel
theorem dL_tryCorrupt_4 : decode cL_tryCorrupt 4 = .ok (.invokevirtual 32, 3) := by decide +kernel
theorem dL_tryCorrupt_7 : decode cL_tryCorrupt 7 = .ok (.ireturn, 1) := by decide +kernel
theorem dL_tryCorrupt_8 : decode cL_tryCorrupt 8 = .ok (.astore 4, 2) := by decide +kernel
theorem dL_tryCorrupt_10 : decode cL_tryCorrupt 10 = .ok (.sipush (-7001), 3) := by decide +kernel
theorem dL_tryCorrupt_13 : decode cL_tryCorrupt 13 = .ok (.ireturn, 1) := by decide +kernel
theorem dL_tryCorrupt_14 : decode cL_tryCorrupt 14 = .ok (.astore 4, 2) := by decide +kernel
theorem dL_tryCorrupt_16 : decode cL_tryCorrupt 16 = .ok (.sipush (-7003), 3) := by decide +kernel
theorem dL_tryCorrupt_19 : decode cL_tryCorrupt 19 = .ok (.ireturn, 1) := by decide +kernel
theorem dL_tryCorrupt_20 : decode cL_tryCorrupt 20 = .ok (.astore 4, 2) := by decide +kernel
theorem dL_tryCorrupt_22 : decode cL_tryCorrupt 22 = .ok (.sipush (-7002), 3) := by decide +kernel
theorem dL_tryCorrupt_25 : decode cL_tryCorrupt 25 = .ok (.ireturn, 1) := by decide +kernel
