theorem dJ9_max_7cf53_0 : decode cJ9_max_7cf53 0 = .ok (.iload_n 0, 1) := by decide +kernel
theorem dJ9_max_7cf53_1 : decode cJ9_max_7cf53 1 = .ok (.iload_n 1, 1) := by decide +kernel
theorem dJ9_max_7cf53_2 : decode cJ9_max_7cf53 2 = .ok (.if_icmp .lt 7, 3) := by decide +kernel
theorem dJ9_max_7cf53_5 : decode cJ9_max_7cf53 5 = .ok (.iload_n 0, 1) := by decide +kernel
theorem dJ9_max_7cf53_6 : decode cJ9_max_7cf53 6 = .ok (.goto 4, 3) := by decide +kernel
theorem dJ9_max_7cf53_9 : decode cJ9_max_7cf53 9 = .ok (.iload_n 1, 1) := by decide +kernel
theorem dJ9_max_7cf53_10 : decode cJ9_max_7cf53 10 = .ok (.ireturn, 1) := by decide +kernel
theorem dJ9_min_7cf53_0 : decode cJ9_min_7cf53 0 = .ok (.iload_n 0, 1) := by decide +kernel
theorem dJ9_min_7cf53_1 : decode cJ9_min_7cf53 1 = .ok (.iload_n 1, 1) := by decide +kernel
theorem dJ9_min_7cf53_2 : decode cJ9_min_7cf53 2 = .ok (.if_icmp .gt 7, 3) := by decide +kernel
theorem dJ9_min_7cf53_5 : decode cJ9_min_7cf53 5 = .ok (.iload_n 0, 1) := by decide +kernel
theorem dJ9_min_7cf53_6 : decode cJ9_min_7cf53 6 = .ok (.goto 4, 3) := by decide +kernel
theorem dJ9_min_7cf53_9 : decode cJ9_min_7cf53 9 = .ok (.iload_n 1, 1) := by decide +kernel
theorem dJ9_min_7cf53_10 : decode cJ9_min_7cf53 10 = .ok (.ireturn, 1) := by decide +kernel
set_option maxRecDepth 20000 in
theorem ggL_read_X6_read : GoodIn wsL_read wsX6_read := goodIn_ca (goodIn_ca (goodIn_r _ [7, 8, 9, 10, 11, 12, 13, 14, 15, 16, 6, 17, 18, 19, 20, 21, 22, 23, 24, 25, 26, 27, 28, 29, 30, 31, 32, 33, 34, 35, 36, 37, 38, 39, 40, 41, 42, 43, 44, 45, 46, 47, 48, 49, 50, 51, 52, 53, 54, 55, 56, 57, 58, 59, 60, 61, 62, 63, 64, 65, 66, 67, 68, 69, 70, 71, 72, 73, 74, 75, 76, 77, 78, 79, 80, 81, 82, 83, 84, 85, 86, 87, 88, 89, 90, 91, 92, 93, 94, 95, 96, 97, 98, 99, 100, 101, 102, 103, 104] (by decide +kernel) (by decide +kernel)) (goodIn_sub (fun _ h => List.mem_cons_of_mem _ (List.mem_append_left _ (List.mem_append_right _ h))) (by decide +kernel))) (goodIn_sub (fun _ h => List.mem_cons_of_mem _ (List.mem_append_right _ h)) (by decide +kernel))
set_option maxRecDepth 20000 in
theorem gL_read_X6_read : GoodIn wsL_read (wsV RL 7 RX6 yX6_read wsX6_read) := goodIn_app (goodIn_of _ (by decide +kernel)) ggL_read_X6_read
theorem dL_read_0 : decode cL_read 0 = .ok (.aload_n 2, 1) := by decide +kernel
theorem dL_read_1 : decode cL_read 1 = .ok (.iconst 0, 1) := by decide +kernel
theorem dL_read_2 : decode cL_read 2 = .ok (.aload_n 0, 1) := by decide +kernel
theorem dL_read_3 : decode cL_read 3 = .ok (.iload_n 1, 1) := by decide +kernel
theorem dL_read_4 : decode cL_read 4 = .ok (.invokevirtual 7, 3) := by decide +kernel
theorem dL_read_7 : decode cL_read 7 = .ok (.i2l, 1) := by decide +kernel
theorem dL_read_8 : decode cL_read 8 = .ok (.lastore, 1) := by decide +kernel
theorem dL_read_9 : decode cL_read 9 = .ok (.goto 9, 3) := by decide +kernel
theorem dL_read_12 : decode cL_read 12 = .ok (.astore_n 3, 1) := by decide +kernel
theorem dL_read_13 : decode cL_read 13 = .ok (.iconst 1, 1) := by decide +kernel
theorem dL_read_14 : decode cL_read 14 = .ok (.ireturn, 1) := by decide +kernel
theorem dL_read_15 : decode cL_read 15 = .ok (.astore_n 3, 1) := by decide +kernel
theorem dL_read_16 : decode cL_read 16 = .ok (.iconst 2, 1) := by decide +kernel
theorem dL_read_17 : decode cL_read 17 = .ok (.ireturn, 1) := by decide +kernel
theorem dL_read_18 : decode cL_read 18 = .ok (.iconst 0, 1) := by decide +kernel
theorem dL_read_19 : decode cL_read 19 = .ok (.ireturn, 1) := by decide +kernel
set_option maxRecDepth 20000 in
theorem ggL_write_X6_write : GoodIn wsL_write wsX6_write := goodIn_ca (goodIn_ca (goodIn_ca (goodIn_r _ [8, 9, 10, 11, 12, 13, 14, 15, 16, 17, 18, 7, 19, 20, 21, 22, 23, 24, 25, 26, 27, 28, 29, 30, 31, 32, 33, 34, 35, 36, 37, 38, 39, 40, 41, 42, 43, 44, 45, 46, 47, 48, 49, 50, 51, 52, 53, 54, 55, 56, 57, 58, 59, 60, 61, 62, 63, 64, 65, 66, 67, 68, 69, 70, 71, 72, 73, 74, 75, 76, 77, 78, 79, 80, 81, 82, 83, 84, 85, 86, 87, 88, 89, 90, 91, 92, 93, 94, 95, 96, 97, 98, 99, 100, 101, 102, 103, 104, 105, 106, 107, 108, 109, 110, 111, 112, 113, 114, 115, 116, 117, 118, 119, 120, 121, 122, 123, 124, 125, 126, 127] (by decide +kernel) (by decide +kernel)) (goodIn_sub (fun _ h => List.mem_cons_of_mem _ (List.mem_append_left _ (List.mem_append_left _ (List.mem_append_right _ h)))) (by decide +kernel))) (goodIn_sub (fun _ h => List.mem_cons_of_mem _ (List.mem_append_left _ (List.mem_append_right _ h))) (by decide +kernel))) (goodIn_sub (fun _ h => List.mem_cons_of_mem _ (List.mem_append_right _ h)) (by decide +kernel))
set_option maxRecDepth 20000 in
theorem gL_write_X6_write : GoodIn wsL_write (wsV RL 17 RX6 yX6_write wsX6_write) := goodIn_app (goodIn_of _ (by decide +kernel)) ggL_write_X6_write
theorem dL_write_0 : decode cL_write 0 = .ok (.aload_n 3, 1) := by decide +kernel
theorem dL_write_1 : decode cL_write 1 = .ok (.iconst 0, 1) := by decide +kernel
theorem dL_write_2 : decode cL_write 2 = .ok (.aload_n 0, 1) := by decide +kernel
theorem dL_write_3 : decode cL_write 3 = .ok (.iload_n 1, 1) := by decide +kernel
theorem dL_write_4 : decode cL_write 4 = .ok (.iload_n 2, 1) := by decide +kernel
theorem dL_write_5 : decode cL_write 5 = .ok (.invokevirtual 17, 3) := by decide +kernel
theorem dL_write_8 : decode cL_write 8 = .ok (.i2l, 1) := by decide +kernel
theorem dL_write_9 : decode cL_write 9 = .ok (.lastore, 1) := by decide +kernel
theorem dL_write_10 : decode cL_write 10 = .ok (.goto 15, 3) := by decide +kernel
theorem dL_write_13 : decode cL_write 13 = .ok (.astore 4, 2) := by decide +kernel
theorem dL_write_15 : decode cL_write 15 = .ok (.iconst 1, 1) := by decide +kernel
theorem dL_write_16 : decode cL_write 16 = .ok (.ireturn, 1) := by decide +kernel
theorem dL_write_17 : decode cL_write 17 = .ok (.astore 4, 2) := by decide +kernel
theorem dL_write_19 : decode cL_write 19 = .ok (.iconst 2, 1) := by decide +kernel
theorem dL_write_20 : decode cL_write 20 = .ok (.ireturn, 1) := by decide +kernel
theorem dL_write_21 : decode cL_write 21 = .ok (.astore 4, 2) := by decide +kernel
theorem dL_write_23 : decode cL_write 23 = .ok (.iconst 3, 1) := by decide +kernel
theorem dL_write_24 : decode cL_write 24 = .ok (.ireturn, 1) := by decide +kernel
theorem dL_write_25 : decode cL_write 25 = .ok (.iconst 0, 1) := by decide +kernel
theorem dL_write_26 : decode cL_write 26 = .ok (.ireturn, 1) := by decide +kernel
set_option maxRecDepth 20000 in
theorem ggL_fail_X6_fail : GoodIn wsL_fail wsX6_fail := goodIn_ca (goodIn_ca (goodIn_r _ [7, 8, 9, 10, 11, 12, 13, 14, 15, 6, 16, 17, 18, 19, 20, 21, 22, 23, 24, 25, 26, 27, 28, 29, 30, 31, 32, 33, 34, 35, 36, 37, 38, 39, 40, 41, 42, 43, 44, 45, 46, 47, 48, 49, 50, 51, 52, 53, 54, 55, 56, 57, 58, 59, 60, 61, 62, 63, 64, 65, 66, 67, 68, 69, 70, 71, 72, 73, 74, 75, 76, 77, 78, 79, 80, 81, 82, 83, 84, 85, 86, 87, 88, 89, 90, 91, 92, 93, 94, 95, 96, 97, 98, 99, 100, 101, 102, 103, 104, 105, 106, 107, 108, 109, 110, 111, 112, 113, 114, 115] (by decide +kernel) (by decide +kernel)) (goodIn_sub (fun _ h => List.mem_cons_of_mem _ (List.mem_append_left _ (List.mem_append_right _ h))) (by decide +kernel))) (goodIn_sub (fun _ h => List.mem_cons_of_mem _ (List.mem_append_right _ h)) (by decide +kernel))
set_option maxRecDepth 20000 in
theorem gL_fail_X6_fail : GoodIn wsL_fail (wsV RL 23 RX6 yX6_fail wsX6_fail) := goodIn_app (goodIn_of _ (by decide +kernel)) ggL_fail_X6_fail
theorem dL_fail_0 : decode cL_fail 0 = .ok (.aload_n 2, 1) := by decide +kernel
theorem dL_fail_1 : decode cL_fail 1 = .ok (.iconst 0, 1) := by decide +kernel
theorem dL_fail_2 : decode cL_fail 2 = .ok (.aload_n 0, 1) := by decide +kernel
theorem dL_fail_3 : decode cL_fail 3 = .ok (.iload_n 1, 1) := by decide +kernel
theorem dL_fail_4 : decode cL_fail 4 = .ok (.invokevirtual 23, 3) := by decide +kernel
theorem dL_fail_7 : decode cL_fail 7 = .ok (.i2l, 1) := by decide +kernel
theorem dL_fail_8 : decode cL_fail 8 = .ok (.lastore, 1) := by decide +kernel
theorem dL_fail_9 : decode cL_fail 9 = .ok (.goto 9, 3) := by decide +kernel
theorem dL_fail_12 : decode cL_fail 12 = .ok (.astore_n 3, 1) := by decide +kernel
theorem dL_fail_13 : decode cL_fail 13 = .ok (.iconst 1, 1) := by decide +kernel
theorem dL_fail_14 : decode cL_fail 14 = .ok (.ireturn, 1) := by decide +kernel
theorem dL_fail_15 : decode cL_fail 15 = .ok (.astore_n 3, 1) := by decide +kernel
theorem dL_fail_16 : decode cL_fail 16 = .ok (.iconst 2, 1) := by decide +kernel
theorem dL_fail_17 : decode cL_fail 17 = .ok (.ireturn, 1) := by decide +kernel
theorem dL_fail_18 : decode cL_fail 18 = .ok (.iconst 0, 1) := by decide +kernel
theorem dL_fail_19 : decode cL_fail 19 = .ok (.ireturn, 1) := by decide +kernel
set_option maxRecDepth 20000 in
theorem ggL_beginMending_X6_beginMending : GoodIn wsL_beginMending wsX6_beginMending := goodIn_ca (goodIn_ca (goodIn_r _ [7, 8, 9, 10, 11, 12, 13, 14, 15, 6, 16, 17, 18, 19, 20, 21, 22, 23, 24, 25, 26, 27, 28, 29, 30, 31, 32, 33, 34, 35, 36, 37, 38, 39, 40, 41, 42, 43, 44, 45, 46, 47, 48, 49, 50, 51, 52, 53, 54, 55, 56, 57, 58, 59, 60, 61, 62, 63, 64, 65, 66, 67, 68, 69, 70] (by decide +kernel) (by decide +kernel)) (goodIn_sub (fun _ h => List.mem_cons_of_mem _ (List.mem_append_left _ (List.mem_append_right _ h))) (by decide +kernel))) (goodIn_sub (fun _ h => List.mem_cons_of_mem _ (List.mem_append_right _ h)) (by decide +kernel))
set_option maxRecDepth 20000 in
theorem gL_beginMending_X6_beginMending : GoodIn wsL_beginMending (wsV RL 26 RX6 yX6_beginMending wsX6_beginMending) := goodIn_app (goodIn_of _ (by decide +kernel)) ggL_beginMending_X6_beginMending
theorem dL_beginMending_0 : decode cL_beginMending 0 = .ok (.aload_n 2, 1) := by decide +kernel
theorem dL_beginMending_1 : decode cL_beginMending 1 = .ok (.iconst 0, 1) := by decide +kernel
theorem dL_beginMending_2 : decode cL_beginMending 2 = .ok (.aload_n 0, 1) := by decide +kernel
theorem dL_beginMending_3 : decode cL_beginMending 3 = .ok (.iload_n 1, 1) := by decide +kernel
theorem dL_beginMending_4 : decode cL_beginMending 4 = .ok (.invokevirtual 26, 3) := by decide +kernel
theorem dL_beginMending_7 : decode cL_beginMending 7 = .ok (.i2l, 1) := by decide +kernel
theorem dL_beginMending_8 : decode cL_beginMending 8 = .ok (.lastore, 1) := by decide +kernel
theorem dL_beginMending_9 : decode cL_beginMending 9 = .ok (.goto 9, 3) := by decide +kernel
theorem dL_beginMending_12 : decode cL_beginMending 12 = .ok (.astore_n 3, 1) := by decide +kernel
theorem dL_beginMending_13 : decode cL_beginMending 13 = .ok (.iconst 1, 1) := by decide +kernel
theorem dL_beginMending_14 : decode cL_beginMending 14 = .ok (.ireturn, 1) := by decide +kernel
theorem dL_beginMending_15 : decode cL_beginMending 15 = .ok (.astore_n 3, 1) := by decide +kernel
theorem dL_beginMending_16 : decode cL_beginMending 16 = .ok (.iconst 2, 1) := by decide +kernel
theorem dL_beginMending_17 : decode cL_beginMending 17 = .ok (.ireturn, 1) := by decide +kernel
theorem dL_beginMending_18 : decode cL_beginMending 18 = .ok (.iconst 0, 1) := by decide +kernel
theorem dL_beginMending_19 : decode cL_beginMending 19 = .ok (.ireturn, 1) := by decide +kernel
set_option maxRecDepth 20000 in
theorem ggL_mend_X6_mend : GoodIn wsL_mend wsX6_mend := goodIn_ca (goodIn_r _ [6, 7, 8, 9, 10, 11, 12, 13, 14, 15, 16, 17, 18, 19, 20, 21, 22, 23, 24, 25, 26, 27, 28, 29, 30, 31, 32, 33, 34, 35, 36, 37, 38, 39, 40, 41, 5, 42, 43, 44, 45, 46, 47, 48, 49, 50, 51, 52, 53, 54, 55, 56, 57, 58, 59, 60, 61, 62, 63, 64, 65, 66, 67, 68, 69, 70, 71, 72, 73, 74, 75, 76, 77, 78, 79, 80, 81, 82, 83, 84, 85, 86, 87, 88, 89, 90, 91, 92, 93, 94, 95, 96, 97, 98, 99, 100, 101, 102, 103, 104, 105, 106, 107, 108, 109, 110, 111, 112, 113, 114, 115, 116, 117] (by decide +kernel) (by decide +kernel)) (goodIn_sub (fun _ h => List.mem_cons_of_mem _ (List.mem_append_right _ h)) (by decide +kernel))
set_option maxRecDepth 20000 in
theorem gL_mend_X6_mend : GoodIn wsL_mend (wsV RL 29 RX6 yX6_mend wsX6_mend) := goodIn_app (goodIn_of _ (by decide +kernel)) ggL_mend_X6_mend
theorem dL_mend_0 : decode cL_mend 0 = .ok (.aload_n 2, 1) := by decide +kernel
theorem dL_mend_1 : decode cL_mend 1 = .ok (.iconst 0, 1) := by decide +kernel
theorem dL_mend_2 : decode cL_mend 2 = .ok (.aload_n 0, 1) := by decide +kernel
theorem dL_mend_3 : decode cL_mend 3 = .ok (.iload_n 1, 1) := by decide +kernel
theorem dL_mend_4 : decode cL_mend 4 = .ok (.invokevirtual 29, 3) := by decide +kernel
theorem dL_mend_7 : decode cL_mend 7 = .ok (.i2l, 1) := by decide +kernel
theorem dL_mend_8 : decode cL_mend 8 = .ok (.lastore, 1) := by decide +kernel
theorem dL_mend_9 : decode cL_mend 9 = .ok (.goto 6, 3) := by decide +kernel
theorem dL_mend_12 : decode cL_mend 12 = .ok (.astore_n 3, 1) := by decide +kernel
theorem dL_mend_13 : decode cL_mend 13 = .ok (.iconst 1, 1) := by decide +kernel
theorem dL_mend_14 : decode cL_mend 14 = .ok (.ireturn, 1) := by decide +kernel
theorem dL_mend_15 : decode cL_mend 15 = .ok (.iconst 0, 1) := by decide +kernel
theorem dL_mend_16 : decode cL_mend 16 = .ok (.ireturn, 1) := by decide +kernel
set_option maxRecDepth 20000 in
theorem ggL_addSpare_X6_addSpare : GoodIn wsL_addSpare wsX6_addSpare := goodIn_ca (goodIn_r _ [6, 7, 8, 9, 10, 11, 12, 13, 14, 15, 16, 17, 18, 19, 20, 21, 22, 23, 24, 25, 26, 27, 28, 29, 30, 31, 32, 33, 34, 35, 36, 37, 38, 39, 40, 41, 42, 43, 44, 45, 46, 47, 48, 49, 50, 51, 52, 53, 54, 55, 56, 57, 58, 59] (by decide +kernel) (by decide +kernel)) (goodIn_sub (fun _ h => List.mem_cons_of_mem _ (List.mem_append_right _ h)) (by decide +kernel))
set_option maxRecDepth 20000 in
theorem gL_addSpare_X6_addSpare : GoodIn wsL_addSpare (wsV RL 32 RX6 yX6_addSpare wsX6_addSpare) := goodIn_app (goodIn_of _ (by decide +kernel)) ggL_addSpare_X6_addSpare
theorem dL_addSpare_0 : decode cL_addSpare 0 = .ok (.aload_n 1, 1) := by decide +kernel
theorem dL_addSpare_1 : decode cL_addSpare 1 = .ok (.iconst 0, 1) := by decide +kernel
theorem dL_addSpare_2 : decode cL_addSpare 2 = .ok (.aload_n 0, 1) := by decide +kernel
theorem dL_addSpare_3 : decode cL_addSpare 3 = .ok (.invokevirtual 32, 3) := by decide +kernel
theorem dL_addSpare_6 : decode cL_addSpare 6 = .ok (.i2l, 1) := by decide +kernel
theorem dL_addSpare_7 : decode cL_addSpare 7 = .ok (.lastore, 1) := by decide +kernel
theorem dL_addSpare_8 : decode cL_addSpare 8 = .ok (.goto 6, 3) := by decide +kernel
theorem dL_addSpare_11 : decode cL_addSpare 11 = .ok (.astore_n 2, 1) := by decide +kernel
theorem dL_addSpare_12 : decode cL_addSpare 12 = .ok (.iconst 1, 1) := by decide +kernel
theorem dL_addSpare_13 : decode cL_addSpare 13 = .ok (.ireturn, 1) := by decide +kernel
theorem dL_addSpare_14 : decode cL_addSpare 14 = .ok (.iconst 0, 1) := by decide +kernel
theorem dL_addSpare_15 : decode cL_addSpare 15 = .ok (.ireturn, 1) := by decide +kernel
set_option maxRecDepth 20000 in
theorem ggL_corrupt_X6_corrupt : GoodIn wsL_corrupt wsX6_corrupt := goodIn_ca (goodIn_ca (goodIn_ca (goodIn_r _ [8, 9, 10, 11, 12, 13, 14, 15, 16, 17, 18, 7, 19, 20, 21, 22, 23, 24, 25, 26, 27, 28, 29, 30, 31, 32, 33, 34, 35, 36, 37, 38, 39, 40, 41, 42, 43, 44, 45, 46, 47, 48, 49, 50, 51, 52, 53, 54, 55, 56, 57, 58, 59, 60, 61, 62, 63, 64, 65, 66, 67, 68, 69, 70, 71, 72, 73, 74, 75, 76, 77, 78, 79, 80, 81, 82, 83, 84, 85] (by decide +kernel) (by decide +kernel)) (goodIn_sub (fun _ h => List.mem_cons_of_mem _ (List.mem_append_left _ (List.mem_append_left _ (List.mem_append_right _ h)))) (by decide +kernel))) (goodIn_sub (fun _ h => List.mem_cons_of_mem _ (List.mem_append_left _ (List.mem_append_right _ h))) (by decide +kernel))) (goodIn_sub (fun _ h => List.mem_cons_of_mem _ (List.mem_append_right _ h)) (by decide +kernel))
set_option maxRecDepth 20000 in
theorem gL_corrupt_X6_corrupt : GoodIn wsL_corrupt (wsV RL 36 RX6 yX6_corrupt wsX6_corrupt) := goodIn_app (goodIn_of _ (by decide +kernel)) ggL_corrupt_X6_corrupt
theorem dL_corrupt_0 : decode cL_corrupt 0 = .ok (.aload 4, 2) := by decide +kernel
theorem dL_corrupt_2 : decode cL_corrupt 2 = .ok (.iconst 0, 1) := by decide +kernel
theorem dL_corrupt_3 : decode cL_corrupt 3 = .ok (.aload_n 0, 1) := by decide +kernel
theorem dL_corrupt_4 : decode cL_corrupt 4 = .ok (.iload_n 1, 1) := by decide +kernel
theorem dL_corrupt_5 : decode cL_corrupt 5 = .ok (.iload_n 2, 1) := by decide +kernel
theorem dL_corrupt_6 : decode cL_corrupt 6 = .ok (.iload_n 3, 1) := by decide +kernel
theorem dL_corrupt_7 : decode cL_corrupt 7 = .ok (.invokevirtual 36, 3) := by decide +kernel
theorem dL_corrupt_10 : decode cL_corrupt 10 = .ok (.i2l, 1) := by decide +kernel
theorem dL_corrupt_11 : decode cL_corrupt 11 = .ok (.lastore, 1) := by decide +kernel
theorem dL_corrupt_12 : decode cL_corrupt 12 = .ok (.goto 15, 3) := by decide +kernel
theorem dL_corrupt_15 : decode cL_corrupt 15 = .ok (.astore 5, 2) := by decide +kernel
theorem dL_corrupt_17 : decode cL_corrupt 17 = .ok (.iconst 1, 1) := by decide +kernel
theorem dL_corrupt_18 : decode cL_corrupt 18 = .ok (.ireturn, 1) := by decide +kernel
theorem dL_corrupt_19 : decode cL_corrupt 19 = .ok (.astore 5, 2) := by decide +kernel
theorem dL_corrupt_21 : decode cL_corrupt 21 = .ok (.iconst 2, 1) := by decide +kernel
theorem dL_corrupt_22 : decode cL_corrupt 22 = .ok (.ireturn, 1) := by decide +kernel
theorem dL_corrupt_23 : decode cL_corrupt 23 = .ok (.astore 5, 2) := by decide +kernel
theorem dL_corrupt_25 : decode cL_corrupt 25 = .ok (.iconst 3, 1) := by decide +kernel
theorem dL_corrupt_26 : decode cL_corrupt 26 = .ok (.ireturn, 1) := by decide +kernel
theorem dL_corrupt_27 : decode cL_corrupt 27 = .ok (.iconst 0, 1) := by decide +kernel
theorem dL_corrupt_28 : decode cL_corrupt 28 = .ok (.ireturn, 1) := by decide +kernel
set_option maxRecDepth 20000 in
theorem ggL_state_X6_state : GoodIn wsL_state wsX6_state := goodIn_ca (goodIn_r _ [6, 7, 8, 9, 10, 11, 5, 12, 13, 14, 15, 16, 17, 18, 19, 20, 21, 22, 23, 24, 25, 26, 27, 28, 29, 30] (by decide +kernel) (by decide +kernel)) (goodIn_sub (fun _ h => List.mem_cons_of_mem _ (List.mem_append_right _ h)) (by decide +kernel))
set_option maxRecDepth 20000 in
theorem gL_state_X6_state : GoodIn wsL_state (wsV RL 40 RX6 yX6_state wsX6_state) := goodIn_app (goodIn_of _ (by decide +kernel)) ggL_state_X6_state
theorem dL_state_0 : decode cL_state 0 = .ok (.aload_n 2, 1) := by decide +kernel
theorem dL_state_1 : decode cL_state 1 = .ok (.iconst 0, 1) := by decide +kernel
theorem dL_state_2 : decode cL_state 2 = .ok (.aload_n 0, 1) := by decide +kernel
theorem dL_state_3 : decode cL_state 3 = .ok (.iload_n 1, 1) := by decide +kernel
theorem dL_state_4 : decode cL_state 4 = .ok (.invokevirtual 40, 3) := by decide +kernel
theorem dL_state_7 : decode cL_state 7 = .ok (.i2l, 1) := by decide +kernel
theorem dL_state_8 : decode cL_state 8 = .ok (.lastore, 1) := by decide +kernel
theorem dL_state_9 : decode cL_state 9 = .ok (.goto 6, 3) := by decide +kernel
theorem dL_state_12 : decode cL_state 12 = .ok (.astore_n 3, 1) := by decide +kernel
theorem dL_state_13 : decode cL_state 13 = .ok (.iconst 1, 1) := by decide +kernel
theorem dL_state_14 : decode cL_state 14 = .ok (.ireturn, 1) := by decide +kernel
theorem dL_state_15 : decode cL_state 15 = .ok (.iconst 0, 1) := by decide +kernel
theorem dL_state_16 : decode cL_state 16 = .ok (.ireturn, 1) := by decide +kernel
set_option maxRecDepth 20000 in
theorem ggL_member_X6_member : GoodIn wsL_member wsX6_member := goodIn_ca (goodIn_r _ [6, 7, 8, 9, 10, 5, 11, 12, 13, 14, 15, 16, 17, 18] (by decide +kernel) (by decide +kernel)) (goodIn_sub (fun _ h => List.mem_cons_of_mem _ (List.mem_append_right _ h)) (by decide +kernel))
set_option maxRecDepth 20000 in
theorem gL_member_X6_member : GoodIn wsL_member (wsV RL 43 RX6 yX6_member wsX6_member) := goodIn_app (goodIn_of _ (by decide +kernel)) ggL_member_X6_member
theorem dL_member_0 : decode cL_member 0 = .ok (.aload_n 3, 1) := by decide +kernel
theorem dL_member_1 : decode cL_member 1 = .ok (.iconst 0, 1) := by decide +kernel
theorem dL_member_2 : decode cL_member 2 = .ok (.aload_n 0, 1) := by decide +kernel
theorem dL_member_3 : decode cL_member 3 = .ok (.iload_n 1, 1) := by decide +kernel
theorem dL_member_4 : decode cL_member 4 = .ok (.iload_n 2, 1) := by decide +kernel
theorem dL_member_5 : decode cL_member 5 = .ok (.invokevirtual 43, 3) := by decide +kernel
theorem dL_member_8 : decode cL_member 8 = .ok (.i2l, 1) := by decide +kernel
theorem dL_member_9 : decode cL_member 9 = .ok (.lastore, 1) := by decide +kernel
theorem dL_member_10 : decode cL_member 10 = .ok (.goto 7, 3) := by decide +kernel
theorem dL_member_13 : decode cL_member 13 = .ok (.astore 4, 2) := by decide +kernel
theorem dL_member_15 : decode cL_member 15 = .ok (.iconst 1, 1) := by decide +kernel
theorem dL_member_16 : decode cL_member 16 = .ok (.ireturn, 1) := by decide +kernel
theorem dL_member_17 : decode cL_member 17 = .ok (.iconst 0, 1) := by decide +kernel
theorem dL_member_18 : decode cL_member 18 = .ok (.ireturn, 1) := by decide +kernel
set_option maxRecDepth 20000 in
theorem ggL_stripeAt_X6_stripeAt : GoodIn wsL_stripeAt wsX6_stripeAt := goodIn_ca (goodIn_r _ [6, 7, 8, 9, 10, 11, 5, 12, 13, 14, 15, 16, 17, 18, 19, 20, 21, 22, 23, 24, 25, 26, 27, 28, 29, 30, 31, 32, 33, 34, 35, 36, 37, 38] (by decide +kernel) (by decide +kernel)) (goodIn_sub (fun _ h => List.mem_cons_of_mem _ (List.mem_append_right _ h)) (by decide +kernel))
set_option maxRecDepth 20000 in
theorem gL_stripeAt_X6_stripeAt : GoodIn wsL_stripeAt (wsV RL 46 RX6 yX6_stripeAt wsX6_stripeAt) := goodIn_app (goodIn_of _ (by decide +kernel)) ggL_stripeAt_X6_stripeAt
theorem dL_stripeAt_0 : decode cL_stripeAt 0 = .ok (.aload_n 3, 1) := by decide +kernel
theorem dL_stripeAt_1 : decode cL_stripeAt 1 = .ok (.iconst 0, 1) := by decide +kernel
theorem dL_stripeAt_2 : decode cL_stripeAt 2 = .ok (.aload_n 0, 1) := by decide +kernel
theorem dL_stripeAt_3 : decode cL_stripeAt 3 = .ok (.iload_n 1, 1) := by decide +kernel
theorem dL_stripeAt_4 : decode cL_stripeAt 4 = .ok (.iload_n 2, 1) := by decide +kernel
theorem dL_stripeAt_5 : decode cL_stripeAt 5 = .ok (.invokevirtual 46, 3) := by decide +kernel
theorem dL_stripeAt_8 : decode cL_stripeAt 8 = .ok (.i2l, 1) := by decide +kernel
theorem dL_stripeAt_9 : decode cL_stripeAt 9 = .ok (.lastore, 1) := by decide +kernel
theorem dL_stripeAt_10 : decode cL_stripeAt 10 = .ok (.goto 7, 3) := by decide +kernel
theorem dL_stripeAt_13 : decode cL_stripeAt 13 = .ok (.astore 4, 2) := by decide +kernel
theorem dL_stripeAt_15 : decode cL_stripeAt 15 = .ok (.iconst 1, 1) := by decide +kernel
theorem dL_stripeAt_16 : decode cL_stripeAt 16 = .ok (.ireturn, 1) := by decide +kernel
theorem dL_stripeAt_17 : decode cL_stripeAt 17 = .ok (.iconst 0, 1) := by decide +kernel
theorem dL_stripeAt_18 : decode cL_stripeAt 18 = .ok (.ireturn, 1) := by decide +kernel
set_option maxRecDepth 20000 in
theorem ggL_place_X6_place : GoodIn wsL_place wsX6_place := goodIn_ca (goodIn_r _ [6, 7, 8, 9, 10, 11, 5, 12, 13, 14, 15, 16, 17, 18, 19, 20, 21, 22, 23, 24, 25, 26, 27, 28, 29, 30, 31, 32, 33, 34, 35, 36, 37, 38, 39, 40, 41] (by decide +kernel) (by decide +kernel)) (goodIn_sub (fun _ h => List.mem_cons_of_mem _ (List.mem_append_right _ h)) (by decide +kernel))
set_option maxRecDepth 20000 in
theorem gL_place_X6_place : GoodIn wsL_place (wsV RL 49 RX6 yX6_place wsX6_place) := goodIn_app (goodIn_of _ (by decide +kernel)) ggL_place_X6_place
theorem dL_place_0 : decode cL_place 0 = .ok (.aload_n 3, 1) := by decide +kernel
theorem dL_place_1 : decode cL_place 1 = .ok (.iconst 0, 1) := by decide +kernel
theorem dL_place_2 : decode cL_place 2 = .ok (.aload_n 0, 1) := by decide +kernel
theorem dL_place_3 : decode cL_place 3 = .ok (.iload_n 1, 1) := by decide +kernel
theorem dL_place_4 : decode cL_place 4 = .ok (.iload_n 2, 1) := by decide +kernel
theorem dL_place_5 : decode cL_place 5 = .ok (.invokevirtual 49, 3) := by decide +kernel
theorem dL_place_8 : decode cL_place 8 = .ok (.i2l, 1) := by decide +kernel
theorem dL_place_9 : decode cL_place 9 = .ok (.lastore, 1) := by decide +kernel
theorem dL_place_10 : decode cL_place 10 = .ok (.goto 7, 3) := by decide +kernel
theorem dL_place_13 : decode cL_place 13 = .ok (.astore 4, 2) := by decide +kernel
theorem dL_place_15 : decode cL_place 15 = .ok (.iconst 1, 1) := by decide +kernel
theorem dL_place_16 : decode cL_place 16 = .ok (.ireturn, 1) := by decide +kernel
theorem dL_place_17 : decode cL_place 17 = .ok (.iconst 0, 1) := by decide +kernel
theorem dL_place_18 : decode cL_place 18 = .ok (.ireturn, 1) := by decide +kernel
set_option maxRecDepth 20000 in
theorem ggL_unit_X6_unit : GoodIn wsL_unit wsX6_unit := goodIn_ca (goodIn_r _ [6, 7, 8, 9, 10, 5, 11, 12, 13, 14, 15, 16, 17, 18, 19, 20, 21, 22, 23, 24, 25, 26, 27, 28, 29, 30, 31, 32, 33, 34, 35, 36, 37, 38, 39, 40, 41, 42, 43, 44, 45, 46, 47, 48, 49, 50, 51] (by decide +kernel) (by decide +kernel)) (goodIn_sub (fun _ h => List.mem_cons_of_mem _ (List.mem_append_right _ h)) (by decide +kernel))
set_option maxRecDepth 20000 in
theorem gL_unit_X6_unit : GoodIn wsL_unit (wsV RL 52 RX6 yX6_unit wsX6_unit) := goodIn_app (goodIn_of _ (by decide +kernel)) ggL_unit_X6_unit
theorem dL_unit_0 : decode cL_unit 0 = .ok (.aload_n 3, 1) := by decide +kernel
theorem dL_unit_1 : decode cL_unit 1 = .ok (.iconst 0, 1) := by decide +kernel
theorem dL_unit_2 : decode cL_unit 2 = .ok (.aload_n 0, 1) := by decide +kernel
theorem dL_unit_3 : decode cL_unit 3 = .ok (.iload_n 1, 1) := by decide +kernel
theorem dL_unit_4 : decode cL_unit 4 = .ok (.iload_n 2, 1) := by decide +kernel
theorem dL_unit_5 : decode cL_unit 5 = .ok (.invokevirtual 52, 3) := by decide +kernel
theorem dL_unit_8 : decode cL_unit 8 = .ok (.i2l, 1) := by decide +kernel
theorem dL_unit_9 : decode cL_unit 9 = .ok (.lastore, 1) := by decide +kernel
theorem dL_unit_10 : decode cL_unit 10 = .ok (.goto 7, 3) := by decide +kernel
theorem dL_unit_13 : decode cL_unit 13 = .ok (.astore 4, 2) := by decide +kernel
theorem dL_unit_15 : decode cL_unit 15 = .ok (.iconst 1, 1) := by decide +kernel
theorem dL_unit_16 : decode cL_unit 16 = .ok (.ireturn, 1) := by decide +kernel
theorem dL_unit_17 : decode cL_unit 17 = .ok (.iconst 0, 1) := by decide +kernel
theorem dL_unit_18 : decode cL_unit 18 = .ok (.ireturn, 1) := by decide +kernel
set_option maxRecDepth 20000 in
theorem ggL_peek_X6_peek : GoodIn wsL_peek wsX6_peek := goodIn_ca (goodIn_r _ [6, 7, 8, 9, 10, 11, 5, 12, 13, 14, 15, 16, 17, 18, 19, 20, 21, 22, 23, 24, 25, 26, 27, 28, 29, 30, 31, 32, 33, 34, 35, 36, 37, 38, 39, 40, 41, 42, 43, 44, 45, 46, 47, 48, 49, 50, 51, 52, 53, 54, 55, 56, 57, 58, 59, 60, 61, 62, 63, 64, 65, 66, 67, 68, 69, 70, 71, 72, 73, 74, 75, 76, 77] (by decide +kernel) (by decide +kernel)) (goodIn_sub (fun _ h => List.mem_cons_of_mem _ (List.mem_append_right _ h)) (by decide +kernel))
set_option maxRecDepth 20000 in
theorem gL_peek_X6_peek : GoodIn wsL_peek (wsV RL 55 RX6 yX6_peek wsX6_peek) := goodIn_app (goodIn_of _ (by decide +kernel)) ggL_peek_X6_peek
theorem dL_peek_0 : decode cL_peek 0 = .ok (.aload_n 2, 1) := by decide +kernel
theorem dL_peek_1 : decode cL_peek 1 = .ok (.iconst 0, 1) := by decide +kernel
theorem dL_peek_2 : decode cL_peek 2 = .ok (.aload_n 0, 1) := by decide +kernel
theorem dL_peek_3 : decode cL_peek 3 = .ok (.iload_n 1, 1) := by decide +kernel
theorem dL_peek_4 : decode cL_peek 4 = .ok (.invokevirtual 55, 3) := by decide +kernel
theorem dL_peek_7 : decode cL_peek 7 = .ok (.i2l, 1) := by decide +kernel
theorem dL_peek_8 : decode cL_peek 8 = .ok (.lastore, 1) := by decide +kernel
theorem dL_peek_9 : decode cL_peek 9 = .ok (.goto 6, 3) := by decide +kernel
theorem dL_peek_12 : decode cL_peek 12 = .ok (.astore_n 3, 1) := by decide +kernel
theorem dL_peek_13 : decode cL_peek 13 = .ok (.iconst 1, 1) := by decide +kernel
theorem dL_peek_14 : decode cL_peek 14 = .ok (.ireturn, 1) := by decide +kernel
theorem dL_peek_15 : decode cL_peek 15 = .ok (.iconst 0, 1) := by decide +kernel
theorem dL_peek_16 : decode cL_peek 16 = .ok (.ireturn, 1) := by decide +kernel
set_option maxRecDepth 20000 in
theorem ggL_reads_X6_reads : GoodIn wsL_reads wsX6_reads := goodIn_ca (goodIn_r _ [6, 7, 8, 9, 10, 11, 5, 12, 13, 14, 15, 16, 17, 18, 19, 20, 21, 22, 23, 24, 25, 26, 27, 28, 29, 30] (by decide +kernel) (by decide +kernel)) (goodIn_sub (fun _ h => List.mem_cons_of_mem _ (List.mem_append_right _ h)) (by decide +kernel))
set_option maxRecDepth 20000 in
theorem gL_reads_X6_reads : GoodIn wsL_reads (wsV RL 58 RX6 yX6_reads wsX6_reads) := goodIn_app (goodIn_of _ (by decide +kernel)) ggL_reads_X6_reads
theorem dL_reads_0 : decode cL_reads 0 = .ok (.aload_n 2, 1) := by decide +kernel
theorem dL_reads_1 : decode cL_reads 1 = .ok (.iconst 0, 1) := by decide +kernel
theorem dL_reads_2 : decode cL_reads 2 = .ok (.aload_n 0, 1) := by decide +kernel
theorem dL_reads_3 : decode cL_reads 3 = .ok (.iload_n 1, 1) := by decide +kernel
theorem dL_reads_4 : decode cL_reads 4 = .ok (.invokevirtual 58, 3) := by decide +kernel
theorem dL_reads_7 : decode cL_reads 7 = .ok (.i2l, 1) := by decide +kernel
theorem dL_reads_8 : decode cL_reads 8 = .ok (.lastore, 1) := by decide +kernel
theorem dL_reads_9 : decode cL_reads 9 = .ok (.goto 6, 3) := by decide +kernel
theorem dL_reads_12 : decode cL_reads 12 = .ok (.astore_n 3, 1) := by decide +kernel
theorem dL_reads_13 : decode cL_reads 13 = .ok (.iconst 1, 1) := by decide +kernel
theorem dL_reads_14 : decode cL_reads 14 = .ok (.ireturn, 1) := by decide +kernel
theorem dL_reads_15 : decode cL_reads 15 = .ok (.iconst 0, 1) := by decide +kernel
theorem dL_reads_16 : decode cL_reads 16 = .ok (.ireturn, 1) := by decide +kernel
set_option maxRecDepth 20000 in
theorem ggL_writes_X6_writes : GoodIn wsL_writes wsX6_writes := goodIn_ca (goodIn_r _ [6, 7, 8, 9, 10, 11, 5, 12, 13, 14, 15, 16, 17, 18, 19, 20, 21, 22, 23, 24, 25, 26, 27, 28, 29, 30] (by decide +kernel) (by decide +kernel)) (goodIn_sub (fun _ h => List.mem_cons_of_mem _ (List.mem_append_right _ h)) (by decide +kernel))
set_option maxRecDepth 20000 in
theorem gL_writes_X6_writes : GoodIn wsL_writes (wsV RL 61 RX6 yX6_writes wsX6_writes) := goodIn_app (goodIn_of _ (by decide +kernel)) ggL_writes_X6_writes
theorem dL_writes_0 : decode cL_writes 0 = .ok (.aload_n 2, 1) := by decide +kernel
theorem dL_writes_1 : decode cL_writes 1 = .ok (.iconst 0, 1) := by decide +kernel
theorem dL_writes_2 : decode cL_writes 2 = .ok (.aload_n 0, 1) := by decide +kernel
theorem dL_writes_3 : decode cL_writes 3 = .ok (.iload_n 1, 1) := by decide +kernel
theorem dL_writes_4 : decode cL_writes 4 = .ok (.invokevirtual 61, 3) := by decide +kernel
theorem dL_writes_7 : decode cL_writes 7 = .ok (.i2l, 1) := by decide +kernel
theorem dL_writes_8 : decode cL_writes 8 = .ok (.lastore, 1) := by decide +kernel
theorem dL_writes_9 : decode cL_writes 9 = .ok (.goto 6, 3) := by decide +kernel
theorem dL_writes_12 : decode cL_writes 12 = .ok (.astore_n 3, 1) := by decide +kernel
theorem dL_writes_13 : decode cL_writes 13 = .ok (.iconst 1, 1) := by decide +kernel
theorem dL_writes_14 : decode cL_writes 14 = .ok (.ireturn, 1) := by decide +kernel
theorem dL_writes_15 : decode cL_writes 15 = .ok (.iconst 0, 1) := by decide +kernel
theorem dL_writes_16 : decode cL_writes 16 = .ok (.ireturn, 1) := by decide +kernel
set_option maxRecDepth 20000 in
theorem ggL_lostIfFailed_X6_lostIfFailed : GoodIn wsL_lostIfFailed wsX6_lostIfFailed := goodIn_ca (goodIn_r _ [6, 7, 8, 9, 10, 5, 11, 12, 13, 14, 15, 16, 17, 18, 19, 20, 21, 22, 23, 24, 25, 26, 27, 28, 29, 30, 31, 32, 33, 34, 35, 36, 37, 38, 39, 40, 41, 42, 43, 44, 45, 46, 47, 48, 49, 50, 51, 52, 53, 54, 55, 56, 57, 58, 59, 60, 61, 62, 63, 64, 65, 66, 67, 68, 69] (by decide +kernel) (by decide +kernel)) (goodIn_sub (fun _ h => List.mem_cons_of_mem _ (List.mem_append_right _ h)) (by decide +kernel))
set_option maxRecDepth 20000 in
theorem gL_lostIfFailed_X6_lostIfFailed : GoodIn wsL_lostIfFailed (wsV RL 64 RX6 yX6_lostIfFailed wsX6_lostIfFailed) := goodIn_app (goodIn_of _ (by decide +kernel)) ggL_lostIfFailed_X6_lostIfFailed
theorem dL_lostIfFailed_0 : decode cL_lostIfFailed 0 = .ok (.aload_n 2, 1) := by decide +kernel
theorem dL_lostIfFailed_1 : decode cL_lostIfFailed 1 = .ok (.iconst 0, 1) := by decide +kernel
theorem dL_lostIfFailed_2 : decode cL_lostIfFailed 2 = .ok (.aload_n 0, 1) := by decide +kernel
theorem dL_lostIfFailed_3 : decode cL_lostIfFailed 3 = .ok (.iload_n 1, 1) := by decide +kernel
theorem dL_lostIfFailed_4 : decode cL_lostIfFailed 4 = .ok (.invokevirtual 64, 3) := by decide +kernel
theorem dL_lostIfFailed_7 : decode cL_lostIfFailed 7 = .ok (.i2l, 1) := by decide +kernel
theorem dL_lostIfFailed_8 : decode cL_lostIfFailed 8 = .ok (.lastore, 1) := by decide +kernel
theorem dL_lostIfFailed_9 : decode cL_lostIfFailed 9 = .ok (.goto 6, 3) := by decide +kernel
theorem dL_lostIfFailed_12 : decode cL_lostIfFailed 12 = .ok (.astore_n 3, 1) := by decide +kernel
theorem dL_lostIfFailed_13 : decode cL_lostIfFailed 13 = .ok (.iconst 1, 1) := by decide +kernel
theorem dL_lostIfFailed_14 : decode cL_lostIfFailed 14 = .ok (.ireturn, 1) := by decide +kernel
theorem dL_lostIfFailed_15 : decode cL_lostIfFailed 15 = .ok (.iconst 0, 1) := by decide +kernel
theorem dL_lostIfFailed_16 : decode cL_lostIfFailed 16 = .ok (.ireturn, 1) := by decide +kernel
set_option maxRecDepth 20000 in
theorem ggL_loadOf_X6_loadOf : GoodIn wsL_loadOf wsX6_loadOf := goodIn_ca (goodIn_r _ [6, 7, 8, 9, 10, 11, 5, 12, 13, 14, 15, 16, 17, 18, 19, 20, 21, 22, 23, 24, 25, 26, 27] (by decide +kernel) (by decide +kernel)) (goodIn_sub (fun _ h => List.mem_cons_of_mem _ (List.mem_append_right _ h)) (by decide +kernel))
set_option maxRecDepth 20000 in
theorem gL_loadOf_X6_loadOf : GoodIn wsL_loadOf (wsV RL 67 RX6 yX6_loadOf wsX6_loadOf) := goodIn_app (goodIn_of _ (by decide +kernel)) ggL_loadOf_X6_loadOf
theorem dL_loadOf_0 : decode cL_loadOf 0 = .ok (.aload_n 3, 1) := by decide +kernel
theorem dL_loadOf_1 : decode cL_loadOf 1 = .ok (.iconst 0, 1) := by decide +kernel
theorem dL_loadOf_2 : decode cL_loadOf 2 = .ok (.aload_n 0, 1) := by decide +kernel
theorem dL_loadOf_3 : decode cL_loadOf 3 = .ok (.iload_n 1, 1) := by decide +kernel
theorem dL_loadOf_4 : decode cL_loadOf 4 = .ok (.iload_n 2, 1) := by decide +kernel
theorem dL_loadOf_5 : decode cL_loadOf 5 = .ok (.invokevirtual 67, 3) := by decide +kernel
theorem dL_loadOf_8 : decode cL_loadOf 8 = .ok (.i2l, 1) := by decide +kernel
theorem dL_loadOf_9 : decode cL_loadOf 9 = .ok (.lastore, 1) := by decide +kernel
theorem dL_loadOf_10 : decode cL_loadOf 10 = .ok (.goto 7, 3) := by decide +kernel
theorem dL_loadOf_13 : decode cL_loadOf 13 = .ok (.astore 4, 2) := by decide +kernel
theorem dL_loadOf_15 : decode cL_loadOf 15 = .ok (.iconst 1, 1) := by decide +kernel
theorem dL_loadOf_16 : decode cL_loadOf 16 = .ok (.ireturn, 1) := by decide +kernel
theorem dL_loadOf_17 : decode cL_loadOf 17 = .ok (.iconst 0, 1) := by decide +kernel
theorem dL_loadOf_18 : decode cL_loadOf 18 = .ok (.ireturn, 1) := by decide +kernel
set_option maxRecDepth 20000 in
theorem ggL_append_X6_append : GoodIn wsL_append wsX6_append := goodIn_ca (goodIn_ca (goodIn_r _ [7, 8, 9, 10, 11, 12, 13, 14, 15, 16, 17, 18, 19, 20, 21, 22, 23, 24, 25, 26, 27, 28, 29, 30, 31, 32, 33, 34, 35, 36, 37, 38, 39, 40, 41, 42] (by decide +kernel) (by decide +kernel)) (goodIn_sub (fun _ h => List.mem_cons_of_mem _ (List.mem_append_left _ (List.mem_append_right _ h))) (by decide +kernel))) (goodIn_sub (fun _ h => List.mem_cons_of_mem _ (List.mem_append_right _ h)) (by decide +kernel))
set_option maxRecDepth 20000 in
theorem gL_append_X6_append : GoodIn wsL_append (wsV RL 70 RX6 yX6_append wsX6_append) := goodIn_app (goodIn_of _ (by decide +kernel)) ggL_append_X6_append
theorem dL_append_0 : decode cL_append 0 = .ok (.aload_n 2, 1) := by decide +kernel
theorem dL_append_1 : decode cL_append 1 = .ok (.iconst 0, 1) := by decide +kernel
theorem dL_append_2 : decode cL_append 2 = .ok (.aload_n 0, 1) := by decide +kernel
theorem dL_append_3 : decode cL_append 3 = .ok (.iload_n 1, 1) := by decide +kernel
theorem dL_append_4 : decode cL_append 4 = .ok (.invokevirtual 70, 3) := by decide +kernel
theorem dL_append_7 : decode cL_append 7 = .ok (.i2l, 1) := by decide +kernel
theorem dL_append_8 : decode cL_append 8 = .ok (.lastore, 1) := by decide +kernel
theorem dL_append_9 : decode cL_append 9 = .ok (.goto 9, 3) := by decide +kernel
theorem dL_append_12 : decode cL_append 12 = .ok (.astore_n 3, 1) := by decide +kernel
theorem dL_append_13 : decode cL_append 13 = .ok (.iconst 1, 1) := by decide +kernel
theorem dL_append_14 : decode cL_append 14 = .ok (.ireturn, 1) := by decide +kernel
theorem dL_append_15 : decode cL_append 15 = .ok (.astore_n 3, 1) := by decide +kernel
theorem dL_append_16 : decode cL_append 16 = .ok (.iconst 2, 1) := by decide +kernel
theorem dL_append_17 : decode cL_append 17 = .ok (.ireturn, 1) := by decide +kernel
theorem dL_append_18 : decode cL_append 18 = .ok (.iconst 0, 1) := by decide +kernel
theorem dL_append_19 : decode cL_append 19 = .ok (.ireturn, 1) := by decide +kernel
set_option maxRecDepth 20000 in
theorem ggL_run_X6_run : GoodIn wsL_run wsX6_run := goodIn_ca (goodIn_r _ [6, 7, 8, 9, 10, 11, 12, 13, 14, 15, 16, 17, 18, 19, 20, 21, 22, 23, 24, 25, 26, 27, 28, 29, 30, 31, 32, 33, 34, 35, 36, 37, 38, 39, 40, 41, 42, 43, 44, 45, 46, 47, 48, 49, 50, 51, 52, 53, 54, 55, 56, 57, 58, 59, 60, 61, 62, 63, 64, 65, 66, 67, 68, 69, 70, 71, 72, 73, 74, 75, 76, 77, 78, 79, 80, 81, 82, 83, 84, 85, 86, 87, 88, 89, 90, 91, 92, 93, 94, 95, 96, 97, 98, 99, 100, 101, 5, 102, 103, 104, 105, 106, 107, 108, 109, 110, 111, 112, 113, 114, 115, 116, 117, 118, 119, 120, 121, 122, 123, 124, 125, 126, 127, 128, 129, 130, 131, 132, 133, 134, 135, 136, 137, 138, 139, 140, 141, 142, 143, 144, 145, 146, 147, 148, 149, 150, 151, 152, 153, 154, 155, 156, 157, 158, 159, 160, 161, 162, 163, 164, 165, 166, 167, 168, 169, 170, 171, 172, 173, 174, 175, 176, 177, 178, 179, 180, 181, 182, 183, 184, 185, 186, 187, 188, 189, 190, 191, 192, 193, 194, 195, 196, 197, 198, 199, 200, 201, 202, 203, 204, 205, 206, 207, 208, 209, 210, 211, 212, 213, 214, 215, 216, 217, 218, 219, 220, 221, 222, 223, 224, 225, 226, 227, 228, 229, 230, 231, 232, 233, 234, 235, 236, 237, 238, 239, 240, 241, 242, 243, 244, 245, 246, 247, 248, 249, 250, 251, 252, 253, 254, 255, 256, 257, 258, 259, 260, 261, 262, 263, 264, 265, 266, 267, 268, 269, 270, 271, 272, 273, 274, 275, 276] (by decide +kernel) (by decide +kernel)) (goodIn_sub (fun _ h => List.mem_cons_of_mem _ (List.mem_append_right _ h)) (by decide +kernel))
set_option maxRecDepth 20000 in
theorem gL_run_X6_run : GoodIn wsL_run (wsV RL 73 RX6 yX6_run wsX6_run) := goodIn_app (goodIn_of _ (by decide +kernel)) ggL_run_X6_run
theorem dL_run_0 : decode cL_run 0 = .ok (.aload_n 1, 1) := by decide +kernel
theorem dL_run_1 : decode cL_run 1 = .ok (.iconst 0, 1) := by decide +kernel
theorem dL_run_2 : decode cL_run 2 = .ok (.aload_n 0, 1) := by decide +kernel
theorem dL_run_3 : decode cL_run 3 = .ok (.invokevirtual 73, 3) := by decide +kernel
theorem dL_run_6 : decode cL_run 6 = .ok (.i2l, 1) := by decide +kernel
theorem dL_run_7 : decode cL_run 7 = .ok (.lastore, 1) := by decide +kernel
theorem dL_run_8 : decode cL_run 8 = .ok (.goto 6, 3) := by decide +kernel
theorem dL_run_11 : decode cL_run 11 = .ok (.astore_n 2, 1) := by decide +kernel
theorem dL_run_12 : decode cL_run 12 = .ok (.iconst 1, 1) := by decide +kernel
theorem dL_run_13 : decode cL_run 13 = .ok (.ireturn, 1) := by decide +kernel
theorem dL_run_14 : decode cL_run 14 = .ok (.iconst 0, 1) := by decide +kernel
theorem dL_run_15 : decode cL_run 15 = .ok (.ireturn, 1) := by decide +kernel
set_option maxRecDepth 20000 in
theorem ggL_undo_X6_undo : GoodIn wsL_undo wsX6_undo := goodIn_ca (goodIn_r _ [6, 7, 8, 9, 10, 11, 12, 13, 14, 15, 16, 17, 18, 19, 20, 21, 22, 23, 24, 25, 26, 27, 28, 29, 30, 31, 32, 33, 34, 35, 36, 37, 38, 39, 40, 41, 42, 43, 44, 45, 46, 47] (by decide +kernel) (by decide +kernel)) (goodIn_sub (fun _ h => List.mem_cons_of_mem _ (List.mem_append_right _ h)) (by decide +kernel))
set_option maxRecDepth 20000 in
theorem gL_undo_X6_undo : GoodIn wsL_undo (wsV RL 76 RX6 yX6_undo wsX6_undo) := goodIn_app (goodIn_of _ (by decide +kernel)) ggL_undo_X6_undo
theorem dL_undo_0 : decode cL_undo 0 = .ok (.aload_n 1, 1) := by decide +kernel
theorem dL_undo_1 : decode cL_undo 1 = .ok (.iconst 0, 1) := by decide +kernel
theorem dL_undo_2 : decode cL_undo 2 = .ok (.aload_n 0, 1) := by decide +kernel
theorem dL_undo_3 : decode cL_undo 3 = .ok (.invokevirtual 76, 3) := by decide +kernel
theorem dL_undo_6 : decode cL_undo 6 = .ok (.i2l, 1) := by decide +kernel
theorem dL_undo_7 : decode cL_undo 7 = .ok (.lastore, 1) := by decide +kernel
theorem dL_undo_8 : decode cL_undo 8 = .ok (.goto 6, 3) := by decide +kernel
theorem dL_undo_11 : decode cL_undo 11 = .ok (.astore_n 2, 1) := by decide +kernel
theorem dL_undo_12 : decode cL_undo 12 = .ok (.iconst 1, 1) := by decide +kernel
theorem dL_undo_13 : decode cL_undo 13 = .ok (.ireturn, 1) := by decide +kernel
theorem dL_undo_14 : decode cL_undo 14 = .ok (.iconst 0, 1) := by decide +kernel
theorem dL_undo_15 : decode cL_undo 15 = .ok (.ireturn, 1) := by decide +kernel
set_option maxRecDepth 20000 in
theorem ggL_law_X6_init : GoodIn wsL_law wsX6_init := goodIn_r _ [9, 10, 11, 12, 13, 14, 15, 16, 17, 18, 19, 20, 21, 22, 23, 24, 25, 26, 27, 28, 29, 30, 31, 32, 33, 34, 35, 36, 37, 38, 39, 40, 41, 42, 43, 44, 45, 46, 47, 48, 49, 50, 51, 52, 53, 54, 55, 56, 57, 58, 59, 60, 61, 62, 63, 64, 65, 66, 67, 68, 69, 70, 71, 72, 73, 74, 75, 76, 77, 78, 79, 80, 81, 82, 83, 84, 85, 86, 87, 88, 89, 90, 91, 92, 93, 94, 95, 96, 97, 98, 99, 100, 983, 984, 985, 966, 967, 968, 969, 986, 987, 988, 989, 990, 991, 992, 993, 994, 995, 996, 997, 998] (by decide +kernel) (by decide +kernel)
set_option maxRecDepth 20000 in
theorem gL_law_X6_init : GoodIn wsL_law (wsX6_init) := ggL_law_X6_init
set_option maxRecDepth 20000 in
theorem ggL_law_X7_init : GoodIn wsL_law wsX7_init := goodIn_r _ [103, 104, 11, 12, 47, 105, 106, 107, 108, 970, 971, 972, 973, 974, 975, 976, 977, 978, 979, 980, 981, 982] (by decide +kernel) (by decide +kernel)
set_option maxRecDepth 20000 in
theorem gL_law_X7_init : GoodIn wsL_law (wsX7_init) := ggL_law_X7_init
set_option maxRecDepth 20000 in
theorem ggL_law_L_read : GoodIn wsL_law wsL_read := goodIn_ca (goodIn_ca (goodIn_r _ [112, 113, 114, 115, 116, 117, 2, 118, 119, 120, 121, 122, 16, 24, 20, 123, 124, 125, 126, 127, 128, 15, 129, 130, 131, 132, 133, 36, 52, 53, 54, 35, 55, 48, 134, 135, 136, 137, 138, 139, 140, 19, 141, 76, 142, 143, 144, 145, 146, 147, 148, 149, 150, 151, 152, 153, 154, 155, 156, 38, 37, 157, 158, 159, 23, 160, 83, 161, 162, 163, 164, 45, 165, 166, 167, 168, 169, 78, 68, 69, 70, 170, 171, 172, 173, 174, 60, 61, 62, 175, 176, 177, 178, 966, 967, 968, 969, 983, 984, 985, 994, 986, 987, 988, 989] (by decide +kernel) (by decide +kernel)) (goodIn_sub (fun _ h => List.mem_append_left _ (List.mem_append_left _ (List.mem_append_right _ h))) (by decide +kernel))) (goodIn_sub (fun _ h => List.mem_append_left _ (List.mem_append_right _ h)) (by decide +kernel))
set_option maxRecDepth 20000 in
theorem gL_law_L_read : GoodIn wsL_law (va_wsS RL 83 yL_read wsL_read) := goodIn_app (goodIn_of _ (by decide +kernel)) ggL_law_L_read
set_option maxRecDepth 20000 in
theorem ggL_law_X7_read : GoodIn wsL_law wsX7_read := goodIn_r _ [182, 183, 184, 5, 185, 186, 187, 188, 189, 190, 191, 192, 193, 194, 195, 196, 197, 198, 199, 200, 201, 202, 203, 204, 205, 206, 207, 208, 209, 105, 210, 211, 212, 213, 214, 215, 216, 217, 218, 219, 220, 221, 222, 223, 224, 225, 226, 227, 228, 229, 230, 231, 232, 233, 106, 234, 235, 236, 237, 238, 239, 240, 970, 971, 972, 973, 974, 975, 976, 977, 978, 979, 980, 981, 982] (by decide +kernel) (by decide +kernel)
set_option maxRecDepth 20000 in
theorem gL_law_X7_read : GoodIn wsL_law (wsV RL 88 RX7 yX7_read wsX7_read) := goodIn_app (goodIn_of _ (by decide +kernel)) ggL_law_X7_read
set_option maxRecDepth 20000 in
theorem ggL_law_X7_thrown : GoodIn wsL_law wsX7_thrown := goodIn_r _ [244, 228, 970, 971, 972, 973, 974, 975, 976, 977, 978, 979, 980, 981, 982] (by decide +kernel) (by decide +kernel)
set_option maxRecDepth 20000 in
theorem gL_law_X7_thrown : GoodIn wsL_law (wsV RL 89 RX7 yX7_thrown wsX7_thrown) := goodIn_app (goodIn_of _ (by decide +kernel)) ggL_law_X7_thrown
set_option maxRecDepth 20000 in
theorem ggL_law_L_write : GoodIn wsL_law wsL_write := goodIn_ca (goodIn_ca (goodIn_ca (goodIn_r _ [247, 113, 248, 114, 249, 250, 251, 2, 252, 119, 120, 253, 254, 121, 122, 24, 20, 123, 124, 125, 255, 256, 257, 258, 259, 260, 261, 262, 16, 126, 127, 128, 15, 129, 130, 131, 132, 133, 36, 52, 53, 54, 35, 55, 48, 134, 135, 136, 137, 138, 139, 140, 19, 141, 76, 142, 143, 144, 145, 146, 147, 148, 149, 150, 151, 152, 153, 154, 155, 156, 38, 37, 157, 158, 159, 23, 160, 83, 161, 162, 163, 164, 45, 165, 166, 167, 168, 169, 78, 68, 69, 70, 263, 264, 265, 266, 267, 268, 269, 270, 271, 272, 273, 274, 170, 171, 172, 173, 174, 60, 61, 62, 275, 276, 277, 278, 966, 967, 968, 969, 983, 984, 985, 994, 986, 987, 988, 989] (by decide +kernel) (by decide +kernel)) (goodIn_sub (fun _ h => List.mem_append_left _ (List.mem_append_left _ (List.mem_append_right _ h))) (by decide +kernel))) (goodIn_sub (fun _ h => List.mem_append_right _ h) (by decide +kernel))) (goodIn_sub (fun _ h => List.mem_append_left _ (List.mem_append_right _ h)) (by decide +kernel))
set_option maxRecDepth 20000 in
theorem gL_law_L_write : GoodIn wsL_law (va_wsS RL 92 yL_write wsL_write) := goodIn_app (goodIn_of _ (by decide +kernel)) ggL_law_L_write
set_option maxRecDepth 20000 in
theorem ggL_law_X7_write : GoodIn wsL_law wsX7_write := goodIn_r _ [282, 283, 284, 285, 5, 286, 287, 183, 184, 185, 186, 187, 188, 288, 289, 290, 291, 193, 194, 195, 196, 197, 198, 199, 200, 201, 202, 203, 204, 205, 206, 207, 208, 209, 105, 224, 225, 226, 227, 228, 229, 230, 231, 232, 233, 106, 234, 235, 236, 292, 293, 294, 295, 237, 238, 239, 240, 210, 211, 212, 213, 296, 297, 298, 299, 970, 971, 972, 973, 974, 975, 976, 977, 978, 979, 980, 981, 982] (by decide +kernel) (by decide +kernel)
set_option maxRecDepth 20000 in
theorem gL_law_X7_write : GoodIn wsL_law (wsV RL 95 RX7 yX7_write wsX7_write) := goodIn_app (goodIn_of _ (by decide +kernel)) ggL_law_X7_write
set_option maxRecDepth 20000 in
theorem ggL_law_L_fail : GoodIn wsL_law wsL_fail := goodIn_ca (goodIn_ca (goodIn_r _ [302, 113, 114, 303, 304, 305, 2, 306, 119, 120, 121, 122, 24, 20, 307, 308, 309, 310, 311, 312, 313, 314, 315, 316, 19, 317, 76, 145, 53, 54, 35, 55, 48, 157, 158, 159, 23, 160, 83, 161, 162, 163, 164, 45, 165, 166, 167, 168, 169, 78, 68, 69, 70, 318, 319, 320, 321, 322, 57, 15, 58, 323, 324, 325, 326, 327, 328, 329, 330, 16, 126, 127, 128, 129, 130, 131, 132, 133, 36, 52, 134, 135, 136, 137, 138, 139, 140, 141, 142, 143, 144, 146, 147, 148, 149, 150, 151, 152, 153, 154, 155, 156, 38, 37, 966, 967, 968, 969, 986, 994, 987, 988, 989, 983, 984, 985] (by decide +kernel) (by decide +kernel)) (goodIn_sub (fun _ h => List.mem_append_left _ (List.mem_append_left _ (List.mem_append_right _ h))) (by decide +kernel))) (goodIn_sub (fun _ h => List.mem_append_left _ (List.mem_append_right _ h)) (by decide +kernel))
set_option maxRecDepth 20000 in
theorem gL_law_L_fail : GoodIn wsL_law (va_wsS RL 96 yL_fail wsL_fail) := goodIn_app (goodIn_of _ (by decide +kernel)) ggL_law_L_fail
set_option maxRecDepth 20000 in
theorem ggL_law_X7_fail : GoodIn wsL_law wsX7_fail := goodIn_r _ [334, 335, 336, 337, 5, 338, 105, 339, 340, 341, 186, 187, 188, 224, 225, 226, 227, 228, 229, 230, 231, 232, 233, 106, 234, 235, 236, 342, 343, 344, 345, 346, 347, 348, 349, 189, 190, 191, 192, 193, 194, 195, 196, 197, 198, 199, 200, 201, 202, 203, 204, 205, 206, 207, 208, 209, 210, 211, 212, 213, 214, 215, 216, 217, 218, 219, 220, 221, 222, 223, 970, 971, 972, 973, 974, 975, 976, 977, 978, 979, 980, 981, 982] (by decide +kernel) (by decide +kernel)
set_option maxRecDepth 20000 in
theorem gL_law_X7_fail : GoodIn wsL_law (wsV RL 98 RX7 yX7_fail wsX7_fail) := goodIn_app (goodIn_of _ (by decide +kernel)) ggL_law_X7_fail
set_option maxRecDepth 20000 in
theorem ggL_law_L_beginMending : GoodIn wsL_law wsL_beginMending := goodIn_ca (goodIn_ca (goodIn_r _ [352, 113, 114, 353, 354, 355, 2, 356, 119, 120, 121, 122, 24, 20, 307, 308, 309, 357, 358, 359, 360, 314, 315, 316, 19, 317, 76, 145, 53, 54, 35, 55, 48, 361, 362, 363, 364, 157, 158, 159, 23, 160, 83, 161, 162, 163, 164, 45, 165, 166, 167, 168, 169, 78, 68, 69, 70, 365, 366, 367, 368, 369, 966, 967, 968, 969, 986, 994, 987, 988, 989] (by decide +kernel) (by decide +kernel)) (goodIn_sub (fun _ h => List.mem_append_left _ (List.mem_append_left _ (List.mem_append_right _ h))) (by decide +kernel))) (goodIn_sub (fun _ h => List.mem_append_left _ (List.mem_append_right _ h)) (by decide +kernel))
set_option maxRecDepth 20000 in
theorem gL_law_L_beginMending : GoodIn wsL_law (va_wsS RL 99 yL_beginMending wsL_beginMending) := goodIn_app (goodIn_of _ (by decide +kernel)) ggL_law_L_beginMending
set_option maxRecDepth 20000 in
theorem ggL_law_X7_beginMending : GoodIn wsL_law wsX7_beginMending := goodIn_r _ [373, 374, 375, 376, 5, 377, 105, 339, 340, 341, 186, 187, 188, 224, 225, 226, 227, 228, 229, 230, 231, 232, 233, 106, 234, 235, 236, 378, 379, 380, 381, 970, 971, 972, 973, 974, 975, 976, 977, 978, 979, 980, 981, 982] (by decide +kernel) (by decide +kernel)
set_option maxRecDepth 20000 in
theorem gL_law_X7_beginMending : GoodIn wsL_law (wsV RL 101 RX7 yX7_beginMending wsX7_beginMending) := goodIn_app (goodIn_of _ (by decide +kernel)) ggL_law_X7_beginMending
set_option maxRecDepth 20000 in
theorem ggL_law_L_mend : GoodIn wsL_law wsL_mend := goodIn_ca (goodIn_r _ [384, 248, 385, 386, 387, 2, 388, 253, 254, 24, 20, 157, 158, 159, 23, 160, 83, 161, 162, 163, 164, 45, 165, 166, 167, 168, 19, 169, 76, 145, 53, 54, 35, 55, 48, 78, 68, 69, 70, 389, 390, 391, 392, 393, 394, 395, 396, 314, 315, 316, 317, 397, 398, 399, 400, 401, 57, 15, 58, 149, 150, 151, 152, 16, 153, 154, 155, 156, 38, 36, 37, 52, 138, 139, 140, 141, 142, 143, 144, 146, 147, 148, 175, 176, 177, 178, 170, 171, 172, 173, 174, 60, 61, 62, 275, 276, 277, 278, 402, 403, 404, 405, 406, 407, 408, 409, 966, 967, 968, 969, 987, 988, 989, 986, 994, 983, 984, 985] (by decide +kernel) (by decide +kernel)) (goodIn_sub (fun _ h => List.mem_append_right _ h) (by decide +kernel))
set_option maxRecDepth 20000 in
theorem gL_law_L_mend : GoodIn wsL_law (va_wsS RL 102 yL_mend wsL_mend) := goodIn_app (goodIn_of _ (by decide +kernel)) ggL_law_L_mend
set_option maxRecDepth 20000 in
theorem ggL_law_X7_mend : GoodIn wsL_law wsX7_mend := goodIn_r _ [413, 186, 187, 5, 188, 224, 225, 226, 227, 228, 229, 230, 231, 232, 233, 106, 105, 234, 235, 236, 414, 415, 416, 417, 418, 419, 420, 421, 422, 423, 424, 425, 426, 427, 428, 203, 204, 205, 200, 201, 202, 429, 430, 431, 197, 198, 199, 214, 215, 216, 217, 218, 219, 220, 193, 194, 195, 196, 206, 207, 208, 209, 221, 222, 223, 237, 238, 239, 240, 210, 211, 212, 213, 296, 297, 298, 299, 970, 971, 972, 973, 974, 975, 976, 977, 978, 979, 980, 981, 982] (by decide +kernel) (by decide +kernel)
set_option maxRecDepth 20000 in
theorem gL_law_X7_mend : GoodIn wsL_law (wsV RL 104 RX7 yX7_mend wsX7_mend) := goodIn_app (goodIn_of _ (by decide +kernel)) ggL_law_X7_mend
set_option maxRecDepth 20000 in
theorem ggL_law_L_addSpare : GoodIn wsL_law wsL_addSpare := goodIn_ca (goodIn_r _ [434, 114, 435, 436, 437, 2, 438, 121, 122, 20, 24, 361, 362, 363, 19, 364, 76, 145, 53, 54, 35, 55, 48, 157, 158, 159, 23, 160, 83, 161, 162, 163, 164, 45, 165, 166, 167, 168, 169, 78, 68, 69, 70, 439, 440, 441, 442, 174, 60, 61, 62, 966, 967, 968, 969, 986, 994, 987, 988, 989] (by decide +kernel) (by decide +kernel)) (goodIn_sub (fun _ h => List.mem_append_left _ (List.mem_append_right _ h)) (by decide +kernel))
set_option maxRecDepth 20000 in
theorem gL_law_L_addSpare : GoodIn wsL_law (va_wsS RL 105 yL_addSpare wsL_addSpare) := goodIn_app (goodIn_of _ (by decide +kernel)) ggL_law_L_addSpare
set_option maxRecDepth 20000 in
theorem ggL_law_X7_addSpare : GoodIn wsL_law wsX7_addSpare := goodIn_r _ [446, 105, 224, 225, 226, 5, 227, 228, 229, 230, 231, 232, 233, 106, 234, 235, 236, 970, 971, 972, 973, 974, 975, 976, 977, 978, 979, 980, 981, 982] (by decide +kernel) (by decide +kernel)
set_option maxRecDepth 20000 in
theorem gL_law_X7_addSpare : GoodIn wsL_law (wsV RL 108 RX7 yX7_addSpare wsX7_addSpare) := goodIn_app (goodIn_of _ (by decide +kernel)) ggL_law_X7_addSpare
set_option maxRecDepth 20000 in
theorem ggL_law_L_corrupt : GoodIn wsL_law wsL_corrupt := goodIn_ca (goodIn_ca (goodIn_ca (goodIn_r _ [449, 113, 248, 114, 450, 451, 452, 2, 453, 119, 120, 253, 254, 121, 122, 20, 24, 307, 308, 309, 454, 455, 456, 255, 256, 257, 258, 401, 57, 15, 58, 138, 139, 140, 19, 141, 76, 142, 143, 144, 145, 53, 54, 35, 55, 48, 146, 147, 148, 157, 158, 159, 23, 160, 83, 161, 162, 163, 164, 45, 165, 166, 167, 168, 169, 78, 68, 69, 70, 457, 458, 459, 460, 461, 324, 325, 326, 966, 967, 968, 969, 986, 994, 987, 988, 989] (by decide +kernel) (by decide +kernel)) (goodIn_sub (fun _ h => List.mem_append_left _ (List.mem_append_left _ (List.mem_append_right _ h))) (by decide +kernel))) (goodIn_sub (fun _ h => List.mem_append_right _ h) (by decide +kernel))) (goodIn_sub (fun _ h => List.mem_append_left _ (List.mem_append_right _ h)) (by decide +kernel))
set_option maxRecDepth 20000 in
theorem gL_law_L_corrupt : GoodIn wsL_law (va_wsS RL 109 yL_corrupt wsL_corrupt) := goodIn_app (goodIn_of _ (by decide +kernel)) ggL_law_L_corrupt
set_option maxRecDepth 20000 in
theorem ggL_law_X7_corrupt : GoodIn wsL_law wsX7_corrupt := goodIn_r _ [465, 287, 105, 339, 340, 5, 341, 186, 187, 188, 466, 467, 468, 206, 207, 208, 209, 224, 225, 226, 227, 228, 229, 230, 231, 232, 233, 106, 234, 235, 236, 970, 971, 972, 973, 974, 975, 976, 977, 978, 979, 980, 981, 982] (by decide +kernel) (by decide +kernel)
set_option maxRecDepth 20000 in
theorem gL_law_X7_corrupt : GoodIn wsL_law (wsV RL 112 RX7 yX7_corrupt wsX7_corrupt) := goodIn_app (goodIn_of _ (by decide +kernel)) ggL_law_X7_corrupt
set_option maxRecDepth 20000 in
theorem ggL_law_X6_scrub : GoodIn wsL_law wsX6_scrub := goodIn_r _ [472, 24, 20, 157, 158, 159, 23, 160, 83, 161, 162, 163, 164, 45, 165, 166, 167, 168, 19, 169, 76, 145, 53, 54, 35, 55, 48, 78, 68, 69, 70, 473, 474, 475, 2, 476, 16, 477, 478, 479, 480, 481, 131, 132, 15, 133, 36, 52, 138, 139, 140, 141, 142, 143, 144, 146, 147, 148, 149, 150, 151, 152, 153, 154, 155, 156, 38, 37, 482, 483, 484, 485, 175, 176, 177, 178, 170, 171, 172, 173, 174, 60, 61, 62, 275, 276, 277, 278, 966, 967, 968, 969, 987, 988, 989, 986, 994, 983, 984, 985] (by decide +kernel) (by decide +kernel)
set_option maxRecDepth 20000 in
theorem gL_law_X6_scrub : GoodIn wsL_law (wsV RL 113 RX6 yX6_scrub wsX6_scrub) := goodIn_app (goodIn_of _ (by decide +kernel)) ggL_law_X6_scrub
set_option maxRecDepth 20000 in
theorem ggL_law_X7_scrub : GoodIn wsL_law wsX7_scrub := goodIn_r _ [489, 228, 229, 230, 231, 5, 232, 233, 106, 105, 234, 235, 236, 490, 491, 492, 493, 494, 495, 496, 497, 193, 194, 195, 196, 197, 198, 199, 200, 201, 202, 203, 204, 205, 206, 207, 208, 209, 237, 238, 239, 240, 498, 499, 500, 501, 210, 211, 212, 213, 296, 297, 298, 299, 970, 971, 972, 973, 974, 975, 976, 977, 978, 979, 980, 981, 982] (by decide +kernel) (by decide +kernel)
set_option maxRecDepth 20000 in
theorem gL_law_X7_scrub : GoodIn wsL_law (wsV RL 116 RX7 yX7_scrub wsX7_scrub) := goodIn_app (goodIn_of _ (by decide +kernel)) ggL_law_X7_scrub
set_option maxRecDepth 20000 in
theorem ggL_law_L_state : GoodIn wsL_law wsL_state := goodIn_ca (goodIn_r _ [504, 113, 505, 506, 507, 2, 508, 119, 120, 20, 307, 308, 309, 314, 315, 316, 19, 317, 76, 145, 53, 54, 35, 55, 48, 966, 967, 968, 969, 986, 994] (by decide +kernel) (by decide +kernel)) (goodIn_sub (fun _ h => List.mem_append_left _ (List.mem_append_left _ (List.mem_append_right _ h))) (by decide +kernel))
set_option maxRecDepth 20000 in
theorem gL_law_L_state : GoodIn wsL_law (va_wsS RL 117 yL_state wsL_state) := goodIn_app (goodIn_of _ (by decide +kernel)) ggL_law_L_state
set_option maxRecDepth 20000 in
theorem ggL_law_X7_state : GoodIn wsL_law wsX7_state := goodIn_r _ [512, 105, 339, 340, 5, 341, 186, 187, 188, 224, 225, 226, 227, 228, 970, 971, 972, 973, 974, 975, 976, 977, 978, 979, 980, 981, 982] (by decide +kernel) (by decide +kernel)
set_option maxRecDepth 20000 in
theorem gL_law_X7_state : GoodIn wsL_law (wsV RL 119 RX7 yX7_state wsX7_state) := goodIn_app (goodIn_of _ (by decide +kernel)) ggL_law_X7_state
set_option maxRecDepth 20000 in
theorem ggL_law_L_member : GoodIn wsL_law wsL_member := goodIn_ca (goodIn_r _ [515, 113, 516, 517, 518, 2, 519, 119, 120, 520, 521, 522, 523, 524, 525, 526, 50, 15, 51] (by decide +kernel) (by decide +kernel)) (goodIn_sub (fun _ h => List.mem_append_left _ (List.mem_append_left _ (List.mem_append_right _ h))) (by decide +kernel))
set_option maxRecDepth 20000 in
theorem gL_law_L_member : GoodIn wsL_law (va_wsS RL 120 yL_member wsL_member) := goodIn_app (goodIn_of _ (by decide +kernel)) ggL_law_L_member
set_option maxRecDepth 20000 in
theorem ggL_law_X7_member : GoodIn wsL_law wsX7_member := goodIn_r _ [530, 531, 532, 5, 533, 186, 187, 188, 224, 225, 226, 227, 228, 200, 201, 202, 970, 971, 972, 973, 974, 975, 976, 977, 978, 979, 980, 981, 982] (by decide +kernel) (by decide +kernel)
set_option maxRecDepth 20000 in
theorem gL_law_X7_member : GoodIn wsL_law (wsV RL 122 RX7 yX7_member wsX7_member) := goodIn_app (goodIn_of _ (by decide +kernel)) ggL_law_X7_member
set_option maxRecDepth 20000 in
theorem ggL_law_L_stripeAt : GoodIn wsL_law wsL_stripeAt := goodIn_ca (goodIn_r _ [536, 113, 537, 538, 539, 2, 540, 119, 120, 16, 307, 308, 309, 454, 455, 456, 401, 57, 15, 58, 541, 542, 543, 544, 37, 52, 53, 54, 35, 55, 48, 966, 967, 968, 969, 983, 984, 985, 994] (by decide +kernel) (by decide +kernel)) (goodIn_sub (fun _ h => List.mem_append_left _ (List.mem_append_left _ (List.mem_append_right _ h))) (by decide +kernel))
set_option maxRecDepth 20000 in
theorem gL_law_L_stripeAt : GoodIn wsL_law (va_wsS RL 123 yL_stripeAt wsL_stripeAt) := goodIn_app (goodIn_of _ (by decide +kernel)) ggL_law_L_stripeAt
set_option maxRecDepth 20000 in
theorem ggL_law_X7_stripeAt : GoodIn wsL_law wsX7_stripeAt := goodIn_r _ [548, 339, 340, 5, 341, 186, 187, 188, 466, 467, 468, 224, 225, 226, 227, 228, 426, 427, 428, 203, 204, 205, 200, 201, 202, 970, 971, 972, 973, 974, 975, 976, 977, 978, 979, 980, 981, 982] (by decide +kernel) (by decide +kernel)
set_option maxRecDepth 20000 in
theorem gL_law_X7_stripeAt : GoodIn wsL_law (wsV RL 125 RX7 yX7_stripeAt wsX7_stripeAt) := goodIn_app (goodIn_of _ (by decide +kernel)) ggL_law_X7_stripeAt
set_option maxRecDepth 20000 in
theorem ggL_law_L_place : GoodIn wsL_law wsL_place := goodIn_ca (goodIn_r _ [551, 113, 552, 553, 554, 2, 555, 119, 120, 16, 520, 521, 522, 523, 524, 525, 481, 131, 132, 15, 133, 36, 52, 53, 54, 35, 55, 48, 556, 143, 144, 557, 147, 148, 966, 967, 968, 969, 983, 984, 985, 994] (by decide +kernel) (by decide +kernel)) (goodIn_sub (fun _ h => List.mem_append_left _ (List.mem_append_left _ (List.mem_append_right _ h))) (by decide +kernel))
set_option maxRecDepth 20000 in
theorem gL_law_L_place : GoodIn wsL_law (va_wsS RL 126 yL_place wsL_place) := goodIn_app (goodIn_of _ (by decide +kernel)) ggL_law_L_place
set_option maxRecDepth 20000 in
theorem ggL_law_X7_place : GoodIn wsL_law wsX7_place := goodIn_r _ [561, 531, 532, 5, 533, 186, 187, 188, 224, 225, 226, 227, 228, 197, 198, 199, 200, 201, 202, 203, 204, 205, 970, 971, 972, 973, 974, 975, 976, 977, 978, 979, 980, 981, 982] (by decide +kernel) (by decide +kernel)
set_option maxRecDepth 20000 in
theorem gL_law_X7_place : GoodIn wsL_law (wsV RL 128 RX7 yX7_place wsX7_place) := goodIn_app (goodIn_of _ (by decide +kernel)) ggL_law_X7_place
set_option maxRecDepth 20000 in
theorem ggL_law_L_unit : GoodIn wsL_law wsL_unit := goodIn_ca (goodIn_r _ [564, 113, 565, 566, 567, 2, 568, 119, 120, 307, 308, 309, 454, 455, 456, 401, 57, 15, 58, 569, 570, 571, 572, 20, 138, 139, 140, 19, 141, 76, 142, 143, 144, 145, 53, 54, 35, 55, 48, 146, 147, 148, 457, 458, 459, 460, 966, 967, 968, 969, 986, 994] (by decide +kernel) (by decide +kernel)) (goodIn_sub (fun _ h => List.mem_append_left _ (List.mem_append_left _ (List.mem_append_right _ h))) (by decide +kernel))
set_option maxRecDepth 20000 in
theorem gL_law_L_unit : GoodIn wsL_law (va_wsS RL 129 yL_unit wsL_unit) := goodIn_app (goodIn_of _ (by decide +kernel)) ggL_law_L_unit
set_option maxRecDepth 20000 in
theorem ggL_law_X7_unit : GoodIn wsL_law wsX7_unit := goodIn_r _ [576, 339, 340, 5, 341, 186, 187, 188, 466, 467, 468, 224, 225, 226, 227, 228, 577, 578, 579, 580, 105, 206, 207, 208, 209, 970, 971, 972, 973, 974, 975, 976, 977, 978, 979, 980, 981, 982] (by decide +kernel) (by decide +kernel)
set_option maxRecDepth 20000 in
theorem gL_law_X7_unit : GoodIn wsL_law (wsV RL 131 RX7 yX7_unit wsX7_unit) := goodIn_app (goodIn_of _ (by decide +kernel)) ggL_law_X7_unit
set_option maxRecDepth 20000 in
theorem ggL_law_L_peek : GoodIn wsL_law wsL_peek := goodIn_ca (goodIn_r _ [583, 113, 584, 585, 586, 2, 587, 119, 120, 16, 123, 124, 125, 126, 127, 128, 15, 129, 130, 131, 132, 133, 36, 52, 53, 54, 35, 55, 48, 588, 589, 590, 591, 20, 134, 135, 136, 137, 138, 139, 140, 19, 141, 76, 142, 143, 144, 145, 146, 147, 148, 149, 150, 151, 152, 153, 154, 155, 156, 38, 37, 457, 458, 459, 460, 592, 593, 594, 595, 966, 967, 968, 969, 983, 984, 985, 994, 986] (by decide +kernel) (by decide +kernel)) (goodIn_sub (fun _ h => List.mem_append_left _ (List.mem_append_left _ (List.mem_append_right _ h))) (by decide +kernel))
set_option maxRecDepth 20000 in
theorem gL_law_L_peek : GoodIn wsL_law (va_wsS RL 132 yL_peek wsL_peek) := goodIn_app (goodIn_of _ (by decide +kernel)) ggL_law_L_peek
set_option maxRecDepth 20000 in
theorem ggL_law_X7_peek : GoodIn wsL_law wsX7_peek := goodIn_r _ [599, 183, 184, 5, 185, 186, 187, 188, 224, 225, 226, 227, 228, 189, 190, 191, 192, 193, 194, 195, 196, 197, 198, 199, 200, 201, 202, 203, 204, 205, 206, 207, 208, 209, 105, 210, 211, 212, 213, 214, 215, 216, 217, 218, 219, 220, 221, 222, 223, 970, 971, 972, 973, 974, 975, 976, 977, 978, 979, 980, 981, 982] (by decide +kernel) (by decide +kernel)
set_option maxRecDepth 20000 in
theorem gL_law_X7_peek : GoodIn wsL_law (wsV RL 134 RX7 yX7_peek wsX7_peek) := goodIn_app (goodIn_of _ (by decide +kernel)) ggL_law_X7_peek
set_option maxRecDepth 20000 in
theorem ggL_law_X6_lost : GoodIn wsL_law wsX6_lost := goodIn_r _ [603, 327, 328, 329, 2, 330, 16, 126, 127, 128, 15, 129, 130, 131, 132, 133, 36, 52, 53, 54, 35, 55, 48, 134, 135, 136, 137, 20, 138, 139, 140, 19, 141, 76, 142, 143, 144, 145, 146, 147, 148, 149, 150, 151, 152, 153, 154, 155, 156, 38, 37, 966, 967, 968, 969, 983, 984, 985, 994, 986] (by decide +kernel) (by decide +kernel)
set_option maxRecDepth 20000 in
theorem gL_law_X6_lost : GoodIn wsL_law (wsV RL 135 RX6 yX6_lost wsX6_lost) := goodIn_app (goodIn_of _ (by decide +kernel)) ggL_law_X6_lost
set_option maxRecDepth 20000 in
theorem ggL_law_X7_lost : GoodIn wsL_law wsX7_lost := goodIn_r _ [607, 346, 347, 348, 5, 349, 189, 190, 191, 192, 193, 194, 195, 196, 197, 198, 199, 200, 201, 202, 203, 204, 205, 206, 207, 208, 209, 105, 210, 211, 212, 213, 214, 215, 216, 217, 218, 219, 220, 221, 222, 223, 608, 609, 610, 611, 228, 970, 971, 972, 973, 974, 975, 976, 977, 978, 979, 980, 981, 982] (by decide +kernel) (by decide +kernel)
set_option maxRecDepth 20000 in
theorem gL_law_X7_lost : GoodIn wsL_law (wsV RL 138 RX7 yX7_lost wsX7_lost) := goodIn_app (goodIn_of _ (by decide +kernel)) ggL_law_X7_lost
set_option maxRecDepth 20000 in
theorem ggL_law_X6_wrong : GoodIn wsL_law wsX6_wrong := goodIn_r _ [615, 616, 617, 618, 2, 619, 16, 20, 481, 131, 132, 15, 133, 36, 52, 53, 54, 35, 55, 48, 477, 478, 479, 480, 138, 139, 140, 19, 141, 76, 142, 143, 144, 145, 146, 147, 148, 149, 150, 151, 152, 153, 154, 155, 156, 38, 37, 457, 458, 459, 460, 592, 593, 594, 595, 966, 967, 968, 969, 983, 984, 985, 994, 986] (by decide +kernel) (by decide +kernel)
set_option maxRecDepth 20000 in
theorem gL_law_X6_wrong : GoodIn wsL_law (wsV RL 139 RX6 yX6_wrong wsX6_wrong) := goodIn_app (goodIn_of _ (by decide +kernel)) ggL_law_X6_wrong
set_option maxRecDepth 20000 in
theorem ggL_law_X7_wrong : GoodIn wsL_law wsX7_wrong := goodIn_r _ [623, 624, 625, 626, 5, 627, 498, 499, 500, 501, 494, 495, 496, 497, 193, 194, 195, 196, 197, 198, 199, 200, 201, 202, 203, 204, 205, 206, 207, 208, 209, 105, 210, 211, 212, 213, 608, 609, 610, 611, 228, 970, 971, 972, 973, 974, 975, 976, 977, 978, 979, 980, 981, 982] (by decide +kernel) (by decide +kernel)
set_option maxRecDepth 20000 in
theorem gL_law_X7_wrong : GoodIn wsL_law (wsV RL 142 RX7 yX7_wrong wsX7_wrong) := goodIn_app (goodIn_of _ (by decide +kernel)) ggL_law_X7_wrong
set_option maxRecDepth 20000 in
theorem ggL_law_X6_spares : GoodIn wsL_law wsX6_spares := goodIn_r _ [631, 20, 361, 362, 363, 19, 364, 76, 145, 53, 54, 35, 55, 48, 966, 967, 968, 969, 986, 994] (by decide +kernel) (by decide +kernel)
set_option maxRecDepth 20000 in
theorem gL_law_X6_spares : GoodIn wsL_law (wsV RL 143 RX6 yX6_spares wsX6_spares) := goodIn_app (goodIn_of _ (by decide +kernel)) ggL_law_X6_spares
set_option maxRecDepth 20000 in
theorem ggL_law_X7_spares : GoodIn wsL_law wsX7_spares := goodIn_r _ [635, 105, 608, 609, 610, 5, 611, 228, 970, 971, 972, 973, 974, 975, 976, 977, 978, 979, 980, 981, 982] (by decide +kernel) (by decide +kernel)
set_option maxRecDepth 20000 in
theorem gL_law_X7_spares : GoodIn wsL_law (wsV RL 146 RX7 yX7_spares wsX7_spares) := goodIn_app (goodIn_of _ (by decide +kernel)) ggL_law_X7_spares
set_option maxRecDepth 20000 in
theorem ggL_law_X6_losses : GoodIn wsL_law wsX6_losses := goodIn_r _ [639, 20, 640, 641, 642, 19, 643, 76, 145, 53, 54, 35, 55, 48, 966, 967, 968, 969, 986, 994] (by decide +kernel) (by decide +kernel)
set_option maxRecDepth 20000 in
theorem gL_law_X6_losses : GoodIn wsL_law (wsV RL 147 RX6 yX6_losses wsX6_losses) := goodIn_app (goodIn_of _ (by decide +kernel)) ggL_law_X6_losses
set_option maxRecDepth 20000 in
theorem ggL_law_X7_losses : GoodIn wsL_law wsX7_losses := goodIn_r _ [647, 105, 608, 609, 610, 5, 611, 228, 970, 971, 972, 973, 974, 975, 976, 977, 978, 979, 980, 981, 982] (by decide +kernel) (by decide +kernel)
set_option maxRecDepth 20000 in
theorem gL_law_X7_losses : GoodIn wsL_law (wsV RL 150 RX7 yX7_losses wsX7_losses) := goodIn_app (goodIn_of _ (by decide +kernel)) ggL_law_X7_losses
set_option maxRecDepth 20000 in
theorem ggL_law_L_reads : GoodIn wsL_law wsL_reads := goodIn_ca (goodIn_r _ [650, 113, 651, 652, 653, 2, 654, 119, 120, 20, 307, 308, 309, 655, 656, 657, 19, 658, 76, 145, 53, 54, 35, 55, 48, 966, 967, 968, 969, 986, 994] (by decide +kernel) (by decide +kernel)) (goodIn_sub (fun _ h => List.mem_append_left _ (List.mem_append_left _ (List.mem_append_right _ h))) (by decide +kernel))
set_option maxRecDepth 20000 in
theorem gL_law_L_reads : GoodIn wsL_law (va_wsS RL 151 yL_reads wsL_reads) := goodIn_app (goodIn_of _ (by decide +kernel)) ggL_law_L_reads
set_option maxRecDepth 20000 in
theorem ggL_law_X7_reads : GoodIn wsL_law wsX7_reads := goodIn_r _ [662, 105, 339, 340, 5, 341, 186, 187, 188, 224, 225, 226, 227, 228, 970, 971, 972, 973, 974, 975, 976, 977, 978, 979, 980, 981, 982] (by decide +kernel) (by decide +kernel)
set_option maxRecDepth 20000 in
theorem gL_law_X7_reads : GoodIn wsL_law (wsV RL 153 RX7 yX7_reads wsX7_reads) := goodIn_app (goodIn_of _ (by decide +kernel)) ggL_law_X7_reads
set_option maxRecDepth 20000 in
theorem ggL_law_L_writes : GoodIn wsL_law wsL_writes := goodIn_ca (goodIn_r _ [665, 113, 666, 667, 668, 2, 669, 119, 120, 20, 307, 308, 309, 670, 671, 672, 19, 673, 76, 145, 53, 54, 35, 55, 48, 966, 967, 968, 969, 986, 994] (by decide +kernel) (by decide +kernel)) (goodIn_sub (fun _ h => List.mem_append_left _ (List.mem_append_left _ (List.mem_append_right _ h))) (by decide +kernel))
set_option maxRecDepth 20000 in
theorem gL_law_L_writes : GoodIn wsL_law (va_wsS RL 154 yL_writes wsL_writes) := goodIn_app (goodIn_of _ (by decide +kernel)) ggL_law_L_writes
set_option maxRecDepth 20000 in
theorem ggL_law_X7_writes : GoodIn wsL_law wsX7_writes := goodIn_r _ [677, 105, 339, 340, 5, 341, 186, 187, 188, 224, 225, 226, 227, 228, 970, 971, 972, 973, 974, 975, 976, 977, 978, 979, 980, 981, 982] (by decide +kernel) (by decide +kernel)
set_option maxRecDepth 20000 in
theorem gL_law_X7_writes : GoodIn wsL_law (wsV RL 156 RX7 yX7_writes wsX7_writes) := goodIn_app (goodIn_of _ (by decide +kernel)) ggL_law_X7_writes
set_option maxRecDepth 20000 in
theorem ggL_law_X6_balance : GoodIn wsL_law wsX6_balance := goodIn_r _ [681, 20, 682, 164, 45, 165, 683, 44, 46, 655, 656, 657, 19, 658, 76, 145, 53, 54, 35, 55, 48, 966, 967, 968, 969, 986, 994] (by decide +kernel) (by decide +kernel)
set_option maxRecDepth 20000 in
theorem gL_law_X6_balance : GoodIn wsL_law (wsV RL 157 RX6 yX6_balance wsX6_balance) := goodIn_app (goodIn_of _ (by decide +kernel)) ggL_law_X6_balance
set_option maxRecDepth 20000 in
theorem ggL_law_X7_balance : GoodIn wsL_law wsX7_balance := goodIn_r _ [687, 228, 105, 970, 971, 972, 973, 974, 975, 976, 977, 978, 979, 980, 981, 982] (by decide +kernel) (by decide +kernel)
set_option maxRecDepth 20000 in
theorem gL_law_X7_balance : GoodIn wsL_law (wsV RL 161 RX7 yX7_balance wsX7_balance) := goodIn_app (goodIn_of _ (by decide +kernel)) ggL_law_X7_balance
set_option maxRecDepth 20000 in
theorem ggL_law_L_lostIfFailed : GoodIn wsL_law wsL_lostIfFailed := goodIn_ca (goodIn_r _ [690, 113, 691, 692, 693, 2, 694, 119, 120, 307, 308, 309, 327, 328, 329, 330, 16, 126, 127, 128, 15, 129, 130, 131, 132, 133, 36, 52, 53, 54, 35, 55, 48, 134, 135, 136, 137, 20, 138, 139, 140, 19, 141, 76, 142, 143, 144, 145, 146, 147, 148, 149, 150, 151, 152, 153, 154, 155, 156, 38, 37, 966, 967, 968, 969, 983, 984, 985, 994, 986] (by decide +kernel) (by decide +kernel)) (goodIn_sub (fun _ h => List.mem_append_left _ (List.mem_append_left _ (List.mem_append_right _ h))) (by decide +kernel))
set_option maxRecDepth 20000 in
theorem gL_law_L_lostIfFailed : GoodIn wsL_law (va_wsS RL 162 yL_lostIfFailed wsL_lostIfFailed) := goodIn_app (goodIn_of _ (by decide +kernel)) ggL_law_L_lostIfFailed
set_option maxRecDepth 20000 in
theorem ggL_law_X7_lostIfFailed : GoodIn wsL_law wsX7_lostIfFailed := goodIn_r _ [698, 339, 340, 5, 341, 186, 187, 188, 224, 225, 226, 227, 228, 699, 700, 701, 702, 105, 107, 234, 235, 236, 342, 343, 344, 345, 346, 347, 348, 349, 189, 190, 191, 192, 193, 194, 195, 196, 197, 198, 199, 200, 201, 202, 203, 204, 205, 206, 207, 208, 209, 210, 211, 212, 213, 214, 215, 216, 217, 218, 219, 220, 221, 222, 223, 970, 971, 972, 973, 974, 975, 976, 977, 978, 979, 980, 981, 982] (by decide +kernel) (by decide +kernel)
set_option maxRecDepth 20000 in
theorem gL_law_X7_lostIfFailed : GoodIn wsL_law (wsV RL 164 RX7 yX7_lostIfFailed wsX7_lostIfFailed) := goodIn_app (goodIn_of _ (by decide +kernel)) ggL_law_X7_lostIfFailed
set_option maxRecDepth 20000 in
theorem ggL_law_L_loadOf : GoodIn wsL_law wsL_loadOf := goodIn_ca (goodIn_r _ [705, 113, 706, 707, 708, 2, 709, 119, 120, 16, 307, 308, 309, 710, 711, 712, 15, 713, 714, 715, 716, 49, 50, 51, 966, 967, 968, 969] (by decide +kernel) (by decide +kernel)) (goodIn_sub (fun _ h => List.mem_append_left _ (List.mem_append_left _ (List.mem_append_right _ h))) (by decide +kernel))
set_option maxRecDepth 20000 in
theorem gL_law_L_loadOf : GoodIn wsL_law (va_wsS RL 165 yL_loadOf wsL_loadOf) := goodIn_app (goodIn_of _ (by decide +kernel)) ggL_law_L_loadOf
set_option maxRecDepth 20000 in
theorem ggL_law_X7_loadOf : GoodIn wsL_law wsX7_loadOf := goodIn_r _ [720, 339, 340, 5, 341, 186, 187, 188, 224, 225, 226, 227, 228, 203, 204, 205, 200, 201, 202, 970, 971, 972, 973, 974, 975, 976, 977, 978, 979, 980, 981, 982] (by decide +kernel) (by decide +kernel)
set_option maxRecDepth 20000 in
theorem gL_law_X7_loadOf : GoodIn wsL_law (wsV RL 167 RX7 yX7_loadOf wsX7_loadOf) := goodIn_app (goodIn_of _ (by decide +kernel)) ggL_law_X7_loadOf
set_option maxRecDepth 20000 in
theorem ggL_law_X6_worst : GoodIn wsL_law wsX6_worst := goodIn_r _ [724, 725, 726, 727, 2, 728, 20, 327, 328, 329, 330, 16, 126, 127, 128, 15, 129, 130, 131, 132, 133, 36, 52, 53, 54, 35, 55, 48, 134, 135, 136, 137, 138, 139, 140, 19, 141, 76, 142, 143, 144, 145, 146, 147, 148, 149, 150, 151, 152, 153, 154, 155, 156, 38, 37, 314, 315, 316, 317, 966, 967, 968, 969, 983, 984, 985, 994, 986] (by decide +kernel) (by decide +kernel)
set_option maxRecDepth 20000 in
theorem gL_law_X6_worst : GoodIn wsL_law (wsV RL 168 RX6 yX6_worst wsX6_worst) := goodIn_app (goodIn_of _ (by decide +kernel)) ggL_law_X6_worst
set_option maxRecDepth 20000 in
theorem ggL_law_X7_worst : GoodIn wsL_law wsX7_worst := goodIn_r _ [732, 733, 734, 735, 5, 736, 105, 699, 700, 701, 702, 107, 234, 235, 236, 342, 343, 344, 345, 346, 347, 348, 349, 189, 190, 191, 192, 193, 194, 195, 196, 197, 198, 199, 200, 201, 202, 203, 204, 205, 206, 207, 208, 209, 210, 211, 212, 213, 214, 215, 216, 217, 218, 219, 220, 221, 222, 223, 608, 609, 610, 611, 228, 970, 971, 972, 973, 974, 975, 976, 977, 978, 979, 980, 981, 982] (by decide +kernel) (by decide +kernel)
set_option maxRecDepth 20000 in
theorem gL_law_X7_worst : GoodIn wsL_law (wsV RL 171 RX7 yX7_worst wsX7_worst) := goodIn_app (goodIn_of _ (by decide +kernel)) ggL_law_X7_worst
set_option maxRecDepth 20000 in
theorem ggL_law_L_append : GoodIn wsL_law wsL_append := goodIn_ca (goodIn_ca (goodIn_r _ [739, 248, 114, 740, 741, 742, 2, 743, 253, 254, 121, 122, 28, 744, 745, 746, 27, 747, 748, 749, 750, 751, 752, 89, 753, 68, 69, 35, 70, 48, 754, 755, 756, 757, 966, 967, 968, 969, 990, 991, 992, 993, 994] (by decide +kernel) (by decide +kernel)) (goodIn_sub (fun _ h => List.mem_append_right _ h) (by decide +kernel))) (goodIn_sub (fun _ h => List.mem_append_left _ (List.mem_append_right _ h)) (by decide +kernel))
set_option maxRecDepth 20000 in
theorem gL_law_L_append : GoodIn wsL_law (va_wsS RL 172 yL_append wsL_append) := goodIn_app (goodIn_of _ (by decide +kernel)) ggL_law_L_append
set_option maxRecDepth 20000 in
theorem ggL_law_X7_append : GoodIn wsL_law wsX7_append := goodIn_r _ [761, 762, 108, 186, 187, 5, 188, 224, 225, 226, 227, 228, 970, 971, 972, 973, 974, 975, 976, 977, 978, 979, 980, 981, 982] (by decide +kernel) (by decide +kernel)
set_option maxRecDepth 20000 in
theorem gL_law_X7_append : GoodIn wsL_law (wsV RL 174 RX7 yX7_append wsX7_append) := goodIn_app (goodIn_of _ (by decide +kernel)) ggL_law_X7_append
set_option maxRecDepth 20000 in
theorem ggL_law_X6_clearText : GoodIn wsL_law wsX6_clearText := goodIn_r _ [766, 28, 754, 755, 756, 27, 757, 748, 767, 768, 769, 770, 966, 967, 968, 969, 990, 991, 992, 993] (by decide +kernel) (by decide +kernel)
set_option maxRecDepth 20000 in
theorem gL_law_X6_clearText : GoodIn wsL_law (wsV RL 175 RX6 yX6_clearText wsX6_clearText) := goodIn_app (goodIn_of _ (by decide +kernel)) ggL_law_X6_clearText
set_option maxRecDepth 20000 in
theorem ggL_law_X7_clearText : GoodIn wsL_law wsX7_clearText := goodIn_r _ [774, 762, 608, 609, 610, 5, 611, 228, 970, 971, 972, 973, 974, 975, 976, 977, 978, 979, 980, 981, 982] (by decide +kernel) (by decide +kernel)
set_option maxRecDepth 20000 in
theorem gL_law_X7_clearText : GoodIn wsL_law (wsV RL 178 RX7 yX7_clearText wsX7_clearText) := goodIn_app (goodIn_of _ (by decide +kernel)) ggL_law_X7_clearText
set_option maxRecDepth 20000 in
theorem ggL_law_X6_firstError : GoodIn wsL_law wsX6_firstError := goodIn_r _ [778, 28, 779, 780, 781, 27, 782, 93, 748, 89, 783, 784, 785, 92, 786, 98, 787, 53, 54, 35, 55, 48, 788, 789, 790, 791, 99, 792, 793, 794, 795, 796, 100, 797, 798, 799, 800, 801, 802, 803, 804, 805, 806, 807, 808, 966, 967, 968, 969, 990, 991, 992, 993, 995, 996, 997, 998, 994] (by decide +kernel) (by decide +kernel)
set_option maxRecDepth 20000 in
theorem gL_law_X6_firstError : GoodIn wsL_law (wsV RL 179 RX6 yX6_firstError wsX6_firstError) := goodIn_app (goodIn_of _ (by decide +kernel)) ggL_law_X6_firstError
set_option maxRecDepth 20000 in
theorem ggL_law_X7_firstError : GoodIn wsL_law wsX7_firstError := goodIn_r _ [812, 762, 813, 814, 815, 816, 5, 817, 818, 819, 820, 821, 822, 108, 823, 824, 287, 825, 826, 827, 828, 829, 830, 831, 832, 833, 186, 187, 188, 834, 835, 836, 837, 838, 839, 840, 841, 842, 843, 844, 845, 283, 284, 285, 286, 183, 184, 185, 288, 289, 290, 291, 193, 194, 195, 196, 197, 198, 199, 200, 201, 202, 203, 204, 205, 206, 207, 208, 209, 105, 335, 336, 337, 338, 339, 340, 341, 374, 375, 376, 377, 846, 847, 848, 849, 292, 293, 294, 295, 237, 238, 239, 240, 210, 211, 212, 213, 296, 297, 298, 299, 342, 343, 344, 345, 346, 347, 348, 349, 189, 190, 191, 192, 214, 215, 216, 217, 218, 219, 220, 221, 222, 223, 378, 379, 380, 381, 414, 415, 416, 417, 418, 419, 420, 421, 422, 423, 424, 425, 426, 427, 428, 429, 430, 431, 490, 491, 492, 493, 494, 495, 496, 497, 498, 499, 500, 501, 608, 609, 610, 611, 228, 970, 971, 972, 973, 974, 975, 976, 977, 978, 979, 980, 981, 982] (by decide +kernel) (by decide +kernel)
set_option maxRecDepth 20000 in
theorem gL_law_X7_firstError : GoodIn wsL_law (wsV RL 182 RX7 yX7_firstError wsX7_firstError) := goodIn_app (goodIn_of _ (by decide +kernel)) ggL_law_X7_firstError
set_option maxRecDepth 20000 in
theorem ggL_law_L_run : GoodIn wsL_law wsL_run := goodIn_ca (goodIn_r _ [852, 248, 853, 854, 855, 2, 856, 253, 254, 28, 24, 20, 857, 858, 859, 27, 860, 748, 93, 861, 780, 781, 782, 89, 783, 784, 785, 92, 786, 98, 787, 53, 54, 35, 55, 48, 788, 789, 790, 791, 99, 792, 793, 794, 795, 796, 100, 797, 798, 799, 800, 801, 802, 803, 804, 805, 806, 807, 808, 862, 863, 864, 865, 157, 158, 159, 23, 160, 83, 161, 162, 163, 164, 45, 165, 166, 167, 168, 19, 169, 76, 145, 78, 68, 69, 70, 866, 867, 868, 869, 870, 871, 872, 873, 874, 875, 876, 877, 878, 879, 880, 881, 882, 883, 884, 885, 886, 887, 888, 889, 890, 259, 260, 261, 262, 16, 126, 127, 128, 15, 129, 130, 131, 132, 133, 36, 52, 134, 135, 136, 137, 138, 139, 140, 141, 142, 143, 144, 146, 147, 148, 149, 150, 151, 152, 153, 154, 155, 156, 38, 37, 310, 311, 312, 313, 314, 315, 316, 317, 357, 358, 359, 360, 361, 362, 363, 364, 891, 892, 893, 894, 895, 896, 897, 898, 263, 264, 265, 266, 267, 268, 269, 270, 271, 272, 273, 274, 170, 171, 172, 173, 174, 60, 61, 62, 275, 276, 277, 278, 318, 319, 320, 321, 322, 57, 58, 323, 324, 325, 326, 365, 366, 367, 368, 369, 389, 390, 391, 392, 393, 394, 395, 396, 397, 398, 399, 400, 401, 175, 176, 177, 178, 402, 403, 404, 405, 406, 407, 408, 409, 473, 474, 475, 476, 477, 478, 479, 480, 481, 482, 483, 484, 485, 767, 768, 769, 770, 966, 967, 968, 969, 990, 991, 992, 993, 995, 996, 997, 998, 994, 987, 988, 989, 986, 983, 984, 985] (by decide +kernel) (by decide +kernel)) (goodIn_sub (fun _ h => List.mem_append_right _ h) (by decide +kernel))
set_option maxRecDepth 20000 in
theorem gL_law_L_run : GoodIn wsL_law (va_wsS RL 183 yL_run wsL_run) := goodIn_app (goodIn_of _ (by decide +kernel)) ggL_law_L_run
set_option maxRecDepth 20000 in
theorem ggL_law_X7_run : GoodIn wsL_law wsX7_run := goodIn_r _ [902, 762, 818, 814, 815, 816, 5, 817, 813, 819, 820, 821, 822, 108, 823, 824, 287, 825, 826, 827, 828, 829, 830, 831, 832, 833, 186, 187, 188, 834, 835, 836, 837, 838, 839, 840, 841, 842, 843, 844, 845, 283, 284, 285, 286, 183, 184, 185, 288, 289, 290, 291, 193, 194, 195, 196, 197, 198, 199, 200, 201, 202, 203, 204, 205, 206, 207, 208, 209, 105, 335, 336, 337, 338, 339, 340, 341, 374, 375, 376, 377, 846, 847, 848, 849, 292, 293, 294, 295, 237, 238, 239, 240, 210, 211, 212, 213, 296, 297, 298, 299, 342, 343, 344, 345, 346, 347, 348, 349, 189, 190, 191, 192, 214, 215, 216, 217, 218, 219, 220, 221, 222, 223, 378, 379, 380, 381, 414, 415, 416, 417, 418, 419, 420, 421, 422, 423, 424, 425, 426, 427, 428, 429, 430, 431, 490, 491, 492, 493, 494, 495, 496, 497, 498, 499, 500, 501, 224, 225, 226, 227, 228, 229, 230, 231, 232, 233, 106, 234, 235, 236, 970, 971, 972, 973, 974, 975, 976, 977, 978, 979, 980, 981, 982] (by decide +kernel) (by decide +kernel)
set_option maxRecDepth 20000 in
theorem gL_law_X7_run : GoodIn wsL_law (wsV RL 185 RX7 yX7_run wsX7_run) := goodIn_app (goodIn_of _ (by decide +kernel)) ggL_law_X7_run
set_option maxRecDepth 20000 in
theorem ggL_law_L_undo : GoodIn wsL_law wsL_undo := goodIn_ca (goodIn_r _ [905, 114, 906, 907, 908, 2, 909, 121, 122, 24, 20, 910, 911, 912, 23, 913, 162, 914, 915, 916, 917, 161, 83, 918, 919, 920, 19, 921, 76, 145, 53, 54, 35, 55, 48, 78, 68, 69, 70, 966, 967, 968, 969, 987, 988, 989, 986, 994] (by decide +kernel) (by decide +kernel)) (goodIn_sub (fun _ h => List.mem_append_left _ (List.mem_append_right _ h)) (by decide +kernel))
set_option maxRecDepth 20000 in
theorem gL_law_L_undo : GoodIn wsL_law (va_wsS RL 186 yL_undo wsL_undo) := goodIn_app (goodIn_of _ (by decide +kernel)) ggL_law_L_undo
set_option maxRecDepth 20000 in
theorem ggL_law_X7_undo : GoodIn wsL_law wsX7_undo := goodIn_r _ [925, 233, 106, 105, 224, 225, 226, 5, 227, 228, 234, 235, 236, 970, 971, 972, 973, 974, 975, 976, 977, 978, 979, 980, 981, 982] (by decide +kernel) (by decide +kernel)
set_option maxRecDepth 20000 in
theorem gL_law_X7_undo : GoodIn wsL_law (wsV RL 188 RX7 yX7_undo wsX7_undo) := goodIn_app (goodIn_of _ (by decide +kernel)) ggL_law_X7_undo
set_option maxRecDepth 20000 in
theorem ggL_law_X6_savedStates : GoodIn wsL_law wsX6_savedStates := goodIn_r _ [929, 24, 910, 911, 912, 23, 913, 162, 966, 967, 968, 969, 987, 988, 989] (by decide +kernel) (by decide +kernel)
set_option maxRecDepth 20000 in
theorem gL_law_X6_savedStates : GoodIn wsL_law (wsV RL 189 RX6 yX6_savedStates wsX6_savedStates) := goodIn_app (goodIn_of _ (by decide +kernel)) ggL_law_X6_savedStates
set_option maxRecDepth 20000 in
theorem ggL_law_X7_savedStates : GoodIn wsL_law wsX7_savedStates := goodIn_r _ [933, 233, 608, 609, 610, 5, 611, 228, 970, 971, 972, 973, 974, 975, 976, 977, 978, 979, 980, 981, 982] (by decide +kernel) (by decide +kernel)
set_option maxRecDepth 20000 in
theorem gL_law_X7_savedStates : GoodIn wsL_law (wsV RL 192 RX7 yX7_savedStates wsX7_savedStates) := goodIn_app (goodIn_of _ (by decide +kernel)) ggL_law_X7_savedStates
set_option maxRecDepth 20000 in
theorem ggL_law_X6_digest : GoodIn wsL_law wsX6_digest := goodIn_r _ [937, 938, 20, 327, 328, 329, 2, 330, 16, 126, 127, 128, 15, 129, 130, 131, 132, 133, 36, 52, 53, 54, 35, 55, 48, 134, 135, 136, 137, 138, 139, 140, 19, 141, 76, 142, 143, 144, 145, 146, 147, 148, 149, 150, 151, 152, 153, 154, 155, 156, 38, 37, 939, 940, 941, 942, 616, 617, 618, 619, 481, 477, 478, 479, 480, 457, 458, 459, 460, 592, 593, 594, 595, 361, 362, 363, 364, 640, 641, 642, 643, 725, 726, 727, 728, 314, 315, 316, 317, 943, 944, 945, 946, 655, 656, 657, 658, 670, 671, 672, 673, 947, 948, 949, 950, 588, 589, 590, 591, 951, 952, 953, 954, 569, 570, 571, 572, 966, 967, 968, 969, 983, 984, 985, 994, 986] (by decide +kernel) (by decide +kernel)
set_option maxRecDepth 20000 in
theorem gL_law_X6_digest : GoodIn wsL_law (wsV RL 193 RX6 yX6_digest wsX6_digest) := goodIn_app (goodIn_of _ (by decide +kernel)) ggL_law_X6_digest
set_option maxRecDepth 20000 in
theorem ggL_law_X7_digest : GoodIn wsL_law wsX7_digest := goodIn_r _ [958, 228, 959, 960, 105, 346, 347, 348, 5, 349, 189, 190, 191, 192, 193, 194, 195, 196, 197, 198, 199, 200, 201, 202, 203, 204, 205, 206, 207, 208, 209, 210, 211, 212, 213, 214, 215, 216, 217, 218, 219, 220, 221, 222, 223, 961, 962, 963, 964, 965, 624, 625, 626, 627, 498, 499, 500, 501, 494, 495, 496, 497, 733, 734, 735, 736, 699, 700, 701, 702, 107, 234, 235, 236, 342, 343, 344, 345, 577, 578, 579, 580, 970, 971, 972, 973, 974, 975, 976, 977, 978, 979, 980, 981, 982] (by decide +kernel) (by decide +kernel)
set_option maxRecDepth 20000 in
theorem gL_law_X7_digest : GoodIn wsL_law (wsV RL 197 RX7 yX7_digest wsX7_digest) := goodIn_app (goodIn_of _ (by decide +kernel)) ggL_law_X7_digest
