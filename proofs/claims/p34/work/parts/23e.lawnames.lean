set_option maxRecDepth 20000 in
theorem ggL_act_L_low : GoodIn wsL_act wsL_low := goodIn_r _ [5, 6] (by decide +kernel) (by decide +kernel)
set_option maxRecDepth 20000 in
theorem gL_act_L_low : GoodIn wsL_act (va_wsS RL 104 yL_low wsL_low) := goodIn_app (goodIn_of _ (by decide +kernel)) ggL_act_L_low
set_option maxRecDepth 20000 in
theorem ggL_act_L_writes : GoodIn wsL_act wsL_writes := goodIn_ca (goodIn_ca (goodIn_ca (goodIn_r _ [9, 10, 11, 12, 4, 13, 14, 15, 16, 17, 18, 19, 20, 21, 22, 23, 24, 25, 26, 27, 28, 29, 30, 31, 32, 33, 34, 35, 36, 37, 38, 39, 40, 41, 42, 43, 44, 45, 46, 47, 48, 49, 50, 51, 52, 53, 54, 55, 56, 57, 58, 59, 60, 61, 62, 63, 64, 65, 66, 67, 68, 69, 70, 71, 72, 73, 74, 75, 76, 77, 78, 79, 80, 81, 82, 83, 84, 85, 86, 87, 88, 89, 90, 91, 92, 93, 94, 95, 96, 97, 98, 99, 100, 101, 102, 103, 104, 105, 106, 107, 108, 109, 110, 111, 112, 113, 114, 115, 116, 117, 118, 119, 120, 121, 122, 123, 124, 125, 126, 127, 128, 129, 130, 131, 132, 133, 134, 135, 136, 137, 138, 139, 140, 141, 142, 143, 144, 145, 146, 147, 148, 149, 150, 151, 152, 153, 154, 155, 156, 157, 158, 159, 160, 161, 162, 163, 164, 165, 166, 327, 328, 329, 330, 331, 332, 333, 334, 335, 336, 337, 338] (by decide +kernel) (by decide +kernel)) (goodIn_sub (fun _ h => List.mem_cons_of_mem _ (List.mem_append_left _ (List.mem_append_left _ (List.mem_append_right _ h)))) (by decide +kernel))) (goodIn_sub (fun _ h => List.mem_cons_of_mem _ (List.mem_append_left _ (List.mem_append_right _ h))) (by decide +kernel))) (goodIn_sub (fun _ h => List.mem_cons_of_mem _ (List.mem_append_right _ h)) (by decide +kernel))
set_option maxRecDepth 20000 in
theorem gL_act_L_writes : GoodIn wsL_act (va_wsS RL 108 yL_writes wsL_writes) := goodIn_app (goodIn_of _ (by decide +kernel)) ggL_act_L_writes
set_option maxRecDepth 20000 in
theorem ggL_act_X6_peek : GoodIn wsL_act wsX6_peek := goodIn_ca (goodIn_r _ [48, 19, 20, 49, 50, 51, 17, 52, 53, 54, 55, 56, 57, 58, 59, 60, 61, 62, 63, 32, 33, 34, 35, 36, 64, 65, 66, 67, 21, 68, 69, 70, 71, 72, 73, 74, 28, 75, 30, 76, 77, 78, 31, 79, 80, 81, 82, 83, 84, 85, 86, 87, 88, 89, 90, 91, 92, 93, 94, 95, 96, 97, 98, 99, 327, 328, 329, 330, 333, 334, 335, 332, 331] (by decide +kernel) (by decide +kernel)) (goodIn_sub (fun _ h => List.mem_cons_of_mem _ (List.mem_append_left _ (List.mem_append_left _ (List.mem_append_right _ h)))) (by decide +kernel))
set_option maxRecDepth 20000 in
theorem gL_act_X6_peek : GoodIn wsL_act (wsV RL 68 RX6 yX6_peek wsX6_peek) := goodIn_app (goodIn_of _ (by decide +kernel)) ggL_act_X6_peek
set_option maxRecDepth 20000 in
theorem ggL_act_L_counted : GoodIn wsL_act wsL_counted := goodIn_ca (goodIn_r _ [13, 14, 15, 16, 17, 18, 19, 20, 21, 22, 23, 24, 25, 26, 27, 28, 29, 30, 31, 32, 33, 34, 35, 36, 37, 38, 39, 40, 41, 42, 43, 44, 327, 328, 329, 330, 331, 332] (by decide +kernel) (by decide +kernel)) (goodIn_sub (fun _ h => List.mem_cons_of_mem _ (List.mem_append_left _ (List.mem_append_left _ (List.mem_append_right _ h)))) (by decide +kernel))
set_option maxRecDepth 20000 in
theorem gL_act_L_counted : GoodIn wsL_act (va_wsS RL 87 yL_counted wsL_counted) := goodIn_app (goodIn_of _ (by decide +kernel)) ggL_act_L_counted
set_option maxRecDepth 20000 in
theorem ggL_act_L_tryRead : GoodIn wsL_act wsL_tryRead := goodIn_ca (goodIn_ca (goodIn_r _ [169, 103, 105, 170, 171, 172, 17, 173, 19, 20, 112, 113, 49, 114, 21, 50, 51, 52, 53, 54, 55, 56, 57, 58, 59, 60, 61, 62, 63, 32, 33, 34, 35, 36, 68, 69, 70, 71, 72, 73, 74, 28, 75, 30, 76, 77, 78, 31, 79, 80, 81, 82, 83, 84, 85, 86, 87, 88, 89, 90, 91, 123, 124, 125, 126, 127, 128, 129, 130, 131, 132, 133, 134, 135, 136, 137, 138, 139, 140, 141, 142, 155, 156, 157, 158, 159, 160, 161, 162, 174, 175, 176, 177, 327, 328, 329, 330, 333, 334, 335, 332, 331, 336, 337, 338] (by decide +kernel) (by decide +kernel)) (goodIn_sub (fun _ h => List.mem_cons_of_mem _ (List.mem_append_left _ (List.mem_append_left _ (List.mem_append_right _ h)))) (by decide +kernel))) (goodIn_sub (fun _ h => List.mem_cons_of_mem _ (List.mem_append_right _ h)) (by decide +kernel))
set_option maxRecDepth 20000 in
theorem gL_act_L_tryRead : GoodIn wsL_act (va_wsS RL 111 yL_tryRead wsL_tryRead) := goodIn_app (goodIn_of _ (by decide +kernel)) ggL_act_L_tryRead
set_option maxRecDepth 20000 in
theorem ggL_act_X6_lostIfFailed : GoodIn wsL_act wsX6_lostIfFailed := goodIn_ca (goodIn_r _ [181, 19, 20, 22, 23, 17, 24, 182, 183, 184, 185, 49, 53, 54, 55, 56, 57, 58, 59, 60, 61, 62, 63, 32, 33, 34, 35, 36, 68, 69, 70, 71, 21, 72, 73, 74, 28, 75, 30, 76, 77, 78, 31, 79, 80, 81, 82, 83, 84, 85, 86, 87, 88, 89, 90, 91, 327, 328, 329, 330, 333, 334, 335, 332, 331] (by decide +kernel) (by decide +kernel)) (goodIn_sub (fun _ h => List.mem_cons_of_mem _ (List.mem_append_left _ (List.mem_append_left _ (List.mem_append_right _ h)))) (by decide +kernel))
set_option maxRecDepth 20000 in
theorem gL_act_X6_lostIfFailed : GoodIn wsL_act (wsV RL 61 RX6 yX6_lostIfFailed wsX6_lostIfFailed) := goodIn_app (goodIn_of _ (by decide +kernel)) ggL_act_X6_lostIfFailed
set_option maxRecDepth 20000 in
theorem ggL_act_X6_state : GoodIn wsL_act wsX6_state := goodIn_ca (goodIn_r _ [189, 19, 20, 21, 22, 23, 17, 24, 190, 191, 192, 28, 193, 30, 31, 32, 33, 34, 35, 36, 327, 328, 329, 330, 331, 332] (by decide +kernel) (by decide +kernel)) (goodIn_sub (fun _ h => List.mem_cons_of_mem _ (List.mem_append_left _ (List.mem_append_left _ (List.mem_append_right _ h)))) (by decide +kernel))
set_option maxRecDepth 20000 in
theorem gL_act_X6_state : GoodIn wsL_act (wsV RL 42 RX6 yX6_state wsX6_state) := goodIn_app (goodIn_of _ (by decide +kernel)) ggL_act_X6_state
set_option maxRecDepth 20000 in
theorem ggL_act_L_unsound : GoodIn wsL_act wsL_unsound := goodIn_ca (goodIn_r _ [196, 186, 187, 188, 17, 189, 19, 20, 21, 22, 23, 24, 190, 191, 192, 28, 193, 30, 31, 32, 33, 34, 35, 36, 327, 328, 329, 330, 331, 332] (by decide +kernel) (by decide +kernel)) (goodIn_sub (fun _ h => List.mem_cons_of_mem _ (List.mem_append_left _ (List.mem_append_left _ (List.mem_append_right _ h)))) (by decide +kernel))
set_option maxRecDepth 20000 in
theorem gL_act_L_unsound : GoodIn wsL_act (va_wsS RL 114 yL_unsound wsL_unsound) := goodIn_app (goodIn_of _ (by decide +kernel)) ggL_act_L_unsound
set_option maxRecDepth 20000 in
theorem ggL_act_L_tryFail : GoodIn wsL_act wsL_tryFail := goodIn_ca (goodIn_ca (goodIn_r _ [199, 103, 105, 200, 201, 202, 17, 203, 19, 20, 112, 113, 114, 21, 22, 23, 24, 204, 205, 206, 207, 190, 191, 192, 28, 193, 30, 31, 32, 33, 34, 35, 36, 123, 124, 125, 126, 127, 128, 129, 130, 131, 132, 133, 134, 135, 136, 137, 138, 139, 140, 141, 142, 208, 209, 210, 211, 212, 213, 56, 214, 215, 216, 217, 218, 182, 183, 184, 185, 49, 53, 54, 55, 57, 58, 59, 60, 61, 62, 63, 68, 69, 70, 71, 72, 73, 74, 75, 76, 77, 78, 79, 80, 81, 82, 83, 84, 85, 86, 87, 88, 89, 90, 91, 327, 328, 329, 330, 331, 332, 336, 337, 338, 333, 334, 335] (by decide +kernel) (by decide +kernel)) (goodIn_sub (fun _ h => List.mem_cons_of_mem _ (List.mem_append_left _ (List.mem_append_left _ (List.mem_append_right _ h)))) (by decide +kernel))) (goodIn_sub (fun _ h => List.mem_cons_of_mem _ (List.mem_append_right _ h)) (by decide +kernel))
set_option maxRecDepth 20000 in
theorem gL_act_L_tryFail : GoodIn wsL_act (va_wsS RL 117 yL_tryFail wsL_tryFail) := goodIn_app (goodIn_of _ (by decide +kernel)) ggL_act_L_tryFail
set_option maxRecDepth 20000 in
theorem ggL_act_X6_lost : GoodIn wsL_act wsX6_lost := goodIn_r _ [222, 182, 183, 184, 17, 185, 49, 53, 54, 55, 56, 57, 58, 59, 60, 61, 62, 63, 32, 33, 34, 35, 36, 68, 69, 70, 71, 21, 72, 73, 74, 28, 75, 30, 76, 77, 78, 31, 79, 80, 81, 82, 83, 84, 85, 86, 87, 88, 89, 90, 91, 327, 328, 329, 330, 333, 334, 335, 332, 331] (by decide +kernel) (by decide +kernel)
set_option maxRecDepth 20000 in
theorem gL_act_X6_lost : GoodIn wsL_act (wsV RL 64 RX6 yX6_lost wsX6_lost) := goodIn_app (goodIn_of _ (by decide +kernel)) ggL_act_X6_lost
set_option maxRecDepth 20000 in
theorem ggL_act_L_mends : GoodIn wsL_act wsL_mends := goodIn_ca (goodIn_ca (goodIn_ca (goodIn_r _ [225, 186, 187, 188, 17, 189, 19, 20, 21, 22, 23, 24, 190, 191, 192, 28, 193, 30, 31, 32, 33, 34, 35, 36, 226, 227, 228, 229, 230, 231, 232, 233, 234, 235, 4, 236, 103, 105, 237, 238, 239, 240, 112, 113, 114, 241, 242, 243, 244, 123, 124, 125, 126, 127, 128, 129, 130, 131, 132, 133, 134, 135, 136, 137, 138, 139, 140, 141, 142, 245, 246, 247, 248, 249, 250, 251, 252, 253, 110, 111, 254, 255, 256, 257, 258, 259, 260, 261, 262, 263, 264, 265, 266, 213, 56, 214, 82, 83, 84, 85, 49, 86, 87, 88, 89, 90, 62, 91, 63, 72, 73, 74, 75, 76, 77, 78, 79, 80, 81, 174, 175, 176, 177, 155, 156, 157, 158, 159, 160, 161, 162, 163, 164, 165, 166, 267, 268, 269, 270, 271, 272, 273, 274, 327, 328, 329, 330, 331, 332, 336, 337, 338, 333, 334, 335] (by decide +kernel) (by decide +kernel)) (goodIn_sub (fun _ h => List.mem_cons_of_mem _ (List.mem_append_left _ (List.mem_append_left _ (List.mem_append_right _ h)))) (by decide +kernel))) (goodIn_sub (fun _ h => List.mem_cons_of_mem _ (List.mem_append_right _ h)) (by decide +kernel))) (goodIn_sub (fun _ h => List.mem_cons_of_mem _ (List.mem_append_left _ (List.mem_append_right _ h))) (by decide +kernel))
set_option maxRecDepth 20000 in
theorem gL_act_L_mends : GoodIn wsL_act (va_wsS RL 120 yL_mends wsL_mends) := goodIn_app (goodIn_of _ (by decide +kernel)) ggL_act_L_mends
set_option maxRecDepth 20000 in
theorem ggL_act_X6_mend : GoodIn wsL_act wsX6_mend := goodIn_ca (goodIn_r _ [253, 110, 111, 114, 21, 123, 124, 125, 126, 127, 128, 129, 130, 131, 132, 133, 134, 135, 136, 137, 28, 138, 30, 31, 32, 33, 34, 35, 36, 139, 140, 141, 142, 254, 255, 256, 17, 257, 258, 259, 260, 261, 190, 191, 192, 193, 262, 263, 264, 265, 266, 213, 56, 214, 82, 83, 84, 85, 49, 86, 87, 88, 89, 90, 62, 91, 63, 72, 73, 74, 75, 76, 77, 78, 79, 80, 81, 174, 175, 176, 177, 155, 156, 157, 158, 159, 160, 161, 162, 163, 164, 165, 166, 267, 268, 269, 270, 271, 272, 273, 274, 327, 328, 329, 330, 336, 337, 338, 331, 332, 333, 334, 335] (by decide +kernel) (by decide +kernel)) (goodIn_sub (fun _ h => List.mem_cons_of_mem _ (List.mem_append_left _ (List.mem_append_right _ h))) (by decide +kernel))
set_option maxRecDepth 20000 in
theorem gL_act_X6_mend : GoodIn wsL_act (wsV RL 101 RX6 yX6_mend wsX6_mend) := goodIn_app (goodIn_of _ (by decide +kernel)) ggL_act_X6_mend
set_option maxRecDepth 20000 in
theorem ggL_act_X6_spares : GoodIn wsL_act wsX6_spares := goodIn_r _ [229, 21, 230, 231, 232, 28, 233, 30, 31, 32, 33, 34, 35, 36, 327, 328, 329, 330, 331, 332] (by decide +kernel) (by decide +kernel)
set_option maxRecDepth 20000 in
theorem gL_act_X6_spares : GoodIn wsL_act (wsV RL 77 RX6 yX6_spares wsX6_spares) := goodIn_app (goodIn_of _ (by decide +kernel)) ggL_act_X6_spares
set_option maxRecDepth 20000 in
theorem ggL_act_X6_addSpare : GoodIn wsL_act wsX6_addSpare := goodIn_ca (goodIn_r _ [278, 112, 113, 21, 114, 230, 231, 232, 28, 233, 30, 31, 32, 33, 34, 35, 36, 123, 124, 125, 126, 127, 128, 129, 130, 131, 132, 133, 134, 135, 136, 137, 138, 139, 140, 141, 142, 279, 280, 281, 282, 159, 160, 161, 162, 327, 328, 329, 330, 331, 332, 336, 337, 338] (by decide +kernel) (by decide +kernel)) (goodIn_sub (fun _ h => List.mem_cons_of_mem _ (List.mem_append_right _ h)) (by decide +kernel))
set_option maxRecDepth 20000 in
theorem gL_act_X6_addSpare : GoodIn wsL_act (wsV RL 124 RX6 yX6_addSpare wsX6_addSpare) := goodIn_app (goodIn_of _ (by decide +kernel)) ggL_act_X6_addSpare
set_option maxRecDepth 20000 in
theorem ggL_act_X6_unit : GoodIn wsL_act wsX6_unit := goodIn_ca (goodIn_r _ [286, 19, 20, 22, 23, 17, 24, 287, 288, 289, 266, 213, 56, 214, 290, 291, 292, 293, 21, 72, 73, 74, 28, 75, 30, 76, 77, 78, 31, 32, 33, 34, 35, 36, 79, 80, 81, 92, 93, 94, 95, 327, 328, 329, 330, 331, 332] (by decide +kernel) (by decide +kernel)) (goodIn_sub (fun _ h => List.mem_cons_of_mem _ (List.mem_append_left _ (List.mem_append_left _ (List.mem_append_right _ h)))) (by decide +kernel))
set_option maxRecDepth 20000 in
theorem gL_act_X6_unit : GoodIn wsL_act (wsV RL 57 RX6 yX6_unit wsX6_unit) := goodIn_app (goodIn_of _ (by decide +kernel)) ggL_act_X6_unit
set_option maxRecDepth 20000 in
theorem ggL_act_L_tryCorrupt : GoodIn wsL_act wsL_tryCorrupt := goodIn_ca (goodIn_ca (goodIn_ca (goodIn_r _ [296, 103, 104, 105, 297, 298, 299, 17, 300, 19, 20, 110, 111, 112, 113, 21, 114, 22, 23, 24, 287, 288, 289, 115, 116, 117, 118, 266, 213, 56, 214, 72, 73, 74, 28, 75, 30, 76, 77, 78, 31, 32, 33, 34, 35, 36, 79, 80, 81, 123, 124, 125, 126, 127, 128, 129, 130, 131, 132, 133, 134, 135, 136, 137, 138, 139, 140, 141, 142, 92, 93, 94, 95, 301, 216, 217, 218, 327, 328, 329, 330, 331, 332, 336, 337, 338] (by decide +kernel) (by decide +kernel)) (goodIn_sub (fun _ h => List.mem_cons_of_mem _ (List.mem_append_left _ (List.mem_append_left _ (List.mem_append_right _ h)))) (by decide +kernel))) (goodIn_sub (fun _ h => List.mem_cons_of_mem _ (List.mem_append_left _ (List.mem_append_right _ h))) (by decide +kernel))) (goodIn_sub (fun _ h => List.mem_cons_of_mem _ (List.mem_append_right _ h)) (by decide +kernel))
set_option maxRecDepth 20000 in
theorem gL_act_L_tryCorrupt : GoodIn wsL_act (va_wsS RL 127 yL_tryCorrupt wsL_tryCorrupt) := goodIn_app (goodIn_of _ (by decide +kernel)) ggL_act_L_tryCorrupt
set_option maxRecDepth 20000 in
theorem ggL_act_X6_wrong : GoodIn wsL_act wsX6_wrong := goodIn_r _ [305, 306, 307, 308, 17, 309, 49, 21, 310, 59, 60, 56, 61, 62, 63, 32, 33, 34, 35, 36, 311, 312, 313, 314, 72, 73, 74, 28, 75, 30, 76, 77, 78, 31, 79, 80, 81, 82, 83, 84, 85, 86, 87, 88, 89, 90, 91, 92, 93, 94, 95, 96, 97, 98, 99, 327, 328, 329, 330, 333, 334, 335, 332, 331] (by decide +kernel) (by decide +kernel)
set_option maxRecDepth 20000 in
theorem gL_act_X6_wrong : GoodIn wsL_act (wsV RL 74 RX6 yX6_wrong wsX6_wrong) := goodIn_app (goodIn_of _ (by decide +kernel)) ggL_act_X6_wrong
set_option maxRecDepth 20000 in
theorem ggL_act_X6_scrub : GoodIn wsL_act wsX6_scrub := goodIn_r _ [318, 114, 21, 123, 124, 125, 126, 127, 128, 129, 130, 131, 132, 133, 134, 135, 136, 137, 28, 138, 30, 31, 32, 33, 34, 35, 36, 139, 140, 141, 142, 319, 320, 321, 17, 322, 49, 311, 312, 313, 314, 310, 59, 60, 56, 61, 62, 63, 72, 73, 74, 75, 76, 77, 78, 79, 80, 81, 82, 83, 84, 85, 86, 87, 88, 89, 90, 91, 323, 324, 325, 326, 174, 175, 176, 177, 155, 156, 157, 158, 159, 160, 161, 162, 163, 164, 165, 166, 327, 328, 329, 330, 336, 337, 338, 331, 332, 333, 334, 335] (by decide +kernel) (by decide +kernel)
set_option maxRecDepth 20000 in
theorem gL_act_X6_scrub : GoodIn wsL_act (wsV RL 131 RX6 yX6_scrub wsX6_scrub) := goodIn_app (goodIn_of _ (by decide +kernel)) ggL_act_X6_scrub
theorem dL_act_0 : decode cL_act 0 = .ok (.iload_n 1, 1) := by decide +kernel
theorem dL_act_1 : decode cL_act 1 = .ok (.bipush 20, 2) := by decide +kernel
theorem dL_act_3 : decode cL_act 3 = .ok (.invokestatic 104, 3) := by decide +kernel
theorem dL_act_6 : decode cL_act 6 = .ok (.istore 5, 2) := by decide +kernel
theorem dL_act_8 : decode cL_act 8 = .ok (.iload_n 2, 1) := by decide +kernel
theorem dL_act_9 : decode cL_act 9 = .ok (.bipush 42, 2) := by decide +kernel
theorem dL_act_11 : decode cL_act 11 = .ok (.invokestatic 104, 3) := by decide +kernel
theorem dL_act_14 : decode cL_act 14 = .ok (.istore 6, 2) := by decide +kernel
theorem dL_act_16 : decode cL_act 16 = .ok (.iload_n 2, 1) := by decide +kernel
theorem dL_act_17 : decode cL_act 17 = .ok (.bipush 7, 2) := by decide +kernel
theorem dL_act_19 : decode cL_act 19 = .ok (.invokestatic 104, 3) := by decide +kernel
theorem dL_act_22 : decode cL_act 22 = .ok (.istore 7, 2) := by decide +kernel
theorem dL_act_24 : decode cL_act 24 = .ok (.iload 5, 2) := by decide +kernel
theorem dL_act_26 : decode cL_act 26 = .ok (.bipush 8, 2) := by decide +kernel
theorem dL_act_28 : decode cL_act 28 = .ok (.if_icmp .ge 22, 3) := by decide +kernel
theorem dL_act_31 : decode cL_act 31 = .ok (.aload_n 0, 1) := by decide +kernel
theorem dL_act_32 : decode cL_act 32 = .ok (.iload 6, 2) := by decide +kernel
theorem dL_act_34 : decode cL_act 34 = .ok (.iload_n 2, 1) := by decide +kernel
theorem dL_act_35 : decode cL_act 35 = .ok (.bipush 6, 2) := by decide +kernel
theorem dL_act_37 : decode cL_act 37 = .ok (.ishr, 1) := by decide +kernel
theorem dL_act_38 : decode cL_act 38 = .ok (.ldc 107, 2) := by decide +kernel
theorem dL_act_40 : decode cL_act 40 = .ok (.invokestatic 104, 3) := by decide +kernel
theorem dL_act_43 : decode cL_act 43 = .ok (.aload_n 3, 1) := by decide +kernel
theorem dL_act_44 : decode cL_act 44 = .ok (.aload 4, 2) := by decide +kernel
theorem dL_act_46 : decode cL_act 46 = .ok (.invokestatic 108, 3) := by decide +kernel
theorem dL_act_49 : decode cL_act 49 = .ok (.ireturn, 1) := by decide +kernel
theorem dL_act_50 : decode cL_act 50 = .ok (.iload 5, 2) := by decide +kernel
theorem dL_act_52 : decode cL_act 52 = .ok (.bipush 8, 2) := by decide +kernel
theorem dL_act_54 : decode cL_act 54 = .ok (.if_icmp .ne 96, 3) := by decide +kernel
theorem dL_act_57 : decode cL_act 57 = .ok (.aload_n 0, 1) := by decide +kernel
theorem dL_act_58 : decode cL_act 58 = .ok (.iload 6, 2) := by decide +kernel
theorem dL_act_60 : decode cL_act 60 = .ok (.invokevirtual 68, 3) := by decide +kernel
theorem dL_act_63 : decode cL_act 63 = .ok (.istore 8, 2) := by decide +kernel
theorem dL_act_65 : decode cL_act 65 = .ok (.aload_n 0, 1) := by decide +kernel
theorem dL_act_66 : decode cL_act 66 = .ok (.invokestatic 87, 3) := by decide +kernel
theorem dL_act_69 : decode cL_act 69 = .ok (.istore 9, 2) := by decide +kernel
theorem dL_act_71 : decode cL_act 71 = .ok (.aload_n 0, 1) := by decide +kernel
theorem dL_act_72 : decode cL_act 72 = .ok (.iload 6, 2) := by decide +kernel
theorem dL_act_74 : decode cL_act 74 = .ok (.invokestatic 111, 3) := by decide +kernel
theorem dL_act_77 : decode cL_act 77 = .ok (.istore 10, 2) := by decide +kernel
theorem dL_act_79 : decode cL_act 79 = .ok (.aload_n 0, 1) := by decide +kernel
theorem dL_act_80 : decode cL_act 80 = .ok (.invokestatic 87, 3) := by decide +kernel
theorem dL_act_83 : decode cL_act 83 = .ok (.iload 9, 2) := by decide +kernel
theorem dL_act_85 : decode cL_act 85 = .ok (.isub, 1) := by decide +kernel
theorem dL_act_86 : decode cL_act 86 = .ok (.istore 11, 2) := by decide +kernel
theorem dL_act_88 : decode cL_act 88 = .ok (.iload 8, 2) := by decide +kernel
theorem dL_act_90 : decode cL_act 90 = .ok (.iconst (-1), 1) := by decide +kernel
theorem dL_act_91 : decode cL_act 91 = .ok (.if_icmp .ne 24, 3) := by decide +kernel
theorem dL_act_94 : decode cL_act 94 = .ok (.iload 10, 2) := by decide +kernel
theorem dL_act_96 : decode cL_act 96 = .ok (.sipush (-7002), 3) := by decide +kernel
theorem dL_act_99 : decode cL_act 99 = .ok (.if_icmp .ne 12, 3) := by decide +kernel
theorem dL_act_102 : decode cL_act 102 = .ok (.iload 11, 2) := by decide +kernel
theorem dL_act_104 : decode cL_act 104 = .ok (.ifCond .ne 7, 3) := by decide +kernel
theorem dL_act_107 : decode cL_act 107 = .ok (.iconst 1, 1) := by decide +kernel
theorem dL_act_108 : decode cL_act 108 = .ok (.goto 41, 3) := by decide +kernel
theorem dL_act_111 : decode cL_act 111 = .ok (.iconst 0, 1) := by decide +kernel
theorem dL_act_112 : decode cL_act 112 = .ok (.goto 37, 3) := by decide +kernel
theorem dL_act_115 : decode cL_act 115 = .ok (.iload 10, 2) := by decide +kernel
theorem dL_act_117 : decode cL_act 117 = .ok (.iload 8, 2) := by decide +kernel
theorem dL_act_119 : decode cL_act 119 = .ok (.if_icmp .ne 29, 3) := by decide +kernel
theorem dL_act_122 : decode cL_act 122 = .ok (.aload_n 0, 1) := by decide +kernel
theorem dL_act_123 : decode cL_act 123 = .ok (.iload 6, 2) := by decide +kernel
theorem dL_act_125 : decode cL_act 125 = .ok (.invokevirtual 68, 3) := by decide +kernel
theorem dL_act_128 : decode cL_act 128 = .ok (.iload 8, 2) := by decide +kernel
theorem dL_act_130 : decode cL_act 130 = .ok (.if_icmp .ne 18, 3) := by decide +kernel
theorem dL_act_133 : decode cL_act 133 = .ok (.iload 11, 2) := by decide +kernel
theorem dL_act_135 : decode cL_act 135 = .ok (.ifCond .le 13, 3) := by decide +kernel
theorem dL_act_138 : decode cL_act 138 = .ok (.iload 11, 2) := by decide +kernel
theorem dL_act_140 : decode cL_act 140 = .ok (.iconst 3, 1) := by decide +kernel
theorem dL_act_141 : decode cL_act 141 = .ok (.if_icmp .ge 7, 3) := by decide +kernel
theorem dL_act_144 : decode cL_act 144 = .ok (.iconst 1, 1) := by decide +kernel
theorem dL_act_145 : decode cL_act 145 = .ok (.goto 4, 3) := by decide +kernel
theorem dL_act_148 : decode cL_act 148 = .ok (.iconst 0, 1) := by decide +kernel
theorem dL_act_149 : decode cL_act 149 = .ok (.ireturn, 1) := by decide +kernel
theorem dL_act_150 : decode cL_act 150 = .ok (.iload 5, 2) := by decide +kernel
theorem dL_act_152 : decode cL_act 152 = .ok (.bipush 11, 2) := by decide +kernel
theorem dL_act_154 : decode cL_act 154 = .ok (.if_icmp .ge 132, 3) := by decide +kernel
theorem dL_act_157 : decode cL_act 157 = .ok (.aload_n 0, 1) := by decide +kernel
theorem dL_act_158 : decode cL_act 158 = .ok (.iload 7, 2) := by decide +kernel
theorem dL_act_160 : decode cL_act 160 = .ok (.invokevirtual 61, 3) := by decide +kernel
theorem dL_act_163 : decode cL_act 163 = .ok (.istore 8, 2) := by decide +kernel
theorem dL_act_165 : decode cL_act 165 = .ok (.aload_n 0, 1) := by decide +kernel
theorem dL_act_166 : decode cL_act 166 = .ok (.iload 7, 2) := by decide +kernel
theorem dL_act_168 : decode cL_act 168 = .ok (.invokevirtual 42, 3) := by decide +kernel
theorem dL_act_171 : decode cL_act 171 = .ok (.istore 9, 2) := by decide +kernel
theorem dL_act_173 : decode cL_act 173 = .ok (.aload_n 0, 1) := by decide +kernel
theorem dL_act_174 : decode cL_act 174 = .ok (.invokestatic 114, 3) := by decide +kernel
theorem dL_act_177 : decode cL_act 177 = .ok (.iload 9, 2) := by decide +kernel
theorem dL_act_179 : decode cL_act 179 = .ok (.bipush 9, 2) := by decide +kernel
theorem dL_act_181 : decode cL_act 181 = .ok (.if_icmp .ne 7, 3) := by decide +kernel
theorem dL_act_184 : decode cL_act 184 = .ok (.iconst 0, 1) := by decide +kernel
theorem dL_act_185 : decode cL_act 185 = .ok (.goto 4, 3) := by decide +kernel
theorem dL_act_188 : decode cL_act 188 = .ok (.iconst 1, 1) := by decide +kernel
theorem dL_act_189 : decode cL_act 189 = .ok (.isub, 1) := by decide +kernel
theorem dL_act_190 : decode cL_act 190 = .ok (.istore 10, 2) := by decide +kernel
theorem dL_act_192 : decode cL_act 192 = .ok (.iload 10, 2) := by decide +kernel
theorem dL_act_194 : decode cL_act 194 = .ok (.ifCond .le 15, 3) := by decide +kernel
theorem dL_act_197 : decode cL_act 197 = .ok (.iload_n 2, 1) := by decide +kernel
theorem dL_act_198 : decode cL_act 198 = .ok (.iconst 4, 1) := by decide +kernel
theorem dL_act_199 : decode cL_act 199 = .ok (.ishr, 1) := by decide +kernel
theorem dL_act_200 : decode cL_act 200 = .ok (.iconst 3, 1) := by decide +kernel
theorem dL_act_201 : decode cL_act 201 = .ok (.invokestatic 104, 3) := by decide +kernel
theorem dL_act_204 : decode cL_act 204 = .ok (.ifCond .le 5, 3) := by decide +kernel
theorem dL_act_207 : decode cL_act 207 = .ok (.iconst 1, 1) := by decide +kernel
theorem dL_act_208 : decode cL_act 208 = .ok (.ireturn, 1) := by decide +kernel
theorem dL_act_209 : decode cL_act 209 = .ok (.aload_n 0, 1) := by decide +kernel
theorem dL_act_210 : decode cL_act 210 = .ok (.iload 7, 2) := by decide +kernel
theorem dL_act_212 : decode cL_act 212 = .ok (.invokestatic 117, 3) := by decide +kernel
theorem dL_act_215 : decode cL_act 215 = .ok (.istore 11, 2) := by decide +kernel
theorem dL_act_217 : decode cL_act 217 = .ok (.aload_n 3, 1) := by decide +kernel
theorem dL_act_218 : decode cL_act 218 = .ok (.iconst 1, 1) := by decide +kernel
theorem dL_act_219 : decode cL_act 219 = .ok (.iload 10, 2) := by decide +kernel
theorem dL_act_221 : decode cL_act 221 = .ok (.ifCond .le 7, 3) := by decide +kernel
theorem dL_act_224 : decode cL_act 224 = .ok (.iconst 1, 1) := by decide +kernel
theorem dL_act_225 : decode cL_act 225 = .ok (.goto 6, 3) := by decide +kernel
theorem dL_act_228 : decode cL_act 228 = .ok (.aload_n 3, 1) := by decide +kernel
theorem dL_act_229 : decode cL_act 229 = .ok (.iconst 1, 1) := by decide +kernel
theorem dL_act_230 : decode cL_act 230 = .ok (.iaload, 1) := by decide +kernel
theorem dL_act_231 : decode cL_act 231 = .ok (.iastore, 1) := by decide +kernel
theorem dL_act_232 : decode cL_act 232 = .ok (.iload 9, 2) := by decide +kernel
theorem dL_act_234 : decode cL_act 234 = .ok (.iconst (-1), 1) := by decide +kernel
theorem dL_act_235 : decode cL_act 235 = .ok (.if_icmp .ne 19, 3) := by decide +kernel
theorem dL_act_238 : decode cL_act 238 = .ok (.iload 11, 2) := by decide +kernel
theorem dL_act_240 : decode cL_act 240 = .ok (.sipush (-7002), 3) := by decide +kernel
theorem dL_act_243 : decode cL_act 243 = .ok (.if_icmp .ne 7, 3) := by decide +kernel
theorem dL_act_246 : decode cL_act 246 = .ok (.iconst 1, 1) := by decide +kernel
theorem dL_act_247 : decode cL_act 247 = .ok (.goto 38, 3) := by decide +kernel
theorem dL_act_250 : decode cL_act 250 = .ok (.iconst 0, 1) := by decide +kernel
theorem dL_act_251 : decode cL_act 251 = .ok (.goto 34, 3) := by decide +kernel
theorem dL_act_254 : decode cL_act 254 = .ok (.iload 11, 2) := by decide +kernel
theorem dL_act_256 : decode cL_act 256 = .ok (.iload 8, 2) := by decide +kernel
theorem dL_act_258 : decode cL_act 258 = .ok (.if_icmp .ne 26, 3) := by decide +kernel
theorem dL_act_261 : decode cL_act 261 = .ok (.aload_n 0, 1) := by decide +kernel
theorem dL_act_262 : decode cL_act 262 = .ok (.invokevirtual 64, 3) := by decide +kernel
theorem dL_act_265 : decode cL_act 265 = .ok (.iload 8, 2) := by decide +kernel
theorem dL_act_267 : decode cL_act 267 = .ok (.if_icmp .ne 17, 3) := by decide +kernel
theorem dL_act_270 : decode cL_act 270 = .ok (.aload_n 0, 1) := by decide +kernel
theorem dL_act_271 : decode cL_act 271 = .ok (.iload 7, 2) := by decide +kernel
theorem dL_act_273 : decode cL_act 273 = .ok (.invokevirtual 42, 3) := by decide +kernel
theorem dL_act_276 : decode cL_act 276 = .ok (.iconst (-1), 1) := by decide +kernel
theorem dL_act_277 : decode cL_act 277 = .ok (.if_icmp .ne 7, 3) := by decide +kernel
theorem dL_act_280 : decode cL_act 280 = .ok (.iconst 1, 1) := by decide +kernel
theorem dL_act_281 : decode cL_act 281 = .ok (.goto 4, 3) := by decide +kernel
theorem dL_act_284 : decode cL_act 284 = .ok (.iconst 0, 1) := by decide +kernel
theorem dL_act_285 : decode cL_act 285 = .ok (.ireturn, 1) := by decide +kernel
theorem dL_act_286 : decode cL_act 286 = .ok (.iload 5, 2) := by decide +kernel
theorem dL_act_288 : decode cL_act 288 = .ok (.bipush 14, 2) := by decide +kernel
theorem dL_act_290 : decode cL_act 290 = .ok (.if_icmp .ge 11, 3) := by decide +kernel
theorem dL_act_293 : decode cL_act 293 = .ok (.aload_n 0, 1) := by decide +kernel
theorem dL_act_294 : decode cL_act 294 = .ok (.iload 7, 2) := by decide +kernel
theorem dL_act_296 : decode cL_act 296 = .ok (.aload_n 3, 1) := by decide +kernel
theorem dL_act_297 : decode cL_act 297 = .ok (.invokestatic 120, 3) := by decide +kernel
theorem dL_act_300 : decode cL_act 300 = .ok (.ireturn, 1) := by decide +kernel
theorem dL_act_301 : decode cL_act 301 = .ok (.iload 5, 2) := by decide +kernel
theorem dL_act_303 : decode cL_act 303 = .ok (.bipush 14, 2) := by decide +kernel
theorem dL_act_305 : decode cL_act 305 = .ok (.if_icmp .ne 24, 3) := by decide +kernel
theorem dL_act_308 : decode cL_act 308 = .ok (.aload_n 0, 1) := by decide +kernel
theorem dL_act_309 : decode cL_act 309 = .ok (.iconst 1, 1) := by decide +kernel
theorem dL_act_310 : decode cL_act 310 = .ok (.iload_n 2, 1) := by decide +kernel
theorem dL_act_311 : decode cL_act 311 = .ok (.bipush 9, 2) := by decide +kernel
theorem dL_act_313 : decode cL_act 313 = .ok (.invokestatic 104, 3) := by decide +kernel
theorem dL_act_316 : decode cL_act 316 = .ok (.iadd, 1) := by decide +kernel
theorem dL_act_317 : decode cL_act 317 = .ok (.invokevirtual 101, 3) := by decide +kernel
theorem dL_act_320 : decode cL_act 320 = .ok (.ifCond .lt 7, 3) := by decide +kernel
theorem dL_act_323 : decode cL_act 323 = .ok (.iconst 1, 1) := by decide +kernel
theorem dL_act_324 : decode cL_act 324 = .ok (.goto 4, 3) := by decide +kernel
theorem dL_act_327 : decode cL_act 327 = .ok (.iconst 0, 1) := by decide +kernel
theorem dL_act_328 : decode cL_act 328 = .ok (.ireturn, 1) := by decide +kernel
theorem dL_act_329 : decode cL_act 329 = .ok (.iload 5, 2) := by decide +kernel
theorem dL_act_331 : decode cL_act 331 = .ok (.bipush 15, 2) := by decide +kernel
theorem dL_act_333 : decode cL_act 333 = .ok (.if_icmp .ne 43, 3) := by decide +kernel
theorem dL_act_336 : decode cL_act 336 = .ok (.aload_n 0, 1) := by decide +kernel
theorem dL_act_337 : decode cL_act 337 = .ok (.invokevirtual 77, 3) := by decide +kernel
theorem dL_act_340 : decode cL_act 340 = .ok (.istore 8, 2) := by decide +kernel
theorem dL_act_342 : decode cL_act 342 = .ok (.iload 8, 2) := by decide +kernel
theorem dL_act_344 : decode cL_act 344 = .ok (.iconst 5, 1) := by decide +kernel
theorem dL_act_345 : decode cL_act 345 = .ok (.if_icmp .eq 25, 3) := by decide +kernel
theorem dL_act_348 : decode cL_act 348 = .ok (.aload_n 0, 1) := by decide +kernel
theorem dL_act_349 : decode cL_act 349 = .ok (.invokevirtual 124, 3) := by decide +kernel
theorem dL_act_352 : decode cL_act 352 = .ok (.iload 8, 2) := by decide +kernel
theorem dL_act_354 : decode cL_act 354 = .ok (.iconst 1, 1) := by decide +kernel
theorem dL_act_355 : decode cL_act 355 = .ok (.iadd, 1) := by decide +kernel
theorem dL_act_356 : decode cL_act 356 = .ok (.if_icmp .ne 18, 3) := by decide +kernel
theorem dL_act_359 : decode cL_act 359 = .ok (.aload_n 0, 1) := by decide +kernel
theorem dL_act_360 : decode cL_act 360 = .ok (.invokevirtual 77, 3) := by decide +kernel
theorem dL_act_363 : decode cL_act 363 = .ok (.iload 8, 2) := by decide +kernel
theorem dL_act_365 : decode cL_act 365 = .ok (.iconst 1, 1) := by decide +kernel
theorem dL_act_366 : decode cL_act 366 = .ok (.iadd, 1) := by decide +kernel
theorem dL_act_367 : decode cL_act 367 = .ok (.if_icmp .ne 7, 3) := by decide +kernel
theorem dL_act_370 : decode cL_act 370 = .ok (.iconst 1, 1) := by decide +kernel
theorem dL_act_371 : decode cL_act 371 = .ok (.goto 4, 3) := by decide +kernel
theorem dL_act_374 : decode cL_act 374 = .ok (.iconst 0, 1) := by decide +kernel
theorem dL_act_375 : decode cL_act 375 = .ok (.ireturn, 1) := by decide +kernel
theorem dL_act_376 : decode cL_act 376 = .ok (.iload 5, 2) := by decide +kernel
theorem dL_act_378 : decode cL_act 378 = .ok (.bipush 16, 2) := by decide +kernel
theorem dL_act_380 : decode cL_act 380 = .ok (.if_icmp .ne 124, 3) := by decide +kernel
theorem dL_act_383 : decode cL_act 383 = .ok (.iload_n 2, 1) := by decide +kernel
theorem dL_act_384 : decode cL_act 384 = .ok (.bipush 12, 2) := by decide +kernel
theorem dL_act_386 : decode cL_act 386 = .ok (.ishr, 1) := by decide +kernel
theorem dL_act_387 : decode cL_act 387 = .ok (.iconst 4, 1) := by decide +kernel
theorem dL_act_388 : decode cL_act 388 = .ok (.invokestatic 104, 3) := by decide +kernel
theorem dL_act_391 : decode cL_act 391 = .ok (.ifCond .ne 113, 3) := by decide +kernel
theorem dL_act_394 : decode cL_act 394 = .ok (.iload_n 2, 1) := by decide +kernel
theorem dL_act_395 : decode cL_act 395 = .ok (.iconst 3, 1) := by decide +kernel
theorem dL_act_396 : decode cL_act 396 = .ok (.ishr, 1) := by decide +kernel
theorem dL_act_397 : decode cL_act 397 = .ok (.bipush 9, 2) := by decide +kernel
theorem dL_act_399 : decode cL_act 399 = .ok (.invokestatic 104, 3) := by decide +kernel
theorem dL_act_402 : decode cL_act 402 = .ok (.istore 8, 2) := by decide +kernel
theorem dL_act_404 : decode cL_act 404 = .ok (.aload_n 0, 1) := by decide +kernel
theorem dL_act_405 : decode cL_act 405 = .ok (.iload 7, 2) := by decide +kernel
theorem dL_act_407 : decode cL_act 407 = .ok (.iload 8, 2) := by decide +kernel
theorem dL_act_409 : decode cL_act 409 = .ok (.invokevirtual 57, 3) := by decide +kernel
theorem dL_act_412 : decode cL_act 412 = .ok (.istore 9, 2) := by decide +kernel
theorem dL_act_414 : decode cL_act 414 = .ok (.aload_n 0, 1) := by decide +kernel
theorem dL_act_415 : decode cL_act 415 = .ok (.iload 7, 2) := by decide +kernel
theorem dL_act_417 : decode cL_act 417 = .ok (.iload 8, 2) := by decide +kernel
theorem dL_act_419 : decode cL_act 419 = .ok (.iload_n 2, 1) := by decide +kernel
theorem dL_act_420 : decode cL_act 420 = .ok (.bipush 6, 2) := by decide +kernel
theorem dL_act_422 : decode cL_act 422 = .ok (.ishr, 1) := by decide +kernel
theorem dL_act_423 : decode cL_act 423 = .ok (.ldc 107, 2) := by decide +kernel
theorem dL_act_425 : decode cL_act 425 = .ok (.invokestatic 104, 3) := by decide +kernel
theorem dL_act_428 : decode cL_act 428 = .ok (.invokestatic 127, 3) := by decide +kernel
theorem dL_act_431 : decode cL_act 431 = .ok (.istore 10, 2) := by decide +kernel
theorem dL_act_433 : decode cL_act 433 = .ok (.aload_n 3, 1) := by decide +kernel
theorem dL_act_434 : decode cL_act 434 = .ok (.iconst 0, 1) := by decide +kernel
theorem dL_act_435 : decode cL_act 435 = .ok (.iload 9, 2) := by decide +kernel
theorem dL_act_437 : decode cL_act 437 = .ok (.iconst (-1), 1) := by decide +kernel
theorem dL_act_438 : decode cL_act 438 = .ok (.if_icmp .ne 9, 3) := by decide +kernel
theorem dL_act_441 : decode cL_act 441 = .ok (.aload_n 3, 1) := by decide +kernel
theorem dL_act_442 : decode cL_act 442 = .ok (.iconst 0, 1) := by decide +kernel
theorem dL_act_443 : decode cL_act 443 = .ok (.iaload, 1) := by decide +kernel
theorem dL_act_444 : decode cL_act 444 = .ok (.goto 4, 3) := by decide +kernel
theorem dL_act_447 : decode cL_act 447 = .ok (.iconst 1, 1) := by decide +kernel
theorem dL_act_448 : decode cL_act 448 = .ok (.iastore, 1) := by decide +kernel
theorem dL_act_449 : decode cL_act 449 = .ok (.iload 9, 2) := by decide +kernel
theorem dL_act_451 : decode cL_act 451 = .ok (.iconst (-1), 1) := by decide +kernel
theorem dL_act_452 : decode cL_act 452 = .ok (.if_icmp .ne 19, 3) := by decide +kernel
theorem dL_act_455 : decode cL_act 455 = .ok (.iload 10, 2) := by decide +kernel
theorem dL_act_457 : decode cL_act 457 = .ok (.sipush (-7002), 3) := by decide +kernel
theorem dL_act_460 : decode cL_act 460 = .ok (.if_icmp .ne 7, 3) := by decide +kernel
theorem dL_act_463 : decode cL_act 463 = .ok (.iconst 1, 1) := by decide +kernel
theorem dL_act_464 : decode cL_act 464 = .ok (.goto 39, 3) := by decide +kernel
theorem dL_act_467 : decode cL_act 467 = .ok (.iconst 0, 1) := by decide +kernel
theorem dL_act_468 : decode cL_act 468 = .ok (.goto 35, 3) := by decide +kernel
theorem dL_act_471 : decode cL_act 471 = .ok (.iload 10, 2) := by decide +kernel
theorem dL_act_473 : decode cL_act 473 = .ok (.iload 9, 2) := by decide +kernel
theorem dL_act_475 : decode cL_act 475 = .ok (.if_icmp .ne 27, 3) := by decide +kernel
theorem dL_act_478 : decode cL_act 478 = .ok (.aload_n 0, 1) := by decide +kernel
theorem dL_act_479 : decode cL_act 479 = .ok (.iload 7, 2) := by decide +kernel
theorem dL_act_481 : decode cL_act 481 = .ok (.iload 8, 2) := by decide +kernel
theorem dL_act_483 : decode cL_act 483 = .ok (.invokevirtual 57, 3) := by decide +kernel
theorem dL_act_486 : decode cL_act 486 = .ok (.iload_n 2, 1) := by decide +kernel
theorem dL_act_487 : decode cL_act 487 = .ok (.bipush 6, 2) := by decide +kernel
theorem dL_act_489 : decode cL_act 489 = .ok (.ishr, 1) := by decide +kernel
theorem dL_act_490 : decode cL_act 490 = .ok (.ldc 107, 2) := by decide +kernel
theorem dL_act_492 : decode cL_act 492 = .ok (.invokestatic 104, 3) := by decide +kernel
theorem dL_act_495 : decode cL_act 495 = .ok (.if_icmp .ne 7, 3) := by decide +kernel
theorem dL_act_498 : decode cL_act 498 = .ok (.iconst 1, 1) := by decide +kernel
theorem dL_act_499 : decode cL_act 499 = .ok (.goto 4, 3) := by decide +kernel
theorem dL_act_502 : decode cL_act 502 = .ok (.iconst 0, 1) := by decide +kernel
theorem dL_act_503 : decode cL_act 503 = .ok (.ireturn, 1) := by decide +kernel
theorem dL_act_504 : decode cL_act 504 = .ok (.aload_n 0, 1) := by decide +kernel
theorem dL_act_505 : decode cL_act 505 = .ok (.invokevirtual 74, 3) := by decide +kernel
theorem dL_act_508 : decode cL_act 508 = .ok (.istore 8, 2) := by decide +kernel
theorem dL_act_510 : decode cL_act 510 = .ok (.aload_n 0, 1) := by decide +kernel
theorem dL_act_511 : decode cL_act 511 = .ok (.invokevirtual 131, 3) := by decide +kernel
theorem dL_act_514 : decode cL_act 514 = .ok (.iload 8, 2) := by decide +kernel
theorem dL_act_516 : decode cL_act 516 = .ok (.if_icmp .ne 14, 3) := by decide +kernel
theorem dL_act_519 : decode cL_act 519 = .ok (.aload_n 0, 1) := by decide +kernel
theorem dL_act_520 : decode cL_act 520 = .ok (.invokevirtual 74, 3) := by decide +kernel
theorem dL_act_523 : decode cL_act 523 = .ok (.ifCond .ne 7, 3) := by decide +kernel
theorem dL_act_526 : decode cL_act 526 = .ok (.iconst 1, 1) := by decide +kernel
theorem dL_act_527 : decode cL_act 527 = .ok (.goto 4, 3) := by decide +kernel
theorem dL_act_530 : decode cL_act 530 = .ok (.iconst 0, 1) := by decide +kernel
theorem dL_act_531 : decode cL_act 531 = .ok (.ireturn, 1) := by decide +kernel
