set_option maxRecDepth 20000 in
theorem ggL_writes_L_counted : GoodIn wsL_writes wsL_counted := goodIn_ca (goodIn_r _ [5, 6, 7, 8, 9, 10, 11, 12, 13, 14, 15, 16, 17, 18, 19, 20, 21, 22, 23, 24, 25, 26, 27, 28, 29, 30, 31, 32, 33, 34, 35, 36, 159, 160, 161, 162, 163, 164] (by decide +kernel) (by decide +kernel)) (goodIn_sub (fun _ h => List.mem_cons_of_mem _ (List.mem_append_left _ (List.mem_append_left _ (List.mem_append_right _ h)))) (by decide +kernel))
set_option maxRecDepth 20000 in
theorem gL_writes_L_counted : GoodIn wsL_writes (va_wsS RL 87 yL_counted wsL_counted) := goodIn_app (goodIn_of _ (by decide +kernel)) ggL_writes_L_counted
set_option maxRecDepth 20000 in
theorem ggL_writes_X6_peek : GoodIn wsL_writes wsX6_peek := goodIn_ca (goodIn_r _ [40, 11, 12, 41, 42, 43, 9, 44, 45, 46, 47, 48, 49, 50, 51, 52, 53, 54, 55, 24, 25, 26, 27, 28, 56, 57, 58, 59, 13, 60, 61, 62, 63, 64, 65, 66, 20, 67, 22, 68, 69, 70, 23, 71, 72, 73, 74, 75, 76, 77, 78, 79, 80, 81, 82, 83, 84, 85, 86, 87, 88, 89, 90, 91, 159, 160, 161, 162, 165, 166, 167, 164, 163] (by decide +kernel) (by decide +kernel)) (goodIn_sub (fun _ h => List.mem_cons_of_mem _ (List.mem_append_left _ (List.mem_append_left _ (List.mem_append_right _ h)))) (by decide +kernel))
set_option maxRecDepth 20000 in
theorem gL_writes_X6_peek : GoodIn wsL_writes (wsV RL 68 RX6 yX6_peek wsX6_peek) := goodIn_app (goodIn_of _ (by decide +kernel)) ggL_writes_X6_peek
set_option maxRecDepth 20000 in
theorem ggL_writes_L_tryWrite : GoodIn wsL_writes wsL_tryWrite := goodIn_ca (goodIn_ca (goodIn_ca (goodIn_r _ [94, 95, 96, 97, 98, 99, 100, 9, 101, 11, 12, 102, 103, 104, 105, 106, 13, 42, 43, 44, 107, 108, 109, 110, 111, 112, 113, 114, 41, 45, 46, 47, 48, 49, 50, 51, 52, 53, 54, 55, 24, 25, 26, 27, 28, 60, 61, 62, 63, 64, 65, 66, 20, 67, 22, 68, 69, 70, 23, 71, 72, 73, 74, 75, 76, 77, 78, 79, 80, 81, 82, 83, 115, 116, 117, 118, 119, 120, 121, 122, 123, 124, 125, 126, 127, 128, 129, 130, 131, 132, 133, 134, 135, 136, 137, 138, 139, 140, 141, 142, 143, 144, 145, 146, 147, 148, 149, 150, 151, 152, 153, 154, 155, 156, 157, 158, 159, 160, 161, 162, 165, 166, 167, 164, 163, 168, 169, 170] (by decide +kernel) (by decide +kernel)) (goodIn_sub (fun _ h => List.mem_cons_of_mem _ (List.mem_append_left _ (List.mem_append_left _ (List.mem_append_right _ h)))) (by decide +kernel))) (goodIn_sub (fun _ h => List.mem_cons_of_mem _ (List.mem_append_left _ (List.mem_append_right _ h))) (by decide +kernel))) (goodIn_sub (fun _ h => List.mem_cons_of_mem _ (List.mem_append_right _ h)) (by decide +kernel))
set_option maxRecDepth 20000 in
theorem gL_writes_L_tryWrite : GoodIn wsL_writes (va_wsS RL 93 yL_tryWrite wsL_tryWrite) := goodIn_app (goodIn_of _ (by decide +kernel)) ggL_writes_L_tryWrite
theorem dL_writes_0 : decode cL_writes 0 = .ok (.bipush 42, 2) := by decide +kernel
theorem dL_writes_2 : decode cL_writes 2 = .ok (.newarray .int, 2) := by decide +kernel
theorem dL_writes_4 : decode cL_writes 4 = .ok (.astore 5, 2) := by decide +kernel
theorem dL_writes_6 : decode cL_writes 6 = .ok (.aload_n 0, 1) := by decide +kernel
theorem dL_writes_7 : decode cL_writes 7 = .ok (.invokestatic 87, 3) := by decide +kernel
theorem dL_writes_10 : decode cL_writes 10 = .ok (.istore 6, 2) := by decide +kernel
theorem dL_writes_12 : decode cL_writes 12 = .ok (.iconst 0, 1) := by decide +kernel
theorem dL_writes_13 : decode cL_writes 13 = .ok (.istore 7, 2) := by decide +kernel
theorem dL_writes_15 : decode cL_writes 15 = .ok (.iload 7, 2) := by decide +kernel
theorem dL_writes_17 : decode cL_writes 17 = .ok (.bipush 42, 2) := by decide +kernel
theorem dL_writes_19 : decode cL_writes 19 = .ok (.if_icmp .ge 20, 3) := by decide +kernel
theorem dL_writes_22 : decode cL_writes 22 = .ok (.aload 5, 2) := by decide +kernel
theorem dL_writes_24 : decode cL_writes 24 = .ok (.iload 7, 2) := by decide +kernel
theorem dL_writes_26 : decode cL_writes 26 = .ok (.aload_n 0, 1) := by decide +kernel
theorem dL_writes_27 : decode cL_writes 27 = .ok (.iload 7, 2) := by decide +kernel
theorem dL_writes_29 : decode cL_writes 29 = .ok (.invokevirtual 68, 3) := by decide +kernel
theorem dL_writes_32 : decode cL_writes 32 = .ok (.iastore, 1) := by decide +kernel
theorem dL_writes_33 : decode cL_writes 33 = .ok (.iinc 7 1, 3) := by decide +kernel
theorem dL_writes_36 : decode cL_writes 36 = .ok (.goto (-21), 3) := by decide +kernel
theorem dL_writes_39 : decode cL_writes 39 = .ok (.aload_n 0, 1) := by decide +kernel
theorem dL_writes_40 : decode cL_writes 40 = .ok (.iload_n 1, 1) := by decide +kernel
theorem dL_writes_41 : decode cL_writes 41 = .ok (.iload_n 2, 1) := by decide +kernel
theorem dL_writes_42 : decode cL_writes 42 = .ok (.invokestatic 93, 3) := by decide +kernel
theorem dL_writes_45 : decode cL_writes 45 = .ok (.istore 7, 2) := by decide +kernel
theorem dL_writes_47 : decode cL_writes 47 = .ok (.iconst 0, 1) := by decide +kernel
theorem dL_writes_48 : decode cL_writes 48 = .ok (.istore 8, 2) := by decide +kernel
theorem dL_writes_50 : decode cL_writes 50 = .ok (.iload 8, 2) := by decide +kernel
theorem dL_writes_52 : decode cL_writes 52 = .ok (.bipush 42, 2) := by decide +kernel
theorem dL_writes_54 : decode cL_writes 54 = .ok (.if_icmp .ge 40, 3) := by decide +kernel
theorem dL_writes_57 : decode cL_writes 57 = .ok (.aload_n 0, 1) := by decide +kernel
theorem dL_writes_58 : decode cL_writes 58 = .ok (.iload 8, 2) := by decide +kernel
theorem dL_writes_60 : decode cL_writes 60 = .ok (.invokevirtual 68, 3) := by decide +kernel
theorem dL_writes_63 : decode cL_writes 63 = .ok (.iload 8, 2) := by decide +kernel
theorem dL_writes_65 : decode cL_writes 65 = .ok (.iload_n 1, 1) := by decide +kernel
theorem dL_writes_66 : decode cL_writes 66 = .ok (.if_icmp .ne 12, 3) := by decide +kernel
theorem dL_writes_69 : decode cL_writes 69 = .ok (.iload 7, 2) := by decide +kernel
theorem dL_writes_71 : decode cL_writes 71 = .ok (.ifCond .le 7, 3) := by decide +kernel
theorem dL_writes_74 : decode cL_writes 74 = .ok (.iload_n 2, 1) := by decide +kernel
theorem dL_writes_75 : decode cL_writes 75 = .ok (.goto 8, 3) := by decide +kernel
theorem dL_writes_78 : decode cL_writes 78 = .ok (.aload 5, 2) := by decide +kernel
theorem dL_writes_80 : decode cL_writes 80 = .ok (.iload 8, 2) := by decide +kernel
theorem dL_writes_82 : decode cL_writes 82 = .ok (.iaload, 1) := by decide +kernel
theorem dL_writes_83 : decode cL_writes 83 = .ok (.if_icmp .eq 5, 3) := by decide +kernel
theorem dL_writes_86 : decode cL_writes 86 = .ok (.iconst 0, 1) := by decide +kernel
theorem dL_writes_87 : decode cL_writes 87 = .ok (.ireturn, 1) := by decide +kernel
theorem dL_writes_88 : decode cL_writes 88 = .ok (.iinc 8 1, 3) := by decide +kernel
theorem dL_writes_91 : decode cL_writes 91 = .ok (.goto (-41), 3) := by decide +kernel
theorem dL_writes_94 : decode cL_writes 94 = .ok (.aload 4, 2) := by decide +kernel
theorem dL_writes_96 : decode cL_writes 96 = .ok (.iload_n 1, 1) := by decide +kernel
theorem dL_writes_97 : decode cL_writes 97 = .ok (.iload_n 2, 1) := by decide +kernel
theorem dL_writes_98 : decode cL_writes 98 = .ok (.iastore, 1) := by decide +kernel
theorem dL_writes_99 : decode cL_writes 99 = .ok (.iload 7, 2) := by decide +kernel
theorem dL_writes_101 : decode cL_writes 101 = .ok (.sipush (-7002), 3) := by decide +kernel
theorem dL_writes_104 : decode cL_writes 104 = .ok (.if_icmp .ne 28, 3) := by decide +kernel
theorem dL_writes_107 : decode cL_writes 107 = .ok (.aload_n 0, 1) := by decide +kernel
theorem dL_writes_108 : decode cL_writes 108 = .ok (.invokestatic 87, 3) := by decide +kernel
theorem dL_writes_111 : decode cL_writes 111 = .ok (.iload 6, 2) := by decide +kernel
theorem dL_writes_113 : decode cL_writes 113 = .ok (.if_icmp .ne 15, 3) := by decide +kernel
theorem dL_writes_116 : decode cL_writes 116 = .ok (.aload 5, 2) := by decide +kernel
theorem dL_writes_118 : decode cL_writes 118 = .ok (.iload_n 1, 1) := by decide +kernel
theorem dL_writes_119 : decode cL_writes 119 = .ok (.iaload, 1) := by decide +kernel
theorem dL_writes_120 : decode cL_writes 120 = .ok (.iconst (-1), 1) := by decide +kernel
theorem dL_writes_121 : decode cL_writes 121 = .ok (.if_icmp .ne 7, 3) := by decide +kernel
theorem dL_writes_124 : decode cL_writes 124 = .ok (.iconst 1, 1) := by decide +kernel
theorem dL_writes_125 : decode cL_writes 125 = .ok (.goto 42, 3) := by decide +kernel
theorem dL_writes_128 : decode cL_writes 128 = .ok (.iconst 0, 1) := by decide +kernel
theorem dL_writes_129 : decode cL_writes 129 = .ok (.goto 38, 3) := by decide +kernel
theorem dL_writes_132 : decode cL_writes 132 = .ok (.iload 7, 2) := by decide +kernel
theorem dL_writes_134 : decode cL_writes 134 = .ok (.iconst 1, 1) := by decide +kernel
theorem dL_writes_135 : decode cL_writes 135 = .ok (.if_icmp .eq 15, 3) := by decide +kernel
theorem dL_writes_138 : decode cL_writes 138 = .ok (.iload 7, 2) := by decide +kernel
theorem dL_writes_140 : decode cL_writes 140 = .ok (.iconst 2, 1) := by decide +kernel
theorem dL_writes_141 : decode cL_writes 141 = .ok (.if_icmp .eq 9, 3) := by decide +kernel
theorem dL_writes_144 : decode cL_writes 144 = .ok (.iload 7, 2) := by decide +kernel
theorem dL_writes_146 : decode cL_writes 146 = .ok (.iconst 4, 1) := by decide +kernel
theorem dL_writes_147 : decode cL_writes 147 = .ok (.if_icmp .ne 19, 3) := by decide +kernel
theorem dL_writes_150 : decode cL_writes 150 = .ok (.aload_n 0, 1) := by decide +kernel
theorem dL_writes_151 : decode cL_writes 151 = .ok (.invokestatic 87, 3) := by decide +kernel
theorem dL_writes_154 : decode cL_writes 154 = .ok (.iload 6, 2) := by decide +kernel
theorem dL_writes_156 : decode cL_writes 156 = .ok (.iload 7, 2) := by decide +kernel
theorem dL_writes_158 : decode cL_writes 158 = .ok (.iadd, 1) := by decide +kernel
theorem dL_writes_159 : decode cL_writes 159 = .ok (.if_icmp .ne 7, 3) := by decide +kernel
theorem dL_writes_162 : decode cL_writes 162 = .ok (.iconst 1, 1) := by decide +kernel
theorem dL_writes_163 : decode cL_writes 163 = .ok (.goto 4, 3) := by decide +kernel
theorem dL_writes_166 : decode cL_writes 166 = .ok (.iconst 0, 1) := by decide +kernel
theorem dL_writes_167 : decode cL_writes 167 = .ok (.ireturn, 1) := by decide +kernel
set_option maxRecDepth 20000 in
theorem ggL_mends_X6_state : GoodIn wsL_mends wsX6_state := goodIn_ca (goodIn_r _ [5, 6, 7, 8, 9, 10, 4, 11, 12, 13, 14, 15, 16, 17, 18, 19, 20, 21, 22, 23, 143, 144, 145, 146, 147, 148] (by decide +kernel) (by decide +kernel)) (goodIn_sub (fun _ h => List.mem_cons_of_mem _ (List.mem_append_left _ (List.mem_append_left _ (List.mem_append_right _ h)))) (by decide +kernel))
set_option maxRecDepth 20000 in
theorem gL_mends_X6_state : GoodIn wsL_mends (wsV RL 42 RX6 yX6_state wsX6_state) := goodIn_app (goodIn_of _ (by decide +kernel)) ggL_mends_X6_state
set_option maxRecDepth 20000 in
theorem ggL_mends_X6_spares : GoodIn wsL_mends wsX6_spares := goodIn_r _ [27, 8, 28, 29, 30, 15, 31, 17, 18, 19, 20, 21, 22, 23, 143, 144, 145, 146, 147, 148] (by decide +kernel) (by decide +kernel)
set_option maxRecDepth 20000 in
theorem gL_mends_X6_spares : GoodIn wsL_mends (wsV RL 77 RX6 yX6_spares wsX6_spares) := goodIn_app (goodIn_of _ (by decide +kernel)) ggL_mends_X6_spares
set_option maxRecDepth 20000 in
theorem ggL_mends_L_tryBegin : GoodIn wsL_mends wsL_tryBegin := goodIn_ca (goodIn_ca (goodIn_r _ [35, 36, 37, 38, 39, 40, 4, 41, 6, 7, 42, 43, 44, 8, 9, 10, 11, 45, 46, 47, 48, 12, 13, 14, 15, 16, 17, 18, 19, 20, 21, 22, 23, 28, 29, 30, 31, 49, 50, 51, 52, 53, 54, 55, 56, 57, 58, 59, 60, 61, 62, 63, 64, 65, 66, 67, 68, 69, 70, 71, 72, 73, 143, 144, 145, 146, 147, 148, 149, 150, 151] (by decide +kernel) (by decide +kernel)) (goodIn_sub (fun _ h => List.mem_cons_of_mem _ (List.mem_append_left _ (List.mem_append_left _ (List.mem_append_right _ h)))) (by decide +kernel))) (goodIn_sub (fun _ h => List.mem_cons_of_mem _ (List.mem_append_left _ (List.mem_append_right _ h))) (by decide +kernel))
set_option maxRecDepth 20000 in
theorem gL_mends_L_tryBegin : GoodIn wsL_mends (va_wsS RL 97 yL_tryBegin wsL_tryBegin) := goodIn_app (goodIn_of _ (by decide +kernel)) ggL_mends_L_tryBegin
set_option maxRecDepth 20000 in
theorem ggL_mends_X6_mend : GoodIn wsL_mends wsX6_mend := goodIn_ca (goodIn_r _ [77, 78, 79, 44, 8, 49, 50, 51, 52, 53, 54, 55, 56, 57, 58, 59, 60, 61, 62, 63, 15, 64, 17, 18, 19, 20, 21, 22, 23, 65, 66, 67, 68, 80, 81, 82, 4, 83, 84, 85, 86, 87, 12, 13, 14, 16, 88, 89, 90, 91, 92, 93, 94, 95, 96, 97, 98, 99, 100, 101, 102, 103, 104, 105, 106, 107, 108, 109, 110, 111, 112, 113, 114, 115, 116, 117, 118, 119, 120, 121, 122, 123, 124, 125, 126, 127, 128, 129, 130, 131, 132, 133, 134, 135, 136, 137, 138, 139, 140, 141, 142, 143, 144, 145, 146, 149, 150, 151, 147, 148, 152, 153, 154] (by decide +kernel) (by decide +kernel)) (goodIn_sub (fun _ h => List.mem_cons_of_mem _ (List.mem_append_right _ h)) (by decide +kernel))
set_option maxRecDepth 20000 in
theorem gL_mends_X6_mend : GoodIn wsL_mends (wsV RL 101 RX6 yX6_mend wsX6_mend) := goodIn_app (goodIn_of _ (by decide +kernel)) ggL_mends_X6_mend
theorem dL_mends_0 : decode cL_mends 0 = .ok (.iconst 0, 1) := by decide +kernel
theorem dL_mends_1 : decode cL_mends 1 = .ok (.istore_n 3, 1) := by decide +kernel
theorem dL_mends_2 : decode cL_mends 2 = .ok (.iconst 0, 1) := by decide +kernel
theorem dL_mends_3 : decode cL_mends 3 = .ok (.istore 4, 2) := by decide +kernel
theorem dL_mends_5 : decode cL_mends 5 = .ok (.iload 4, 2) := by decide +kernel
theorem dL_mends_7 : decode cL_mends 7 = .ok (.bipush 7, 2) := by decide +kernel
theorem dL_mends_9 : decode cL_mends 9 = .ok (.if_icmp .ge 37, 3) := by decide +kernel
theorem dL_mends_12 : decode cL_mends 12 = .ok (.iload_n 3, 1) := by decide +kernel
theorem dL_mends_13 : decode cL_mends 13 = .ok (.aload_n 0, 1) := by decide +kernel
theorem dL_mends_14 : decode cL_mends 14 = .ok (.iload 4, 2) := by decide +kernel
theorem dL_mends_16 : decode cL_mends 16 = .ok (.invokevirtual 42, 3) := by decide +kernel
theorem dL_mends_19 : decode cL_mends 19 = .ok (.ifCond .lt 18, 3) := by decide +kernel
theorem dL_mends_22 : decode cL_mends 22 = .ok (.aload_n 0, 1) := by decide +kernel
theorem dL_mends_23 : decode cL_mends 23 = .ok (.iload 4, 2) := by decide +kernel
theorem dL_mends_25 : decode cL_mends 25 = .ok (.invokevirtual 42, 3) := by decide +kernel
theorem dL_mends_28 : decode cL_mends 28 = .ok (.bipush 9, 2) := by decide +kernel
theorem dL_mends_30 : decode cL_mends 30 = .ok (.if_icmp .ge 7, 3) := by decide +kernel
theorem dL_mends_33 : decode cL_mends 33 = .ok (.iconst 1, 1) := by decide +kernel
theorem dL_mends_34 : decode cL_mends 34 = .ok (.goto 4, 3) := by decide +kernel
theorem dL_mends_37 : decode cL_mends 37 = .ok (.iconst 0, 1) := by decide +kernel
theorem dL_mends_38 : decode cL_mends 38 = .ok (.iadd, 1) := by decide +kernel
theorem dL_mends_39 : decode cL_mends 39 = .ok (.istore_n 3, 1) := by decide +kernel
theorem dL_mends_40 : decode cL_mends 40 = .ok (.iinc 4 1, 3) := by decide +kernel
theorem dL_mends_43 : decode cL_mends 43 = .ok (.goto (-38), 3) := by decide +kernel
theorem dL_mends_46 : decode cL_mends 46 = .ok (.aload_n 0, 1) := by decide +kernel
theorem dL_mends_47 : decode cL_mends 47 = .ok (.invokevirtual 77, 3) := by decide +kernel
theorem dL_mends_50 : decode cL_mends 50 = .ok (.istore 4, 2) := by decide +kernel
theorem dL_mends_52 : decode cL_mends 52 = .ok (.aload_n 0, 1) := by decide +kernel
theorem dL_mends_53 : decode cL_mends 53 = .ok (.iload_n 1, 1) := by decide +kernel
theorem dL_mends_54 : decode cL_mends 54 = .ok (.invokevirtual 42, 3) := by decide +kernel
theorem dL_mends_57 : decode cL_mends 57 = .ok (.iconst (-1), 1) := by decide +kernel
theorem dL_mends_58 : decode cL_mends 58 = .ok (.if_icmp .ne 12, 3) := by decide +kernel
theorem dL_mends_61 : decode cL_mends 61 = .ok (.iload 4, 2) := by decide +kernel
theorem dL_mends_63 : decode cL_mends 63 = .ok (.ifCond .le 7, 3) := by decide +kernel
theorem dL_mends_66 : decode cL_mends 66 = .ok (.iconst 1, 1) := by decide +kernel
theorem dL_mends_67 : decode cL_mends 67 = .ok (.goto 4, 3) := by decide +kernel
theorem dL_mends_70 : decode cL_mends 70 = .ok (.iconst 0, 1) := by decide +kernel
theorem dL_mends_71 : decode cL_mends 71 = .ok (.istore 5, 2) := by decide +kernel
theorem dL_mends_73 : decode cL_mends 73 = .ok (.aload_n 0, 1) := by decide +kernel
theorem dL_mends_74 : decode cL_mends 74 = .ok (.iload_n 1, 1) := by decide +kernel
theorem dL_mends_75 : decode cL_mends 75 = .ok (.invokestatic 97, 3) := by decide +kernel
theorem dL_mends_78 : decode cL_mends 78 = .ok (.istore 6, 2) := by decide +kernel
theorem dL_mends_80 : decode cL_mends 80 = .ok (.iload 5, 2) := by decide +kernel
theorem dL_mends_82 : decode cL_mends 82 = .ok (.ifCond .ne 17, 3) := by decide +kernel
theorem dL_mends_85 : decode cL_mends 85 = .ok (.iload 6, 2) := by decide +kernel
theorem dL_mends_87 : decode cL_mends 87 = .ok (.sipush (-7002), 3) := by decide +kernel
theorem dL_mends_90 : decode cL_mends 90 = .ok (.if_icmp .ne 7, 3) := by decide +kernel
theorem dL_mends_93 : decode cL_mends 93 = .ok (.iconst 1, 1) := by decide +kernel
theorem dL_mends_94 : decode cL_mends 94 = .ok (.goto 4, 3) := by decide +kernel
theorem dL_mends_97 : decode cL_mends 97 = .ok (.iconst 0, 1) := by decide +kernel
theorem dL_mends_98 : decode cL_mends 98 = .ok (.ireturn, 1) := by decide +kernel
theorem dL_mends_99 : decode cL_mends 99 = .ok (.iload 6, 2) := by decide +kernel
theorem dL_mends_101 : decode cL_mends 101 = .ok (.iload 4, 2) := by decide +kernel
theorem dL_mends_103 : decode cL_mends 103 = .ok (.iconst 1, 1) := by decide +kernel
theorem dL_mends_104 : decode cL_mends 104 = .ok (.isub, 1) := by decide +kernel
theorem dL_mends_105 : decode cL_mends 105 = .ok (.if_icmp .ne 24, 3) := by decide +kernel
theorem dL_mends_108 : decode cL_mends 108 = .ok (.aload_n 0, 1) := by decide +kernel
theorem dL_mends_109 : decode cL_mends 109 = .ok (.invokevirtual 77, 3) := by decide +kernel
theorem dL_mends_112 : decode cL_mends 112 = .ok (.iload 6, 2) := by decide +kernel
theorem dL_mends_114 : decode cL_mends 114 = .ok (.if_icmp .ne 15, 3) := by decide +kernel
theorem dL_mends_117 : decode cL_mends 117 = .ok (.aload_n 0, 1) := by decide +kernel
theorem dL_mends_118 : decode cL_mends 118 = .ok (.iload_n 1, 1) := by decide +kernel
theorem dL_mends_119 : decode cL_mends 119 = .ok (.invokevirtual 42, 3) := by decide +kernel
theorem dL_mends_122 : decode cL_mends 122 = .ok (.ifCond .ne 7, 3) := by decide +kernel
theorem dL_mends_125 : decode cL_mends 125 = .ok (.iconst 1, 1) := by decide +kernel
theorem dL_mends_126 : decode cL_mends 126 = .ok (.goto 4, 3) := by decide +kernel
theorem dL_mends_129 : decode cL_mends 129 = .ok (.iconst 0, 1) := by decide +kernel
theorem dL_mends_130 : decode cL_mends 130 = .ok (.istore 7, 2) := by decide +kernel
theorem dL_mends_132 : decode cL_mends 132 = .ok (.iload_n 3, 1) := by decide +kernel
theorem dL_mends_133 : decode cL_mends 133 = .ok (.ifCond .le 23, 3) := by decide +kernel
theorem dL_mends_136 : decode cL_mends 136 = .ok (.iload 7, 2) := by decide +kernel
theorem dL_mends_138 : decode cL_mends 138 = .ok (.ifCond .eq 16, 3) := by decide +kernel
theorem dL_mends_141 : decode cL_mends 141 = .ok (.aload_n 0, 1) := by decide +kernel
theorem dL_mends_142 : decode cL_mends 142 = .ok (.iconst 1, 1) := by decide +kernel
theorem dL_mends_143 : decode cL_mends 143 = .ok (.invokevirtual 101, 3) := by decide +kernel
theorem dL_mends_146 : decode cL_mends 146 = .ok (.iconst 1, 1) := by decide +kernel
theorem dL_mends_147 : decode cL_mends 147 = .ok (.if_icmp .ne 7, 3) := by decide +kernel
theorem dL_mends_150 : decode cL_mends 150 = .ok (.iconst 1, 1) := by decide +kernel
theorem dL_mends_151 : decode cL_mends 151 = .ok (.goto 4, 3) := by decide +kernel
theorem dL_mends_154 : decode cL_mends 154 = .ok (.iconst 0, 1) := by decide +kernel
theorem dL_mends_155 : decode cL_mends 155 = .ok (.ireturn, 1) := by decide +kernel
theorem dL_mends_156 : decode cL_mends 156 = .ok (.iload 7, 2) := by decide +kernel
theorem dL_mends_158 : decode cL_mends 158 = .ok (.ifCond .eq 53, 3) := by decide +kernel
theorem dL_mends_161 : decode cL_mends 161 = .ok (.aload_n 0, 1) := by decide +kernel
theorem dL_mends_162 : decode cL_mends 162 = .ok (.iconst 4, 1) := by decide +kernel
theorem dL_mends_163 : decode cL_mends 163 = .ok (.invokevirtual 101, 3) := by decide +kernel
theorem dL_mends_166 : decode cL_mends 166 = .ok (.iconst 4, 1) := by decide +kernel
theorem dL_mends_167 : decode cL_mends 167 = .ok (.if_icmp .ne 44, 3) := by decide +kernel
theorem dL_mends_170 : decode cL_mends 170 = .ok (.aload_n 0, 1) := by decide +kernel
theorem dL_mends_171 : decode cL_mends 171 = .ok (.iload_n 1, 1) := by decide +kernel
theorem dL_mends_172 : decode cL_mends 172 = .ok (.invokevirtual 42, 3) := by decide +kernel
theorem dL_mends_175 : decode cL_mends 175 = .ok (.iconst 4, 1) := by decide +kernel
theorem dL_mends_176 : decode cL_mends 176 = .ok (.if_icmp .ne 35, 3) := by decide +kernel
theorem dL_mends_179 : decode cL_mends 179 = .ok (.aload_n 0, 1) := by decide +kernel
theorem dL_mends_180 : decode cL_mends 180 = .ok (.bipush 9, 2) := by decide +kernel
theorem dL_mends_182 : decode cL_mends 182 = .ok (.invokevirtual 101, 3) := by decide +kernel
theorem dL_mends_185 : decode cL_mends 185 = .ok (.iconst 5, 1) := by decide +kernel
theorem dL_mends_186 : decode cL_mends 186 = .ok (.if_icmp .ne 25, 3) := by decide +kernel
theorem dL_mends_189 : decode cL_mends 189 = .ok (.aload_n 0, 1) := by decide +kernel
theorem dL_mends_190 : decode cL_mends 190 = .ok (.iload_n 1, 1) := by decide +kernel
theorem dL_mends_191 : decode cL_mends 191 = .ok (.invokevirtual 42, 3) := by decide +kernel
theorem dL_mends_194 : decode cL_mends 194 = .ok (.bipush 9, 2) := by decide +kernel
theorem dL_mends_196 : decode cL_mends 196 = .ok (.if_icmp .ne 15, 3) := by decide +kernel
theorem dL_mends_199 : decode cL_mends 199 = .ok (.aload_n 0, 1) := by decide +kernel
theorem dL_mends_200 : decode cL_mends 200 = .ok (.iconst 1, 1) := by decide +kernel
theorem dL_mends_201 : decode cL_mends 201 = .ok (.invokevirtual 101, 3) := by decide +kernel
theorem dL_mends_204 : decode cL_mends 204 = .ok (.ifCond .ne 7, 3) := by decide +kernel
theorem dL_mends_207 : decode cL_mends 207 = .ok (.iconst 1, 1) := by decide +kernel
theorem dL_mends_208 : decode cL_mends 208 = .ok (.goto 4, 3) := by decide +kernel
theorem dL_mends_211 : decode cL_mends 211 = .ok (.iconst 0, 1) := by decide +kernel
theorem dL_mends_212 : decode cL_mends 212 = .ok (.ireturn, 1) := by decide +kernel
