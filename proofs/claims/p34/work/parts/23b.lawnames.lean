set_option maxRecDepth 20000 in
theorem ggL_counted_X6_reads : GoodIn wsL_counted wsX6_reads := goodIn_ca (goodIn_r _ [5, 6, 7, 8, 9, 10, 4, 11, 12, 13, 14, 15, 16, 17, 18, 19, 20, 21, 22, 23, 32, 33, 34, 35, 36, 37] (by decide +kernel) (by decide +kernel)) (goodIn_sub (fun _ h => List.mem_cons_of_mem _ (List.mem_append_right _ h)) (by decide +kernel))
set_option maxRecDepth 20000 in
theorem gL_counted_X6_reads : GoodIn wsL_counted (wsV RL 36 RX6 yX6_reads wsX6_reads) := goodIn_app (goodIn_of _ (by decide +kernel)) ggL_counted_X6_reads
set_option maxRecDepth 20000 in
theorem ggL_counted_X6_writes : GoodIn wsL_counted wsX6_writes := goodIn_ca (goodIn_r _ [27, 6, 7, 8, 9, 10, 4, 11, 28, 29, 30, 15, 31, 17, 18, 19, 20, 21, 22, 23, 32, 33, 34, 35, 36, 37] (by decide +kernel) (by decide +kernel)) (goodIn_sub (fun _ h => List.mem_cons_of_mem _ (List.mem_append_right _ h)) (by decide +kernel))
set_option maxRecDepth 20000 in
theorem gL_counted_X6_writes : GoodIn wsL_counted (wsV RL 39 RX6 yX6_writes wsX6_writes) := goodIn_app (goodIn_of _ (by decide +kernel)) ggL_counted_X6_writes
theorem dL_counted_0 : decode cL_counted 0 = .ok (.iconst 0, 1) := by decide +kernel
theorem dL_counted_1 : decode cL_counted 1 = .ok (.istore_n 1, 1) := by decide +kernel
theorem dL_counted_2 : decode cL_counted 2 = .ok (.iconst 0, 1) := by decide +kernel
theorem dL_counted_3 : decode cL_counted 3 = .ok (.istore_n 2, 1) := by decide +kernel
theorem dL_counted_4 : decode cL_counted 4 = .ok (.iload_n 2, 1) := by decide +kernel
theorem dL_counted_5 : decode cL_counted 5 = .ok (.bipush 7, 2) := by decide +kernel
theorem dL_counted_7 : decode cL_counted 7 = .ok (.if_icmp .ge 23, 3) := by decide +kernel
theorem dL_counted_10 : decode cL_counted 10 = .ok (.iload_n 1, 1) := by decide +kernel
theorem dL_counted_11 : decode cL_counted 11 = .ok (.aload_n 0, 1) := by decide +kernel
theorem dL_counted_12 : decode cL_counted 12 = .ok (.iload_n 2, 1) := by decide +kernel
theorem dL_counted_13 : decode cL_counted 13 = .ok (.invokevirtual 36, 3) := by decide +kernel
theorem dL_counted_16 : decode cL_counted 16 = .ok (.aload_n 0, 1) := by decide +kernel
theorem dL_counted_17 : decode cL_counted 17 = .ok (.iload_n 2, 1) := by decide +kernel
theorem dL_counted_18 : decode cL_counted 18 = .ok (.invokevirtual 39, 3) := by decide +kernel
theorem dL_counted_21 : decode cL_counted 21 = .ok (.iadd, 1) := by decide +kernel
theorem dL_counted_22 : decode cL_counted 22 = .ok (.iadd, 1) := by decide +kernel
theorem dL_counted_23 : decode cL_counted 23 = .ok (.istore_n 1, 1) := by decide +kernel
theorem dL_counted_24 : decode cL_counted 24 = .ok (.iinc 2 1, 3) := by decide +kernel
theorem dL_counted_27 : decode cL_counted 27 = .ok (.goto (-23), 3) := by decide +kernel
theorem dL_counted_30 : decode cL_counted 30 = .ok (.iload_n 1, 1) := by decide +kernel
theorem dL_counted_31 : decode cL_counted 31 = .ok (.ireturn, 1) := by decide +kernel
set_option maxRecDepth 20000 in
theorem ggL_unsound_X6_state : GoodIn wsL_unsound wsX6_state := goodIn_ca (goodIn_r _ [5, 6, 7, 8, 9, 10, 4, 11, 12, 13, 14, 15, 16, 17, 18, 19, 20, 21, 22, 23, 24, 25, 26, 27, 28, 29] (by decide +kernel) (by decide +kernel)) (goodIn_sub (fun _ h => List.mem_cons_of_mem _ (List.mem_append_right _ h)) (by decide +kernel))
set_option maxRecDepth 20000 in
theorem gL_unsound_X6_state : GoodIn wsL_unsound (wsV RL 42 RX6 yX6_state wsX6_state) := goodIn_app (goodIn_of _ (by decide +kernel)) ggL_unsound_X6_state
theorem dL_unsound_0 : decode cL_unsound 0 = .ok (.iconst 0, 1) := by decide +kernel
theorem dL_unsound_1 : decode cL_unsound 1 = .ok (.istore_n 1, 1) := by decide +kernel
theorem dL_unsound_2 : decode cL_unsound 2 = .ok (.iconst 0, 1) := by decide +kernel
theorem dL_unsound_3 : decode cL_unsound 3 = .ok (.istore_n 2, 1) := by decide +kernel
theorem dL_unsound_4 : decode cL_unsound 4 = .ok (.iload_n 2, 1) := by decide +kernel
theorem dL_unsound_5 : decode cL_unsound 5 = .ok (.bipush 7, 2) := by decide +kernel
theorem dL_unsound_7 : decode cL_unsound 7 = .ok (.if_icmp .ge 27, 3) := by decide +kernel
theorem dL_unsound_10 : decode cL_unsound 10 = .ok (.iload_n 1, 1) := by decide +kernel
theorem dL_unsound_11 : decode cL_unsound 11 = .ok (.aload_n 0, 1) := by decide +kernel
theorem dL_unsound_12 : decode cL_unsound 12 = .ok (.iload_n 2, 1) := by decide +kernel
theorem dL_unsound_13 : decode cL_unsound 13 = .ok (.invokevirtual 42, 3) := by decide +kernel
theorem dL_unsound_16 : decode cL_unsound 16 = .ok (.bipush 9, 2) := by decide +kernel
theorem dL_unsound_18 : decode cL_unsound 18 = .ok (.if_icmp .ne 7, 3) := by decide +kernel
theorem dL_unsound_21 : decode cL_unsound 21 = .ok (.iconst 0, 1) := by decide +kernel
theorem dL_unsound_22 : decode cL_unsound 22 = .ok (.goto 4, 3) := by decide +kernel
theorem dL_unsound_25 : decode cL_unsound 25 = .ok (.iconst 1, 1) := by decide +kernel
theorem dL_unsound_26 : decode cL_unsound 26 = .ok (.iadd, 1) := by decide +kernel
theorem dL_unsound_27 : decode cL_unsound 27 = .ok (.istore_n 1, 1) := by decide +kernel
theorem dL_unsound_28 : decode cL_unsound 28 = .ok (.iinc 2 1, 3) := by decide +kernel
theorem dL_unsound_31 : decode cL_unsound 31 = .ok (.goto (-27), 3) := by decide +kernel
theorem dL_unsound_34 : decode cL_unsound 34 = .ok (.iload_n 1, 1) := by decide +kernel
theorem dL_unsound_35 : decode cL_unsound 35 = .ok (.ireturn, 1) := by decide +kernel
set_option maxRecDepth 20000 in
theorem ggL_isLaidOut_X6_stripeAt : GoodIn wsL_isLaidOut wsX6_stripeAt := goodIn_ca (goodIn_r _ [5, 6, 7, 8, 9, 10, 4, 11, 12, 13, 14, 15, 16, 17, 18, 19, 20, 21, 22, 23, 24, 25, 26, 27, 28, 29, 70, 71, 72, 73, 74, 75, 76, 77] (by decide +kernel) (by decide +kernel)) (goodIn_sub (fun _ h => List.mem_cons_of_mem _ (List.mem_append_right _ h)) (by decide +kernel))
set_option maxRecDepth 20000 in
theorem gL_isLaidOut_X6_stripeAt : GoodIn wsL_isLaidOut (wsV RL 45 RX6 yX6_stripeAt wsX6_stripeAt) := goodIn_app (goodIn_of _ (by decide +kernel)) ggL_isLaidOut_X6_stripeAt
set_option maxRecDepth 20000 in
theorem ggL_isLaidOut_X6_member : GoodIn wsL_isLaidOut wsX6_member := goodIn_ca (goodIn_r _ [33, 6, 7, 34, 35, 4, 36, 37, 38, 39, 40, 41, 17, 42] (by decide +kernel) (by decide +kernel)) (goodIn_sub (fun _ h => List.mem_cons_of_mem _ (List.mem_append_right _ h)) (by decide +kernel))
set_option maxRecDepth 20000 in
theorem gL_isLaidOut_X6_member : GoodIn wsL_isLaidOut (wsV RL 48 RX6 yX6_member wsX6_member) := goodIn_app (goodIn_of _ (by decide +kernel)) ggL_isLaidOut_X6_member
set_option maxRecDepth 20000 in
theorem ggL_isLaidOut_X6_place : GoodIn wsL_isLaidOut wsX6_place := goodIn_ca (goodIn_r _ [46, 6, 7, 8, 34, 35, 4, 36, 37, 38, 39, 47, 48, 49, 17, 50, 51, 24, 25, 26, 27, 28, 29, 52, 53, 54, 55, 56, 57, 70, 71, 72, 73, 74, 75, 76, 77] (by decide +kernel) (by decide +kernel)) (goodIn_sub (fun _ h => List.mem_cons_of_mem _ (List.mem_append_right _ h)) (by decide +kernel))
set_option maxRecDepth 20000 in
theorem gL_isLaidOut_X6_place : GoodIn wsL_isLaidOut (wsV RL 51 RX6 yX6_place wsX6_place) := goodIn_app (goodIn_of _ (by decide +kernel)) ggL_isLaidOut_X6_place
set_option maxRecDepth 20000 in
theorem ggL_isLaidOut_X6_loadOf : GoodIn wsL_isLaidOut wsX6_loadOf := goodIn_ca (goodIn_r _ [61, 6, 7, 8, 9, 10, 4, 11, 62, 63, 64, 17, 65, 66, 67, 68, 69, 41, 42, 70, 71, 72, 73] (by decide +kernel) (by decide +kernel)) (goodIn_sub (fun _ h => List.mem_cons_of_mem _ (List.mem_append_right _ h)) (by decide +kernel))
set_option maxRecDepth 20000 in
theorem gL_isLaidOut_X6_loadOf : GoodIn wsL_isLaidOut (wsV RL 54 RX6 yX6_loadOf wsX6_loadOf) := goodIn_app (goodIn_of _ (by decide +kernel)) ggL_isLaidOut_X6_loadOf
theorem dL_isLaidOut_0 : decode cL_isLaidOut 0 = .ok (.iconst 0, 1) := by decide +kernel
theorem dL_isLaidOut_1 : decode cL_isLaidOut 1 = .ok (.istore_n 1, 1) := by decide +kernel
theorem dL_isLaidOut_2 : decode cL_isLaidOut 2 = .ok (.iload_n 1, 1) := by decide +kernel
theorem dL_isLaidOut_3 : decode cL_isLaidOut 3 = .ok (.bipush 7, 2) := by decide +kernel
theorem dL_isLaidOut_5 : decode cL_isLaidOut 5 = .ok (.if_icmp .ge 303, 3) := by decide +kernel
theorem dL_isLaidOut_8 : decode cL_isLaidOut 8 = .ok (.iconst (-1), 1) := by decide +kernel
theorem dL_isLaidOut_9 : decode cL_isLaidOut 9 = .ok (.istore_n 2, 1) := by decide +kernel
theorem dL_isLaidOut_10 : decode cL_isLaidOut 10 = .ok (.iconst 0, 1) := by decide +kernel
theorem dL_isLaidOut_11 : decode cL_isLaidOut 11 = .ok (.istore_n 3, 1) := by decide +kernel
theorem dL_isLaidOut_12 : decode cL_isLaidOut 12 = .ok (.iload_n 3, 1) := by decide +kernel
theorem dL_isLaidOut_13 : decode cL_isLaidOut 13 = .ok (.bipush 9, 2) := by decide +kernel
theorem dL_isLaidOut_15 : decode cL_isLaidOut 15 = .ok (.if_icmp .ge 121, 3) := by decide +kernel
theorem dL_isLaidOut_18 : decode cL_isLaidOut 18 = .ok (.aload_n 0, 1) := by decide +kernel
theorem dL_isLaidOut_19 : decode cL_isLaidOut 19 = .ok (.iload_n 1, 1) := by decide +kernel
theorem dL_isLaidOut_20 : decode cL_isLaidOut 20 = .ok (.iload_n 3, 1) := by decide +kernel
theorem dL_isLaidOut_21 : decode cL_isLaidOut 21 = .ok (.invokevirtual 45, 3) := by decide +kernel
theorem dL_isLaidOut_24 : decode cL_isLaidOut 24 = .ok (.istore 4, 2) := by decide +kernel
theorem dL_isLaidOut_26 : decode cL_isLaidOut 26 = .ok (.iload 4, 2) := by decide +kernel
theorem dL_isLaidOut_28 : decode cL_isLaidOut 28 = .ok (.iload_n 2, 1) := by decide +kernel
theorem dL_isLaidOut_29 : decode cL_isLaidOut 29 = .ok (.if_icmp .le 88, 3) := by decide +kernel
theorem dL_isLaidOut_32 : decode cL_isLaidOut 32 = .ok (.aload_n 0, 1) := by decide +kernel
theorem dL_isLaidOut_33 : decode cL_isLaidOut 33 = .ok (.iload 4, 2) := by decide +kernel
theorem dL_isLaidOut_35 : decode cL_isLaidOut 35 = .ok (.iconst 0, 1) := by decide +kernel
theorem dL_isLaidOut_36 : decode cL_isLaidOut 36 = .ok (.invokevirtual 48, 3) := by decide +kernel
theorem dL_isLaidOut_39 : decode cL_isLaidOut 39 = .ok (.iload_n 1, 1) := by decide +kernel
theorem dL_isLaidOut_40 : decode cL_isLaidOut 40 = .ok (.if_icmp .eq 25, 3) := by decide +kernel
theorem dL_isLaidOut_43 : decode cL_isLaidOut 43 = .ok (.aload_n 0, 1) := by decide +kernel
theorem dL_isLaidOut_44 : decode cL_isLaidOut 44 = .ok (.iload 4, 2) := by decide +kernel
theorem dL_isLaidOut_46 : decode cL_isLaidOut 46 = .ok (.iconst 1, 1) := by decide +kernel
theorem dL_isLaidOut_47 : decode cL_isLaidOut 47 = .ok (.invokevirtual 48, 3) := by decide +kernel
theorem dL_isLaidOut_50 : decode cL_isLaidOut 50 = .ok (.iload_n 1, 1) := by decide +kernel
theorem dL_isLaidOut_51 : decode cL_isLaidOut 51 = .ok (.if_icmp .eq 14, 3) := by decide +kernel
theorem dL_isLaidOut_54 : decode cL_isLaidOut 54 = .ok (.aload_n 0, 1) := by decide +kernel
theorem dL_isLaidOut_55 : decode cL_isLaidOut 55 = .ok (.iload 4, 2) := by decide +kernel
theorem dL_isLaidOut_57 : decode cL_isLaidOut 57 = .ok (.iconst 2, 1) := by decide +kernel
theorem dL_isLaidOut_58 : decode cL_isLaidOut 58 = .ok (.invokevirtual 48, 3) := by decide +kernel
theorem dL_isLaidOut_61 : decode cL_isLaidOut 61 = .ok (.iload_n 1, 1) := by decide +kernel
theorem dL_isLaidOut_62 : decode cL_isLaidOut 62 = .ok (.if_icmp .ne 55, 3) := by decide +kernel
theorem dL_isLaidOut_65 : decode cL_isLaidOut 65 = .ok (.aload_n 0, 1) := by decide +kernel
theorem dL_isLaidOut_66 : decode cL_isLaidOut 66 = .ok (.iload 4, 2) := by decide +kernel
theorem dL_isLaidOut_68 : decode cL_isLaidOut 68 = .ok (.iconst 0, 1) := by decide +kernel
theorem dL_isLaidOut_69 : decode cL_isLaidOut 69 = .ok (.invokevirtual 51, 3) := by decide +kernel
theorem dL_isLaidOut_72 : decode cL_isLaidOut 72 = .ok (.bipush 10, 2) := by decide +kernel
theorem dL_isLaidOut_74 : decode cL_isLaidOut 74 = .ok (.iload_n 1, 1) := by decide +kernel
theorem dL_isLaidOut_75 : decode cL_isLaidOut 75 = .ok (.imul, 1) := by decide +kernel
theorem dL_isLaidOut_76 : decode cL_isLaidOut 76 = .ok (.iload_n 3, 1) := by decide +kernel
theorem dL_isLaidOut_77 : decode cL_isLaidOut 77 = .ok (.iadd, 1) := by decide +kernel
theorem dL_isLaidOut_78 : decode cL_isLaidOut 78 = .ok (.if_icmp .eq 35, 3) := by decide +kernel
theorem dL_isLaidOut_81 : decode cL_isLaidOut 81 = .ok (.aload_n 0, 1) := by decide +kernel
theorem dL_isLaidOut_82 : decode cL_isLaidOut 82 = .ok (.iload 4, 2) := by decide +kernel
theorem dL_isLaidOut_84 : decode cL_isLaidOut 84 = .ok (.iconst 1, 1) := by decide +kernel
theorem dL_isLaidOut_85 : decode cL_isLaidOut 85 = .ok (.invokevirtual 51, 3) := by decide +kernel
theorem dL_isLaidOut_88 : decode cL_isLaidOut 88 = .ok (.bipush 10, 2) := by decide +kernel
theorem dL_isLaidOut_90 : decode cL_isLaidOut 90 = .ok (.iload_n 1, 1) := by decide +kernel
theorem dL_isLaidOut_91 : decode cL_isLaidOut 91 = .ok (.imul, 1) := by decide +kernel
theorem dL_isLaidOut_92 : decode cL_isLaidOut 92 = .ok (.iload_n 3, 1) := by decide +kernel
theorem dL_isLaidOut_93 : decode cL_isLaidOut 93 = .ok (.iadd, 1) := by decide +kernel
theorem dL_isLaidOut_94 : decode cL_isLaidOut 94 = .ok (.if_icmp .eq 19, 3) := by decide +kernel
theorem dL_isLaidOut_97 : decode cL_isLaidOut 97 = .ok (.aload_n 0, 1) := by decide +kernel
theorem dL_isLaidOut_98 : decode cL_isLaidOut 98 = .ok (.iload 4, 2) := by decide +kernel
theorem dL_isLaidOut_100 : decode cL_isLaidOut 100 = .ok (.iconst 2, 1) := by decide +kernel
theorem dL_isLaidOut_101 : decode cL_isLaidOut 101 = .ok (.invokevirtual 51, 3) := by decide +kernel
theorem dL_isLaidOut_104 : decode cL_isLaidOut 104 = .ok (.bipush 10, 2) := by decide +kernel
theorem dL_isLaidOut_106 : decode cL_isLaidOut 106 = .ok (.iload_n 1, 1) := by decide +kernel
theorem dL_isLaidOut_107 : decode cL_isLaidOut 107 = .ok (.imul, 1) := by decide +kernel
theorem dL_isLaidOut_108 : decode cL_isLaidOut 108 = .ok (.iload_n 3, 1) := by decide +kernel
theorem dL_isLaidOut_109 : decode cL_isLaidOut 109 = .ok (.iadd, 1) := by decide +kernel
theorem dL_isLaidOut_110 : decode cL_isLaidOut 110 = .ok (.if_icmp .ne 7, 3) := by decide +kernel
theorem dL_isLaidOut_113 : decode cL_isLaidOut 113 = .ok (.iconst 1, 1) := by decide +kernel
theorem dL_isLaidOut_114 : decode cL_isLaidOut 114 = .ok (.goto 4, 3) := by decide +kernel
theorem dL_isLaidOut_117 : decode cL_isLaidOut 117 = .ok (.iconst 0, 1) := by decide +kernel
theorem dL_isLaidOut_118 : decode cL_isLaidOut 118 = .ok (.istore 5, 2) := by decide +kernel
theorem dL_isLaidOut_120 : decode cL_isLaidOut 120 = .ok (.iload 5, 2) := by decide +kernel
theorem dL_isLaidOut_122 : decode cL_isLaidOut 122 = .ok (.ifCond .ne 5, 3) := by decide +kernel
theorem dL_isLaidOut_125 : decode cL_isLaidOut 125 = .ok (.iconst 0, 1) := by decide +kernel
theorem dL_isLaidOut_126 : decode cL_isLaidOut 126 = .ok (.ireturn, 1) := by decide +kernel
theorem dL_isLaidOut_127 : decode cL_isLaidOut 127 = .ok (.iload 4, 2) := by decide +kernel
theorem dL_isLaidOut_129 : decode cL_isLaidOut 129 = .ok (.istore_n 2, 1) := by decide +kernel
theorem dL_isLaidOut_130 : decode cL_isLaidOut 130 = .ok (.iinc 3 1, 3) := by decide +kernel
theorem dL_isLaidOut_133 : decode cL_isLaidOut 133 = .ok (.goto (-121), 3) := by decide +kernel
theorem dL_isLaidOut_136 : decode cL_isLaidOut 136 = .ok (.iconst 0, 1) := by decide +kernel
theorem dL_isLaidOut_137 : decode cL_isLaidOut 137 = .ok (.istore_n 3, 1) := by decide +kernel
theorem dL_isLaidOut_138 : decode cL_isLaidOut 138 = .ok (.iload_n 3, 1) := by decide +kernel
theorem dL_isLaidOut_139 : decode cL_isLaidOut 139 = .ok (.bipush 7, 2) := by decide +kernel
theorem dL_isLaidOut_141 : decode cL_isLaidOut 141 = .ok (.if_icmp .ge 161, 3) := by decide +kernel
theorem dL_isLaidOut_144 : decode cL_isLaidOut 144 = .ok (.iconst 0, 1) := by decide +kernel
theorem dL_isLaidOut_145 : decode cL_isLaidOut 145 = .ok (.istore 4, 2) := by decide +kernel
theorem dL_isLaidOut_147 : decode cL_isLaidOut 147 = .ok (.iconst 0, 1) := by decide +kernel
theorem dL_isLaidOut_148 : decode cL_isLaidOut 148 = .ok (.istore 5, 2) := by decide +kernel
theorem dL_isLaidOut_150 : decode cL_isLaidOut 150 = .ok (.iload 5, 2) := by decide +kernel
theorem dL_isLaidOut_152 : decode cL_isLaidOut 152 = .ok (.bipush 21, 2) := by decide +kernel
theorem dL_isLaidOut_154 : decode cL_isLaidOut 154 = .ok (.if_icmp .ge 114, 3) := by decide +kernel
theorem dL_isLaidOut_157 : decode cL_isLaidOut 157 = .ok (.aload_n 0, 1) := by decide +kernel
theorem dL_isLaidOut_158 : decode cL_isLaidOut 158 = .ok (.iload 5, 2) := by decide +kernel
theorem dL_isLaidOut_160 : decode cL_isLaidOut 160 = .ok (.iconst 0, 1) := by decide +kernel
theorem dL_isLaidOut_161 : decode cL_isLaidOut 161 = .ok (.invokevirtual 48, 3) := by decide +kernel
theorem dL_isLaidOut_164 : decode cL_isLaidOut 164 = .ok (.iload_n 1, 1) := by decide +kernel
theorem dL_isLaidOut_165 : decode cL_isLaidOut 165 = .ok (.if_icmp .eq 25, 3) := by decide +kernel
theorem dL_isLaidOut_168 : decode cL_isLaidOut 168 = .ok (.aload_n 0, 1) := by decide +kernel
theorem dL_isLaidOut_169 : decode cL_isLaidOut 169 = .ok (.iload 5, 2) := by decide +kernel
theorem dL_isLaidOut_171 : decode cL_isLaidOut 171 = .ok (.iconst 1, 1) := by decide +kernel
theorem dL_isLaidOut_172 : decode cL_isLaidOut 172 = .ok (.invokevirtual 48, 3) := by decide +kernel
theorem dL_isLaidOut_175 : decode cL_isLaidOut 175 = .ok (.iload_n 1, 1) := by decide +kernel
theorem dL_isLaidOut_176 : decode cL_isLaidOut 176 = .ok (.if_icmp .eq 14, 3) := by decide +kernel
theorem dL_isLaidOut_179 : decode cL_isLaidOut 179 = .ok (.aload_n 0, 1) := by decide +kernel
theorem dL_isLaidOut_180 : decode cL_isLaidOut 180 = .ok (.iload 5, 2) := by decide +kernel
theorem dL_isLaidOut_182 : decode cL_isLaidOut 182 = .ok (.iconst 2, 1) := by decide +kernel
theorem dL_isLaidOut_183 : decode cL_isLaidOut 183 = .ok (.invokevirtual 48, 3) := by decide +kernel
theorem dL_isLaidOut_186 : decode cL_isLaidOut 186 = .ok (.iload_n 1, 1) := by decide +kernel
theorem dL_isLaidOut_187 : decode cL_isLaidOut 187 = .ok (.if_icmp .ne 7, 3) := by decide +kernel
theorem dL_isLaidOut_190 : decode cL_isLaidOut 190 = .ok (.iconst 1, 1) := by decide +kernel
theorem dL_isLaidOut_191 : decode cL_isLaidOut 191 = .ok (.goto 4, 3) := by decide +kernel
theorem dL_isLaidOut_194 : decode cL_isLaidOut 194 = .ok (.iconst 0, 1) := by decide +kernel
theorem dL_isLaidOut_195 : decode cL_isLaidOut 195 = .ok (.istore 6, 2) := by decide +kernel
theorem dL_isLaidOut_197 : decode cL_isLaidOut 197 = .ok (.aload_n 0, 1) := by decide +kernel
theorem dL_isLaidOut_198 : decode cL_isLaidOut 198 = .ok (.iload 5, 2) := by decide +kernel
theorem dL_isLaidOut_200 : decode cL_isLaidOut 200 = .ok (.iconst 0, 1) := by decide +kernel
theorem dL_isLaidOut_201 : decode cL_isLaidOut 201 = .ok (.invokevirtual 48, 3) := by decide +kernel
theorem dL_isLaidOut_204 : decode cL_isLaidOut 204 = .ok (.iload_n 3, 1) := by decide +kernel
theorem dL_isLaidOut_205 : decode cL_isLaidOut 205 = .ok (.if_icmp .eq 25, 3) := by decide +kernel
theorem dL_isLaidOut_208 : decode cL_isLaidOut 208 = .ok (.aload_n 0, 1) := by decide +kernel
theorem dL_isLaidOut_209 : decode cL_isLaidOut 209 = .ok (.iload 5, 2) := by decide +kernel
theorem dL_isLaidOut_211 : decode cL_isLaidOut 211 = .ok (.iconst 1, 1) := by decide +kernel
theorem dL_isLaidOut_212 : decode cL_isLaidOut 212 = .ok (.invokevirtual 48, 3) := by decide +kernel
theorem dL_isLaidOut_215 : decode cL_isLaidOut 215 = .ok (.iload_n 3, 1) := by decide +kernel
theorem dL_isLaidOut_216 : decode cL_isLaidOut 216 = .ok (.if_icmp .eq 14, 3) := by decide +kernel
theorem dL_isLaidOut_219 : decode cL_isLaidOut 219 = .ok (.aload_n 0, 1) := by decide +kernel
theorem dL_isLaidOut_220 : decode cL_isLaidOut 220 = .ok (.iload 5, 2) := by decide +kernel
theorem dL_isLaidOut_222 : decode cL_isLaidOut 222 = .ok (.iconst 2, 1) := by decide +kernel
theorem dL_isLaidOut_223 : decode cL_isLaidOut 223 = .ok (.invokevirtual 48, 3) := by decide +kernel
theorem dL_isLaidOut_226 : decode cL_isLaidOut 226 = .ok (.iload_n 3, 1) := by decide +kernel
theorem dL_isLaidOut_227 : decode cL_isLaidOut 227 = .ok (.if_icmp .ne 7, 3) := by decide +kernel
theorem dL_isLaidOut_230 : decode cL_isLaidOut 230 = .ok (.iconst 1, 1) := by decide +kernel
theorem dL_isLaidOut_231 : decode cL_isLaidOut 231 = .ok (.goto 4, 3) := by decide +kernel
theorem dL_isLaidOut_234 : decode cL_isLaidOut 234 = .ok (.iconst 0, 1) := by decide +kernel
theorem dL_isLaidOut_235 : decode cL_isLaidOut 235 = .ok (.istore 7, 2) := by decide +kernel
theorem dL_isLaidOut_237 : decode cL_isLaidOut 237 = .ok (.iload 4, 2) := by decide +kernel
theorem dL_isLaidOut_239 : decode cL_isLaidOut 239 = .ok (.iload 6, 2) := by decide +kernel
theorem dL_isLaidOut_241 : decode cL_isLaidOut 241 = .ok (.ifCond .eq 17, 3) := by decide +kernel
theorem dL_isLaidOut_244 : decode cL_isLaidOut 244 = .ok (.iload 7, 2) := by decide +kernel
theorem dL_isLaidOut_246 : decode cL_isLaidOut 246 = .ok (.ifCond .eq 12, 3) := by decide +kernel
theorem dL_isLaidOut_249 : decode cL_isLaidOut 249 = .ok (.iload_n 1, 1) := by decide +kernel
theorem dL_isLaidOut_250 : decode cL_isLaidOut 250 = .ok (.iload_n 3, 1) := by decide +kernel
theorem dL_isLaidOut_251 : decode cL_isLaidOut 251 = .ok (.if_icmp .eq 7, 3) := by decide +kernel
theorem dL_isLaidOut_254 : decode cL_isLaidOut 254 = .ok (.iconst 1, 1) := by decide +kernel
theorem dL_isLaidOut_255 : decode cL_isLaidOut 255 = .ok (.goto 4, 3) := by decide +kernel
theorem dL_isLaidOut_258 : decode cL_isLaidOut 258 = .ok (.iconst 0, 1) := by decide +kernel
theorem dL_isLaidOut_259 : decode cL_isLaidOut 259 = .ok (.iadd, 1) := by decide +kernel
theorem dL_isLaidOut_260 : decode cL_isLaidOut 260 = .ok (.istore 4, 2) := by decide +kernel
theorem dL_isLaidOut_262 : decode cL_isLaidOut 262 = .ok (.iinc 5 1, 3) := by decide +kernel
theorem dL_isLaidOut_265 : decode cL_isLaidOut 265 = .ok (.goto (-115), 3) := by decide +kernel
theorem dL_isLaidOut_268 : decode cL_isLaidOut 268 = .ok (.iload 4, 2) := by decide +kernel
theorem dL_isLaidOut_270 : decode cL_isLaidOut 270 = .ok (.iload_n 1, 1) := by decide +kernel
theorem dL_isLaidOut_271 : decode cL_isLaidOut 271 = .ok (.iload_n 3, 1) := by decide +kernel
theorem dL_isLaidOut_272 : decode cL_isLaidOut 272 = .ok (.if_icmp .ne 7, 3) := by decide +kernel
theorem dL_isLaidOut_275 : decode cL_isLaidOut 275 = .ok (.iconst 0, 1) := by decide +kernel
theorem dL_isLaidOut_276 : decode cL_isLaidOut 276 = .ok (.goto 4, 3) := by decide +kernel
theorem dL_isLaidOut_279 : decode cL_isLaidOut 279 = .ok (.iconst 3, 1) := by decide +kernel
theorem dL_isLaidOut_280 : decode cL_isLaidOut 280 = .ok (.if_icmp .ne 14, 3) := by decide +kernel
theorem dL_isLaidOut_283 : decode cL_isLaidOut 283 = .ok (.aload_n 0, 1) := by decide +kernel
theorem dL_isLaidOut_284 : decode cL_isLaidOut 284 = .ok (.iload_n 1, 1) := by decide +kernel
theorem dL_isLaidOut_285 : decode cL_isLaidOut 285 = .ok (.iload_n 3, 1) := by decide +kernel
theorem dL_isLaidOut_286 : decode cL_isLaidOut 286 = .ok (.invokevirtual 54, 3) := by decide +kernel
theorem dL_isLaidOut_289 : decode cL_isLaidOut 289 = .ok (.iload 4, 2) := by decide +kernel
theorem dL_isLaidOut_291 : decode cL_isLaidOut 291 = .ok (.if_icmp .eq 5, 3) := by decide +kernel
theorem dL_isLaidOut_294 : decode cL_isLaidOut 294 = .ok (.iconst 0, 1) := by decide +kernel
theorem dL_isLaidOut_295 : decode cL_isLaidOut 295 = .ok (.ireturn, 1) := by decide +kernel
theorem dL_isLaidOut_296 : decode cL_isLaidOut 296 = .ok (.iinc 3 1, 3) := by decide +kernel
theorem dL_isLaidOut_299 : decode cL_isLaidOut 299 = .ok (.goto (-161), 3) := by decide +kernel
theorem dL_isLaidOut_302 : decode cL_isLaidOut 302 = .ok (.iinc 1 1, 3) := by decide +kernel
theorem dL_isLaidOut_305 : decode cL_isLaidOut 305 = .ok (.goto (-303), 3) := by decide +kernel
theorem dL_isLaidOut_308 : decode cL_isLaidOut 308 = .ok (.iconst 0, 1) := by decide +kernel
theorem dL_isLaidOut_309 : decode cL_isLaidOut 309 = .ok (.istore_n 1, 1) := by decide +kernel
theorem dL_isLaidOut_310 : decode cL_isLaidOut 310 = .ok (.iload_n 1, 1) := by decide +kernel
theorem dL_isLaidOut_311 : decode cL_isLaidOut 311 = .ok (.bipush 21, 2) := by decide +kernel
theorem dL_isLaidOut_313 : decode cL_isLaidOut 313 = .ok (.if_icmp .ge 32, 3) := by decide +kernel
theorem dL_isLaidOut_316 : decode cL_isLaidOut 316 = .ok (.aload_n 0, 1) := by decide +kernel
theorem dL_isLaidOut_317 : decode cL_isLaidOut 317 = .ok (.iload_n 1, 1) := by decide +kernel
theorem dL_isLaidOut_318 : decode cL_isLaidOut 318 = .ok (.iconst 2, 1) := by decide +kernel
theorem dL_isLaidOut_319 : decode cL_isLaidOut 319 = .ok (.invokevirtual 51, 3) := by decide +kernel
theorem dL_isLaidOut_322 : decode cL_isLaidOut 322 = .ok (.bipush 10, 2) := by decide +kernel
theorem dL_isLaidOut_324 : decode cL_isLaidOut 324 = .ok (.idiv, 1) := by decide +kernel
theorem dL_isLaidOut_325 : decode cL_isLaidOut 325 = .ok (.aload_n 0, 1) := by decide +kernel
theorem dL_isLaidOut_326 : decode cL_isLaidOut 326 = .ok (.iload_n 1, 1) := by decide +kernel
theorem dL_isLaidOut_327 : decode cL_isLaidOut 327 = .ok (.iload_n 1, 1) := by decide +kernel
theorem dL_isLaidOut_328 : decode cL_isLaidOut 328 = .ok (.bipush 7, 2) := by decide +kernel
theorem dL_isLaidOut_330 : decode cL_isLaidOut 330 = .ok (.idiv, 1) := by decide +kernel
theorem dL_isLaidOut_331 : decode cL_isLaidOut 331 = .ok (.invokevirtual 48, 3) := by decide +kernel
theorem dL_isLaidOut_334 : decode cL_isLaidOut 334 = .ok (.if_icmp .eq 5, 3) := by decide +kernel
theorem dL_isLaidOut_337 : decode cL_isLaidOut 337 = .ok (.iconst 0, 1) := by decide +kernel
theorem dL_isLaidOut_338 : decode cL_isLaidOut 338 = .ok (.ireturn, 1) := by decide +kernel
theorem dL_isLaidOut_339 : decode cL_isLaidOut 339 = .ok (.iinc 1 1, 3) := by decide +kernel
theorem dL_isLaidOut_342 : decode cL_isLaidOut 342 = .ok (.goto (-32), 3) := by decide +kernel
theorem dL_isLaidOut_345 : decode cL_isLaidOut 345 = .ok (.iconst 1, 1) := by decide +kernel
theorem dL_isLaidOut_346 : decode cL_isLaidOut 346 = .ok (.ireturn, 1) := by decide +kernel
