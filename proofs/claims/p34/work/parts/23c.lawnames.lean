set_option maxRecDepth 20000 in
theorem ggL_holds_X6_state : GoodIn wsL_holds wsX6_state := goodIn_ca (goodIn_r _ [6, 7, 8, 9, 10, 11, 5, 12, 13, 14, 15, 16, 17, 18, 19, 20, 21, 22, 23, 24, 158, 159, 160, 161, 162, 163] (by decide +kernel) (by decide +kernel)) (goodIn_sub (fun _ h => List.mem_cons_of_mem _ (List.mem_append_right _ h)) (by decide +kernel))
set_option maxRecDepth 20000 in
theorem gL_holds_X6_state : GoodIn wsL_holds (wsV RL 42 RX6 yX6_state wsX6_state) := goodIn_app (goodIn_of _ (by decide +kernel)) ggL_holds_X6_state
set_option maxRecDepth 20000 in
theorem ggL_holds_X6_unit : GoodIn wsL_holds wsX6_unit := goodIn_ca (goodIn_r _ [28, 7, 8, 10, 11, 5, 12, 29, 30, 31, 32, 33, 34, 35, 36, 37, 38, 39, 9, 40, 41, 42, 16, 43, 18, 44, 45, 46, 19, 20, 21, 22, 23, 24, 47, 48, 49, 50, 51, 52, 53, 158, 159, 160, 161, 162, 163] (by decide +kernel) (by decide +kernel)) (goodIn_sub (fun _ h => List.mem_cons_of_mem _ (List.mem_append_right _ h)) (by decide +kernel))
set_option maxRecDepth 20000 in
theorem gL_holds_X6_unit : GoodIn wsL_holds (wsV RL 57 RX6 yX6_unit wsX6_unit) := goodIn_app (goodIn_of _ (by decide +kernel)) ggL_holds_X6_unit
set_option maxRecDepth 20000 in
theorem ggL_holds_X6_lostIfFailed : GoodIn wsL_holds wsX6_lostIfFailed := goodIn_ca (goodIn_r _ [57, 7, 8, 10, 11, 5, 12, 58, 59, 60, 61, 62, 63, 64, 65, 34, 66, 67, 68, 69, 70, 71, 72, 20, 21, 22, 23, 24, 73, 74, 75, 76, 9, 40, 41, 42, 16, 43, 18, 44, 45, 46, 19, 47, 48, 49, 77, 78, 79, 80, 81, 82, 83, 84, 85, 86, 158, 159, 160, 161, 164, 165, 166, 163, 162] (by decide +kernel) (by decide +kernel)) (goodIn_sub (fun _ h => List.mem_cons_of_mem _ (List.mem_append_right _ h)) (by decide +kernel))
set_option maxRecDepth 20000 in
theorem gL_holds_X6_lostIfFailed : GoodIn wsL_holds (wsV RL 61 RX6 yX6_lostIfFailed wsX6_lostIfFailed) := goodIn_app (goodIn_of _ (by decide +kernel)) ggL_holds_X6_lostIfFailed
set_option maxRecDepth 20000 in
theorem ggL_holds_X6_lost : GoodIn wsL_holds wsX6_lost := goodIn_r _ [90, 58, 59, 60, 5, 61, 62, 63, 64, 65, 34, 66, 67, 68, 69, 70, 71, 72, 20, 21, 22, 23, 24, 73, 74, 75, 76, 9, 40, 41, 42, 16, 43, 18, 44, 45, 46, 19, 47, 48, 49, 77, 78, 79, 80, 81, 82, 83, 84, 85, 86, 158, 159, 160, 161, 164, 165, 166, 163, 162] (by decide +kernel) (by decide +kernel)
set_option maxRecDepth 20000 in
theorem gL_holds_X6_lost : GoodIn wsL_holds (wsV RL 64 RX6 yX6_lost wsX6_lost) := goodIn_app (goodIn_of _ (by decide +kernel)) ggL_holds_X6_lost
set_option maxRecDepth 20000 in
theorem ggL_holds_X6_peek : GoodIn wsL_holds wsX6_peek := goodIn_ca (goodIn_r _ [94, 7, 8, 62, 95, 96, 5, 97, 63, 64, 65, 34, 66, 67, 68, 69, 70, 71, 72, 20, 21, 22, 23, 24, 98, 99, 100, 101, 9, 73, 74, 75, 76, 40, 41, 42, 16, 43, 18, 44, 45, 46, 19, 47, 48, 49, 77, 78, 79, 80, 81, 82, 83, 84, 85, 86, 50, 51, 52, 53, 102, 103, 104, 105, 158, 159, 160, 161, 164, 165, 166, 163, 162] (by decide +kernel) (by decide +kernel)) (goodIn_sub (fun _ h => List.mem_cons_of_mem _ (List.mem_append_right _ h)) (by decide +kernel))
set_option maxRecDepth 20000 in
theorem gL_holds_X6_peek : GoodIn wsL_holds (wsV RL 68 RX6 yX6_peek wsX6_peek) := goodIn_app (goodIn_of _ (by decide +kernel)) ggL_holds_X6_peek
set_option maxRecDepth 20000 in
theorem ggL_holds_X6_losses : GoodIn wsL_holds wsX6_losses := goodIn_r _ [109, 9, 110, 111, 112, 16, 113, 18, 19, 20, 21, 22, 23, 24, 158, 159, 160, 161, 162, 163] (by decide +kernel) (by decide +kernel)
set_option maxRecDepth 20000 in
theorem gL_holds_X6_losses : GoodIn wsL_holds (wsV RL 71 RX6 yX6_losses wsX6_losses) := goodIn_app (goodIn_of _ (by decide +kernel)) ggL_holds_X6_losses
set_option maxRecDepth 20000 in
theorem ggL_holds_X6_wrong : GoodIn wsL_holds wsX6_wrong := goodIn_r _ [117, 118, 119, 120, 5, 121, 62, 9, 122, 68, 69, 34, 70, 71, 72, 20, 21, 22, 23, 24, 123, 124, 125, 126, 40, 41, 42, 16, 43, 18, 44, 45, 46, 19, 47, 48, 49, 77, 78, 79, 80, 81, 82, 83, 84, 85, 86, 50, 51, 52, 53, 102, 103, 104, 105, 158, 159, 160, 161, 164, 165, 166, 163, 162] (by decide +kernel) (by decide +kernel)
set_option maxRecDepth 20000 in
theorem gL_holds_X6_wrong : GoodIn wsL_holds (wsV RL 74 RX6 yX6_wrong wsX6_wrong) := goodIn_app (goodIn_of _ (by decide +kernel)) ggL_holds_X6_wrong
set_option maxRecDepth 20000 in
theorem ggL_holds_X6_spares : GoodIn wsL_holds wsX6_spares := goodIn_r _ [130, 9, 131, 132, 133, 16, 134, 18, 19, 20, 21, 22, 23, 24, 158, 159, 160, 161, 162, 163] (by decide +kernel) (by decide +kernel)
set_option maxRecDepth 20000 in
theorem gL_holds_X6_spares : GoodIn wsL_holds (wsV RL 77 RX6 yX6_spares wsX6_spares) := goodIn_app (goodIn_of _ (by decide +kernel)) ggL_holds_X6_spares
set_option maxRecDepth 20000 in
theorem ggL_holds_X6_balance : GoodIn wsL_holds wsX6_balance := goodIn_r _ [138, 9, 139, 140, 141, 142, 143, 144, 145, 146, 147, 148, 16, 149, 18, 19, 20, 21, 22, 23, 24, 158, 159, 160, 161, 162, 163] (by decide +kernel) (by decide +kernel)
set_option maxRecDepth 20000 in
theorem gL_holds_X6_balance : GoodIn wsL_holds (wsV RL 80 RX6 yX6_balance wsX6_balance) := goodIn_app (goodIn_of _ (by decide +kernel)) ggL_holds_X6_balance
set_option maxRecDepth 20000 in
theorem ggL_holds_X6_worst : GoodIn wsL_holds wsX6_worst := goodIn_r _ [153, 154, 155, 156, 5, 157, 9, 58, 59, 60, 61, 62, 63, 64, 65, 34, 66, 67, 68, 69, 70, 71, 72, 20, 21, 22, 23, 24, 73, 74, 75, 76, 40, 41, 42, 16, 43, 18, 44, 45, 46, 19, 47, 48, 49, 77, 78, 79, 80, 81, 82, 83, 84, 85, 86, 13, 14, 15, 17, 158, 159, 160, 161, 164, 165, 166, 163, 162] (by decide +kernel) (by decide +kernel)
set_option maxRecDepth 20000 in
theorem gL_holds_X6_worst : GoodIn wsL_holds (wsV RL 84 RX6 yX6_worst wsX6_worst) := goodIn_app (goodIn_of _ (by decide +kernel)) ggL_holds_X6_worst
theorem dL_holds_0 : decode cL_holds 0 = .ok (.iconst 0, 1) := by decide +kernel
theorem dL_holds_1 : decode cL_holds 1 = .ok (.istore_n 3, 1) := by decide +kernel
theorem dL_holds_2 : decode cL_holds 2 = .ok (.iconst 0, 1) := by decide +kernel
theorem dL_holds_3 : decode cL_holds 3 = .ok (.istore 4, 2) := by decide +kernel
theorem dL_holds_5 : decode cL_holds 5 = .ok (.iconst (-1), 1) := by decide +kernel
theorem dL_holds_6 : decode cL_holds 6 = .ok (.istore 5, 2) := by decide +kernel
theorem dL_holds_8 : decode cL_holds 8 = .ok (.iconst 0, 1) := by decide +kernel
theorem dL_holds_9 : decode cL_holds 9 = .ok (.istore 6, 2) := by decide +kernel
theorem dL_holds_11 : decode cL_holds 11 = .ok (.iload 6, 2) := by decide +kernel
theorem dL_holds_13 : decode cL_holds 13 = .ok (.bipush 7, 2) := by decide +kernel
theorem dL_holds_15 : decode cL_holds 15 = .ok (.if_icmp .ge 162, 3) := by decide +kernel
theorem dL_holds_18 : decode cL_holds 18 = .ok (.aload_n 0, 1) := by decide +kernel
theorem dL_holds_19 : decode cL_holds 19 = .ok (.iload 6, 2) := by decide +kernel
theorem dL_holds_21 : decode cL_holds 21 = .ok (.invokevirtual 42, 3) := by decide +kernel
theorem dL_holds_24 : decode cL_holds 24 = .ok (.istore 7, 2) := by decide +kernel
theorem dL_holds_26 : decode cL_holds 26 = .ok (.iconst 0, 1) := by decide +kernel
theorem dL_holds_27 : decode cL_holds 27 = .ok (.istore 8, 2) := by decide +kernel
theorem dL_holds_29 : decode cL_holds 29 = .ok (.iload 8, 2) := by decide +kernel
theorem dL_holds_31 : decode cL_holds 31 = .ok (.bipush 9, 2) := by decide +kernel
theorem dL_holds_33 : decode cL_holds 33 = .ok (.if_icmp .ge 56, 3) := by decide +kernel
theorem dL_holds_36 : decode cL_holds 36 = .ok (.aload_n 0, 1) := by decide +kernel
theorem dL_holds_37 : decode cL_holds 37 = .ok (.iload 6, 2) := by decide +kernel
theorem dL_holds_39 : decode cL_holds 39 = .ok (.iload 8, 2) := by decide +kernel
theorem dL_holds_41 : decode cL_holds 41 = .ok (.invokevirtual 57, 3) := by decide +kernel
theorem dL_holds_44 : decode cL_holds 44 = .ok (.iconst (-1), 1) := by decide +kernel
theorem dL_holds_45 : decode cL_holds 45 = .ok (.if_icmp .ne 7, 3) := by decide +kernel
theorem dL_holds_48 : decode cL_holds 48 = .ok (.iconst 1, 1) := by decide +kernel
theorem dL_holds_49 : decode cL_holds 49 = .ok (.goto 4, 3) := by decide +kernel
theorem dL_holds_52 : decode cL_holds 52 = .ok (.iconst 0, 1) := by decide +kernel
theorem dL_holds_53 : decode cL_holds 53 = .ok (.iload 8, 2) := by decide +kernel
theorem dL_holds_55 : decode cL_holds 55 = .ok (.iload 7, 2) := by decide +kernel
theorem dL_holds_57 : decode cL_holds 57 = .ok (.if_icmp .lt 7, 3) := by decide +kernel
theorem dL_holds_60 : decode cL_holds 60 = .ok (.iconst 1, 1) := by decide +kernel
theorem dL_holds_61 : decode cL_holds 61 = .ok (.goto 4, 3) := by decide +kernel
theorem dL_holds_64 : decode cL_holds 64 = .ok (.iconst 0, 1) := by decide +kernel
theorem dL_holds_65 : decode cL_holds 65 = .ok (.if_icmp .ne 16, 3) := by decide +kernel
theorem dL_holds_68 : decode cL_holds 68 = .ok (.aload_n 0, 1) := by decide +kernel
theorem dL_holds_69 : decode cL_holds 69 = .ok (.iload 6, 2) := by decide +kernel
theorem dL_holds_71 : decode cL_holds 71 = .ok (.iload 8, 2) := by decide +kernel
theorem dL_holds_73 : decode cL_holds 73 = .ok (.invokevirtual 57, 3) := by decide +kernel
theorem dL_holds_76 : decode cL_holds 76 = .ok (.ldc 60, 2) := by decide +kernel
theorem dL_holds_78 : decode cL_holds 78 = .ok (.if_icmp .le 5, 3) := by decide +kernel
theorem dL_holds_81 : decode cL_holds 81 = .ok (.iconst 0, 1) := by decide +kernel
theorem dL_holds_82 : decode cL_holds 82 = .ok (.ireturn, 1) := by decide +kernel
theorem dL_holds_83 : decode cL_holds 83 = .ok (.iinc 8 1, 3) := by decide +kernel
theorem dL_holds_86 : decode cL_holds 86 = .ok (.goto (-57), 3) := by decide +kernel
theorem dL_holds_89 : decode cL_holds 89 = .ok (.iload 7, 2) := by decide +kernel
theorem dL_holds_91 : decode cL_holds 91 = .ok (.bipush 9, 2) := by decide +kernel
theorem dL_holds_93 : decode cL_holds 93 = .ok (.if_icmp .ne 31, 3) := by decide +kernel
theorem dL_holds_96 : decode cL_holds 96 = .ok (.iload 5, 2) := by decide +kernel
theorem dL_holds_98 : decode cL_holds 98 = .ok (.ifCond .lt 14, 3) := by decide +kernel
theorem dL_holds_101 : decode cL_holds 101 = .ok (.aload_n 0, 1) := by decide +kernel
theorem dL_holds_102 : decode cL_holds 102 = .ok (.iload 6, 2) := by decide +kernel
theorem dL_holds_104 : decode cL_holds 104 = .ok (.invokevirtual 61, 3) := by decide +kernel
theorem dL_holds_107 : decode cL_holds 107 = .ok (.iload 4, 2) := by decide +kernel
theorem dL_holds_109 : decode cL_holds 109 = .ok (.if_icmp .le 15, 3) := by decide +kernel
theorem dL_holds_112 : decode cL_holds 112 = .ok (.iload 6, 2) := by decide +kernel
theorem dL_holds_114 : decode cL_holds 114 = .ok (.istore 5, 2) := by decide +kernel
theorem dL_holds_116 : decode cL_holds 116 = .ok (.aload_n 0, 1) := by decide +kernel
theorem dL_holds_117 : decode cL_holds 117 = .ok (.iload 6, 2) := by decide +kernel
theorem dL_holds_119 : decode cL_holds 119 = .ok (.invokevirtual 61, 3) := by decide +kernel
theorem dL_holds_122 : decode cL_holds 122 = .ok (.istore 4, 2) := by decide +kernel
theorem dL_holds_124 : decode cL_holds 124 = .ok (.iload 7, 2) := by decide +kernel
theorem dL_holds_126 : decode cL_holds 126 = .ok (.iconst (-1), 1) := by decide +kernel
theorem dL_holds_127 : decode cL_holds 127 = .ok (.if_icmp .lt 42, 3) := by decide +kernel
theorem dL_holds_130 : decode cL_holds 130 = .ok (.iload 7, 2) := by decide +kernel
theorem dL_holds_132 : decode cL_holds 132 = .ok (.bipush 9, 2) := by decide +kernel
theorem dL_holds_134 : decode cL_holds 134 = .ok (.if_icmp .gt 35, 3) := by decide +kernel
theorem dL_holds_137 : decode cL_holds 137 = .ok (.iload 7, 2) := by decide +kernel
theorem dL_holds_139 : decode cL_holds 139 = .ok (.iconst (-1), 1) := by decide +kernel
theorem dL_holds_140 : decode cL_holds 140 = .ok (.if_icmp .ne 16, 3) := by decide +kernel
theorem dL_holds_143 : decode cL_holds 143 = .ok (.aload_n 0, 1) := by decide +kernel
theorem dL_holds_144 : decode cL_holds 144 = .ok (.iload 6, 2) := by decide +kernel
theorem dL_holds_146 : decode cL_holds 146 = .ok (.invokevirtual 61, 3) := by decide +kernel
theorem dL_holds_149 : decode cL_holds 149 = .ok (.aload_n 0, 1) := by decide +kernel
theorem dL_holds_150 : decode cL_holds 150 = .ok (.invokevirtual 64, 3) := by decide +kernel
theorem dL_holds_153 : decode cL_holds 153 = .ok (.if_icmp .ne 16, 3) := by decide +kernel
theorem dL_holds_156 : decode cL_holds 156 = .ok (.aload_n 0, 1) := by decide +kernel
theorem dL_holds_157 : decode cL_holds 157 = .ok (.iload 6, 2) := by decide +kernel
theorem dL_holds_159 : decode cL_holds 159 = .ok (.invokevirtual 61, 3) := by decide +kernel
theorem dL_holds_162 : decode cL_holds 162 = .ok (.aload_n 0, 1) := by decide +kernel
theorem dL_holds_163 : decode cL_holds 163 = .ok (.invokevirtual 64, 3) := by decide +kernel
theorem dL_holds_166 : decode cL_holds 166 = .ok (.if_icmp .ge 5, 3) := by decide +kernel
theorem dL_holds_169 : decode cL_holds 169 = .ok (.iconst 0, 1) := by decide +kernel
theorem dL_holds_170 : decode cL_holds 170 = .ok (.ireturn, 1) := by decide +kernel
theorem dL_holds_171 : decode cL_holds 171 = .ok (.iinc 6 1, 3) := by decide +kernel
theorem dL_holds_174 : decode cL_holds 174 = .ok (.goto (-163), 3) := by decide +kernel
theorem dL_holds_177 : decode cL_holds 177 = .ok (.iconst 0, 1) := by decide +kernel
theorem dL_holds_178 : decode cL_holds 178 = .ok (.istore 6, 2) := by decide +kernel
theorem dL_holds_180 : decode cL_holds 180 = .ok (.iload 6, 2) := by decide +kernel
theorem dL_holds_182 : decode cL_holds 182 = .ok (.bipush 42, 2) := by decide +kernel
theorem dL_holds_184 : decode cL_holds 184 = .ok (.if_icmp .ge 54, 3) := by decide +kernel
theorem dL_holds_187 : decode cL_holds 187 = .ok (.iload_n 3, 1) := by decide +kernel
theorem dL_holds_188 : decode cL_holds 188 = .ok (.aload_n 0, 1) := by decide +kernel
theorem dL_holds_189 : decode cL_holds 189 = .ok (.iload 6, 2) := by decide +kernel
theorem dL_holds_191 : decode cL_holds 191 = .ok (.invokevirtual 68, 3) := by decide +kernel
theorem dL_holds_194 : decode cL_holds 194 = .ok (.iconst (-1), 1) := by decide +kernel
theorem dL_holds_195 : decode cL_holds 195 = .ok (.if_icmp .ne 7, 3) := by decide +kernel
theorem dL_holds_198 : decode cL_holds 198 = .ok (.iconst 1, 1) := by decide +kernel
theorem dL_holds_199 : decode cL_holds 199 = .ok (.goto 4, 3) := by decide +kernel
theorem dL_holds_202 : decode cL_holds 202 = .ok (.iconst 0, 1) := by decide +kernel
theorem dL_holds_203 : decode cL_holds 203 = .ok (.iadd, 1) := by decide +kernel
theorem dL_holds_204 : decode cL_holds 204 = .ok (.istore_n 3, 1) := by decide +kernel
theorem dL_holds_205 : decode cL_holds 205 = .ok (.aload_n 1, 1) := by decide +kernel
theorem dL_holds_206 : decode cL_holds 206 = .ok (.iconst 0, 1) := by decide +kernel
theorem dL_holds_207 : decode cL_holds 207 = .ok (.iaload, 1) := by decide +kernel
theorem dL_holds_208 : decode cL_holds 208 = .ok (.ifCond .ne 24, 3) := by decide +kernel
theorem dL_holds_211 : decode cL_holds 211 = .ok (.aload_n 1, 1) := by decide +kernel
theorem dL_holds_212 : decode cL_holds 212 = .ok (.iconst 1, 1) := by decide +kernel
theorem dL_holds_213 : decode cL_holds 213 = .ok (.iaload, 1) := by decide +kernel
theorem dL_holds_214 : decode cL_holds 214 = .ok (.ifCond .ne 18, 3) := by decide +kernel
theorem dL_holds_217 : decode cL_holds 217 = .ok (.aload_n 0, 1) := by decide +kernel
theorem dL_holds_218 : decode cL_holds 218 = .ok (.iload 6, 2) := by decide +kernel
theorem dL_holds_220 : decode cL_holds 220 = .ok (.invokevirtual 68, 3) := by decide +kernel
theorem dL_holds_223 : decode cL_holds 223 = .ok (.aload_n 2, 1) := by decide +kernel
theorem dL_holds_224 : decode cL_holds 224 = .ok (.iload 6, 2) := by decide +kernel
theorem dL_holds_226 : decode cL_holds 226 = .ok (.iaload, 1) := by decide +kernel
theorem dL_holds_227 : decode cL_holds 227 = .ok (.if_icmp .eq 5, 3) := by decide +kernel
theorem dL_holds_230 : decode cL_holds 230 = .ok (.iconst 0, 1) := by decide +kernel
theorem dL_holds_231 : decode cL_holds 231 = .ok (.ireturn, 1) := by decide +kernel
theorem dL_holds_232 : decode cL_holds 232 = .ok (.iinc 6 1, 3) := by decide +kernel
theorem dL_holds_235 : decode cL_holds 235 = .ok (.goto (-55), 3) := by decide +kernel
theorem dL_holds_238 : decode cL_holds 238 = .ok (.aload_n 0, 1) := by decide +kernel
theorem dL_holds_239 : decode cL_holds 239 = .ok (.invokevirtual 64, 3) := by decide +kernel
theorem dL_holds_242 : decode cL_holds 242 = .ok (.iload_n 3, 1) := by decide +kernel
theorem dL_holds_243 : decode cL_holds 243 = .ok (.if_icmp .ne 88, 3) := by decide +kernel
theorem dL_holds_246 : decode cL_holds 246 = .ok (.aload_n 1, 1) := by decide +kernel
theorem dL_holds_247 : decode cL_holds 247 = .ok (.iconst 1, 1) := by decide +kernel
theorem dL_holds_248 : decode cL_holds 248 = .ok (.iaload, 1) := by decide +kernel
theorem dL_holds_249 : decode cL_holds 249 = .ok (.iconst 1, 1) := by decide +kernel
theorem dL_holds_250 : decode cL_holds 250 = .ok (.if_icmp .eq 14, 3) := by decide +kernel
theorem dL_holds_253 : decode cL_holds 253 = .ok (.iload_n 3, 1) := by decide +kernel
theorem dL_holds_254 : decode cL_holds 254 = .ok (.ifCond .ne 77, 3) := by decide +kernel
theorem dL_holds_257 : decode cL_holds 257 = .ok (.aload_n 0, 1) := by decide +kernel
theorem dL_holds_258 : decode cL_holds 258 = .ok (.invokevirtual 71, 3) := by decide +kernel
theorem dL_holds_261 : decode cL_holds 261 = .ok (.ifCond .ne 70, 3) := by decide +kernel
theorem dL_holds_264 : decode cL_holds 264 = .ok (.aload_n 1, 1) := by decide +kernel
theorem dL_holds_265 : decode cL_holds 265 = .ok (.iconst 0, 1) := by decide +kernel
theorem dL_holds_266 : decode cL_holds 266 = .ok (.iaload, 1) := by decide +kernel
theorem dL_holds_267 : decode cL_holds 267 = .ok (.iconst 1, 1) := by decide +kernel
theorem dL_holds_268 : decode cL_holds 268 = .ok (.if_icmp .eq 17, 3) := by decide +kernel
theorem dL_holds_271 : decode cL_holds 271 = .ok (.aload_n 0, 1) := by decide +kernel
theorem dL_holds_272 : decode cL_holds 272 = .ok (.invokevirtual 71, 3) := by decide +kernel
theorem dL_holds_275 : decode cL_holds 275 = .ok (.ifCond .gt 10, 3) := by decide +kernel
theorem dL_holds_278 : decode cL_holds 278 = .ok (.aload_n 0, 1) := by decide +kernel
theorem dL_holds_279 : decode cL_holds 279 = .ok (.invokevirtual 74, 3) := by decide +kernel
theorem dL_holds_282 : decode cL_holds 282 = .ok (.ifCond .ne 49, 3) := by decide +kernel
theorem dL_holds_285 : decode cL_holds 285 = .ok (.aload_n 0, 1) := by decide +kernel
theorem dL_holds_286 : decode cL_holds 286 = .ok (.invokevirtual 77, 3) := by decide +kernel
theorem dL_holds_289 : decode cL_holds 289 = .ok (.ifCond .lt 42, 3) := by decide +kernel
theorem dL_holds_292 : decode cL_holds 292 = .ok (.aload_n 0, 1) := by decide +kernel
theorem dL_holds_293 : decode cL_holds 293 = .ok (.invokevirtual 77, 3) := by decide +kernel
theorem dL_holds_296 : decode cL_holds 296 = .ok (.iconst 5, 1) := by decide +kernel
theorem dL_holds_297 : decode cL_holds 297 = .ok (.if_icmp .gt 34, 3) := by decide +kernel
theorem dL_holds_300 : decode cL_holds 300 = .ok (.aload_n 0, 1) := by decide +kernel
theorem dL_holds_301 : decode cL_holds 301 = .ok (.invokevirtual 80, 3) := by decide +kernel
theorem dL_holds_304 : decode cL_holds 304 = .ok (.dconst 0, 1) := by decide +kernel
theorem dL_holds_305 : decode cL_holds 305 = .ok (.dcmp .l, 1) := by decide +kernel
theorem dL_holds_306 : decode cL_holds 306 = .ok (.ifCond .lt 25, 3) := by decide +kernel
theorem dL_holds_309 : decode cL_holds 309 = .ok (.aload_n 0, 1) := by decide +kernel
theorem dL_holds_310 : decode cL_holds 310 = .ok (.invokevirtual 80, 3) := by decide +kernel
theorem dL_holds_313 : decode cL_holds 313 = .ok (.dconst 1, 1) := by decide +kernel
theorem dL_holds_314 : decode cL_holds 314 = .ok (.dcmp .g, 1) := by decide +kernel
theorem dL_holds_315 : decode cL_holds 315 = .ok (.ifCond .gt 16, 3) := by decide +kernel
theorem dL_holds_318 : decode cL_holds 318 = .ok (.aload_n 0, 1) := by decide +kernel
theorem dL_holds_319 : decode cL_holds 319 = .ok (.invokevirtual 84, 3) := by decide +kernel
theorem dL_holds_322 : decode cL_holds 322 = .ok (.iload 5, 2) := by decide +kernel
theorem dL_holds_324 : decode cL_holds 324 = .ok (.if_icmp .ne 7, 3) := by decide +kernel
theorem dL_holds_327 : decode cL_holds 327 = .ok (.iconst 1, 1) := by decide +kernel
theorem dL_holds_328 : decode cL_holds 328 = .ok (.goto 4, 3) := by decide +kernel
theorem dL_holds_331 : decode cL_holds 331 = .ok (.iconst 0, 1) := by decide +kernel
theorem dL_holds_332 : decode cL_holds 332 = .ok (.ireturn, 1) := by decide +kernel
