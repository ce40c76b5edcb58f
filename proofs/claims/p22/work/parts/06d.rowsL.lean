set_option maxRecDepth 20000 in
theorem ggL_holds_L_money : GoodIn wsL_holds wsL_money := goodIn_ca (goodIn_r _ [4, 5, 6, 7, 8, 9, 10, 11, 12, 13, 14, 15, 16, 17, 153, 154, 155, 156, 157] (by decide +kernel) (by decide +kernel)) (goodIn_sub (fun _ h => List.mem_cons_of_mem _ (List.mem_append_left _ (List.mem_append_right _ h))) (by decide +kernel))
set_option maxRecDepth 20000 in
theorem gL_holds_L_money : GoodIn wsL_holds (va_wsS RL 116 yL_money wsL_money) := goodIn_app (goodIn_of _ (by decide +kernel)) ggL_holds_L_money
set_option maxRecDepth 20000 in
theorem ggL_holds_L_rows : GoodIn wsL_holds wsL_rows := goodIn_ca (goodIn_r _ [20, 5, 6, 21, 22, 23, 10, 24, 25, 26, 27, 28, 29, 30, 16, 17, 31, 32, 33, 34, 35, 36, 37, 38, 39, 40, 41, 42, 43, 44, 45, 46, 47, 48, 49, 50, 51, 52, 53, 54, 55, 158, 159, 160, 161, 162, 163, 164, 165, 166, 167, 168, 169, 170, 153, 154, 155, 156, 157, 171, 172, 173] (by decide +kernel) (by decide +kernel)) (goodIn_sub (fun _ h => List.mem_cons_of_mem _ (List.mem_append_left _ (List.mem_append_right _ h))) (by decide +kernel))
set_option maxRecDepth 20000 in
theorem gL_holds_L_rows : GoodIn wsL_holds (va_wsS RL 101 yL_rows wsL_rows) := goodIn_app (goodIn_of _ (by decide +kernel)) ggL_holds_L_rows
set_option maxRecDepth 20000 in
theorem ggL_holds_L_original : GoodIn wsL_holds wsL_original := goodIn_ca (goodIn_r _ [58, 5, 6, 59, 60, 61, 10, 62, 63, 64, 27, 28, 29, 30, 16, 17, 31, 32, 33, 34, 35, 36, 37, 38, 39, 40, 41, 42, 43, 44, 45, 46, 47, 48, 49, 50, 51, 52, 53, 54, 55, 158, 159, 160, 161, 162, 163, 164, 165, 166, 153, 154, 155, 156, 157, 171, 172, 173] (by decide +kernel) (by decide +kernel)) (goodIn_sub (fun _ h => List.mem_cons_of_mem _ (List.mem_append_left _ (List.mem_append_right _ h))) (by decide +kernel))
set_option maxRecDepth 20000 in
theorem gL_holds_L_original : GoodIn wsL_holds (va_wsS RL 99 yL_original wsL_original) := goodIn_app (goodIn_of _ (by decide +kernel)) ggL_holds_L_original
set_option maxRecDepth 20000 in
theorem ggL_holds_L_need : GoodIn wsL_holds wsL_need := goodIn_ca (goodIn_ca (goodIn_r _ [67, 5, 68, 6, 69, 70, 71, 72, 10, 73, 25, 27, 28, 29, 30, 16, 17, 31, 32, 33, 34, 35, 36, 37, 38, 39, 40, 41, 42, 43, 44, 45, 46, 47, 48, 49, 50, 51, 52, 53, 54, 55, 74, 75, 76, 77, 78, 79, 80, 81, 82, 83, 84, 85, 86, 87, 88, 158, 159, 160, 161, 162, 163, 164, 165, 166, 153, 154, 155, 156, 157, 171, 172, 173, 167, 168, 169, 170] (by decide +kernel) (by decide +kernel)) (goodIn_sub (fun _ h => List.mem_cons_of_mem _ (List.mem_append_left _ (List.mem_append_right _ h))) (by decide +kernel))) (goodIn_sub (fun _ h => List.mem_cons_of_mem _ (List.mem_append_right _ h)) (by decide +kernel))
set_option maxRecDepth 20000 in
theorem gL_holds_L_need : GoodIn wsL_holds (va_wsS RL 108 yL_need wsL_need) := goodIn_app (goodIn_of _ (by decide +kernel)) ggL_holds_L_need
set_option maxRecDepth 20000 in
theorem ggL_holds_L_stitch : GoodIn wsL_holds wsL_stitch := goodIn_ca (goodIn_r _ [91, 5, 6, 92, 93, 94, 10, 95, 25, 27, 28, 29, 30, 16, 17, 31, 32, 33, 34, 35, 36, 37, 38, 39, 40, 41, 42, 43, 44, 45, 46, 47, 48, 49, 50, 51, 52, 53, 54, 55, 96, 97, 98, 26, 99, 100, 101, 85, 102, 103, 158, 159, 160, 161, 162, 163, 164, 165, 166, 153, 154, 155, 156, 157, 171, 172, 173, 167, 168, 169, 170] (by decide +kernel) (by decide +kernel)) (goodIn_sub (fun _ h => List.mem_cons_of_mem _ (List.mem_append_left _ (List.mem_append_right _ h))) (by decide +kernel))
set_option maxRecDepth 20000 in
theorem gL_holds_L_stitch : GoodIn wsL_holds (va_wsS RL 103 yL_stitch wsL_stitch) := goodIn_app (goodIn_of _ (by decide +kernel)) ggL_holds_L_stitch
set_option maxRecDepth 20000 in
theorem ggL_holds_L_byWork : GoodIn wsL_holds wsL_byWork := goodIn_ca (goodIn_r _ [106, 5, 6, 107, 108, 109, 10, 110, 111, 27, 28, 29, 30, 16, 17, 31, 32, 33, 34, 35, 36, 37, 38, 39, 40, 41, 42, 43, 44, 45, 46, 47, 48, 49, 50, 51, 52, 53, 54, 55, 96, 97, 98, 25, 26, 112, 113, 114, 115, 116, 117, 118, 119, 120, 121, 122, 123, 124, 125, 126, 127, 128, 129, 130, 131, 132, 133, 134, 135, 136, 137, 138, 158, 159, 160, 161, 162, 163, 164, 165, 166, 153, 154, 155, 156, 157, 171, 172, 173, 167, 168, 169, 170, 174, 175, 176, 177, 178, 179] (by decide +kernel) (by decide +kernel)) (goodIn_sub (fun _ h => List.mem_cons_of_mem _ (List.mem_append_left _ (List.mem_append_right _ h))) (by decide +kernel))
set_option maxRecDepth 20000 in
theorem gL_holds_L_byWork : GoodIn wsL_holds (va_wsS RL 105 yL_byWork wsL_byWork) := goodIn_app (goodIn_of _ (by decide +kernel)) ggL_holds_L_byWork
set_option maxRecDepth 20000 in
theorem ggL_holds_L_left : GoodIn wsL_holds wsL_left := goodIn_ca (goodIn_r _ [141, 5, 6, 142, 143, 144, 10, 145, 146, 147, 148, 149, 150, 16, 17, 151, 152, 33, 34, 35, 36, 37, 38, 39, 40, 41, 42, 43, 44, 45, 46, 47, 48, 49, 50, 51, 52, 53, 54, 55, 180, 181, 182, 183, 153, 154, 155, 156, 157, 171, 172, 173] (by decide +kernel) (by decide +kernel)) (goodIn_sub (fun _ h => List.mem_cons_of_mem _ (List.mem_append_left _ (List.mem_append_right _ h))) (by decide +kernel))
set_option maxRecDepth 20000 in
theorem gL_holds_L_left : GoodIn wsL_holds (va_wsS RL 125 yL_left wsL_left) := goodIn_app (goodIn_of _ (by decide +kernel)) ggL_holds_L_left
theorem dL_holds_0 : decode cL_holds 0 = .ok (.iconst 0, 1) := by decide +kernel
theorem dL_holds_1 : decode cL_holds 1 = .ok (.istore_n 3, 1) := by decide +kernel
theorem dL_holds_2 : decode cL_holds 2 = .ok (.iconst 1, 1) := by decide +kernel
theorem dL_holds_3 : decode cL_holds 3 = .ok (.istore 4, 2) := by decide +kernel
theorem dL_holds_5 : decode cL_holds 5 = .ok (.iconst 0, 1) := by decide +kernel
theorem dL_holds_6 : decode cL_holds 6 = .ok (.istore 5, 2) := by decide +kernel
theorem dL_holds_8 : decode cL_holds 8 = .ok (.iload 5, 2) := by decide +kernel
theorem dL_holds_10 : decode cL_holds 10 = .ok (.iconst 5, 1) := by decide +kernel
theorem dL_holds_11 : decode cL_holds 11 = .ok (.if_icmp .ge 18, 3) := by decide +kernel
theorem dL_holds_14 : decode cL_holds 14 = .ok (.iload_n 3, 1) := by decide +kernel
theorem dL_holds_15 : decode cL_holds 15 = .ok (.aload_n 0, 1) := by decide +kernel
theorem dL_holds_16 : decode cL_holds 16 = .ok (.iload 5, 2) := by decide +kernel
theorem dL_holds_18 : decode cL_holds 18 = .ok (.invokestatic 116, 3) := by decide +kernel
theorem dL_holds_21 : decode cL_holds 21 = .ok (.iadd, 1) := by decide +kernel
theorem dL_holds_22 : decode cL_holds 22 = .ok (.istore_n 3, 1) := by decide +kernel
theorem dL_holds_23 : decode cL_holds 23 = .ok (.iinc 5 1, 3) := by decide +kernel
theorem dL_holds_26 : decode cL_holds 26 = .ok (.goto (-18), 3) := by decide +kernel
theorem dL_holds_29 : decode cL_holds 29 = .ok (.iconst 0, 1) := by decide +kernel
theorem dL_holds_30 : decode cL_holds 30 = .ok (.istore 5, 2) := by decide +kernel
theorem dL_holds_32 : decode cL_holds 32 = .ok (.iload 5, 2) := by decide +kernel
theorem dL_holds_34 : decode cL_holds 34 = .ok (.aload_n 1, 1) := by decide +kernel
theorem dL_holds_35 : decode cL_holds 35 = .ok (.iconst 0, 1) := by decide +kernel
theorem dL_holds_36 : decode cL_holds 36 = .ok (.iaload, 1) := by decide +kernel
theorem dL_holds_37 : decode cL_holds 37 = .ok (.if_icmp .ge 320, 3) := by decide +kernel
theorem dL_holds_40 : decode cL_holds 40 = .ok (.iload 4, 2) := by decide +kernel
theorem dL_holds_42 : decode cL_holds 42 = .ok (.ifCond .eq 315, 3) := by decide +kernel
theorem dL_holds_45 : decode cL_holds 45 = .ok (.aload_n 0, 1) := by decide +kernel
theorem dL_holds_46 : decode cL_holds 46 = .ok (.iload 5, 2) := by decide +kernel
theorem dL_holds_48 : decode cL_holds 48 = .ok (.invokestatic 101, 3) := by decide +kernel
theorem dL_holds_51 : decode cL_holds 51 = .ok (.istore 6, 2) := by decide +kernel
theorem dL_holds_53 : decode cL_holds 53 = .ok (.aload_n 0, 1) := by decide +kernel
theorem dL_holds_54 : decode cL_holds 54 = .ok (.iload 5, 2) := by decide +kernel
theorem dL_holds_56 : decode cL_holds 56 = .ok (.invokestatic 99, 3) := by decide +kernel
theorem dL_holds_59 : decode cL_holds 59 = .ok (.istore 7, 2) := by decide +kernel
theorem dL_holds_61 : decode cL_holds 61 = .ok (.iload 6, 2) := by decide +kernel
theorem dL_holds_63 : decode cL_holds 63 = .ok (.ifCond .lt 93, 3) := by decide +kernel
theorem dL_holds_66 : decode cL_holds 66 = .ok (.iload 6, 2) := by decide +kernel
theorem dL_holds_68 : decode cL_holds 68 = .ok (.bipush 40, 2) := by decide +kernel
theorem dL_holds_70 : decode cL_holds 70 = .ok (.if_icmp .gt 86, 3) := by decide +kernel
theorem dL_holds_73 : decode cL_holds 73 = .ok (.iload 7, 2) := by decide +kernel
theorem dL_holds_75 : decode cL_holds 75 = .ok (.iconst (-1), 1) := by decide +kernel
theorem dL_holds_76 : decode cL_holds 76 = .ok (.if_icmp .eq 25, 3) := by decide +kernel
theorem dL_holds_79 : decode cL_holds 79 = .ok (.aload_n 0, 1) := by decide +kernel
theorem dL_holds_80 : decode cL_holds 80 = .ok (.iload 7, 2) := by decide +kernel
theorem dL_holds_82 : decode cL_holds 82 = .ok (.invokestatic 99, 3) := by decide +kernel
theorem dL_holds_85 : decode cL_holds 85 = .ok (.iload 7, 2) := by decide +kernel
theorem dL_holds_87 : decode cL_holds 87 = .ok (.if_icmp .ne 69, 3) := by decide +kernel
theorem dL_holds_90 : decode cL_holds 90 = .ok (.aload_n 0, 1) := by decide +kernel
theorem dL_holds_91 : decode cL_holds 91 = .ok (.iload 7, 2) := by decide +kernel
theorem dL_holds_93 : decode cL_holds 93 = .ok (.invokestatic 101, 3) := by decide +kernel
theorem dL_holds_96 : decode cL_holds 96 = .ok (.iload 6, 2) := by decide +kernel
theorem dL_holds_98 : decode cL_holds 98 = .ok (.if_icmp .ne 58, 3) := by decide +kernel
theorem dL_holds_101 : decode cL_holds 101 = .ok (.aload_n 0, 1) := by decide +kernel
theorem dL_holds_102 : decode cL_holds 102 = .ok (.iload 5, 2) := by decide +kernel
theorem dL_holds_104 : decode cL_holds 104 = .ok (.bipush 20, 2) := by decide +kernel
theorem dL_holds_106 : decode cL_holds 106 = .ok (.invokestatic 108, 3) := by decide +kernel
theorem dL_holds_109 : decode cL_holds 109 = .ok (.iconst 4, 1) := by decide +kernel
theorem dL_holds_110 : decode cL_holds 110 = .ok (.aload_n 0, 1) := by decide +kernel
theorem dL_holds_111 : decode cL_holds 111 = .ok (.iload 5, 2) := by decide +kernel
theorem dL_holds_113 : decode cL_holds 113 = .ok (.iconst 5, 1) := by decide +kernel
theorem dL_holds_114 : decode cL_holds 114 = .ok (.invokestatic 108, 3) := by decide +kernel
theorem dL_holds_117 : decode cL_holds 117 = .ok (.imul, 1) := by decide +kernel
theorem dL_holds_118 : decode cL_holds 118 = .ok (.if_icmp .ne 38, 3) := by decide +kernel
theorem dL_holds_121 : decode cL_holds 121 = .ok (.aload_n 0, 1) := by decide +kernel
theorem dL_holds_122 : decode cL_holds 122 = .ok (.iload 5, 2) := by decide +kernel
theorem dL_holds_124 : decode cL_holds 124 = .ok (.iconst 5, 1) := by decide +kernel
theorem dL_holds_125 : decode cL_holds 125 = .ok (.invokestatic 108, 3) := by decide +kernel
theorem dL_holds_128 : decode cL_holds 128 = .ok (.bipush 10, 2) := by decide +kernel
theorem dL_holds_130 : decode cL_holds 130 = .ok (.iload 6, 2) := by decide +kernel
theorem dL_holds_132 : decode cL_holds 132 = .ok (.imul, 1) := by decide +kernel
theorem dL_holds_133 : decode cL_holds 133 = .ok (.if_icmp .lt 23, 3) := by decide +kernel
theorem dL_holds_136 : decode cL_holds 136 = .ok (.aload_n 0, 1) := by decide +kernel
theorem dL_holds_137 : decode cL_holds 137 = .ok (.iload 5, 2) := by decide +kernel
theorem dL_holds_139 : decode cL_holds 139 = .ok (.iconst 5, 1) := by decide +kernel
theorem dL_holds_140 : decode cL_holds 140 = .ok (.invokestatic 108, 3) := by decide +kernel
theorem dL_holds_143 : decode cL_holds 143 = .ok (.sipush 600, 3) := by decide +kernel
theorem dL_holds_146 : decode cL_holds 146 = .ok (.iload 6, 2) := by decide +kernel
theorem dL_holds_148 : decode cL_holds 148 = .ok (.imul, 1) := by decide +kernel
theorem dL_holds_149 : decode cL_holds 149 = .ok (.if_icmp .gt 7, 3) := by decide +kernel
theorem dL_holds_152 : decode cL_holds 152 = .ok (.iconst 1, 1) := by decide +kernel
theorem dL_holds_153 : decode cL_holds 153 = .ok (.goto 4, 3) := by decide +kernel
theorem dL_holds_156 : decode cL_holds 156 = .ok (.iconst 0, 1) := by decide +kernel
theorem dL_holds_157 : decode cL_holds 157 = .ok (.istore 4, 2) := by decide +kernel
theorem dL_holds_159 : decode cL_holds 159 = .ok (.iload 6, 2) := by decide +kernel
theorem dL_holds_161 : decode cL_holds 161 = .ok (.ifCond .ne 7, 3) := by decide +kernel
theorem dL_holds_164 : decode cL_holds 164 = .ok (.iconst 0, 1) := by decide +kernel
theorem dL_holds_165 : decode cL_holds 165 = .ok (.goto 7, 3) := by decide +kernel
theorem dL_holds_168 : decode cL_holds 168 = .ok (.iload_n 2, 1) := by decide +kernel
theorem dL_holds_169 : decode cL_holds 169 = .ok (.iload 6, 2) := by decide +kernel
theorem dL_holds_171 : decode cL_holds 171 = .ok (.irem, 1) := by decide +kernel
theorem dL_holds_172 : decode cL_holds 172 = .ok (.istore 8, 2) := by decide +kernel
theorem dL_holds_174 : decode cL_holds 174 = .ok (.iload 6, 2) := by decide +kernel
theorem dL_holds_176 : decode cL_holds 176 = .ok (.ifCond .ne 7, 3) := by decide +kernel
theorem dL_holds_179 : decode cL_holds 179 = .ok (.iconst 1, 1) := by decide +kernel
theorem dL_holds_180 : decode cL_holds 180 = .ok (.goto 4, 3) := by decide +kernel
theorem dL_holds_183 : decode cL_holds 183 = .ok (.iconst 0, 1) := by decide +kernel
theorem dL_holds_184 : decode cL_holds 184 = .ok (.istore 9, 2) := by decide +kernel
theorem dL_holds_186 : decode cL_holds 186 = .ok (.iconst 0, 1) := by decide +kernel
theorem dL_holds_187 : decode cL_holds 187 = .ok (.istore 10, 2) := by decide +kernel
theorem dL_holds_189 : decode cL_holds 189 = .ok (.iload 10, 2) := by decide +kernel
theorem dL_holds_191 : decode cL_holds 191 = .ok (.bipush 41, 2) := by decide +kernel
theorem dL_holds_193 : decode cL_holds 193 = .ok (.if_icmp .ge 141, 3) := by decide +kernel
theorem dL_holds_196 : decode cL_holds 196 = .ok (.iload 4, 2) := by decide +kernel
theorem dL_holds_198 : decode cL_holds 198 = .ok (.ifCond .eq 136, 3) := by decide +kernel
theorem dL_holds_201 : decode cL_holds 201 = .ok (.iload 6, 2) := by decide +kernel
theorem dL_holds_203 : decode cL_holds 203 = .ok (.ifCond .le 131, 3) := by decide +kernel
theorem dL_holds_206 : decode cL_holds 206 = .ok (.aload_n 0, 1) := by decide +kernel
theorem dL_holds_207 : decode cL_holds 207 = .ok (.iload 5, 2) := by decide +kernel
theorem dL_holds_209 : decode cL_holds 209 = .ok (.iload 8, 2) := by decide +kernel
theorem dL_holds_211 : decode cL_holds 211 = .ok (.iload 10, 2) := by decide +kernel
theorem dL_holds_213 : decode cL_holds 213 = .ok (.invokestatic 103, 3) := by decide +kernel
theorem dL_holds_216 : decode cL_holds 216 = .ok (.istore 11, 2) := by decide +kernel
theorem dL_holds_218 : decode cL_holds 218 = .ok (.iload 11, 2) := by decide +kernel
theorem dL_holds_220 : decode cL_holds 220 = .ok (.ifCond .lt 88, 3) := by decide +kernel
theorem dL_holds_223 : decode cL_holds 223 = .ok (.iload 11, 2) := by decide +kernel
theorem dL_holds_225 : decode cL_holds 225 = .ok (.iconst 2, 1) := by decide +kernel
theorem dL_holds_226 : decode cL_holds 226 = .ok (.if_icmp .gt 82, 3) := by decide +kernel
theorem dL_holds_229 : decode cL_holds 229 = .ok (.iload 10, 2) := by decide +kernel
theorem dL_holds_231 : decode cL_holds 231 = .ok (.ifCond .gt 8, 3) := by decide +kernel
theorem dL_holds_234 : decode cL_holds 234 = .ok (.iload 11, 2) := by decide +kernel
theorem dL_holds_236 : decode cL_holds 236 = .ok (.ifCond .le 72, 3) := by decide +kernel
theorem dL_holds_239 : decode cL_holds 239 = .ok (.iload 9, 2) := by decide +kernel
theorem dL_holds_241 : decode cL_holds 241 = .ok (.ifCond .eq 8, 3) := by decide +kernel
theorem dL_holds_244 : decode cL_holds 244 = .ok (.iload 11, 2) := by decide +kernel
theorem dL_holds_246 : decode cL_holds 246 = .ok (.ifCond .ne 62, 3) := by decide +kernel
theorem dL_holds_249 : decode cL_holds 249 = .ok (.iload 10, 2) := by decide +kernel
theorem dL_holds_251 : decode cL_holds 251 = .ok (.iconst 4, 1) := by decide +kernel
theorem dL_holds_252 : decode cL_holds 252 = .ok (.irem, 1) := by decide +kernel
theorem dL_holds_253 : decode cL_holds 253 = .ok (.iload_n 2, 1) := by decide +kernel
theorem dL_holds_254 : decode cL_holds 254 = .ok (.iconst 4, 1) := by decide +kernel
theorem dL_holds_255 : decode cL_holds 255 = .ok (.irem, 1) := by decide +kernel
theorem dL_holds_256 : decode cL_holds 256 = .ok (.if_icmp .ne 18, 3) := by decide +kernel
theorem dL_holds_259 : decode cL_holds 259 = .ok (.aload_n 0, 1) := by decide +kernel
theorem dL_holds_260 : decode cL_holds 260 = .ok (.iload 5, 2) := by decide +kernel
theorem dL_holds_262 : decode cL_holds 262 = .ok (.iload 8, 2) := by decide +kernel
theorem dL_holds_264 : decode cL_holds 264 = .ok (.iload 10, 2) := by decide +kernel
theorem dL_holds_266 : decode cL_holds 266 = .ok (.invokestatic 105, 3) := by decide +kernel
theorem dL_holds_269 : decode cL_holds 269 = .ok (.iload 11, 2) := by decide +kernel
theorem dL_holds_271 : decode cL_holds 271 = .ok (.if_icmp .ne 37, 3) := by decide +kernel
theorem dL_holds_274 : decode cL_holds 274 = .ok (.iload 7, 2) := by decide +kernel
theorem dL_holds_276 : decode cL_holds 276 = .ok (.ifCond .lt 28, 3) := by decide +kernel
theorem dL_holds_279 : decode cL_holds 279 = .ok (.iload 10, 2) := by decide +kernel
theorem dL_holds_281 : decode cL_holds 281 = .ok (.iconst 3, 1) := by decide +kernel
theorem dL_holds_282 : decode cL_holds 282 = .ok (.irem, 1) := by decide +kernel
theorem dL_holds_283 : decode cL_holds 283 = .ok (.iload_n 2, 1) := by decide +kernel
theorem dL_holds_284 : decode cL_holds 284 = .ok (.iconst 3, 1) := by decide +kernel
theorem dL_holds_285 : decode cL_holds 285 = .ok (.irem, 1) := by decide +kernel
theorem dL_holds_286 : decode cL_holds 286 = .ok (.if_icmp .ne 18, 3) := by decide +kernel
theorem dL_holds_289 : decode cL_holds 289 = .ok (.aload_n 0, 1) := by decide +kernel
theorem dL_holds_290 : decode cL_holds 290 = .ok (.iload 7, 2) := by decide +kernel
theorem dL_holds_292 : decode cL_holds 292 = .ok (.iload 8, 2) := by decide +kernel
theorem dL_holds_294 : decode cL_holds 294 = .ok (.iload 10, 2) := by decide +kernel
theorem dL_holds_296 : decode cL_holds 296 = .ok (.invokestatic 103, 3) := by decide +kernel
theorem dL_holds_299 : decode cL_holds 299 = .ok (.iload 11, 2) := by decide +kernel
theorem dL_holds_301 : decode cL_holds 301 = .ok (.if_icmp .ne 7, 3) := by decide +kernel
theorem dL_holds_304 : decode cL_holds 304 = .ok (.iconst 1, 1) := by decide +kernel
theorem dL_holds_305 : decode cL_holds 305 = .ok (.goto 4, 3) := by decide +kernel
theorem dL_holds_308 : decode cL_holds 308 = .ok (.iconst 0, 1) := by decide +kernel
theorem dL_holds_309 : decode cL_holds 309 = .ok (.istore 4, 2) := by decide +kernel
theorem dL_holds_311 : decode cL_holds 311 = .ok (.iload 9, 2) := by decide +kernel
theorem dL_holds_313 : decode cL_holds 313 = .ok (.ifCond .ne 8, 3) := by decide +kernel
theorem dL_holds_316 : decode cL_holds 316 = .ok (.iload 11, 2) := by decide +kernel
theorem dL_holds_318 : decode cL_holds 318 = .ok (.ifCond .ne 7, 3) := by decide +kernel
theorem dL_holds_321 : decode cL_holds 321 = .ok (.iconst 1, 1) := by decide +kernel
theorem dL_holds_322 : decode cL_holds 322 = .ok (.goto 4, 3) := by decide +kernel
theorem dL_holds_325 : decode cL_holds 325 = .ok (.iconst 0, 1) := by decide +kernel
theorem dL_holds_326 : decode cL_holds 326 = .ok (.istore 9, 2) := by decide +kernel
theorem dL_holds_328 : decode cL_holds 328 = .ok (.iinc 10 1, 3) := by decide +kernel
theorem dL_holds_331 : decode cL_holds 331 = .ok (.goto (-142), 3) := by decide +kernel
theorem dL_holds_334 : decode cL_holds 334 = .ok (.iload 4, 2) := by decide +kernel
theorem dL_holds_336 : decode cL_holds 336 = .ok (.ifCond .eq 12, 3) := by decide +kernel
theorem dL_holds_339 : decode cL_holds 339 = .ok (.iload 9, 2) := by decide +kernel
theorem dL_holds_341 : decode cL_holds 341 = .ok (.ifCond .eq 7, 3) := by decide +kernel
theorem dL_holds_344 : decode cL_holds 344 = .ok (.iconst 1, 1) := by decide +kernel
theorem dL_holds_345 : decode cL_holds 345 = .ok (.goto 4, 3) := by decide +kernel
theorem dL_holds_348 : decode cL_holds 348 = .ok (.iconst 0, 1) := by decide +kernel
theorem dL_holds_349 : decode cL_holds 349 = .ok (.istore 4, 2) := by decide +kernel
theorem dL_holds_351 : decode cL_holds 351 = .ok (.iinc 5 1, 3) := by decide +kernel
theorem dL_holds_354 : decode cL_holds 354 = .ok (.goto (-322), 3) := by decide +kernel
theorem dL_holds_357 : decode cL_holds 357 = .ok (.iconst 0, 1) := by decide +kernel
theorem dL_holds_358 : decode cL_holds 358 = .ok (.istore 5, 2) := by decide +kernel
theorem dL_holds_360 : decode cL_holds 360 = .ok (.iload 5, 2) := by decide +kernel
theorem dL_holds_362 : decode cL_holds 362 = .ok (.aload_n 1, 1) := by decide +kernel
theorem dL_holds_363 : decode cL_holds 363 = .ok (.iconst 1, 1) := by decide +kernel
theorem dL_holds_364 : decode cL_holds 364 = .ok (.iaload, 1) := by decide +kernel
theorem dL_holds_365 : decode cL_holds 365 = .ok (.if_icmp .ge 30, 3) := by decide +kernel
theorem dL_holds_368 : decode cL_holds 368 = .ok (.iload 4, 2) := by decide +kernel
theorem dL_holds_370 : decode cL_holds 370 = .ok (.ifCond .eq 25, 3) := by decide +kernel
theorem dL_holds_373 : decode cL_holds 373 = .ok (.aload_n 0, 1) := by decide +kernel
theorem dL_holds_374 : decode cL_holds 374 = .ok (.iload 5, 2) := by decide +kernel
theorem dL_holds_376 : decode cL_holds 376 = .ok (.invokestatic 125, 3) := by decide +kernel
theorem dL_holds_379 : decode cL_holds 379 = .ok (.ifCond .lt 7, 3) := by decide +kernel
theorem dL_holds_382 : decode cL_holds 382 = .ok (.iconst 1, 1) := by decide +kernel
theorem dL_holds_383 : decode cL_holds 383 = .ok (.goto 4, 3) := by decide +kernel
theorem dL_holds_386 : decode cL_holds 386 = .ok (.iconst 0, 1) := by decide +kernel
theorem dL_holds_387 : decode cL_holds 387 = .ok (.istore 4, 2) := by decide +kernel
theorem dL_holds_389 : decode cL_holds 389 = .ok (.iinc 5 1, 3) := by decide +kernel
theorem dL_holds_392 : decode cL_holds 392 = .ok (.goto (-32), 3) := by decide +kernel
theorem dL_holds_395 : decode cL_holds 395 = .ok (.iload 4, 2) := by decide +kernel
theorem dL_holds_397 : decode cL_holds 397 = .ok (.ifCond .eq 11, 3) := by decide +kernel
theorem dL_holds_400 : decode cL_holds 400 = .ok (.iload_n 3, 1) := by decide +kernel
theorem dL_holds_401 : decode cL_holds 401 = .ok (.ifCond .ne 7, 3) := by decide +kernel
theorem dL_holds_404 : decode cL_holds 404 = .ok (.iconst 1, 1) := by decide +kernel
theorem dL_holds_405 : decode cL_holds 405 = .ok (.goto 4, 3) := by decide +kernel
theorem dL_holds_408 : decode cL_holds 408 = .ok (.iconst 0, 1) := by decide +kernel
theorem dL_holds_409 : decode cL_holds 409 = .ok (.ireturn, 1) := by decide +kernel
set_option maxRecDepth 20000 in
theorem ggL_ends_L_begins : GoodIn wsL_ends wsL_begins := goodIn_ca (goodIn_ca (goodIn_ca (goodIn_r _ [5, 6, 7, 8, 9, 10, 1, 11, 12, 13, 14, 15, 16, 17, 18, 19, 20, 21, 22, 23, 24, 25, 26, 27, 28, 29, 30, 31, 32, 33, 34, 35, 36, 37, 38, 39, 40, 41, 42, 43, 44, 45, 46, 47, 48, 49, 50, 51, 52, 53, 54, 55, 56, 57, 58, 59, 60, 61, 62, 63, 64, 65, 66, 67, 68, 69, 70, 71, 72, 73, 74, 75, 76, 77, 78, 79, 80, 81, 82, 83, 84, 85, 86, 87, 88, 89, 90, 91, 92, 93, 94, 95, 96, 97, 98, 99, 100, 101, 102, 103, 104, 105, 106, 107, 108, 109, 110, 111, 112, 113, 114, 115, 116, 117, 118, 119, 120, 121, 122, 123, 124, 125, 126, 127, 128, 129, 130, 131, 132, 133, 134, 135, 136, 137, 138, 139, 140, 141, 381, 382, 383, 384, 385, 386, 387, 388, 389, 390, 391, 392, 393, 394, 395, 396, 397, 398, 399, 400, 401, 402, 403, 404, 405, 406, 407] (by decide +kernel) (by decide +kernel)) (goodIn_sub (fun _ h => List.mem_cons_of_mem _ (List.mem_append_left _ (List.mem_append_left _ (List.mem_append_right _ h)))) (by decide +kernel))) (goodIn_sub (fun _ h => List.mem_cons_of_mem _ (List.mem_append_left _ (List.mem_append_right _ h))) (by decide +kernel))) (goodIn_sub (fun _ h => List.mem_cons_of_mem _ (List.mem_append_right _ h)) (by decide +kernel))
set_option maxRecDepth 20000 in
theorem gL_ends_L_begins : GoodIn wsL_ends (va_wsS RL 81 yL_begins wsL_begins) := goodIn_app (goodIn_of _ (by decide +kernel)) ggL_ends_L_begins
set_option maxRecDepth 20000 in
theorem ggL_ends_L_lines : GoodIn wsL_ends wsL_lines := goodIn_ca (goodIn_ca (goodIn_ca (goodIn_r _ [144, 6, 7, 8, 9, 10, 1, 145, 146, 147, 14, 148, 25, 26, 31, 32, 149, 150, 151, 152, 153, 154, 20, 21, 33, 155, 34, 35, 36, 37, 38, 39, 156, 157, 158, 159, 160, 161, 162, 163, 164, 165, 166, 167, 168, 169, 170, 171, 94, 22, 23, 24, 172, 173, 174, 46, 175, 55, 176, 177, 178, 179, 64, 68, 180, 181, 182, 183, 184, 185, 186, 187, 63, 188, 78, 74, 75, 76, 77, 189, 190, 191, 67, 192, 84, 86, 87, 193, 194, 195, 196, 85, 197, 198, 199, 200, 201, 202, 109, 110, 111, 203, 136, 137, 381, 382, 383, 384, 385, 386, 387, 388, 389, 404, 405, 406, 407, 390, 391, 392, 393, 394, 395, 396, 397, 398, 399, 400, 401, 402, 403] (by decide +kernel) (by decide +kernel)) (goodIn_sub (fun _ h => List.mem_cons_of_mem _ (List.mem_append_left _ (List.mem_append_right _ h))) (by decide +kernel))) (goodIn_sub (fun _ h => List.mem_cons_of_mem _ (List.mem_append_right _ h)) (by decide +kernel))) (goodIn_sub (fun _ h => List.mem_cons_of_mem _ (List.mem_append_left _ (List.mem_append_left _ (List.mem_append_right _ h)))) (by decide +kernel))
set_option maxRecDepth 20000 in
theorem gL_ends_L_lines : GoodIn wsL_ends (va_wsS RL 87 yL_lines wsL_lines) := goodIn_app (goodIn_of _ (by decide +kernel)) ggL_ends_L_lines
set_option maxRecDepth 20000 in
theorem ggL_ends_L_publishes : GoodIn wsL_ends wsL_publishes := goodIn_ca (goodIn_ca (goodIn_r _ [206, 6, 8, 9, 1, 207, 208, 209, 14, 210, 31, 32, 211, 212, 16, 151, 152, 153, 154, 20, 21, 33, 155, 34, 35, 36, 37, 38, 39, 156, 157, 158, 159, 160, 161, 162, 163, 164, 165, 166, 167, 168, 169, 170, 171, 94, 172, 173, 174, 46, 175, 55, 213, 214, 215, 216, 64, 217, 218, 219, 220, 149, 221, 222, 223, 67, 224, 84, 85, 88, 89, 90, 91, 92, 93, 95, 96, 97, 98, 99, 100, 101, 102, 103, 104, 105, 106, 107, 108, 109, 110, 111, 112, 113, 114, 115, 116, 117, 118, 119, 120, 121, 122, 123, 124, 125, 126, 127, 128, 129, 130, 131, 132, 133, 134, 135, 136, 137, 138, 139, 140, 141, 381, 382, 383, 384, 385, 386, 387, 388, 389, 390, 391, 392, 393, 394, 395, 396, 397, 398, 399, 400, 401, 402, 403, 404, 405, 406, 407] (by decide +kernel) (by decide +kernel)) (goodIn_sub (fun _ h => List.mem_cons_of_mem _ (List.mem_append_right _ h)) (by decide +kernel))) (goodIn_sub (fun _ h => List.mem_cons_of_mem _ (List.mem_append_left _ (List.mem_append_left _ (List.mem_append_right _ h)))) (by decide +kernel))
set_option maxRecDepth 20000 in
theorem gL_ends_L_publishes : GoodIn wsL_ends (va_wsS RL 95 yL_publishes wsL_publishes) := goodIn_app (goodIn_of _ (by decide +kernel)) ggL_ends_L_publishes
set_option maxRecDepth 20000 in
theorem ggL_ends_L_original : GoodIn wsL_ends wsL_original := goodIn_ca (goodIn_r _ [227, 6, 9, 228, 229, 230, 14, 231, 211, 16, 151, 152, 153, 154, 20, 21, 33, 155, 34, 35, 36, 37, 38, 39, 156, 157, 158, 159, 160, 161, 162, 163, 164, 165, 166, 167, 168, 169, 170, 171, 94, 381, 382, 383, 384, 385, 386, 387, 388, 389, 390, 391, 392, 393, 394, 395, 396, 397] (by decide +kernel) (by decide +kernel)) (goodIn_sub (fun _ h => List.mem_cons_of_mem _ (List.mem_append_left _ (List.mem_append_left _ (List.mem_append_right _ h)))) (by decide +kernel))
set_option maxRecDepth 20000 in
theorem gL_ends_L_original : GoodIn wsL_ends (va_wsS RL 99 yL_original wsL_original) := goodIn_app (goodIn_of _ (by decide +kernel)) ggL_ends_L_original
set_option maxRecDepth 20000 in
theorem ggL_ends_L_money : GoodIn wsL_ends wsL_money := goodIn_ca (goodIn_r _ [234, 6, 9, 235, 236, 237, 14, 238, 239, 17, 18, 19, 20, 21, 390, 391, 392, 393, 394] (by decide +kernel) (by decide +kernel)) (goodIn_sub (fun _ h => List.mem_cons_of_mem _ (List.mem_append_left _ (List.mem_append_left _ (List.mem_append_right _ h)))) (by decide +kernel))
set_option maxRecDepth 20000 in
theorem gL_ends_L_money : GoodIn wsL_ends (va_wsS RL 116 yL_money wsL_money) := goodIn_app (goodIn_of _ (by decide +kernel)) ggL_ends_L_money
set_option maxRecDepth 20000 in
theorem ggL_ends_L_need : GoodIn wsL_ends wsL_need := goodIn_ca (goodIn_ca (goodIn_r _ [242, 6, 7, 9, 10, 243, 244, 245, 14, 246, 149, 151, 152, 153, 154, 20, 21, 33, 155, 34, 35, 36, 37, 38, 39, 156, 157, 158, 159, 160, 161, 162, 163, 164, 165, 166, 167, 168, 169, 170, 171, 94, 247, 248, 249, 22, 23, 24, 25, 26, 250, 251, 252, 67, 253, 84, 86, 381, 382, 383, 384, 385, 386, 387, 388, 389, 390, 391, 392, 393, 394, 395, 396, 397, 404, 405, 406, 407] (by decide +kernel) (by decide +kernel)) (goodIn_sub (fun _ h => List.mem_cons_of_mem _ (List.mem_append_left _ (List.mem_append_left _ (List.mem_append_right _ h)))) (by decide +kernel))) (goodIn_sub (fun _ h => List.mem_cons_of_mem _ (List.mem_append_left _ (List.mem_append_right _ h))) (by decide +kernel))
set_option maxRecDepth 20000 in
theorem gL_ends_L_need : GoodIn wsL_ends (va_wsS RL 108 yL_need wsL_need) := goodIn_app (goodIn_of _ (by decide +kernel)) ggL_ends_L_need
set_option maxRecDepth 20000 in
theorem ggL_ends_L_buys : GoodIn wsL_ends wsL_buys := goodIn_ca (goodIn_ca (goodIn_r _ [256, 6, 8, 9, 1, 257, 258, 259, 14, 260, 31, 32, 261, 262, 263, 264, 239, 265, 151, 152, 153, 154, 20, 21, 33, 155, 34, 35, 36, 37, 38, 39, 156, 157, 158, 159, 160, 161, 162, 163, 164, 165, 166, 167, 168, 169, 170, 171, 94, 17, 18, 19, 172, 173, 174, 46, 175, 55, 266, 267, 268, 269, 59, 54, 381, 382, 383, 384, 385, 386, 387, 388, 389, 390, 391, 392, 393, 394, 395, 396, 397] (by decide +kernel) (by decide +kernel)) (goodIn_sub (fun _ h => List.mem_cons_of_mem _ (List.mem_append_right _ h)) (by decide +kernel))) (goodIn_sub (fun _ h => List.mem_cons_of_mem _ (List.mem_append_left _ (List.mem_append_left _ (List.mem_append_right _ h)))) (by decide +kernel))
set_option maxRecDepth 20000 in
theorem gL_ends_L_buys : GoodIn wsL_ends (va_wsS RL 110 yL_buys wsL_buys) := goodIn_app (goodIn_of _ (by decide +kernel)) ggL_ends_L_buys
set_option maxRecDepth 20000 in
theorem ggL_ends_L_rules : GoodIn wsL_ends wsL_rules := goodIn_ca (goodIn_ca (goodIn_r _ [272, 6, 8, 9, 1, 273, 274, 275, 14, 276, 31, 32, 211, 265, 261, 239, 263, 151, 152, 153, 154, 20, 21, 33, 155, 34, 35, 36, 37, 38, 39, 156, 157, 158, 159, 160, 161, 162, 163, 164, 165, 166, 167, 168, 169, 170, 171, 94, 381, 382, 383, 384, 385, 386, 387, 388, 389, 390, 391, 392, 393, 394, 395, 396, 397] (by decide +kernel) (by decide +kernel)) (goodIn_sub (fun _ h => List.mem_cons_of_mem _ (List.mem_append_right _ h)) (by decide +kernel))) (goodIn_sub (fun _ h => List.mem_cons_of_mem _ (List.mem_append_left _ (List.mem_append_left _ (List.mem_append_right _ h)))) (by decide +kernel))
set_option maxRecDepth 20000 in
theorem gL_ends_L_rules : GoodIn wsL_ends (va_wsS RL 113 yL_rules wsL_rules) := goodIn_app (goodIn_of _ (by decide +kernel)) ggL_ends_L_rules
set_option maxRecDepth 20000 in
theorem ggL_ends_L_lots : GoodIn wsL_ends wsL_lots := goodIn_ca (goodIn_ca (goodIn_ca (goodIn_r _ [279, 6, 7, 8, 9, 10, 1, 280, 281, 282, 14, 283, 31, 32, 284, 285, 286, 287, 288, 17, 18, 19, 20, 21, 247, 248, 249, 22, 23, 24, 25, 26, 34, 35, 36, 37, 38, 39, 289, 290, 291, 292, 51, 52, 293, 294, 295, 296, 88, 89, 90, 91, 92, 93, 94, 95, 96, 97, 98, 99, 100, 101, 102, 103, 104, 105, 106, 107, 108, 109, 110, 111, 112, 113, 114, 115, 116, 117, 118, 119, 120, 121, 122, 123, 124, 125, 126, 127, 128, 129, 130, 131, 132, 133, 134, 135, 136, 137, 138, 139, 140, 141, 390, 391, 392, 393, 394, 408, 409, 410, 411, 395, 396, 397] (by decide +kernel) (by decide +kernel)) (goodIn_sub (fun _ h => List.mem_cons_of_mem _ (List.mem_append_right _ h)) (by decide +kernel))) (goodIn_sub (fun _ h => List.mem_cons_of_mem _ (List.mem_append_left _ (List.mem_append_left _ (List.mem_append_right _ h)))) (by decide +kernel))) (goodIn_sub (fun _ h => List.mem_cons_of_mem _ (List.mem_append_left _ (List.mem_append_right _ h))) (by decide +kernel))
set_option maxRecDepth 20000 in
theorem gL_ends_L_lots : GoodIn wsL_ends (va_wsS RL 118 yL_lots wsL_lots) := goodIn_app (goodIn_of _ (by decide +kernel)) ggL_ends_L_lots
set_option maxRecDepth 20000 in
theorem ggL_ends_L_projects : GoodIn wsL_ends wsL_projects := goodIn_ca (goodIn_ca (goodIn_r _ [299, 6, 8, 9, 1, 300, 301, 302, 14, 303, 31, 32, 304, 305, 306, 307, 308, 17, 18, 19, 20, 21, 151, 152, 153, 154, 33, 155, 34, 35, 36, 37, 38, 39, 156, 157, 158, 159, 160, 161, 162, 163, 164, 165, 166, 167, 168, 169, 170, 171, 94, 309, 310, 311, 312, 285, 313, 172, 173, 174, 46, 175, 55, 266, 267, 268, 269, 59, 54, 314, 315, 316, 317, 51, 52, 318, 319, 320, 321, 88, 89, 90, 91, 92, 93, 95, 96, 97, 98, 99, 100, 101, 102, 103, 104, 105, 106, 107, 108, 109, 110, 111, 112, 113, 114, 115, 116, 117, 118, 119, 120, 121, 122, 123, 124, 125, 126, 127, 128, 129, 130, 131, 132, 133, 134, 135, 136, 137, 138, 139, 140, 141, 390, 391, 392, 393, 394, 408, 409, 410, 411, 412, 413, 414, 415, 395, 396, 397, 381, 382, 383, 384, 385, 386, 387, 388, 389] (by decide +kernel) (by decide +kernel)) (goodIn_sub (fun _ h => List.mem_cons_of_mem _ (List.mem_append_right _ h)) (by decide +kernel))) (goodIn_sub (fun _ h => List.mem_cons_of_mem _ (List.mem_append_left _ (List.mem_append_left _ (List.mem_append_right _ h)))) (by decide +kernel))
set_option maxRecDepth 20000 in
theorem gL_ends_L_projects : GoodIn wsL_ends (va_wsS RL 127 yL_projects wsL_projects) := goodIn_app (goodIn_of _ (by decide +kernel)) ggL_ends_L_projects
set_option maxRecDepth 20000 in
theorem ggL_ends_L_left : GoodIn wsL_ends wsL_left := goodIn_ca (goodIn_r _ [324, 6, 9, 325, 326, 327, 14, 328, 329, 309, 310, 311, 312, 20, 21, 285, 313, 34, 35, 36, 37, 38, 39, 156, 157, 158, 159, 160, 161, 162, 163, 164, 165, 166, 167, 168, 169, 170, 171, 94, 408, 409, 410, 411, 390, 391, 392, 393, 394, 395, 396, 397] (by decide +kernel) (by decide +kernel)) (goodIn_sub (fun _ h => List.mem_cons_of_mem _ (List.mem_append_left _ (List.mem_append_left _ (List.mem_append_right _ h)))) (by decide +kernel))
set_option maxRecDepth 20000 in
theorem gL_ends_L_left : GoodIn wsL_ends (va_wsS RL 125 yL_left wsL_left) := goodIn_app (goodIn_of _ (by decide +kernel)) ggL_ends_L_left
set_option maxRecDepth 20000 in
theorem ggL_ends_L_knits : GoodIn wsL_ends wsL_knits := goodIn_ca (goodIn_ca (goodIn_r _ [332, 6, 7, 9, 10, 333, 334, 335, 14, 336, 337, 338, 339, 340, 20, 21, 304, 341, 34, 35, 36, 37, 38, 39, 156, 157, 158, 159, 160, 161, 162, 163, 164, 165, 166, 167, 168, 169, 170, 171, 94, 22, 23, 24, 25, 26, 342, 343, 344, 308, 345, 321, 346, 318, 347, 348, 349, 350, 320, 351, 352, 353, 319, 354, 355, 356, 357, 358, 359, 360, 361, 67, 362, 86, 390, 391, 392, 393, 394, 395, 396, 397, 412, 413, 414, 415, 408, 409, 410, 411, 381, 382, 383, 384, 385, 386, 387, 388, 389, 404, 405, 406, 407] (by decide +kernel) (by decide +kernel)) (goodIn_sub (fun _ h => List.mem_cons_of_mem _ (List.mem_append_left _ (List.mem_append_left _ (List.mem_append_right _ h)))) (by decide +kernel))) (goodIn_sub (fun _ h => List.mem_cons_of_mem _ (List.mem_append_left _ (List.mem_append_right _ h))) (by decide +kernel))
set_option maxRecDepth 20000 in
theorem gL_ends_L_knits : GoodIn wsL_ends (va_wsS RL 133 yL_knits wsL_knits) := goodIn_app (goodIn_of _ (by decide +kernel)) ggL_ends_L_knits
set_option maxRecDepth 20000 in
theorem ggL_ends_L_progress : GoodIn wsL_ends wsL_progress := goodIn_ca (goodIn_r _ [365, 6, 9, 366, 367, 368, 14, 369, 370, 337, 338, 339, 340, 20, 21, 304, 341, 34, 35, 36, 37, 38, 39, 156, 157, 158, 159, 160, 161, 162, 163, 164, 165, 166, 167, 168, 169, 170, 171, 94, 412, 413, 414, 415, 390, 391, 392, 393, 394, 395, 396, 397] (by decide +kernel) (by decide +kernel)) (goodIn_sub (fun _ h => List.mem_cons_of_mem _ (List.mem_append_left _ (List.mem_append_left _ (List.mem_append_right _ h)))) (by decide +kernel))
set_option maxRecDepth 20000 in
theorem gL_ends_L_progress : GoodIn wsL_ends (va_wsS RL 136 yL_progress wsL_progress) := goodIn_app (goodIn_of _ (by decide +kernel)) ggL_ends_L_progress
set_option maxRecDepth 20000 in
theorem ggL_ends_L_takes : GoodIn wsL_ends wsL_takes := goodIn_ca (goodIn_ca (goodIn_r _ [373, 6, 8, 9, 1, 374, 375, 376, 14, 377, 31, 32, 305, 378, 379, 380, 337, 338, 339, 340, 20, 21, 304, 341, 34, 35, 36, 37, 38, 39, 156, 157, 158, 159, 160, 161, 162, 163, 164, 165, 166, 167, 168, 169, 170, 171, 94, 309, 310, 311, 312, 285, 313, 408, 409, 410, 411, 412, 413, 414, 415, 390, 391, 392, 393, 394, 395, 396, 397] (by decide +kernel) (by decide +kernel)) (goodIn_sub (fun _ h => List.mem_cons_of_mem _ (List.mem_append_right _ h)) (by decide +kernel))) (goodIn_sub (fun _ h => List.mem_cons_of_mem _ (List.mem_append_left _ (List.mem_append_left _ (List.mem_append_right _ h)))) (by decide +kernel))
set_option maxRecDepth 20000 in
theorem gL_ends_L_takes : GoodIn wsL_ends (va_wsS RL 130 yL_takes wsL_takes) := goodIn_app (goodIn_of _ (by decide +kernel)) ggL_ends_L_takes
theorem dL_ends_0 : decode cL_ends 0 = .ok (.aload_n 1, 1) := by decide +kernel
theorem dL_ends_1 : decode cL_ends 1 = .ok (.iconst 0, 1) := by decide +kernel
theorem dL_ends_2 : decode cL_ends 2 = .ok (.iaload, 1) := by decide +kernel
theorem dL_ends_3 : decode cL_ends 3 = .ok (.bipush 14, 2) := by decide +kernel
theorem dL_ends_5 : decode cL_ends 5 = .ok (.if_icmp .gt 19, 3) := by decide +kernel
theorem dL_ends_8 : decode cL_ends 8 = .ok (.aload_n 1, 1) := by decide +kernel
theorem dL_ends_9 : decode cL_ends 9 = .ok (.iconst 1, 1) := by decide +kernel
theorem dL_ends_10 : decode cL_ends 10 = .ok (.iaload, 1) := by decide +kernel
theorem dL_ends_11 : decode cL_ends 11 = .ok (.bipush 19, 2) := by decide +kernel
theorem dL_ends_13 : decode cL_ends 13 = .ok (.if_icmp .gt 11, 3) := by decide +kernel
theorem dL_ends_16 : decode cL_ends 16 = .ok (.aload_n 1, 1) := by decide +kernel
theorem dL_ends_17 : decode cL_ends 17 = .ok (.iconst 2, 1) := by decide +kernel
theorem dL_ends_18 : decode cL_ends 18 = .ok (.iaload, 1) := by decide +kernel
theorem dL_ends_19 : decode cL_ends 19 = .ok (.bipush 11, 2) := by decide +kernel
theorem dL_ends_21 : decode cL_ends 21 = .ok (.if_icmp .le 5, 3) := by decide +kernel
theorem dL_ends_24 : decode cL_ends 24 = .ok (.iconst 1, 1) := by decide +kernel
theorem dL_ends_25 : decode cL_ends 25 = .ok (.ireturn, 1) := by decide +kernel
theorem dL_ends_26 : decode cL_ends 26 = .ok (.aload_n 1, 1) := by decide +kernel
theorem dL_ends_27 : decode cL_ends 27 = .ok (.iconst 0, 1) := by decide +kernel
theorem dL_ends_28 : decode cL_ends 28 = .ok (.iaload, 1) := by decide +kernel
theorem dL_ends_29 : decode cL_ends 29 = .ok (.istore_n 3, 1) := by decide +kernel
theorem dL_ends_30 : decode cL_ends 30 = .ok (.iconst 1, 1) := by decide +kernel
theorem dL_ends_31 : decode cL_ends 31 = .ok (.iload_n 2, 1) := by decide +kernel
theorem dL_ends_32 : decode cL_ends 32 = .ok (.bipush 20, 2) := by decide +kernel
theorem dL_ends_34 : decode cL_ends 34 = .ok (.irem, 1) := by decide +kernel
theorem dL_ends_35 : decode cL_ends 35 = .ok (.iadd, 1) := by decide +kernel
theorem dL_ends_36 : decode cL_ends 36 = .ok (.istore 4, 2) := by decide +kernel
theorem dL_ends_38 : decode cL_ends 38 = .ok (.iload_n 2, 1) := by decide +kernel
theorem dL_ends_39 : decode cL_ends 39 = .ok (.bipush 20, 2) := by decide +kernel
theorem dL_ends_41 : decode cL_ends 41 = .ok (.idiv, 1) := by decide +kernel
theorem dL_ends_42 : decode cL_ends 42 = .ok (.iconst 3, 1) := by decide +kernel
theorem dL_ends_43 : decode cL_ends 43 = .ok (.irem, 1) := by decide +kernel
theorem dL_ends_44 : decode cL_ends 44 = .ok (.istore 5, 2) := by decide +kernel
theorem dL_ends_46 : decode cL_ends 46 = .ok (.iconst 1, 1) := by decide +kernel
theorem dL_ends_47 : decode cL_ends 47 = .ok (.iload_n 2, 1) := by decide +kernel
theorem dL_ends_48 : decode cL_ends 48 = .ok (.bipush 60, 2) := by decide +kernel
theorem dL_ends_50 : decode cL_ends 50 = .ok (.idiv, 1) := by decide +kernel
theorem dL_ends_51 : decode cL_ends 51 = .ok (.bipush 12, 2) := by decide +kernel
theorem dL_ends_53 : decode cL_ends 53 = .ok (.irem, 1) := by decide +kernel
theorem dL_ends_54 : decode cL_ends 54 = .ok (.iadd, 1) := by decide +kernel
theorem dL_ends_55 : decode cL_ends 55 = .ok (.istore 6, 2) := by decide +kernel
theorem dL_ends_57 : decode cL_ends 57 = .ok (.aload_n 0, 1) := by decide +kernel
theorem dL_ends_58 : decode cL_ends 58 = .ok (.iconst 1, 1) := by decide +kernel
theorem dL_ends_59 : decode cL_ends 59 = .ok (.iload 4, 2) := by decide +kernel
theorem dL_ends_61 : decode cL_ends 61 = .ok (.bipush 40, 2) := by decide +kernel
theorem dL_ends_63 : decode cL_ends 63 = .ok (.invokestatic 81, 3) := by decide +kernel
theorem dL_ends_66 : decode cL_ends 66 = .ok (.iload_n 3, 1) := by decide +kernel
theorem dL_ends_67 : decode cL_ends 67 = .ok (.if_icmp .ne 22, 3) := by decide +kernel
theorem dL_ends_70 : decode cL_ends 70 = .ok (.aload_n 0, 1) := by decide +kernel
theorem dL_ends_71 : decode cL_ends 71 = .ok (.iconst 2, 1) := by decide +kernel
theorem dL_ends_72 : decode cL_ends 72 = .ok (.iload 4, 2) := by decide +kernel
theorem dL_ends_74 : decode cL_ends 74 = .ok (.bipush 60, 2) := by decide +kernel
theorem dL_ends_76 : decode cL_ends 76 = .ok (.invokestatic 81, 3) := by decide +kernel
theorem dL_ends_79 : decode cL_ends 79 = .ok (.iload_n 3, 1) := by decide +kernel
theorem dL_ends_80 : decode cL_ends 80 = .ok (.iconst 1, 1) := by decide +kernel
theorem dL_ends_81 : decode cL_ends 81 = .ok (.iadd, 1) := by decide +kernel
theorem dL_ends_82 : decode cL_ends 82 = .ok (.if_icmp .ne 7, 3) := by decide +kernel
theorem dL_ends_85 : decode cL_ends 85 = .ok (.iconst 1, 1) := by decide +kernel
theorem dL_ends_86 : decode cL_ends 86 = .ok (.goto 4, 3) := by decide +kernel
theorem dL_ends_89 : decode cL_ends 89 = .ok (.iconst 0, 1) := by decide +kernel
theorem dL_ends_90 : decode cL_ends 90 = .ok (.istore 7, 2) := by decide +kernel
theorem dL_ends_92 : decode cL_ends 92 = .ok (.iload_n 3, 1) := by decide +kernel
theorem dL_ends_93 : decode cL_ends 93 = .ok (.istore 8, 2) := by decide +kernel
theorem dL_ends_95 : decode cL_ends 95 = .ok (.iload 8, 2) := by decide +kernel
theorem dL_ends_97 : decode cL_ends 97 = .ok (.iload_n 3, 1) := by decide +kernel
theorem dL_ends_98 : decode cL_ends 98 = .ok (.iconst 2, 1) := by decide +kernel
theorem dL_ends_99 : decode cL_ends 99 = .ok (.iadd, 1) := by decide +kernel
theorem dL_ends_100 : decode cL_ends 100 = .ok (.if_icmp .ge 56, 3) := by decide +kernel
theorem dL_ends_103 : decode cL_ends 103 = .ok (.iload 7, 2) := by decide +kernel
theorem dL_ends_105 : decode cL_ends 105 = .ok (.ifCond .eq 51, 3) := by decide +kernel
theorem dL_ends_108 : decode cL_ends 108 = .ok (.aload_n 0, 1) := by decide +kernel
theorem dL_ends_109 : decode cL_ends 109 = .ok (.iload 8, 2) := by decide +kernel
theorem dL_ends_111 : decode cL_ends 111 = .ok (.iconst 2, 1) := by decide +kernel
theorem dL_ends_112 : decode cL_ends 112 = .ok (.iload 5, 2) := by decide +kernel
theorem dL_ends_114 : decode cL_ends 114 = .ok (.iconst 1, 1) := by decide +kernel
theorem dL_ends_115 : decode cL_ends 115 = .ok (.iload 6, 2) := by decide +kernel
theorem dL_ends_117 : decode cL_ends 117 = .ok (.invokestatic 87, 3) := by decide +kernel
theorem dL_ends_120 : decode cL_ends 120 = .ok (.iload 6, 2) := by decide +kernel
theorem dL_ends_122 : decode cL_ends 122 = .ok (.if_icmp .ne 25, 3) := by decide +kernel
theorem dL_ends_125 : decode cL_ends 125 = .ok (.aload_n 0, 1) := by decide +kernel
theorem dL_ends_126 : decode cL_ends 126 = .ok (.iload 8, 2) := by decide +kernel
theorem dL_ends_128 : decode cL_ends 128 = .ok (.iconst 1, 1) := by decide +kernel
theorem dL_ends_129 : decode cL_ends 129 = .ok (.iconst 1, 1) := by decide +kernel
theorem dL_ends_130 : decode cL_ends 130 = .ok (.iconst (-1), 1) := by decide +kernel
theorem dL_ends_131 : decode cL_ends 131 = .ok (.iload 6, 2) := by decide +kernel
theorem dL_ends_133 : decode cL_ends 133 = .ok (.invokestatic 87, 3) := by decide +kernel
theorem dL_ends_136 : decode cL_ends 136 = .ok (.iconst 2, 1) := by decide +kernel
theorem dL_ends_137 : decode cL_ends 137 = .ok (.iload 6, 2) := by decide +kernel
theorem dL_ends_139 : decode cL_ends 139 = .ok (.imul, 1) := by decide +kernel
theorem dL_ends_140 : decode cL_ends 140 = .ok (.if_icmp .ne 7, 3) := by decide +kernel
theorem dL_ends_143 : decode cL_ends 143 = .ok (.iconst 1, 1) := by decide +kernel
theorem dL_ends_144 : decode cL_ends 144 = .ok (.goto 4, 3) := by decide +kernel
theorem dL_ends_147 : decode cL_ends 147 = .ok (.iconst 0, 1) := by decide +kernel
theorem dL_ends_148 : decode cL_ends 148 = .ok (.istore 7, 2) := by decide +kernel
theorem dL_ends_150 : decode cL_ends 150 = .ok (.iinc 8 1, 3) := by decide +kernel
theorem dL_ends_153 : decode cL_ends 153 = .ok (.goto (-58), 3) := by decide +kernel
theorem dL_ends_156 : decode cL_ends 156 = .ok (.aload_n 0, 1) := by decide +kernel
theorem dL_ends_157 : decode cL_ends 157 = .ok (.iload_n 3, 1) := by decide +kernel
theorem dL_ends_158 : decode cL_ends 158 = .ok (.invokestatic 95, 3) := by decide +kernel
theorem dL_ends_161 : decode cL_ends 161 = .ok (.istore 8, 2) := by decide +kernel
theorem dL_ends_163 : decode cL_ends 163 = .ok (.iload 7, 2) := by decide +kernel
theorem dL_ends_165 : decode cL_ends 165 = .ok (.ifCond .eq 42, 3) := by decide +kernel
theorem dL_ends_168 : decode cL_ends 168 = .ok (.iload 8, 2) := by decide +kernel
theorem dL_ends_170 : decode cL_ends 170 = .ok (.ifCond .lt 37, 3) := by decide +kernel
theorem dL_ends_173 : decode cL_ends 173 = .ok (.iload 8, 2) := by decide +kernel
theorem dL_ends_175 : decode cL_ends 175 = .ok (.iload_n 3, 1) := by decide +kernel
theorem dL_ends_176 : decode cL_ends 176 = .ok (.if_icmp .gt 31, 3) := by decide +kernel
theorem dL_ends_179 : decode cL_ends 179 = .ok (.aload_n 0, 1) := by decide +kernel
theorem dL_ends_180 : decode cL_ends 180 = .ok (.iload_n 3, 1) := by decide +kernel
theorem dL_ends_181 : decode cL_ends 181 = .ok (.iconst 1, 1) := by decide +kernel
theorem dL_ends_182 : decode cL_ends 182 = .ok (.iadd, 1) := by decide +kernel
theorem dL_ends_183 : decode cL_ends 183 = .ok (.invokestatic 95, 3) := by decide +kernel
theorem dL_ends_186 : decode cL_ends 186 = .ok (.iload 8, 2) := by decide +kernel
theorem dL_ends_188 : decode cL_ends 188 = .ok (.if_icmp .ne 19, 3) := by decide +kernel
theorem dL_ends_191 : decode cL_ends 191 = .ok (.aload_n 0, 1) := by decide +kernel
theorem dL_ends_192 : decode cL_ends 192 = .ok (.iload_n 3, 1) := by decide +kernel
theorem dL_ends_193 : decode cL_ends 193 = .ok (.iconst 1, 1) := by decide +kernel
theorem dL_ends_194 : decode cL_ends 194 = .ok (.iadd, 1) := by decide +kernel
theorem dL_ends_195 : decode cL_ends 195 = .ok (.invokestatic 99, 3) := by decide +kernel
theorem dL_ends_198 : decode cL_ends 198 = .ok (.iload 8, 2) := by decide +kernel
theorem dL_ends_200 : decode cL_ends 200 = .ok (.if_icmp .ne 7, 3) := by decide +kernel
theorem dL_ends_203 : decode cL_ends 203 = .ok (.iconst 1, 1) := by decide +kernel
theorem dL_ends_204 : decode cL_ends 204 = .ok (.goto 4, 3) := by decide +kernel
theorem dL_ends_207 : decode cL_ends 207 = .ok (.iconst 0, 1) := by decide +kernel
theorem dL_ends_208 : decode cL_ends 208 = .ok (.istore 7, 2) := by decide +kernel
theorem dL_ends_210 : decode cL_ends 210 = .ok (.aload_n 0, 1) := by decide +kernel
theorem dL_ends_211 : decode cL_ends 211 = .ok (.iconst 2, 1) := by decide +kernel
theorem dL_ends_212 : decode cL_ends 212 = .ok (.invokestatic 116, 3) := by decide +kernel
theorem dL_ends_215 : decode cL_ends 215 = .ok (.istore 9, 2) := by decide +kernel
theorem dL_ends_217 : decode cL_ends 217 = .ok (.aload_n 0, 1) := by decide +kernel
theorem dL_ends_218 : decode cL_ends 218 = .ok (.iload_n 3, 1) := by decide +kernel
theorem dL_ends_219 : decode cL_ends 219 = .ok (.iconst 5, 1) := by decide +kernel
theorem dL_ends_220 : decode cL_ends 220 = .ok (.invokestatic 108, 3) := by decide +kernel
theorem dL_ends_223 : decode cL_ends 223 = .ok (.istore 10, 2) := by decide +kernel
theorem dL_ends_225 : decode cL_ends 225 = .ok (.iload 7, 2) := by decide +kernel
theorem dL_ends_227 : decode cL_ends 227 = .ok (.ifCond .eq 36, 3) := by decide +kernel
theorem dL_ends_230 : decode cL_ends 230 = .ok (.aload_n 0, 1) := by decide +kernel
theorem dL_ends_231 : decode cL_ends 231 = .ok (.iload_n 3, 1) := by decide +kernel
theorem dL_ends_232 : decode cL_ends 232 = .ok (.iconst 1, 1) := by decide +kernel
theorem dL_ends_233 : decode cL_ends 233 = .ok (.iadd, 1) := by decide +kernel
theorem dL_ends_234 : decode cL_ends 234 = .ok (.iconst 3, 1) := by decide +kernel
theorem dL_ends_235 : decode cL_ends 235 = .ok (.invokestatic 110, 3) := by decide +kernel
theorem dL_ends_238 : decode cL_ends 238 = .ok (.iload 9, 2) := by decide +kernel
theorem dL_ends_240 : decode cL_ends 240 = .ok (.bipush 60, 2) := by decide +kernel
theorem dL_ends_242 : decode cL_ends 242 = .ok (.iadd, 1) := by decide +kernel
theorem dL_ends_243 : decode cL_ends 243 = .ok (.if_icmp .ne 20, 3) := by decide +kernel
theorem dL_ends_246 : decode cL_ends 246 = .ok (.aload_n 0, 1) := by decide +kernel
theorem dL_ends_247 : decode cL_ends 247 = .ok (.iload_n 3, 1) := by decide +kernel
theorem dL_ends_248 : decode cL_ends 248 = .ok (.iconst 1, 1) := by decide +kernel
theorem dL_ends_249 : decode cL_ends 249 = .ok (.iadd, 1) := by decide +kernel
theorem dL_ends_250 : decode cL_ends 250 = .ok (.iconst 3, 1) := by decide +kernel
theorem dL_ends_251 : decode cL_ends 251 = .ok (.invokestatic 110, 3) := by decide +kernel
theorem dL_ends_254 : decode cL_ends 254 = .ok (.ldc 21, 2) := by decide +kernel
theorem dL_ends_256 : decode cL_ends 256 = .ok (.if_icmp .ne 7, 3) := by decide +kernel
theorem dL_ends_259 : decode cL_ends 259 = .ok (.iconst 1, 1) := by decide +kernel
theorem dL_ends_260 : decode cL_ends 260 = .ok (.goto 4, 3) := by decide +kernel
theorem dL_ends_263 : decode cL_ends 263 = .ok (.iconst 0, 1) := by decide +kernel
theorem dL_ends_264 : decode cL_ends 264 = .ok (.istore 7, 2) := by decide +kernel
theorem dL_ends_266 : decode cL_ends 266 = .ok (.aload_n 0, 1) := by decide +kernel
theorem dL_ends_267 : decode cL_ends 267 = .ok (.iload_n 3, 1) := by decide +kernel
theorem dL_ends_268 : decode cL_ends 268 = .ok (.iconst 1, 1) := by decide +kernel
theorem dL_ends_269 : decode cL_ends 269 = .ok (.iadd, 1) := by decide +kernel
theorem dL_ends_270 : decode cL_ends 270 = .ok (.invokestatic 113, 3) := by decide +kernel
theorem dL_ends_273 : decode cL_ends 273 = .ok (.istore 11, 2) := by decide +kernel
theorem dL_ends_275 : decode cL_ends 275 = .ok (.iload 7, 2) := by decide +kernel
theorem dL_ends_277 : decode cL_ends 277 = .ok (.ifCond .eq 84, 3) := by decide +kernel
theorem dL_ends_280 : decode cL_ends 280 = .ok (.iload 11, 2) := by decide +kernel
theorem dL_ends_282 : decode cL_ends 282 = .ok (.bipush 60, 2) := by decide +kernel
theorem dL_ends_284 : decode cL_ends 284 = .ok (.if_icmp .eq 16, 3) := by decide +kernel
theorem dL_ends_287 : decode cL_ends 287 = .ok (.iload 11, 2) := by decide +kernel
theorem dL_ends_289 : decode cL_ends 289 = .ok (.ldc 21, 2) := by decide +kernel
theorem dL_ends_291 : decode cL_ends 291 = .ok (.if_icmp .ne 70, 3) := by decide +kernel
theorem dL_ends_294 : decode cL_ends 294 = .ok (.iload 8, 2) := by decide +kernel
theorem dL_ends_296 : decode cL_ends 296 = .ok (.iload_n 3, 1) := by decide +kernel
theorem dL_ends_297 : decode cL_ends 297 = .ok (.if_icmp .ge 64, 3) := by decide +kernel
theorem dL_ends_300 : decode cL_ends 300 = .ok (.aload_n 0, 1) := by decide +kernel
theorem dL_ends_301 : decode cL_ends 301 = .ok (.iconst 2, 1) := by decide +kernel
theorem dL_ends_302 : decode cL_ends 302 = .ok (.invokestatic 116, 3) := by decide +kernel
theorem dL_ends_305 : decode cL_ends 305 = .ok (.iload 11, 2) := by decide +kernel
theorem dL_ends_307 : decode cL_ends 307 = .ok (.bipush 60, 2) := by decide +kernel
theorem dL_ends_309 : decode cL_ends 309 = .ok (.if_icmp .ne 8, 3) := by decide +kernel
theorem dL_ends_312 : decode cL_ends 312 = .ok (.iload 9, 2) := by decide +kernel
theorem dL_ends_314 : decode cL_ends 314 = .ok (.goto 8, 3) := by decide +kernel
theorem dL_ends_317 : decode cL_ends 317 = .ok (.iload 9, 2) := by decide +kernel
theorem dL_ends_319 : decode cL_ends 319 = .ok (.bipush 60, 2) := by decide +kernel
theorem dL_ends_321 : decode cL_ends 321 = .ok (.iadd, 1) := by decide +kernel
theorem dL_ends_322 : decode cL_ends 322 = .ok (.if_icmp .ne 39, 3) := by decide +kernel
theorem dL_ends_325 : decode cL_ends 325 = .ok (.iload 11, 2) := by decide +kernel
theorem dL_ends_327 : decode cL_ends 327 = .ok (.bipush 60, 2) := by decide +kernel
theorem dL_ends_329 : decode cL_ends 329 = .ok (.if_icmp .ne 28, 3) := by decide +kernel
theorem dL_ends_332 : decode cL_ends 332 = .ok (.aload_n 0, 1) := by decide +kernel
theorem dL_ends_333 : decode cL_ends 333 = .ok (.iload_n 3, 1) := by decide +kernel
theorem dL_ends_334 : decode cL_ends 334 = .ok (.iconst 1, 1) := by decide +kernel
theorem dL_ends_335 : decode cL_ends 335 = .ok (.iadd, 1) := by decide +kernel
theorem dL_ends_336 : decode cL_ends 336 = .ok (.iconst 4, 1) := by decide +kernel
theorem dL_ends_337 : decode cL_ends 337 = .ok (.invokestatic 110, 3) := by decide +kernel
theorem dL_ends_340 : decode cL_ends 340 = .ok (.ldc 21, 2) := by decide +kernel
theorem dL_ends_342 : decode cL_ends 342 = .ok (.if_icmp .ne 19, 3) := by decide +kernel
theorem dL_ends_345 : decode cL_ends 345 = .ok (.aload_n 0, 1) := by decide +kernel
theorem dL_ends_346 : decode cL_ends 346 = .ok (.iload_n 3, 1) := by decide +kernel
theorem dL_ends_347 : decode cL_ends 347 = .ok (.iconst 1, 1) := by decide +kernel
theorem dL_ends_348 : decode cL_ends 348 = .ok (.iadd, 1) := by decide +kernel
theorem dL_ends_349 : decode cL_ends 349 = .ok (.invokestatic 113, 3) := by decide +kernel
theorem dL_ends_352 : decode cL_ends 352 = .ok (.ldc 21, 2) := by decide +kernel
theorem dL_ends_354 : decode cL_ends 354 = .ok (.if_icmp .ne 7, 3) := by decide +kernel
theorem dL_ends_357 : decode cL_ends 357 = .ok (.iconst 1, 1) := by decide +kernel
theorem dL_ends_358 : decode cL_ends 358 = .ok (.goto 4, 3) := by decide +kernel
theorem dL_ends_361 : decode cL_ends 361 = .ok (.iconst 0, 1) := by decide +kernel
theorem dL_ends_362 : decode cL_ends 362 = .ok (.istore 7, 2) := by decide +kernel
theorem dL_ends_364 : decode cL_ends 364 = .ok (.aload_n 1, 1) := by decide +kernel
theorem dL_ends_365 : decode cL_ends 365 = .ok (.iconst 1, 1) := by decide +kernel
theorem dL_ends_366 : decode cL_ends 366 = .ok (.iaload, 1) := by decide +kernel
theorem dL_ends_367 : decode cL_ends 367 = .ok (.istore 12, 2) := by decide +kernel
theorem dL_ends_369 : decode cL_ends 369 = .ok (.aload_n 1, 1) := by decide +kernel
theorem dL_ends_370 : decode cL_ends 370 = .ok (.iconst 2, 1) := by decide +kernel
theorem dL_ends_371 : decode cL_ends 371 = .ok (.iaload, 1) := by decide +kernel
theorem dL_ends_372 : decode cL_ends 372 = .ok (.istore 13, 2) := by decide +kernel
theorem dL_ends_374 : decode cL_ends 374 = .ok (.iload 7, 2) := by decide +kernel
theorem dL_ends_376 : decode cL_ends 376 = .ok (.ifCond .eq 46, 3) := by decide +kernel
theorem dL_ends_379 : decode cL_ends 379 = .ok (.aload_n 0, 1) := by decide +kernel
theorem dL_ends_380 : decode cL_ends 380 = .ok (.iconst 1, 1) := by decide +kernel
theorem dL_ends_381 : decode cL_ends 381 = .ok (.iconst 5, 1) := by decide +kernel
theorem dL_ends_382 : decode cL_ends 382 = .ok (.iload 10, 2) := by decide +kernel
theorem dL_ends_384 : decode cL_ends 384 = .ok (.invokestatic 118, 3) := by decide +kernel
theorem dL_ends_387 : decode cL_ends 387 = .ok (.iload 12, 2) := by decide +kernel
theorem dL_ends_389 : decode cL_ends 389 = .ok (.if_icmp .ne 33, 3) := by decide +kernel
theorem dL_ends_392 : decode cL_ends 392 = .ok (.aload_n 0, 1) := by decide +kernel
theorem dL_ends_393 : decode cL_ends 393 = .ok (.iconst 3, 1) := by decide +kernel
theorem dL_ends_394 : decode cL_ends 394 = .ok (.iload_n 3, 1) := by decide +kernel
theorem dL_ends_395 : decode cL_ends 395 = .ok (.iload 12, 2) := by decide +kernel
theorem dL_ends_397 : decode cL_ends 397 = .ok (.invokestatic 127, 3) := by decide +kernel
theorem dL_ends_400 : decode cL_ends 400 = .ok (.ldc 21, 2) := by decide +kernel
theorem dL_ends_402 : decode cL_ends 402 = .ok (.if_icmp .ne 20, 3) := by decide +kernel
theorem dL_ends_405 : decode cL_ends 405 = .ok (.aload_n 0, 1) := by decide +kernel
theorem dL_ends_406 : decode cL_ends 406 = .ok (.iconst 1, 1) := by decide +kernel
theorem dL_ends_407 : decode cL_ends 407 = .ok (.iload_n 3, 1) := by decide +kernel
theorem dL_ends_408 : decode cL_ends 408 = .ok (.iload 12, 2) := by decide +kernel
theorem dL_ends_410 : decode cL_ends 410 = .ok (.invokestatic 127, 3) := by decide +kernel
theorem dL_ends_413 : decode cL_ends 413 = .ok (.iload 13, 2) := by decide +kernel
theorem dL_ends_415 : decode cL_ends 415 = .ok (.if_icmp .ne 7, 3) := by decide +kernel
theorem dL_ends_418 : decode cL_ends 418 = .ok (.iconst 1, 1) := by decide +kernel
theorem dL_ends_419 : decode cL_ends 419 = .ok (.goto 4, 3) := by decide +kernel
theorem dL_ends_422 : decode cL_ends 422 = .ok (.iconst 0, 1) := by decide +kernel
theorem dL_ends_423 : decode cL_ends 423 = .ok (.istore 7, 2) := by decide +kernel
theorem dL_ends_425 : decode cL_ends 425 = .ok (.iconst 0, 1) := by decide +kernel
theorem dL_ends_426 : decode cL_ends 426 = .ok (.istore 14, 2) := by decide +kernel
theorem dL_ends_428 : decode cL_ends 428 = .ok (.iconst 0, 1) := by decide +kernel
theorem dL_ends_429 : decode cL_ends 429 = .ok (.istore 15, 2) := by decide +kernel
theorem dL_ends_431 : decode cL_ends 431 = .ok (.iload 15, 2) := by decide +kernel
theorem dL_ends_433 : decode cL_ends 433 = .ok (.iconst 2, 1) := by decide +kernel
theorem dL_ends_434 : decode cL_ends 434 = .ok (.iload 6, 2) := by decide +kernel
theorem dL_ends_436 : decode cL_ends 436 = .ok (.imul, 1) := by decide +kernel
theorem dL_ends_437 : decode cL_ends 437 = .ok (.if_icmp .ge 98, 3) := by decide +kernel
theorem dL_ends_440 : decode cL_ends 440 = .ok (.iload 7, 2) := by decide +kernel
theorem dL_ends_442 : decode cL_ends 442 = .ok (.ifCond .eq 93, 3) := by decide +kernel
theorem dL_ends_445 : decode cL_ends 445 = .ok (.aload_n 0, 1) := by decide +kernel
theorem dL_ends_446 : decode cL_ends 446 = .ok (.iload 12, 2) := by decide +kernel
theorem dL_ends_448 : decode cL_ends 448 = .ok (.invokestatic 125, 3) := by decide +kernel
theorem dL_ends_451 : decode cL_ends 451 = .ok (.istore 16, 2) := by decide +kernel
theorem dL_ends_453 : decode cL_ends 453 = .ok (.aload_n 0, 1) := by decide +kernel
theorem dL_ends_454 : decode cL_ends 454 = .ok (.iload 13, 2) := by decide +kernel
theorem dL_ends_456 : decode cL_ends 456 = .ok (.iconst 1, 1) := by decide +kernel
theorem dL_ends_457 : decode cL_ends 457 = .ok (.invokestatic 133, 3) := by decide +kernel
theorem dL_ends_460 : decode cL_ends 460 = .ok (.iconst 1, 1) := by decide +kernel
theorem dL_ends_461 : decode cL_ends 461 = .ok (.if_icmp .ne 20, 3) := by decide +kernel
theorem dL_ends_464 : decode cL_ends 464 = .ok (.aload_n 0, 1) := by decide +kernel
theorem dL_ends_465 : decode cL_ends 465 = .ok (.iload 13, 2) := by decide +kernel
theorem dL_ends_467 : decode cL_ends 467 = .ok (.invokestatic 136, 3) := by decide +kernel
theorem dL_ends_470 : decode cL_ends 470 = .ok (.iload 15, 2) := by decide +kernel
theorem dL_ends_472 : decode cL_ends 472 = .ok (.iconst 1, 1) := by decide +kernel
theorem dL_ends_473 : decode cL_ends 473 = .ok (.iadd, 1) := by decide +kernel
theorem dL_ends_474 : decode cL_ends 474 = .ok (.if_icmp .ne 7, 3) := by decide +kernel
theorem dL_ends_477 : decode cL_ends 477 = .ok (.iconst 1, 1) := by decide +kernel
theorem dL_ends_478 : decode cL_ends 478 = .ok (.goto 4, 3) := by decide +kernel
theorem dL_ends_481 : decode cL_ends 481 = .ok (.iconst 0, 1) := by decide +kernel
theorem dL_ends_482 : decode cL_ends 482 = .ok (.istore 7, 2) := by decide +kernel
theorem dL_ends_484 : decode cL_ends 484 = .ok (.iload 16, 2) := by decide +kernel
theorem dL_ends_486 : decode cL_ends 486 = .ok (.aload_n 0, 1) := by decide +kernel
theorem dL_ends_487 : decode cL_ends 487 = .ok (.iload 12, 2) := by decide +kernel
theorem dL_ends_489 : decode cL_ends 489 = .ok (.invokestatic 125, 3) := by decide +kernel
theorem dL_ends_492 : decode cL_ends 492 = .ok (.isub, 1) := by decide +kernel
theorem dL_ends_493 : decode cL_ends 493 = .ok (.istore 17, 2) := by decide +kernel
theorem dL_ends_495 : decode cL_ends 495 = .ok (.iload 14, 2) := by decide +kernel
theorem dL_ends_497 : decode cL_ends 497 = .ok (.iload 17, 2) := by decide +kernel
theorem dL_ends_499 : decode cL_ends 499 = .ok (.iadd, 1) := by decide +kernel
theorem dL_ends_500 : decode cL_ends 500 = .ok (.istore 14, 2) := by decide +kernel
theorem dL_ends_502 : decode cL_ends 502 = .ok (.iload 7, 2) := by decide +kernel
theorem dL_ends_504 : decode cL_ends 504 = .ok (.ifCond .eq 22, 3) := by decide +kernel
theorem dL_ends_507 : decode cL_ends 507 = .ok (.iload 17, 2) := by decide +kernel
theorem dL_ends_509 : decode cL_ends 509 = .ok (.bipush 10, 2) := by decide +kernel
theorem dL_ends_511 : decode cL_ends 511 = .ok (.if_icmp .lt 15, 3) := by decide +kernel
theorem dL_ends_514 : decode cL_ends 514 = .ok (.iload 17, 2) := by decide +kernel
theorem dL_ends_516 : decode cL_ends 516 = .ok (.sipush 600, 3) := by decide +kernel
theorem dL_ends_519 : decode cL_ends 519 = .ok (.if_icmp .gt 7, 3) := by decide +kernel
theorem dL_ends_522 : decode cL_ends 522 = .ok (.iconst 1, 1) := by decide +kernel
theorem dL_ends_523 : decode cL_ends 523 = .ok (.goto 4, 3) := by decide +kernel
theorem dL_ends_526 : decode cL_ends 526 = .ok (.iconst 0, 1) := by decide +kernel
theorem dL_ends_527 : decode cL_ends 527 = .ok (.istore 7, 2) := by decide +kernel
theorem dL_ends_529 : decode cL_ends 529 = .ok (.iinc 15 1, 3) := by decide +kernel
theorem dL_ends_532 : decode cL_ends 532 = .ok (.goto (-101), 3) := by decide +kernel
theorem dL_ends_535 : decode cL_ends 535 = .ok (.iload 7, 2) := by decide +kernel
theorem dL_ends_537 : decode cL_ends 537 = .ok (.ifCond .eq 47, 3) := by decide +kernel
theorem dL_ends_540 : decode cL_ends 540 = .ok (.iload 14, 2) := by decide +kernel
theorem dL_ends_542 : decode cL_ends 542 = .ok (.iload 10, 2) := by decide +kernel
theorem dL_ends_544 : decode cL_ends 544 = .ok (.if_icmp .ne 40, 3) := by decide +kernel
theorem dL_ends_547 : decode cL_ends 547 = .ok (.aload_n 0, 1) := by decide +kernel
theorem dL_ends_548 : decode cL_ends 548 = .ok (.iload 12, 2) := by decide +kernel
theorem dL_ends_550 : decode cL_ends 550 = .ok (.invokestatic 125, 3) := by decide +kernel
theorem dL_ends_553 : decode cL_ends 553 = .ok (.ifCond .ne 31, 3) := by decide +kernel
theorem dL_ends_556 : decode cL_ends 556 = .ok (.aload_n 0, 1) := by decide +kernel
theorem dL_ends_557 : decode cL_ends 557 = .ok (.iload 13, 2) := by decide +kernel
theorem dL_ends_559 : decode cL_ends 559 = .ok (.bipush 40, 2) := by decide +kernel
theorem dL_ends_561 : decode cL_ends 561 = .ok (.invokestatic 133, 3) := by decide +kernel
theorem dL_ends_564 : decode cL_ends 564 = .ok (.ifCond .ne 20, 3) := by decide +kernel
theorem dL_ends_567 : decode cL_ends 567 = .ok (.aload_n 0, 1) := by decide +kernel
theorem dL_ends_568 : decode cL_ends 568 = .ok (.iload 13, 2) := by decide +kernel
theorem dL_ends_570 : decode cL_ends 570 = .ok (.iload 12, 2) := by decide +kernel
theorem dL_ends_572 : decode cL_ends 572 = .ok (.invokestatic 130, 3) := by decide +kernel
theorem dL_ends_575 : decode cL_ends 575 = .ok (.iload 12, 2) := by decide +kernel
theorem dL_ends_577 : decode cL_ends 577 = .ok (.if_icmp .ne 7, 3) := by decide +kernel
theorem dL_ends_580 : decode cL_ends 580 = .ok (.iconst 1, 1) := by decide +kernel
theorem dL_ends_581 : decode cL_ends 581 = .ok (.goto 4, 3) := by decide +kernel
theorem dL_ends_584 : decode cL_ends 584 = .ok (.iconst 0, 1) := by decide +kernel
theorem dL_ends_585 : decode cL_ends 585 = .ok (.ireturn, 1) := by decide +kernel
