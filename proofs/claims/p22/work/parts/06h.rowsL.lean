set_option maxRecDepth 20000 in
theorem ggL_law_X5_init : GoodIn wsL_law wsX5_init := goodIn_r _ [6, 7, 8, 9, 10, 11, 12, 13, 14, 15, 16, 3, 17, 18, 19, 20, 21, 22, 23, 24, 25, 26, 27, 28, 29, 30, 31, 32, 497, 498, 499, 492, 493, 494, 495, 496] (by decide +kernel) (by decide +kernel)
set_option maxRecDepth 20000 in
theorem gL_law_X5_init : GoodIn wsL_law (wsX5_init) := ggL_law_X5_init
set_option maxRecDepth 20000 in
theorem ggL_law_L_drawn : GoodIn wsL_law wsL_drawn := goodIn_r _ [36, 37, 38] (by decide +kernel) (by decide +kernel)
set_option maxRecDepth 20000 in
theorem gL_law_L_drawn : GoodIn wsL_law (va_wsS RL 139 yL_drawn wsL_drawn) := goodIn_app (goodIn_of _ (by decide +kernel)) ggL_law_L_drawn
set_option maxRecDepth 20000 in
theorem gp_alike_c : GoodIn wsL_law [Cond.code yL_alike cL_alike 7 (some .boolean)] := goodIn_r _ [485] rfl (by decide +kernel)
set_option maxRecDepth 20000 in
theorem gp_wsL_alike_r1 : GoodIn wsL_law wsL_alike_r1 := goodIn_r _ [460, 461, 35, 462, 45, 48, 463, 464, 465, 2, 466, 17, 56, 57, 58, 59, 60, 413, 414, 415, 416, 417, 418, 419] rfl (by decide +kernel)
set_option maxRecDepth 20000 in
theorem gp_wsL_alike_r2 : GoodIn wsL_law wsL_alike_r2 := goodIn_r _ [181, 182, 183, 184, 185, 186, 13, 187, 72, 73, 74, 12, 75, 76, 188, 189, 190, 191, 192, 193, 194, 195, 196, 197] rfl (by decide +kernel)
set_option maxRecDepth 20000 in
theorem gp_wsL_alike_r3 : GoodIn wsL_law wsL_alike_r3 := goodIn_r _ [198, 199, 200, 201, 202, 203, 22, 406, 407, 408, 409, 410, 411, 412, 279, 55, 420, 421, 422, 423, 424, 425, 426, 427] rfl (by decide +kernel)
set_option maxRecDepth 20000 in
theorem gp_wsL_alike_r4 : GoodIn wsL_law wsL_alike_r4 := goodIn_r _ [428, 429, 430, 431, 432, 102, 433, 119, 434, 435, 436, 437, 438, 439, 440, 243, 441, 442, 443, 98, 444, 113, 112, 111] rfl (by decide +kernel)
set_option maxRecDepth 20000 in
theorem gp_wsL_alike_r5 : GoodIn wsL_law wsL_alike_r5 := goodIn_r _ [110, 445, 446, 447, 448, 108, 109, 229, 230, 231, 232, 233, 234, 141, 142, 143, 235, 168, 169, 467, 468, 469, 470, 471] rfl (by decide +kernel)
set_option maxRecDepth 20000 in
theorem gp_wsL_alike_r6 : GoodIn wsL_law wsL_alike_r6 := goodIn_r _ [472, 473, 474, 336, 337, 338, 339, 15, 340, 475, 476, 477, 478, 479, 480, 481, 482, 369, 370, 371, 372, 16, 373] rfl (by decide +kernel)
set_option maxRecDepth 20000 in
theorem gp_alike_X5 : GoodIn wsL_law wsX50 := goodIn_r _ [492, 493, 494, 495, 496] rfl (by decide +kernel)
set_option maxRecDepth 20000 in
theorem gp_alike_X2 : GoodIn wsL_law wsX20 := goodIn_r _ [500, 501, 502, 503, 504, 505, 506, 507, 508] rfl (by decide +kernel)
set_option maxRecDepth 20000 in
theorem gp_alike_X0 : GoodIn wsL_law wsX00 := goodIn_r _ [515, 516, 517, 518] rfl (by decide +kernel)
set_option maxRecDepth 20000 in
theorem gp_alike_Jx4a65c : GoodIn wsL_law wsJx4a65c0 := goodIn_r _ [497, 498, 499] rfl (by decide +kernel)
set_option maxRecDepth 20000 in
theorem gp_alike_X3 : GoodIn wsL_law wsX30 := goodIn_r _ [509, 510, 511, 512, 513, 514] rfl (by decide +kernel)
set_option maxRecDepth 20000 in
theorem gp_alike_X1 : GoodIn wsL_law wsX10 := goodIn_r _ [519, 520, 521, 522] rfl (by decide +kernel)
set_option maxRecDepth 20000 in
theorem gp_alike_X4 : GoodIn wsL_law wsX40 := goodIn_r _ [523, 524, 525, 526] rfl (by decide +kernel)
set_option maxRecDepth 20000 in
theorem ggL_law_L_alike : GoodIn wsL_law wsL_alike := goodIn_ca (goodIn_ca (goodIn_ca (goodIn_ca (goodIn_ca (goodIn_ca (goodIn_ca (goodIn_ca (goodIn_cc gp_alike_c (goodIn_app gp_wsL_alike_r1 (goodIn_app gp_wsL_alike_r2 (goodIn_app gp_wsL_alike_r3 (goodIn_app gp_wsL_alike_r4 (goodIn_app gp_wsL_alike_r5 gp_wsL_alike_r6)))))) gp_alike_X5) gp_alike_X2) gp_alike_X0) gp_alike_Jx4a65c) gp_alike_X3) gp_alike_X1) gp_alike_X4) (goodIn_sub (fun _ h => List.mem_append_left _ (List.mem_append_left _ (List.mem_append_right _ h))) (by decide +kernel))
set_option maxRecDepth 20000 in
theorem gL_law_L_alike : GoodIn wsL_law (va_wsS RL 151 yL_alike wsL_alike) := goodIn_app (goodIn_of _ (by decide +kernel)) ggL_law_L_alike
set_option maxRecDepth 20000 in
theorem gp_holds_c : GoodIn wsL_law [Cond.code yL_holds cL_holds 12 (some .boolean)] := goodIn_r _ [488] rfl (by decide +kernel)
set_option maxRecDepth 20000 in
theorem gp_wsL_holds_r1 : GoodIn wsL_law wsL_holds_r1 := goodIn_r _ [460, 461, 35, 462, 45, 48, 463, 464, 465, 2, 466, 17, 56, 57, 58, 59, 60, 413, 414, 415, 416, 417, 418, 419] rfl (by decide +kernel)
set_option maxRecDepth 20000 in
theorem gp_wsL_holds_r2 : GoodIn wsL_law wsL_holds_r2 := goodIn_r _ [181, 182, 183, 184, 185, 186, 13, 187, 72, 73, 74, 12, 75, 76, 188, 189, 190, 191, 192, 193, 194, 195, 196, 197] rfl (by decide +kernel)
set_option maxRecDepth 20000 in
theorem gp_wsL_holds_r3 : GoodIn wsL_law wsL_holds_r3 := goodIn_r _ [198, 199, 200, 201, 202, 203, 22, 406, 407, 408, 409, 410, 411, 412, 279, 55, 449, 450, 451, 46, 49, 452, 453, 454] rfl (by decide +kernel)
set_option maxRecDepth 20000 in
theorem gp_wsL_holds_r4 : GoodIn wsL_law wsL_holds_r4 := goodIn_r _ [455, 247, 248, 249, 61, 62, 63, 64, 65, 456, 457, 458, 102, 459, 118, 120, 420, 421, 422, 423, 424, 425, 426, 427] rfl (by decide +kernel)
set_option maxRecDepth 20000 in
theorem gp_wsL_holds_r5 : GoodIn wsL_law wsL_holds_r5 := goodIn_r _ [428, 429, 430, 431, 432, 433, 119, 434, 435, 436, 437, 438, 439, 440, 243, 441, 442, 443, 98, 444, 113, 112, 111, 110] rfl (by decide +kernel)
set_option maxRecDepth 20000 in
theorem gp_wsL_holds_r6 : GoodIn wsL_law wsL_holds_r6 := goodIn_r _ [445, 446, 447, 448, 108, 109, 229, 230, 231, 232, 233, 234, 141, 142, 143, 235, 168, 169, 467, 468, 469, 470, 471, 472] rfl (by decide +kernel)
set_option maxRecDepth 20000 in
theorem gp_wsL_holds_r7 : GoodIn wsL_law wsL_holds_r7 := goodIn_r _ [473, 474, 336, 337, 338, 339, 15, 340] rfl (by decide +kernel)
set_option maxRecDepth 20000 in
theorem gp_holds_X5 : GoodIn wsL_law wsX50 := goodIn_r _ [492, 493, 494, 495, 496] rfl (by decide +kernel)
set_option maxRecDepth 20000 in
theorem gp_holds_X2 : GoodIn wsL_law wsX20 := goodIn_r _ [500, 501, 502, 503, 504, 505, 506, 507, 508] rfl (by decide +kernel)
set_option maxRecDepth 20000 in
theorem gp_holds_X0 : GoodIn wsL_law wsX00 := goodIn_r _ [515, 516, 517, 518] rfl (by decide +kernel)
set_option maxRecDepth 20000 in
theorem gp_holds_Jx4a65c : GoodIn wsL_law wsJx4a65c0 := goodIn_r _ [497, 498, 499] rfl (by decide +kernel)
set_option maxRecDepth 20000 in
theorem gp_holds_X3 : GoodIn wsL_law wsX30 := goodIn_r _ [509, 510, 511, 512, 513, 514] rfl (by decide +kernel)
set_option maxRecDepth 20000 in
theorem gp_holds_X1 : GoodIn wsL_law wsX10 := goodIn_r _ [519, 520, 521, 522] rfl (by decide +kernel)
set_option maxRecDepth 20000 in
theorem ggL_law_L_holds : GoodIn wsL_law wsL_holds := goodIn_ca (goodIn_ca (goodIn_ca (goodIn_ca (goodIn_ca (goodIn_ca (goodIn_ca (goodIn_ca (goodIn_cc gp_holds_c (goodIn_app gp_wsL_holds_r1 (goodIn_app gp_wsL_holds_r2 (goodIn_app gp_wsL_holds_r3 (goodIn_app gp_wsL_holds_r4 (goodIn_app gp_wsL_holds_r5 (goodIn_app gp_wsL_holds_r6 gp_wsL_holds_r7))))))) gp_holds_X5) gp_holds_X2) gp_holds_X0) gp_holds_Jx4a65c) gp_holds_X3) gp_holds_X1) (goodIn_sub (fun _ h => List.mem_append_left _ (List.mem_append_left _ (List.mem_append_right _ h))) (by decide +kernel))) (goodIn_sub (fun _ h => List.mem_append_left _ (List.mem_append_right _ h)) (by decide +kernel))
set_option maxRecDepth 20000 in
theorem gL_law_L_holds : GoodIn wsL_law (va_wsS RL 155 yL_holds wsL_holds) := goodIn_app (goodIn_of _ (by decide +kernel)) ggL_law_L_holds
