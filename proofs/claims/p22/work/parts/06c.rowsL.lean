set_option maxRecDepth 20000 in
theorem ggL_act_L_begins : GoodIn wsL_act wsL_begins := goodIn_ca (goodIn_ca (goodIn_ca (goodIn_r _ [4, 5, 6, 7, 8, 9, 10, 11, 12, 13, 14, 15, 16, 17, 18, 19, 20, 21, 22, 23, 24, 25, 26, 27, 28, 29, 30, 31, 32, 33, 34, 35, 36, 37, 38, 39, 40, 41, 42, 43, 44, 45, 46, 47, 48, 49, 50, 51, 52, 53, 54, 55, 56, 57, 58, 59, 60, 61, 62, 63, 64, 65, 66, 67, 68, 69, 70, 71, 72, 73, 74, 75, 76, 77, 78, 79, 80, 81, 82, 83, 84, 85, 86, 87, 88, 89, 90, 91, 92, 93, 94, 95, 96, 97, 98, 99, 100, 101, 102, 103, 104, 105, 106, 107, 108, 109, 110, 111, 112, 113, 114, 115, 116, 117, 118, 119, 120, 121, 122, 123, 124, 125, 126, 127, 128, 129, 130, 131, 132, 133, 134, 135, 136, 137, 138, 139, 140, 141, 374, 375, 376, 377, 378, 379, 380, 381, 382, 383, 384, 385, 386, 387, 388, 389, 390, 391, 392, 393, 394, 395, 396, 397, 398, 399, 400] (by decide +kernel) (by decide +kernel)) (goodIn_sub (fun _ h => List.mem_cons_of_mem _ (List.mem_append_left _ (List.mem_append_left _ (List.mem_append_right _ h)))) (by decide +kernel))) (goodIn_sub (fun _ h => List.mem_cons_of_mem _ (List.mem_append_left _ (List.mem_append_right _ h))) (by decide +kernel))) (goodIn_sub (fun _ h => List.mem_cons_of_mem _ (List.mem_append_right _ h)) (by decide +kernel))
set_option maxRecDepth 20000 in
theorem gL_act_L_begins : GoodIn wsL_act (va_wsS RL 81 yL_begins wsL_begins) := goodIn_app (goodIn_of _ (by decide +kernel)) ggL_act_L_begins
set_option maxRecDepth 20000 in
theorem ggL_act_L_lines : GoodIn wsL_act wsL_lines := goodIn_ca (goodIn_ca (goodIn_ca (goodIn_r _ [144, 5, 6, 7, 8, 9, 10, 145, 146, 147, 14, 148, 25, 26, 31, 32, 149, 150, 151, 152, 153, 154, 20, 21, 33, 155, 34, 35, 36, 37, 38, 39, 156, 157, 158, 159, 160, 161, 162, 163, 164, 165, 166, 167, 168, 169, 170, 171, 94, 22, 23, 24, 172, 173, 174, 46, 175, 55, 176, 177, 178, 179, 64, 68, 180, 181, 182, 183, 184, 185, 186, 187, 63, 188, 78, 74, 75, 76, 77, 189, 190, 191, 67, 192, 84, 86, 87, 193, 194, 195, 196, 85, 197, 198, 199, 200, 201, 202, 109, 110, 111, 203, 136, 137, 374, 375, 376, 377, 378, 379, 380, 381, 382, 397, 398, 399, 400, 383, 384, 385, 386, 387, 388, 389, 390, 391, 392, 393, 394, 395, 396] (by decide +kernel) (by decide +kernel)) (goodIn_sub (fun _ h => List.mem_cons_of_mem _ (List.mem_append_left _ (List.mem_append_right _ h))) (by decide +kernel))) (goodIn_sub (fun _ h => List.mem_cons_of_mem _ (List.mem_append_right _ h)) (by decide +kernel))) (goodIn_sub (fun _ h => List.mem_cons_of_mem _ (List.mem_append_left _ (List.mem_append_left _ (List.mem_append_right _ h)))) (by decide +kernel))
set_option maxRecDepth 20000 in
theorem gL_act_L_lines : GoodIn wsL_act (va_wsS RL 87 yL_lines wsL_lines) := goodIn_app (goodIn_of _ (by decide +kernel)) ggL_act_L_lines
set_option maxRecDepth 20000 in
theorem ggL_act_L_anews : GoodIn wsL_act wsL_anews := goodIn_ca (goodIn_ca (goodIn_ca (goodIn_r _ [206, 5, 6, 7, 8, 9, 10, 207, 208, 209, 14, 210, 31, 32, 211, 212, 213, 214, 16, 151, 152, 153, 154, 20, 21, 33, 155, 34, 35, 36, 37, 38, 39, 156, 157, 158, 159, 160, 161, 162, 163, 164, 165, 166, 167, 168, 169, 170, 171, 94, 215, 216, 217, 22, 23, 24, 25, 26, 218, 219, 220, 46, 221, 64, 222, 223, 224, 63, 225, 78, 226, 227, 228, 229, 77, 230, 109, 110, 111, 231, 232, 27, 28, 29, 30, 233, 199, 200, 201, 202, 203, 136, 137, 40, 41, 42, 43, 44, 45, 47, 48, 49, 50, 51, 52, 53, 54, 55, 56, 57, 58, 59, 60, 61, 62, 65, 66, 67, 68, 69, 70, 71, 72, 73, 74, 75, 76, 79, 80, 81, 82, 83, 84, 85, 86, 87, 88, 89, 90, 91, 92, 93, 95, 96, 97, 98, 99, 100, 101, 102, 103, 104, 105, 106, 107, 108, 112, 113, 114, 115, 116, 117, 118, 119, 120, 121, 122, 123, 124, 125, 126, 127, 128, 129, 130, 131, 132, 133, 134, 135, 138, 139, 140, 141, 234, 235, 236, 237, 238, 239, 182, 183, 184, 185, 186, 187, 188, 189, 190, 191, 192, 193, 194, 195, 196, 197, 198, 374, 375, 376, 377, 378, 379, 380, 381, 382, 391, 392, 393, 394, 395, 396, 383, 384, 385, 386, 387, 388, 389, 390, 397, 398, 399, 400] (by decide +kernel) (by decide +kernel)) (goodIn_sub (fun _ h => List.mem_cons_of_mem _ (List.mem_append_right _ h)) (by decide +kernel))) (goodIn_sub (fun _ h => List.mem_cons_of_mem _ (List.mem_append_left _ (List.mem_append_left _ (List.mem_append_right _ h)))) (by decide +kernel))) (goodIn_sub (fun _ h => List.mem_cons_of_mem _ (List.mem_append_left _ (List.mem_append_right _ h))) (by decide +kernel))
set_option maxRecDepth 20000 in
theorem gL_act_L_anews : GoodIn wsL_act (va_wsS RL 91 yL_anews wsL_anews) := goodIn_app (goodIn_of _ (by decide +kernel)) ggL_act_L_anews
set_option maxRecDepth 20000 in
theorem ggL_act_L_publishes : GoodIn wsL_act wsL_publishes := goodIn_ca (goodIn_ca (goodIn_r _ [242, 5, 7, 8, 10, 243, 244, 245, 14, 246, 31, 32, 247, 248, 16, 151, 152, 153, 154, 20, 21, 33, 155, 34, 35, 36, 37, 38, 39, 156, 157, 158, 159, 160, 161, 162, 163, 164, 165, 166, 167, 168, 169, 170, 171, 94, 172, 173, 174, 46, 175, 55, 218, 219, 220, 221, 64, 249, 250, 251, 252, 149, 253, 254, 255, 67, 256, 84, 85, 88, 89, 90, 91, 92, 93, 95, 96, 97, 98, 99, 100, 101, 102, 103, 104, 105, 106, 107, 108, 109, 110, 111, 112, 113, 114, 115, 116, 117, 118, 119, 120, 121, 122, 123, 124, 125, 126, 127, 128, 129, 130, 131, 132, 133, 134, 135, 136, 137, 138, 139, 140, 141, 374, 375, 376, 377, 378, 379, 380, 381, 382, 383, 384, 385, 386, 387, 388, 389, 390, 391, 392, 393, 394, 395, 396, 397, 398, 399, 400] (by decide +kernel) (by decide +kernel)) (goodIn_sub (fun _ h => List.mem_cons_of_mem _ (List.mem_append_right _ h)) (by decide +kernel))) (goodIn_sub (fun _ h => List.mem_cons_of_mem _ (List.mem_append_left _ (List.mem_append_left _ (List.mem_append_right _ h)))) (by decide +kernel))
set_option maxRecDepth 20000 in
theorem gL_act_L_publishes : GoodIn wsL_act (va_wsS RL 95 yL_publishes wsL_publishes) := goodIn_app (goodIn_of _ (by decide +kernel)) ggL_act_L_publishes
set_option maxRecDepth 20000 in
theorem ggL_act_L_buys : GoodIn wsL_act wsL_buys := goodIn_ca (goodIn_ca (goodIn_r _ [259, 5, 7, 8, 10, 260, 261, 262, 14, 263, 31, 32, 264, 265, 266, 214, 267, 213, 151, 152, 153, 154, 20, 21, 33, 155, 34, 35, 36, 37, 38, 39, 156, 157, 158, 159, 160, 161, 162, 163, 164, 165, 166, 167, 168, 169, 170, 171, 94, 17, 18, 19, 172, 173, 174, 46, 175, 55, 268, 269, 270, 271, 59, 54, 374, 375, 376, 377, 378, 379, 380, 381, 382, 383, 384, 385, 386, 387, 388, 389, 390] (by decide +kernel) (by decide +kernel)) (goodIn_sub (fun _ h => List.mem_cons_of_mem _ (List.mem_append_right _ h)) (by decide +kernel))) (goodIn_sub (fun _ h => List.mem_cons_of_mem _ (List.mem_append_left _ (List.mem_append_left _ (List.mem_append_right _ h)))) (by decide +kernel))
set_option maxRecDepth 20000 in
theorem gL_act_L_buys : GoodIn wsL_act (va_wsS RL 110 yL_buys wsL_buys) := goodIn_app (goodIn_of _ (by decide +kernel)) ggL_act_L_buys
set_option maxRecDepth 20000 in
theorem ggL_act_L_rules : GoodIn wsL_act wsL_rules := goodIn_ca (goodIn_ca (goodIn_r _ [274, 5, 7, 8, 10, 275, 276, 277, 14, 278, 31, 32, 247, 213, 264, 267, 266, 151, 152, 153, 154, 20, 21, 33, 155, 34, 35, 36, 37, 38, 39, 156, 157, 158, 159, 160, 161, 162, 163, 164, 165, 166, 167, 168, 169, 170, 171, 94, 374, 375, 376, 377, 378, 379, 380, 381, 382, 383, 384, 385, 386, 387, 388, 389, 390] (by decide +kernel) (by decide +kernel)) (goodIn_sub (fun _ h => List.mem_cons_of_mem _ (List.mem_append_right _ h)) (by decide +kernel))) (goodIn_sub (fun _ h => List.mem_cons_of_mem _ (List.mem_append_left _ (List.mem_append_left _ (List.mem_append_right _ h)))) (by decide +kernel))
set_option maxRecDepth 20000 in
theorem gL_act_L_rules : GoodIn wsL_act (va_wsS RL 113 yL_rules wsL_rules) := goodIn_app (goodIn_of _ (by decide +kernel)) ggL_act_L_rules
set_option maxRecDepth 20000 in
theorem ggL_act_L_lots : GoodIn wsL_act wsL_lots := goodIn_ca (goodIn_ca (goodIn_ca (goodIn_r _ [281, 5, 6, 7, 8, 9, 10, 282, 283, 284, 14, 285, 31, 32, 286, 287, 288, 289, 290, 17, 18, 19, 20, 21, 215, 216, 217, 22, 23, 24, 25, 26, 34, 35, 36, 37, 38, 39, 291, 292, 293, 294, 51, 52, 295, 296, 297, 298, 88, 89, 90, 91, 92, 93, 94, 95, 96, 97, 98, 99, 100, 101, 102, 103, 104, 105, 106, 107, 108, 109, 110, 111, 112, 113, 114, 115, 116, 117, 118, 119, 120, 121, 122, 123, 124, 125, 126, 127, 128, 129, 130, 131, 132, 133, 134, 135, 136, 137, 138, 139, 140, 141, 383, 384, 385, 386, 387, 401, 402, 403, 404, 388, 389, 390] (by decide +kernel) (by decide +kernel)) (goodIn_sub (fun _ h => List.mem_cons_of_mem _ (List.mem_append_right _ h)) (by decide +kernel))) (goodIn_sub (fun _ h => List.mem_cons_of_mem _ (List.mem_append_left _ (List.mem_append_left _ (List.mem_append_right _ h)))) (by decide +kernel))) (goodIn_sub (fun _ h => List.mem_cons_of_mem _ (List.mem_append_left _ (List.mem_append_right _ h))) (by decide +kernel))
set_option maxRecDepth 20000 in
theorem gL_act_L_lots : GoodIn wsL_act (va_wsS RL 118 yL_lots wsL_lots) := goodIn_app (goodIn_of _ (by decide +kernel)) ggL_act_L_lots
set_option maxRecDepth 20000 in
theorem ggL_act_L_swaps : GoodIn wsL_act wsL_swaps := goodIn_ca (goodIn_ca (goodIn_r _ [301, 5, 7, 8, 10, 302, 303, 304, 14, 305, 31, 32, 306, 307, 308, 309, 310, 20, 21, 287, 311, 34, 35, 36, 37, 38, 39, 156, 157, 158, 159, 160, 161, 162, 163, 164, 165, 166, 167, 168, 169, 170, 171, 94, 401, 402, 403, 404, 383, 384, 385, 386, 387, 388, 389, 390] (by decide +kernel) (by decide +kernel)) (goodIn_sub (fun _ h => List.mem_cons_of_mem _ (List.mem_append_right _ h)) (by decide +kernel))) (goodIn_sub (fun _ h => List.mem_cons_of_mem _ (List.mem_append_left _ (List.mem_append_left _ (List.mem_append_right _ h)))) (by decide +kernel))
set_option maxRecDepth 20000 in
theorem gL_act_L_swaps : GoodIn wsL_act (va_wsS RL 122 yL_swaps wsL_swaps) := goodIn_app (goodIn_of _ (by decide +kernel)) ggL_act_L_swaps
set_option maxRecDepth 20000 in
theorem ggL_act_L_projects : GoodIn wsL_act wsL_projects := goodIn_ca (goodIn_ca (goodIn_r _ [314, 5, 7, 8, 10, 315, 316, 317, 14, 318, 31, 32, 319, 306, 320, 321, 322, 17, 18, 19, 20, 21, 151, 152, 153, 154, 33, 155, 34, 35, 36, 37, 38, 39, 156, 157, 158, 159, 160, 161, 162, 163, 164, 165, 166, 167, 168, 169, 170, 171, 94, 307, 308, 309, 310, 287, 311, 172, 173, 174, 46, 175, 55, 268, 269, 270, 271, 59, 54, 323, 324, 325, 326, 51, 52, 327, 328, 329, 330, 88, 89, 90, 91, 92, 93, 95, 96, 97, 98, 99, 100, 101, 102, 103, 104, 105, 106, 107, 108, 109, 110, 111, 112, 113, 114, 115, 116, 117, 118, 119, 120, 121, 122, 123, 124, 125, 126, 127, 128, 129, 130, 131, 132, 133, 134, 135, 136, 137, 138, 139, 140, 141, 383, 384, 385, 386, 387, 401, 402, 403, 404, 405, 406, 407, 408, 388, 389, 390, 374, 375, 376, 377, 378, 379, 380, 381, 382] (by decide +kernel) (by decide +kernel)) (goodIn_sub (fun _ h => List.mem_cons_of_mem _ (List.mem_append_right _ h)) (by decide +kernel))) (goodIn_sub (fun _ h => List.mem_cons_of_mem _ (List.mem_append_left _ (List.mem_append_left _ (List.mem_append_right _ h)))) (by decide +kernel))
set_option maxRecDepth 20000 in
theorem gL_act_L_projects : GoodIn wsL_act (va_wsS RL 127 yL_projects wsL_projects) := goodIn_app (goodIn_of _ (by decide +kernel)) ggL_act_L_projects
set_option maxRecDepth 20000 in
theorem ggL_act_L_takes : GoodIn wsL_act wsL_takes := goodIn_ca (goodIn_ca (goodIn_r _ [333, 5, 7, 8, 10, 334, 335, 336, 14, 337, 31, 32, 306, 338, 339, 340, 341, 342, 343, 344, 20, 21, 319, 345, 34, 35, 36, 37, 38, 39, 156, 157, 158, 159, 160, 161, 162, 163, 164, 165, 166, 167, 168, 169, 170, 171, 94, 307, 308, 309, 310, 287, 311, 401, 402, 403, 404, 405, 406, 407, 408, 383, 384, 385, 386, 387, 388, 389, 390] (by decide +kernel) (by decide +kernel)) (goodIn_sub (fun _ h => List.mem_cons_of_mem _ (List.mem_append_right _ h)) (by decide +kernel))) (goodIn_sub (fun _ h => List.mem_cons_of_mem _ (List.mem_append_left _ (List.mem_append_left _ (List.mem_append_right _ h)))) (by decide +kernel))
set_option maxRecDepth 20000 in
theorem gL_act_L_takes : GoodIn wsL_act (va_wsS RL 130 yL_takes wsL_takes) := goodIn_app (goodIn_of _ (by decide +kernel)) ggL_act_L_takes
set_option maxRecDepth 20000 in
theorem ggL_act_L_knits : GoodIn wsL_act wsL_knits := goodIn_ca (goodIn_ca (goodIn_r _ [348, 5, 6, 8, 9, 349, 350, 351, 14, 352, 341, 342, 343, 344, 20, 21, 319, 345, 34, 35, 36, 37, 38, 39, 156, 157, 158, 159, 160, 161, 162, 163, 164, 165, 166, 167, 168, 169, 170, 171, 94, 22, 23, 24, 25, 26, 353, 354, 355, 322, 356, 330, 357, 327, 358, 359, 360, 361, 329, 362, 363, 364, 328, 365, 366, 367, 368, 369, 370, 371, 372, 67, 373, 86, 383, 384, 385, 386, 387, 388, 389, 390, 405, 406, 407, 408, 401, 402, 403, 404, 374, 375, 376, 377, 378, 379, 380, 381, 382, 397, 398, 399, 400] (by decide +kernel) (by decide +kernel)) (goodIn_sub (fun _ h => List.mem_cons_of_mem _ (List.mem_append_left _ (List.mem_append_left _ (List.mem_append_right _ h)))) (by decide +kernel))) (goodIn_sub (fun _ h => List.mem_cons_of_mem _ (List.mem_append_left _ (List.mem_append_right _ h))) (by decide +kernel))
set_option maxRecDepth 20000 in
theorem gL_act_L_knits : GoodIn wsL_act (va_wsS RL 133 yL_knits wsL_knits) := goodIn_app (goodIn_of _ (by decide +kernel)) ggL_act_L_knits
theorem dL_act_0 : decode cL_act 0 = .ok (.iload_n 3, 1) := by decide +kernel
theorem dL_act_1 : decode cL_act 1 = .ok (.bipush 32, 2) := by decide +kernel
theorem dL_act_3 : decode cL_act 3 = .ok (.idiv, 1) := by decide +kernel
theorem dL_act_4 : decode cL_act 4 = .ok (.istore 4, 2) := by decide +kernel
theorem dL_act_6 : decode cL_act 6 = .ok (.iload 4, 2) := by decide +kernel
theorem dL_act_8 : decode cL_act 8 = .ok (.iconst 5, 1) := by decide +kernel
theorem dL_act_9 : decode cL_act 9 = .ok (.irem, 1) := by decide +kernel
theorem dL_act_10 : decode cL_act 10 = .ok (.istore 5, 2) := by decide +kernel
theorem dL_act_12 : decode cL_act 12 = .ok (.aload_n 1, 1) := by decide +kernel
theorem dL_act_13 : decode cL_act 13 = .ok (.iconst 0, 1) := by decide +kernel
theorem dL_act_14 : decode cL_act 14 = .ok (.iaload, 1) := by decide +kernel
theorem dL_act_15 : decode cL_act 15 = .ok (.ifCond .ne 7, 3) := by decide +kernel
theorem dL_act_18 : decode cL_act 18 = .ok (.iconst 0, 1) := by decide +kernel
theorem dL_act_19 : decode cL_act 19 = .ok (.goto 11, 3) := by decide +kernel
theorem dL_act_22 : decode cL_act 22 = .ok (.iload 4, 2) := by decide +kernel
theorem dL_act_24 : decode cL_act 24 = .ok (.iconst 5, 1) := by decide +kernel
theorem dL_act_25 : decode cL_act 25 = .ok (.idiv, 1) := by decide +kernel
theorem dL_act_26 : decode cL_act 26 = .ok (.aload_n 1, 1) := by decide +kernel
theorem dL_act_27 : decode cL_act 27 = .ok (.iconst 0, 1) := by decide +kernel
theorem dL_act_28 : decode cL_act 28 = .ok (.iaload, 1) := by decide +kernel
theorem dL_act_29 : decode cL_act 29 = .ok (.irem, 1) := by decide +kernel
theorem dL_act_30 : decode cL_act 30 = .ok (.istore 6, 2) := by decide +kernel
theorem dL_act_32 : decode cL_act 32 = .ok (.aload_n 1, 1) := by decide +kernel
theorem dL_act_33 : decode cL_act 33 = .ok (.iconst 1, 1) := by decide +kernel
theorem dL_act_34 : decode cL_act 34 = .ok (.iaload, 1) := by decide +kernel
theorem dL_act_35 : decode cL_act 35 = .ok (.ifCond .ne 7, 3) := by decide +kernel
theorem dL_act_38 : decode cL_act 38 = .ok (.iconst 0, 1) := by decide +kernel
theorem dL_act_39 : decode cL_act 39 = .ok (.goto 12, 3) := by decide +kernel
theorem dL_act_42 : decode cL_act 42 = .ok (.iload 4, 2) := by decide +kernel
theorem dL_act_44 : decode cL_act 44 = .ok (.bipush 7, 2) := by decide +kernel
theorem dL_act_46 : decode cL_act 46 = .ok (.idiv, 1) := by decide +kernel
theorem dL_act_47 : decode cL_act 47 = .ok (.aload_n 1, 1) := by decide +kernel
theorem dL_act_48 : decode cL_act 48 = .ok (.iconst 1, 1) := by decide +kernel
theorem dL_act_49 : decode cL_act 49 = .ok (.iaload, 1) := by decide +kernel
theorem dL_act_50 : decode cL_act 50 = .ok (.irem, 1) := by decide +kernel
theorem dL_act_51 : decode cL_act 51 = .ok (.istore 7, 2) := by decide +kernel
theorem dL_act_53 : decode cL_act 53 = .ok (.aload_n 1, 1) := by decide +kernel
theorem dL_act_54 : decode cL_act 54 = .ok (.iconst 2, 1) := by decide +kernel
theorem dL_act_55 : decode cL_act 55 = .ok (.iaload, 1) := by decide +kernel
theorem dL_act_56 : decode cL_act 56 = .ok (.ifCond .ne 7, 3) := by decide +kernel
theorem dL_act_59 : decode cL_act 59 = .ok (.iconst 0, 1) := by decide +kernel
theorem dL_act_60 : decode cL_act 60 = .ok (.goto 9, 3) := by decide +kernel
theorem dL_act_63 : decode cL_act 63 = .ok (.iload 4, 2) := by decide +kernel
theorem dL_act_65 : decode cL_act 65 = .ok (.aload_n 1, 1) := by decide +kernel
theorem dL_act_66 : decode cL_act 66 = .ok (.iconst 2, 1) := by decide +kernel
theorem dL_act_67 : decode cL_act 67 = .ok (.iaload, 1) := by decide +kernel
theorem dL_act_68 : decode cL_act 68 = .ok (.irem, 1) := by decide +kernel
theorem dL_act_69 : decode cL_act 69 = .ok (.istore 8, 2) := by decide +kernel
theorem dL_act_71 : decode cL_act 71 = .ok (.iload_n 3, 1) := by decide +kernel
theorem dL_act_72 : decode cL_act 72 = .ok (.bipush 32, 2) := by decide +kernel
theorem dL_act_74 : decode cL_act 74 = .ok (.irem, 1) := by decide +kernel
theorem dL_act_75 : decode cL_act 75 = .ok (.tableswitch 361 0 27 #[125, 125, 125, 150, 150, 150, 150, 150, 150, 225, 242, 242, 242, 242, 249, 249, 249, 249, 258, 258, 265, 265, 265, 305, 328, 328, 328, 352], 125) := by decide +kernel
theorem dL_act_200 : decode cL_act 200 = .ok (.aload_n 0, 1) := by decide +kernel
theorem dL_act_201 : decode cL_act 201 = .ok (.iload 5, 2) := by decide +kernel
theorem dL_act_203 : decode cL_act 203 = .ok (.iconst 1, 1) := by decide +kernel
theorem dL_act_204 : decode cL_act 204 = .ok (.iload 4, 2) := by decide +kernel
theorem dL_act_206 : decode cL_act 206 = .ok (.iconst 5, 1) := by decide +kernel
theorem dL_act_207 : decode cL_act 207 = .ok (.idiv, 1) := by decide +kernel
theorem dL_act_208 : decode cL_act 208 = .ok (.iconst 3, 1) := by decide +kernel
theorem dL_act_209 : decode cL_act 209 = .ok (.irem, 1) := by decide +kernel
theorem dL_act_210 : decode cL_act 210 = .ok (.iadd, 1) := by decide +kernel
theorem dL_act_211 : decode cL_act 211 = .ok (.iload 4, 2) := by decide +kernel
theorem dL_act_213 : decode cL_act 213 = .ok (.bipush 15, 2) := by decide +kernel
theorem dL_act_215 : decode cL_act 215 = .ok (.idiv, 1) := by decide +kernel
theorem dL_act_216 : decode cL_act 216 = .ok (.iconst 3, 1) := by decide +kernel
theorem dL_act_217 : decode cL_act 217 = .ok (.irem, 1) := by decide +kernel
theorem dL_act_218 : decode cL_act 218 = .ok (.bipush 50, 2) := by decide +kernel
theorem dL_act_220 : decode cL_act 220 = .ok (.imul, 1) := by decide +kernel
theorem dL_act_221 : decode cL_act 221 = .ok (.invokestatic 81, 3) := by decide +kernel
theorem dL_act_224 : decode cL_act 224 = .ok (.ireturn, 1) := by decide +kernel
theorem dL_act_225 : decode cL_act 225 = .ok (.aload_n 0, 1) := by decide +kernel
theorem dL_act_226 : decode cL_act 226 = .ok (.iload 6, 2) := by decide +kernel
theorem dL_act_228 : decode cL_act 228 = .ok (.iload 4, 2) := by decide +kernel
theorem dL_act_230 : decode cL_act 230 = .ok (.iconst 3, 1) := by decide +kernel
theorem dL_act_231 : decode cL_act 231 = .ok (.irem, 1) := by decide +kernel
theorem dL_act_232 : decode cL_act 232 = .ok (.iload 4, 2) := by decide +kernel
theorem dL_act_234 : decode cL_act 234 = .ok (.iconst 3, 1) := by decide +kernel
theorem dL_act_235 : decode cL_act 235 = .ok (.idiv, 1) := by decide +kernel
theorem dL_act_236 : decode cL_act 236 = .ok (.iconst 2, 1) := by decide +kernel
theorem dL_act_237 : decode cL_act 237 = .ok (.irem, 1) := by decide +kernel
theorem dL_act_238 : decode cL_act 238 = .ok (.iload 4, 2) := by decide +kernel
theorem dL_act_240 : decode cL_act 240 = .ok (.iconst 3, 1) := by decide +kernel
theorem dL_act_241 : decode cL_act 241 = .ok (.irem, 1) := by decide +kernel
theorem dL_act_242 : decode cL_act 242 = .ok (.ifCond .ne 7, 3) := by decide +kernel
theorem dL_act_245 : decode cL_act 245 = .ok (.iconst 1, 1) := by decide +kernel
theorem dL_act_246 : decode cL_act 246 = .ok (.goto 4, 3) := by decide +kernel
theorem dL_act_249 : decode cL_act 249 = .ok (.iconst 0, 1) := by decide +kernel
theorem dL_act_250 : decode cL_act 250 = .ok (.iadd, 1) := by decide +kernel
theorem dL_act_251 : decode cL_act 251 = .ok (.iload 4, 2) := by decide +kernel
theorem dL_act_253 : decode cL_act 253 = .ok (.bipush 6, 2) := by decide +kernel
theorem dL_act_255 : decode cL_act 255 = .ok (.idiv, 1) := by decide +kernel
theorem dL_act_256 : decode cL_act 256 = .ok (.iconst 4, 1) := by decide +kernel
theorem dL_act_257 : decode cL_act 257 = .ok (.irem, 1) := by decide +kernel
theorem dL_act_258 : decode cL_act 258 = .ok (.ifCond .le 7, 3) := by decide +kernel
theorem dL_act_261 : decode cL_act 261 = .ok (.iconst 0, 1) := by decide +kernel
theorem dL_act_262 : decode cL_act 262 = .ok (.goto 13, 3) := by decide +kernel
theorem dL_act_265 : decode cL_act 265 = .ok (.iload 4, 2) := by decide +kernel
theorem dL_act_267 : decode cL_act 267 = .ok (.bipush 24, 2) := by decide +kernel
theorem dL_act_269 : decode cL_act 269 = .ok (.idiv, 1) := by decide +kernel
theorem dL_act_270 : decode cL_act 270 = .ok (.bipush 7, 2) := by decide +kernel
theorem dL_act_272 : decode cL_act 272 = .ok (.irem, 1) := by decide +kernel
theorem dL_act_273 : decode cL_act 273 = .ok (.iconst 3, 1) := by decide +kernel
theorem dL_act_274 : decode cL_act 274 = .ok (.isub, 1) := by decide +kernel
theorem dL_act_275 : decode cL_act 275 = .ok (.iconst 1, 1) := by decide +kernel
theorem dL_act_276 : decode cL_act 276 = .ok (.iload 4, 2) := by decide +kernel
theorem dL_act_278 : decode cL_act 278 = .ok (.bipush 11, 2) := by decide +kernel
theorem dL_act_280 : decode cL_act 280 = .ok (.idiv, 1) := by decide +kernel
theorem dL_act_281 : decode cL_act 281 = .ok (.iload 4, 2) := by decide +kernel
theorem dL_act_283 : decode cL_act 283 = .ok (.iconst 5, 1) := by decide +kernel
theorem dL_act_284 : decode cL_act 284 = .ok (.irem, 1) := by decide +kernel
theorem dL_act_285 : decode cL_act 285 = .ok (.ifCond .ne 8, 3) := by decide +kernel
theorem dL_act_288 : decode cL_act 288 = .ok (.bipush 20, 2) := by decide +kernel
theorem dL_act_290 : decode cL_act 290 = .ok (.goto 4, 3) := by decide +kernel
theorem dL_act_293 : decode cL_act 293 = .ok (.iconst 2, 1) := by decide +kernel
theorem dL_act_294 : decode cL_act 294 = .ok (.irem, 1) := by decide +kernel
theorem dL_act_295 : decode cL_act 295 = .ok (.iadd, 1) := by decide +kernel
theorem dL_act_296 : decode cL_act 296 = .ok (.invokestatic 87, 3) := by decide +kernel
theorem dL_act_299 : decode cL_act 299 = .ok (.ireturn, 1) := by decide +kernel
theorem dL_act_300 : decode cL_act 300 = .ok (.aload_n 0, 1) := by decide +kernel
theorem dL_act_301 : decode cL_act 301 = .ok (.iload 6, 2) := by decide +kernel
theorem dL_act_303 : decode cL_act 303 = .ok (.iconst 5, 1) := by decide +kernel
theorem dL_act_304 : decode cL_act 304 = .ok (.iload 4, 2) := by decide +kernel
theorem dL_act_306 : decode cL_act 306 = .ok (.bipush 11, 2) := by decide +kernel
theorem dL_act_308 : decode cL_act 308 = .ok (.idiv, 1) := by decide +kernel
theorem dL_act_309 : decode cL_act 309 = .ok (.bipush 16, 2) := by decide +kernel
theorem dL_act_311 : decode cL_act 311 = .ok (.irem, 1) := by decide +kernel
theorem dL_act_312 : decode cL_act 312 = .ok (.iadd, 1) := by decide +kernel
theorem dL_act_313 : decode cL_act 313 = .ok (.invokestatic 91, 3) := by decide +kernel
theorem dL_act_316 : decode cL_act 316 = .ok (.ireturn, 1) := by decide +kernel
theorem dL_act_317 : decode cL_act 317 = .ok (.aload_n 0, 1) := by decide +kernel
theorem dL_act_318 : decode cL_act 318 = .ok (.iload 6, 2) := by decide +kernel
theorem dL_act_320 : decode cL_act 320 = .ok (.invokestatic 95, 3) := by decide +kernel
theorem dL_act_323 : decode cL_act 323 = .ok (.ireturn, 1) := by decide +kernel
theorem dL_act_324 : decode cL_act 324 = .ok (.aload_n 0, 1) := by decide +kernel
theorem dL_act_325 : decode cL_act 325 = .ok (.iload 6, 2) := by decide +kernel
theorem dL_act_327 : decode cL_act 327 = .ok (.iload 5, 2) := by decide +kernel
theorem dL_act_329 : decode cL_act 329 = .ok (.invokestatic 110, 3) := by decide +kernel
theorem dL_act_332 : decode cL_act 332 = .ok (.ireturn, 1) := by decide +kernel
theorem dL_act_333 : decode cL_act 333 = .ok (.aload_n 0, 1) := by decide +kernel
theorem dL_act_334 : decode cL_act 334 = .ok (.iload 6, 2) := by decide +kernel
theorem dL_act_336 : decode cL_act 336 = .ok (.invokestatic 113, 3) := by decide +kernel
theorem dL_act_339 : decode cL_act 339 = .ok (.ireturn, 1) := by decide +kernel
theorem dL_act_340 : decode cL_act 340 = .ok (.aload_n 0, 1) := by decide +kernel
theorem dL_act_341 : decode cL_act 341 = .ok (.iload 5, 2) := by decide +kernel
theorem dL_act_343 : decode cL_act 343 = .ok (.iconst 5, 1) := by decide +kernel
theorem dL_act_344 : decode cL_act 344 = .ok (.iload 4, 2) := by decide +kernel
theorem dL_act_346 : decode cL_act 346 = .ok (.iconst 5, 1) := by decide +kernel
theorem dL_act_347 : decode cL_act 347 = .ok (.idiv, 1) := by decide +kernel
theorem dL_act_348 : decode cL_act 348 = .ok (.bipush 16, 2) := by decide +kernel
theorem dL_act_350 : decode cL_act 350 = .ok (.irem, 1) := by decide +kernel
theorem dL_act_351 : decode cL_act 351 = .ok (.iadd, 1) := by decide +kernel
theorem dL_act_352 : decode cL_act 352 = .ok (.iconst 1, 1) := by decide +kernel
theorem dL_act_353 : decode cL_act 353 = .ok (.iload 4, 2) := by decide +kernel
theorem dL_act_355 : decode cL_act 355 = .ok (.bipush 80, 2) := by decide +kernel
theorem dL_act_357 : decode cL_act 357 = .ok (.idiv, 1) := by decide +kernel
theorem dL_act_358 : decode cL_act 358 = .ok (.iload 4, 2) := by decide +kernel
theorem dL_act_360 : decode cL_act 360 = .ok (.iconst 3, 1) := by decide +kernel
theorem dL_act_361 : decode cL_act 361 = .ok (.irem, 1) := by decide +kernel
theorem dL_act_362 : decode cL_act 362 = .ok (.ifCond .ne 9, 3) := by decide +kernel
theorem dL_act_365 : decode cL_act 365 = .ok (.sipush 3000, 3) := by decide +kernel
theorem dL_act_368 : decode cL_act 368 = .ok (.goto 6, 3) := by decide +kernel
theorem dL_act_371 : decode cL_act 371 = .ok (.sipush 200, 3) := by decide +kernel
theorem dL_act_374 : decode cL_act 374 = .ok (.irem, 1) := by decide +kernel
theorem dL_act_375 : decode cL_act 375 = .ok (.iadd, 1) := by decide +kernel
theorem dL_act_376 : decode cL_act 376 = .ok (.invokestatic 118, 3) := by decide +kernel
theorem dL_act_379 : decode cL_act 379 = .ok (.ireturn, 1) := by decide +kernel
theorem dL_act_380 : decode cL_act 380 = .ok (.aload_n 0, 1) := by decide +kernel
theorem dL_act_381 : decode cL_act 381 = .ok (.iload 7, 2) := by decide +kernel
theorem dL_act_383 : decode cL_act 383 = .ok (.aload_n 1, 1) := by decide +kernel
theorem dL_act_384 : decode cL_act 384 = .ok (.iconst 1, 1) := by decide +kernel
theorem dL_act_385 : decode cL_act 385 = .ok (.iaload, 1) := by decide +kernel
theorem dL_act_386 : decode cL_act 386 = .ok (.ifCond .ne 7, 3) := by decide +kernel
theorem dL_act_389 : decode cL_act 389 = .ok (.iconst 0, 1) := by decide +kernel
theorem dL_act_390 : decode cL_act 390 = .ok (.goto 9, 3) := by decide +kernel
theorem dL_act_393 : decode cL_act 393 = .ok (.iload 4, 2) := by decide +kernel
theorem dL_act_395 : decode cL_act 395 = .ok (.aload_n 1, 1) := by decide +kernel
theorem dL_act_396 : decode cL_act 396 = .ok (.iconst 1, 1) := by decide +kernel
theorem dL_act_397 : decode cL_act 397 = .ok (.iaload, 1) := by decide +kernel
theorem dL_act_398 : decode cL_act 398 = .ok (.irem, 1) := by decide +kernel
theorem dL_act_399 : decode cL_act 399 = .ok (.invokestatic 122, 3) := by decide +kernel
theorem dL_act_402 : decode cL_act 402 = .ok (.ireturn, 1) := by decide +kernel
theorem dL_act_403 : decode cL_act 403 = .ok (.aload_n 0, 1) := by decide +kernel
theorem dL_act_404 : decode cL_act 404 = .ok (.aload_n 1, 1) := by decide +kernel
theorem dL_act_405 : decode cL_act 405 = .ok (.iconst 1, 1) := by decide +kernel
theorem dL_act_406 : decode cL_act 406 = .ok (.iaload, 1) := by decide +kernel
theorem dL_act_407 : decode cL_act 407 = .ok (.ifCond .ne 8, 3) := by decide +kernel
theorem dL_act_410 : decode cL_act 410 = .ok (.iload 5, 2) := by decide +kernel
theorem dL_act_412 : decode cL_act 412 = .ok (.goto 7, 3) := by decide +kernel
theorem dL_act_415 : decode cL_act 415 = .ok (.aload_n 2, 1) := by decide +kernel
theorem dL_act_416 : decode cL_act 416 = .ok (.iload 7, 2) := by decide +kernel
theorem dL_act_418 : decode cL_act 418 = .ok (.iaload, 1) := by decide +kernel
theorem dL_act_419 : decode cL_act 419 = .ok (.iload 6, 2) := by decide +kernel
theorem dL_act_421 : decode cL_act 421 = .ok (.iload 7, 2) := by decide +kernel
theorem dL_act_423 : decode cL_act 423 = .ok (.invokestatic 127, 3) := by decide +kernel
theorem dL_act_426 : decode cL_act 426 = .ok (.ireturn, 1) := by decide +kernel
theorem dL_act_427 : decode cL_act 427 = .ok (.aload_n 0, 1) := by decide +kernel
theorem dL_act_428 : decode cL_act 428 = .ok (.iload 8, 2) := by decide +kernel
theorem dL_act_430 : decode cL_act 430 = .ok (.iload 7, 2) := by decide +kernel
theorem dL_act_432 : decode cL_act 432 = .ok (.invokestatic 130, 3) := by decide +kernel
theorem dL_act_435 : decode cL_act 435 = .ok (.ireturn, 1) := by decide +kernel
theorem dL_act_436 : decode cL_act 436 = .ok (.aload_n 0, 1) := by decide +kernel
theorem dL_act_437 : decode cL_act 437 = .ok (.iload 8, 2) := by decide +kernel
theorem dL_act_439 : decode cL_act 439 = .ok (.iconst 1, 1) := by decide +kernel
theorem dL_act_440 : decode cL_act 440 = .ok (.iload 4, 2) := by decide +kernel
theorem dL_act_442 : decode cL_act 442 = .ok (.bipush 12, 2) := by decide +kernel
theorem dL_act_444 : decode cL_act 444 = .ok (.idiv, 1) := by decide +kernel
theorem dL_act_445 : decode cL_act 445 = .ok (.iload 4, 2) := by decide +kernel
theorem dL_act_447 : decode cL_act 447 = .ok (.iconst 3, 1) := by decide +kernel
theorem dL_act_448 : decode cL_act 448 = .ok (.irem, 1) := by decide +kernel
theorem dL_act_449 : decode cL_act 449 = .ok (.ifCond .ne 8, 3) := by decide +kernel
theorem dL_act_452 : decode cL_act 452 = .ok (.bipush 40, 2) := by decide +kernel
theorem dL_act_454 : decode cL_act 454 = .ok (.goto 4, 3) := by decide +kernel
theorem dL_act_457 : decode cL_act 457 = .ok (.iconst 4, 1) := by decide +kernel
theorem dL_act_458 : decode cL_act 458 = .ok (.irem, 1) := by decide +kernel
theorem dL_act_459 : decode cL_act 459 = .ok (.iadd, 1) := by decide +kernel
theorem dL_act_460 : decode cL_act 460 = .ok (.invokestatic 133, 3) := by decide +kernel
theorem dL_act_463 : decode cL_act 463 = .ok (.ireturn, 1) := by decide +kernel
set_option maxRecDepth 20000 in
theorem ggL_alike_L_money : GoodIn wsL_alike wsL_money := goodIn_ca (goodIn_r _ [4, 5, 6, 7, 8, 9, 10, 11, 12, 13, 14, 15, 16, 17, 144, 145, 146, 147, 148] (by decide +kernel) (by decide +kernel)) (goodIn_sub (fun _ h => List.mem_cons_of_mem _ (List.mem_append_right _ h)) (by decide +kernel))
set_option maxRecDepth 20000 in
theorem gL_alike_L_money : GoodIn wsL_alike (va_wsS RL 116 yL_money wsL_money) := goodIn_app (goodIn_of _ (by decide +kernel)) ggL_alike_L_money
set_option maxRecDepth 20000 in
theorem ggL_alike_L_rows : GoodIn wsL_alike wsL_rows := goodIn_ca (goodIn_r _ [20, 5, 6, 21, 22, 23, 10, 24, 25, 26, 27, 28, 29, 30, 16, 17, 31, 32, 33, 34, 35, 36, 37, 38, 39, 40, 41, 42, 43, 44, 45, 46, 47, 48, 49, 50, 51, 52, 53, 54, 55, 149, 150, 151, 152, 153, 154, 155, 156, 157, 158, 159, 160, 161, 144, 145, 146, 147, 148, 162, 163, 164] (by decide +kernel) (by decide +kernel)) (goodIn_sub (fun _ h => List.mem_cons_of_mem _ (List.mem_append_right _ h)) (by decide +kernel))
set_option maxRecDepth 20000 in
theorem gL_alike_L_rows : GoodIn wsL_alike (va_wsS RL 101 yL_rows wsL_rows) := goodIn_app (goodIn_of _ (by decide +kernel)) ggL_alike_L_rows
set_option maxRecDepth 20000 in
theorem ggL_alike_L_original : GoodIn wsL_alike wsL_original := goodIn_ca (goodIn_r _ [58, 5, 6, 59, 60, 61, 10, 62, 63, 64, 27, 28, 29, 30, 16, 17, 31, 32, 33, 34, 35, 36, 37, 38, 39, 40, 41, 42, 43, 44, 45, 46, 47, 48, 49, 50, 51, 52, 53, 54, 55, 149, 150, 151, 152, 153, 154, 155, 156, 157, 144, 145, 146, 147, 148, 162, 163, 164] (by decide +kernel) (by decide +kernel)) (goodIn_sub (fun _ h => List.mem_cons_of_mem _ (List.mem_append_right _ h)) (by decide +kernel))
set_option maxRecDepth 20000 in
theorem gL_alike_L_original : GoodIn wsL_alike (va_wsS RL 99 yL_original wsL_original) := goodIn_app (goodIn_of _ (by decide +kernel)) ggL_alike_L_original
set_option maxRecDepth 20000 in
theorem ggL_alike_L_stitch : GoodIn wsL_alike wsL_stitch := goodIn_ca (goodIn_r _ [67, 5, 6, 68, 69, 70, 10, 71, 25, 27, 28, 29, 30, 16, 17, 31, 32, 33, 34, 35, 36, 37, 38, 39, 40, 41, 42, 43, 44, 45, 46, 47, 48, 49, 50, 51, 52, 53, 54, 55, 72, 73, 74, 26, 75, 76, 77, 78, 79, 80, 149, 150, 151, 152, 153, 154, 155, 156, 157, 144, 145, 146, 147, 148, 162, 163, 164, 158, 159, 160, 161] (by decide +kernel) (by decide +kernel)) (goodIn_sub (fun _ h => List.mem_cons_of_mem _ (List.mem_append_right _ h)) (by decide +kernel))
set_option maxRecDepth 20000 in
theorem gL_alike_L_stitch : GoodIn wsL_alike (va_wsS RL 103 yL_stitch wsL_stitch) := goodIn_app (goodIn_of _ (by decide +kernel)) ggL_alike_L_stitch
set_option maxRecDepth 20000 in
theorem ggL_alike_L_byWork : GoodIn wsL_alike wsL_byWork := goodIn_ca (goodIn_r _ [83, 5, 6, 84, 85, 86, 10, 87, 88, 27, 28, 29, 30, 16, 17, 31, 32, 33, 34, 35, 36, 37, 38, 39, 40, 41, 42, 43, 44, 45, 46, 47, 48, 49, 50, 51, 52, 53, 54, 55, 72, 73, 74, 25, 26, 89, 90, 91, 92, 93, 94, 95, 96, 97, 98, 99, 100, 101, 102, 103, 104, 105, 106, 107, 108, 109, 110, 111, 112, 113, 114, 115, 149, 150, 151, 152, 153, 154, 155, 156, 157, 144, 145, 146, 147, 148, 162, 163, 164, 158, 159, 160, 161, 165, 166, 167, 168, 169, 170] (by decide +kernel) (by decide +kernel)) (goodIn_sub (fun _ h => List.mem_cons_of_mem _ (List.mem_append_right _ h)) (by decide +kernel))
set_option maxRecDepth 20000 in
theorem gL_alike_L_byWork : GoodIn wsL_alike (va_wsS RL 105 yL_byWork wsL_byWork) := goodIn_app (goodIn_of _ (by decide +kernel)) ggL_alike_L_byWork
set_option maxRecDepth 20000 in
theorem ggL_alike_L_left : GoodIn wsL_alike wsL_left := goodIn_ca (goodIn_r _ [118, 5, 6, 119, 120, 121, 10, 122, 123, 124, 125, 126, 127, 16, 17, 128, 129, 33, 34, 35, 36, 37, 38, 39, 40, 41, 42, 43, 44, 45, 46, 47, 48, 49, 50, 51, 52, 53, 54, 55, 171, 172, 173, 174, 144, 145, 146, 147, 148, 162, 163, 164] (by decide +kernel) (by decide +kernel)) (goodIn_sub (fun _ h => List.mem_cons_of_mem _ (List.mem_append_right _ h)) (by decide +kernel))
set_option maxRecDepth 20000 in
theorem gL_alike_L_left : GoodIn wsL_alike (va_wsS RL 125 yL_left wsL_left) := goodIn_app (goodIn_of _ (by decide +kernel)) ggL_alike_L_left
set_option maxRecDepth 20000 in
theorem ggL_alike_L_progress : GoodIn wsL_alike wsL_progress := goodIn_ca (goodIn_r _ [132, 5, 6, 133, 134, 135, 10, 136, 137, 138, 139, 140, 141, 16, 17, 142, 143, 33, 34, 35, 36, 37, 38, 39, 40, 41, 42, 43, 44, 45, 46, 47, 48, 49, 50, 51, 52, 53, 54, 55, 175, 176, 177, 178, 144, 145, 146, 147, 148, 162, 163, 164] (by decide +kernel) (by decide +kernel)) (goodIn_sub (fun _ h => List.mem_cons_of_mem _ (List.mem_append_right _ h)) (by decide +kernel))
set_option maxRecDepth 20000 in
theorem gL_alike_L_progress : GoodIn wsL_alike (va_wsS RL 136 yL_progress wsL_progress) := goodIn_app (goodIn_of _ (by decide +kernel)) ggL_alike_L_progress
theorem dL_alike_0 : decode cL_alike 0 = .ok (.iconst 1, 1) := by decide +kernel
theorem dL_alike_1 : decode cL_alike 1 = .ok (.istore 4, 2) := by decide +kernel
theorem dL_alike_3 : decode cL_alike 3 = .ok (.iconst 0, 1) := by decide +kernel
theorem dL_alike_4 : decode cL_alike 4 = .ok (.istore 5, 2) := by decide +kernel
theorem dL_alike_6 : decode cL_alike 6 = .ok (.iload 5, 2) := by decide +kernel
theorem dL_alike_8 : decode cL_alike 8 = .ok (.iconst 5, 1) := by decide +kernel
theorem dL_alike_9 : decode cL_alike 9 = .ok (.if_icmp .ge 36, 3) := by decide +kernel
theorem dL_alike_12 : decode cL_alike 12 = .ok (.iload 4, 2) := by decide +kernel
theorem dL_alike_14 : decode cL_alike 14 = .ok (.ifCond .eq 31, 3) := by decide +kernel
theorem dL_alike_17 : decode cL_alike 17 = .ok (.aload_n 0, 1) := by decide +kernel
theorem dL_alike_18 : decode cL_alike 18 = .ok (.iload 5, 2) := by decide +kernel
theorem dL_alike_20 : decode cL_alike 20 = .ok (.invokestatic 116, 3) := by decide +kernel
theorem dL_alike_23 : decode cL_alike 23 = .ok (.aload_n 1, 1) := by decide +kernel
theorem dL_alike_24 : decode cL_alike 24 = .ok (.iload 5, 2) := by decide +kernel
theorem dL_alike_26 : decode cL_alike 26 = .ok (.invokestatic 116, 3) := by decide +kernel
theorem dL_alike_29 : decode cL_alike 29 = .ok (.if_icmp .ne 7, 3) := by decide +kernel
theorem dL_alike_32 : decode cL_alike 32 = .ok (.iconst 1, 1) := by decide +kernel
theorem dL_alike_33 : decode cL_alike 33 = .ok (.goto 4, 3) := by decide +kernel
theorem dL_alike_36 : decode cL_alike 36 = .ok (.iconst 0, 1) := by decide +kernel
theorem dL_alike_37 : decode cL_alike 37 = .ok (.istore 4, 2) := by decide +kernel
theorem dL_alike_39 : decode cL_alike 39 = .ok (.iinc 5 1, 3) := by decide +kernel
theorem dL_alike_42 : decode cL_alike 42 = .ok (.goto (-36), 3) := by decide +kernel
theorem dL_alike_45 : decode cL_alike 45 = .ok (.iconst 0, 1) := by decide +kernel
theorem dL_alike_46 : decode cL_alike 46 = .ok (.istore 5, 2) := by decide +kernel
theorem dL_alike_48 : decode cL_alike 48 = .ok (.iload 5, 2) := by decide +kernel
theorem dL_alike_50 : decode cL_alike 50 = .ok (.aload_n 2, 1) := by decide +kernel
theorem dL_alike_51 : decode cL_alike 51 = .ok (.iconst 0, 1) := by decide +kernel
theorem dL_alike_52 : decode cL_alike 52 = .ok (.iaload, 1) := by decide +kernel
theorem dL_alike_53 : decode cL_alike 53 = .ok (.if_icmp .ge 138, 3) := by decide +kernel
theorem dL_alike_56 : decode cL_alike 56 = .ok (.iload 4, 2) := by decide +kernel
theorem dL_alike_58 : decode cL_alike 58 = .ok (.ifCond .eq 133, 3) := by decide +kernel
theorem dL_alike_61 : decode cL_alike 61 = .ok (.aload_n 0, 1) := by decide +kernel
theorem dL_alike_62 : decode cL_alike 62 = .ok (.iload 5, 2) := by decide +kernel
theorem dL_alike_64 : decode cL_alike 64 = .ok (.invokestatic 101, 3) := by decide +kernel
theorem dL_alike_67 : decode cL_alike 67 = .ok (.istore 6, 2) := by decide +kernel
theorem dL_alike_69 : decode cL_alike 69 = .ok (.iload 6, 2) := by decide +kernel
theorem dL_alike_71 : decode cL_alike 71 = .ok (.aload_n 1, 1) := by decide +kernel
theorem dL_alike_72 : decode cL_alike 72 = .ok (.iload 5, 2) := by decide +kernel
theorem dL_alike_74 : decode cL_alike 74 = .ok (.invokestatic 101, 3) := by decide +kernel
theorem dL_alike_77 : decode cL_alike 77 = .ok (.if_icmp .ne 105, 3) := by decide +kernel
theorem dL_alike_80 : decode cL_alike 80 = .ok (.aload_n 0, 1) := by decide +kernel
theorem dL_alike_81 : decode cL_alike 81 = .ok (.iload 5, 2) := by decide +kernel
theorem dL_alike_83 : decode cL_alike 83 = .ok (.invokestatic 99, 3) := by decide +kernel
theorem dL_alike_86 : decode cL_alike 86 = .ok (.aload_n 1, 1) := by decide +kernel
theorem dL_alike_87 : decode cL_alike 87 = .ok (.iload 5, 2) := by decide +kernel
theorem dL_alike_89 : decode cL_alike 89 = .ok (.invokestatic 99, 3) := by decide +kernel
theorem dL_alike_92 : decode cL_alike 92 = .ok (.if_icmp .ne 90, 3) := by decide +kernel
theorem dL_alike_95 : decode cL_alike 95 = .ok (.iload 6, 2) := by decide +kernel
theorem dL_alike_97 : decode cL_alike 97 = .ok (.ifCond .eq 81, 3) := by decide +kernel
theorem dL_alike_100 : decode cL_alike 100 = .ok (.aload_n 0, 1) := by decide +kernel
theorem dL_alike_101 : decode cL_alike 101 = .ok (.iload 5, 2) := by decide +kernel
theorem dL_alike_103 : decode cL_alike 103 = .ok (.iload_n 3, 1) := by decide +kernel
theorem dL_alike_104 : decode cL_alike 104 = .ok (.iload 6, 2) := by decide +kernel
theorem dL_alike_106 : decode cL_alike 106 = .ok (.irem, 1) := by decide +kernel
theorem dL_alike_107 : decode cL_alike 107 = .ok (.iload_n 3, 1) := by decide +kernel
theorem dL_alike_108 : decode cL_alike 108 = .ok (.bipush 40, 2) := by decide +kernel
theorem dL_alike_110 : decode cL_alike 110 = .ok (.idiv, 1) := by decide +kernel
theorem dL_alike_111 : decode cL_alike 111 = .ok (.bipush 9, 2) := by decide +kernel
theorem dL_alike_113 : decode cL_alike 113 = .ok (.irem, 1) := by decide +kernel
theorem dL_alike_114 : decode cL_alike 114 = .ok (.invokestatic 103, 3) := by decide +kernel
theorem dL_alike_117 : decode cL_alike 117 = .ok (.aload_n 1, 1) := by decide +kernel
theorem dL_alike_118 : decode cL_alike 118 = .ok (.iload 5, 2) := by decide +kernel
theorem dL_alike_120 : decode cL_alike 120 = .ok (.iload_n 3, 1) := by decide +kernel
theorem dL_alike_121 : decode cL_alike 121 = .ok (.iload 6, 2) := by decide +kernel
theorem dL_alike_123 : decode cL_alike 123 = .ok (.irem, 1) := by decide +kernel
theorem dL_alike_124 : decode cL_alike 124 = .ok (.iload_n 3, 1) := by decide +kernel
theorem dL_alike_125 : decode cL_alike 125 = .ok (.bipush 40, 2) := by decide +kernel
theorem dL_alike_127 : decode cL_alike 127 = .ok (.idiv, 1) := by decide +kernel
theorem dL_alike_128 : decode cL_alike 128 = .ok (.bipush 9, 2) := by decide +kernel
theorem dL_alike_130 : decode cL_alike 130 = .ok (.irem, 1) := by decide +kernel
theorem dL_alike_131 : decode cL_alike 131 = .ok (.invokestatic 103, 3) := by decide +kernel
theorem dL_alike_134 : decode cL_alike 134 = .ok (.if_icmp .ne 48, 3) := by decide +kernel
theorem dL_alike_137 : decode cL_alike 137 = .ok (.aload_n 0, 1) := by decide +kernel
theorem dL_alike_138 : decode cL_alike 138 = .ok (.iload 5, 2) := by decide +kernel
theorem dL_alike_140 : decode cL_alike 140 = .ok (.iload_n 3, 1) := by decide +kernel
theorem dL_alike_141 : decode cL_alike 141 = .ok (.iconst 3, 1) := by decide +kernel
theorem dL_alike_142 : decode cL_alike 142 = .ok (.idiv, 1) := by decide +kernel
theorem dL_alike_143 : decode cL_alike 143 = .ok (.iload 6, 2) := by decide +kernel
theorem dL_alike_145 : decode cL_alike 145 = .ok (.irem, 1) := by decide +kernel
theorem dL_alike_146 : decode cL_alike 146 = .ok (.iload_n 3, 1) := by decide +kernel
theorem dL_alike_147 : decode cL_alike 147 = .ok (.bipush 7, 2) := by decide +kernel
theorem dL_alike_149 : decode cL_alike 149 = .ok (.idiv, 1) := by decide +kernel
theorem dL_alike_150 : decode cL_alike 150 = .ok (.bipush 9, 2) := by decide +kernel
theorem dL_alike_152 : decode cL_alike 152 = .ok (.irem, 1) := by decide +kernel
theorem dL_alike_153 : decode cL_alike 153 = .ok (.invokestatic 105, 3) := by decide +kernel
theorem dL_alike_156 : decode cL_alike 156 = .ok (.aload_n 1, 1) := by decide +kernel
theorem dL_alike_157 : decode cL_alike 157 = .ok (.iload 5, 2) := by decide +kernel
theorem dL_alike_159 : decode cL_alike 159 = .ok (.iload_n 3, 1) := by decide +kernel
theorem dL_alike_160 : decode cL_alike 160 = .ok (.iconst 3, 1) := by decide +kernel
theorem dL_alike_161 : decode cL_alike 161 = .ok (.idiv, 1) := by decide +kernel
theorem dL_alike_162 : decode cL_alike 162 = .ok (.iload 6, 2) := by decide +kernel
theorem dL_alike_164 : decode cL_alike 164 = .ok (.irem, 1) := by decide +kernel
theorem dL_alike_165 : decode cL_alike 165 = .ok (.iload_n 3, 1) := by decide +kernel
theorem dL_alike_166 : decode cL_alike 166 = .ok (.bipush 7, 2) := by decide +kernel
theorem dL_alike_168 : decode cL_alike 168 = .ok (.idiv, 1) := by decide +kernel
theorem dL_alike_169 : decode cL_alike 169 = .ok (.bipush 9, 2) := by decide +kernel
theorem dL_alike_171 : decode cL_alike 171 = .ok (.irem, 1) := by decide +kernel
theorem dL_alike_172 : decode cL_alike 172 = .ok (.invokestatic 103, 3) := by decide +kernel
theorem dL_alike_175 : decode cL_alike 175 = .ok (.if_icmp .ne 7, 3) := by decide +kernel
theorem dL_alike_178 : decode cL_alike 178 = .ok (.iconst 1, 1) := by decide +kernel
theorem dL_alike_179 : decode cL_alike 179 = .ok (.goto 4, 3) := by decide +kernel
theorem dL_alike_182 : decode cL_alike 182 = .ok (.iconst 0, 1) := by decide +kernel
theorem dL_alike_183 : decode cL_alike 183 = .ok (.istore 4, 2) := by decide +kernel
theorem dL_alike_185 : decode cL_alike 185 = .ok (.iinc 5 1, 3) := by decide +kernel
theorem dL_alike_188 : decode cL_alike 188 = .ok (.goto (-140), 3) := by decide +kernel
theorem dL_alike_191 : decode cL_alike 191 = .ok (.iconst 0, 1) := by decide +kernel
theorem dL_alike_192 : decode cL_alike 192 = .ok (.istore 5, 2) := by decide +kernel
theorem dL_alike_194 : decode cL_alike 194 = .ok (.iload 5, 2) := by decide +kernel
theorem dL_alike_196 : decode cL_alike 196 = .ok (.aload_n 2, 1) := by decide +kernel
theorem dL_alike_197 : decode cL_alike 197 = .ok (.iconst 1, 1) := by decide +kernel
theorem dL_alike_198 : decode cL_alike 198 = .ok (.iaload, 1) := by decide +kernel
theorem dL_alike_199 : decode cL_alike 199 = .ok (.if_icmp .ge 36, 3) := by decide +kernel
theorem dL_alike_202 : decode cL_alike 202 = .ok (.iload 4, 2) := by decide +kernel
theorem dL_alike_204 : decode cL_alike 204 = .ok (.ifCond .eq 31, 3) := by decide +kernel
theorem dL_alike_207 : decode cL_alike 207 = .ok (.aload_n 0, 1) := by decide +kernel
theorem dL_alike_208 : decode cL_alike 208 = .ok (.iload 5, 2) := by decide +kernel
theorem dL_alike_210 : decode cL_alike 210 = .ok (.invokestatic 125, 3) := by decide +kernel
theorem dL_alike_213 : decode cL_alike 213 = .ok (.aload_n 1, 1) := by decide +kernel
theorem dL_alike_214 : decode cL_alike 214 = .ok (.iload 5, 2) := by decide +kernel
theorem dL_alike_216 : decode cL_alike 216 = .ok (.invokestatic 125, 3) := by decide +kernel
theorem dL_alike_219 : decode cL_alike 219 = .ok (.if_icmp .ne 7, 3) := by decide +kernel
theorem dL_alike_222 : decode cL_alike 222 = .ok (.iconst 1, 1) := by decide +kernel
theorem dL_alike_223 : decode cL_alike 223 = .ok (.goto 4, 3) := by decide +kernel
theorem dL_alike_226 : decode cL_alike 226 = .ok (.iconst 0, 1) := by decide +kernel
theorem dL_alike_227 : decode cL_alike 227 = .ok (.istore 4, 2) := by decide +kernel
theorem dL_alike_229 : decode cL_alike 229 = .ok (.iinc 5 1, 3) := by decide +kernel
theorem dL_alike_232 : decode cL_alike 232 = .ok (.goto (-38), 3) := by decide +kernel
theorem dL_alike_235 : decode cL_alike 235 = .ok (.iconst 0, 1) := by decide +kernel
theorem dL_alike_236 : decode cL_alike 236 = .ok (.istore 5, 2) := by decide +kernel
theorem dL_alike_238 : decode cL_alike 238 = .ok (.iload 5, 2) := by decide +kernel
theorem dL_alike_240 : decode cL_alike 240 = .ok (.aload_n 2, 1) := by decide +kernel
theorem dL_alike_241 : decode cL_alike 241 = .ok (.iconst 2, 1) := by decide +kernel
theorem dL_alike_242 : decode cL_alike 242 = .ok (.iaload, 1) := by decide +kernel
theorem dL_alike_243 : decode cL_alike 243 = .ok (.if_icmp .ge 36, 3) := by decide +kernel
theorem dL_alike_246 : decode cL_alike 246 = .ok (.iload 4, 2) := by decide +kernel
theorem dL_alike_248 : decode cL_alike 248 = .ok (.ifCond .eq 31, 3) := by decide +kernel
theorem dL_alike_251 : decode cL_alike 251 = .ok (.aload_n 0, 1) := by decide +kernel
theorem dL_alike_252 : decode cL_alike 252 = .ok (.iload 5, 2) := by decide +kernel
theorem dL_alike_254 : decode cL_alike 254 = .ok (.invokestatic 136, 3) := by decide +kernel
theorem dL_alike_257 : decode cL_alike 257 = .ok (.aload_n 1, 1) := by decide +kernel
theorem dL_alike_258 : decode cL_alike 258 = .ok (.iload 5, 2) := by decide +kernel
theorem dL_alike_260 : decode cL_alike 260 = .ok (.invokestatic 136, 3) := by decide +kernel
theorem dL_alike_263 : decode cL_alike 263 = .ok (.if_icmp .ne 7, 3) := by decide +kernel
theorem dL_alike_266 : decode cL_alike 266 = .ok (.iconst 1, 1) := by decide +kernel
theorem dL_alike_267 : decode cL_alike 267 = .ok (.goto 4, 3) := by decide +kernel
theorem dL_alike_270 : decode cL_alike 270 = .ok (.iconst 0, 1) := by decide +kernel
theorem dL_alike_271 : decode cL_alike 271 = .ok (.istore 4, 2) := by decide +kernel
theorem dL_alike_273 : decode cL_alike 273 = .ok (.iinc 5 1, 3) := by decide +kernel
theorem dL_alike_276 : decode cL_alike 276 = .ok (.goto (-38), 3) := by decide +kernel
theorem dL_alike_279 : decode cL_alike 279 = .ok (.iload 4, 2) := by decide +kernel
theorem dL_alike_281 : decode cL_alike 281 = .ok (.ireturn, 1) := by decide +kernel
