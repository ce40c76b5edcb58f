set_option maxRecDepth 20000 in
theorem ggL_refuses_L_begins : GoodIn wsL_refuses wsL_begins := goodIn_ca (goodIn_ca (goodIn_ca (goodIn_r _ [8, 9, 10, 11, 1, 2, 4, 12, 13, 14, 15, 16, 17, 18, 19, 20, 21, 22, 23, 24, 25, 26, 27, 28, 29, 30, 31, 32, 33, 34, 35, 36, 37, 38, 39, 40, 41, 42, 43, 44, 45, 46, 47, 48, 49, 50, 51, 52, 53, 54, 55, 56, 57, 58, 59, 60, 61, 62, 63, 64, 65, 66, 67, 68, 69, 70, 71, 72, 73, 74, 75, 76, 77, 78, 79, 80, 81, 82, 83, 84, 85, 86, 87, 88, 89, 90, 91, 92, 93, 94, 95, 96, 97, 98, 99, 100, 101, 102, 103, 104, 105, 106, 107, 108, 109, 110, 111, 112, 113, 114, 115, 116, 117, 118, 119, 120, 121, 122, 123, 124, 125, 126, 127, 128, 129, 130, 131, 132, 133, 134, 135, 136, 137, 138, 139, 140, 141, 142, 452, 453, 454, 455, 456, 457, 458, 459, 460, 461, 462, 463, 464, 465, 466, 467, 468, 469, 470, 471, 472, 473, 474, 475, 476, 477, 478] (by decide +kernel) (by decide +kernel)) (goodIn_sub (fun _ h => List.mem_cons_of_mem _ (List.mem_append_left _ (List.mem_append_left _ (List.mem_append_right _ h)))) (by decide +kernel))) (goodIn_sub (fun _ h => List.mem_cons_of_mem _ (List.mem_append_left _ (List.mem_append_right _ h))) (by decide +kernel))) (goodIn_sub (fun _ h => List.mem_cons_of_mem _ (List.mem_append_right _ h)) (by decide +kernel))
set_option maxRecDepth 20000 in
theorem gL_refuses_L_begins : GoodIn wsL_refuses (va_wsS RL 81 yL_begins wsL_begins) := goodIn_app (goodIn_of _ (by decide +kernel)) ggL_refuses_L_begins
set_option maxRecDepth 20000 in
theorem ggL_refuses_L_lines : GoodIn wsL_refuses wsL_lines := goodIn_ca (goodIn_ca (goodIn_ca (goodIn_r _ [145, 9, 10, 11, 1, 2, 4, 146, 147, 148, 15, 149, 26, 27, 32, 33, 150, 151, 152, 153, 154, 155, 21, 22, 34, 156, 35, 36, 37, 38, 39, 40, 157, 158, 159, 160, 161, 162, 163, 164, 165, 166, 167, 168, 169, 170, 171, 172, 95, 23, 24, 25, 173, 174, 175, 47, 176, 56, 177, 178, 179, 180, 65, 69, 181, 182, 183, 184, 185, 186, 187, 188, 64, 189, 79, 75, 76, 77, 78, 190, 191, 192, 68, 193, 85, 87, 88, 194, 195, 196, 197, 86, 198, 199, 200, 201, 202, 203, 110, 111, 112, 204, 137, 138, 452, 453, 454, 455, 456, 457, 458, 459, 460, 475, 476, 477, 478, 461, 462, 463, 464, 465, 466, 467, 468, 469, 470, 471, 472, 473, 474] (by decide +kernel) (by decide +kernel)) (goodIn_sub (fun _ h => List.mem_cons_of_mem _ (List.mem_append_left _ (List.mem_append_right _ h))) (by decide +kernel))) (goodIn_sub (fun _ h => List.mem_cons_of_mem _ (List.mem_append_right _ h)) (by decide +kernel))) (goodIn_sub (fun _ h => List.mem_cons_of_mem _ (List.mem_append_left _ (List.mem_append_left _ (List.mem_append_right _ h)))) (by decide +kernel))
set_option maxRecDepth 20000 in
theorem gL_refuses_L_lines : GoodIn wsL_refuses (va_wsS RL 87 yL_lines wsL_lines) := goodIn_app (goodIn_of _ (by decide +kernel)) ggL_refuses_L_lines
set_option maxRecDepth 20000 in
theorem ggL_refuses_L_anews : GoodIn wsL_refuses wsL_anews := goodIn_ca (goodIn_ca (goodIn_ca (goodIn_r _ [207, 9, 10, 11, 1, 2, 4, 208, 209, 210, 15, 211, 32, 33, 212, 213, 214, 215, 17, 152, 153, 154, 155, 21, 22, 34, 156, 35, 36, 37, 38, 39, 40, 157, 158, 159, 160, 161, 162, 163, 164, 165, 166, 167, 168, 169, 170, 171, 172, 95, 216, 217, 218, 23, 24, 25, 26, 27, 219, 220, 221, 47, 222, 65, 223, 224, 225, 64, 226, 79, 227, 228, 229, 230, 78, 231, 110, 111, 112, 232, 233, 28, 29, 30, 31, 234, 200, 201, 202, 203, 204, 137, 138, 41, 42, 43, 44, 45, 46, 48, 49, 50, 51, 52, 53, 54, 55, 56, 57, 58, 59, 60, 61, 62, 63, 66, 67, 68, 69, 70, 71, 72, 73, 74, 75, 76, 77, 80, 81, 82, 83, 84, 85, 86, 87, 88, 89, 90, 91, 92, 93, 94, 96, 97, 98, 99, 100, 101, 102, 103, 104, 105, 106, 107, 108, 109, 113, 114, 115, 116, 117, 118, 119, 120, 121, 122, 123, 124, 125, 126, 127, 128, 129, 130, 131, 132, 133, 134, 135, 136, 139, 140, 141, 142, 235, 236, 237, 238, 239, 240, 183, 184, 185, 186, 187, 188, 189, 190, 191, 192, 193, 194, 195, 196, 197, 198, 199, 452, 453, 454, 455, 456, 457, 458, 459, 460, 469, 470, 471, 472, 473, 474, 461, 462, 463, 464, 465, 466, 467, 468, 475, 476, 477, 478] (by decide +kernel) (by decide +kernel)) (goodIn_sub (fun _ h => List.mem_cons_of_mem _ (List.mem_append_right _ h)) (by decide +kernel))) (goodIn_sub (fun _ h => List.mem_cons_of_mem _ (List.mem_append_left _ (List.mem_append_left _ (List.mem_append_right _ h)))) (by decide +kernel))) (goodIn_sub (fun _ h => List.mem_cons_of_mem _ (List.mem_append_left _ (List.mem_append_right _ h))) (by decide +kernel))
set_option maxRecDepth 20000 in
theorem gL_refuses_L_anews : GoodIn wsL_refuses (va_wsS RL 91 yL_anews wsL_anews) := goodIn_app (goodIn_of _ (by decide +kernel)) ggL_refuses_L_anews
set_option maxRecDepth 20000 in
theorem ggL_refuses_L_publishes : GoodIn wsL_refuses wsL_publishes := goodIn_ca (goodIn_ca (goodIn_r _ [243, 9, 11, 1, 4, 244, 245, 246, 15, 247, 32, 33, 248, 249, 17, 152, 153, 154, 155, 21, 22, 34, 156, 35, 36, 37, 38, 39, 40, 157, 158, 159, 160, 161, 162, 163, 164, 165, 166, 167, 168, 169, 170, 171, 172, 95, 173, 174, 175, 47, 176, 56, 219, 220, 221, 222, 65, 250, 251, 252, 253, 150, 254, 255, 256, 68, 257, 85, 86, 89, 90, 91, 92, 93, 94, 96, 97, 98, 99, 100, 101, 102, 103, 104, 105, 106, 107, 108, 109, 110, 111, 112, 113, 114, 115, 116, 117, 118, 119, 120, 121, 122, 123, 124, 125, 126, 127, 128, 129, 130, 131, 132, 133, 134, 135, 136, 137, 138, 139, 140, 141, 142, 452, 453, 454, 455, 456, 457, 458, 459, 460, 461, 462, 463, 464, 465, 466, 467, 468, 469, 470, 471, 472, 473, 474, 475, 476, 477, 478] (by decide +kernel) (by decide +kernel)) (goodIn_sub (fun _ h => List.mem_cons_of_mem _ (List.mem_append_right _ h)) (by decide +kernel))) (goodIn_sub (fun _ h => List.mem_cons_of_mem _ (List.mem_append_left _ (List.mem_append_left _ (List.mem_append_right _ h)))) (by decide +kernel))
set_option maxRecDepth 20000 in
theorem gL_refuses_L_publishes : GoodIn wsL_refuses (va_wsS RL 95 yL_publishes wsL_publishes) := goodIn_app (goodIn_of _ (by decide +kernel)) ggL_refuses_L_publishes
set_option maxRecDepth 20000 in
theorem ggL_refuses_L_original : GoodIn wsL_refuses wsL_original := goodIn_ca (goodIn_r _ [260, 9, 1, 261, 262, 263, 15, 264, 248, 17, 152, 153, 154, 155, 21, 22, 34, 156, 35, 36, 37, 38, 39, 40, 157, 158, 159, 160, 161, 162, 163, 164, 165, 166, 167, 168, 169, 170, 171, 172, 95, 452, 453, 454, 455, 456, 457, 458, 459, 460, 461, 462, 463, 464, 465, 466, 467, 468] (by decide +kernel) (by decide +kernel)) (goodIn_sub (fun _ h => List.mem_cons_of_mem _ (List.mem_append_left _ (List.mem_append_left _ (List.mem_append_right _ h)))) (by decide +kernel))
set_option maxRecDepth 20000 in
theorem gL_refuses_L_original : GoodIn wsL_refuses (va_wsS RL 99 yL_original wsL_original) := goodIn_app (goodIn_of _ (by decide +kernel)) ggL_refuses_L_original
set_option maxRecDepth 20000 in
theorem ggL_refuses_L_rows : GoodIn wsL_refuses wsL_rows := goodIn_ca (goodIn_r _ [267, 9, 1, 268, 269, 270, 15, 271, 150, 151, 152, 153, 154, 155, 21, 22, 34, 156, 35, 36, 37, 38, 39, 40, 157, 158, 159, 160, 161, 162, 163, 164, 165, 166, 167, 168, 169, 170, 171, 172, 95, 452, 453, 454, 455, 456, 457, 458, 459, 460, 475, 476, 477, 478, 461, 462, 463, 464, 465, 466, 467, 468] (by decide +kernel) (by decide +kernel)) (goodIn_sub (fun _ h => List.mem_cons_of_mem _ (List.mem_append_left _ (List.mem_append_left _ (List.mem_append_right _ h)))) (by decide +kernel))
set_option maxRecDepth 20000 in
theorem gL_refuses_L_rows : GoodIn wsL_refuses (va_wsS RL 101 yL_rows wsL_rows) := goodIn_app (goodIn_of _ (by decide +kernel)) ggL_refuses_L_rows
set_option maxRecDepth 20000 in
theorem ggL_refuses_L_stitch : GoodIn wsL_refuses wsL_stitch := goodIn_ca (goodIn_r _ [274, 9, 1, 275, 276, 277, 15, 278, 150, 152, 153, 154, 155, 21, 22, 34, 156, 35, 36, 37, 38, 39, 40, 157, 158, 159, 160, 161, 162, 163, 164, 165, 166, 167, 168, 169, 170, 171, 172, 95, 279, 280, 281, 151, 282, 283, 284, 68, 285, 86, 452, 453, 454, 455, 456, 457, 458, 459, 460, 461, 462, 463, 464, 465, 466, 467, 468, 475, 476, 477, 478] (by decide +kernel) (by decide +kernel)) (goodIn_sub (fun _ h => List.mem_cons_of_mem _ (List.mem_append_left _ (List.mem_append_left _ (List.mem_append_right _ h)))) (by decide +kernel))
set_option maxRecDepth 20000 in
theorem gL_refuses_L_stitch : GoodIn wsL_refuses (va_wsS RL 103 yL_stitch wsL_stitch) := goodIn_app (goodIn_of _ (by decide +kernel)) ggL_refuses_L_stitch
set_option maxRecDepth 20000 in
theorem ggL_refuses_L_byWork : GoodIn wsL_refuses wsL_byWork := goodIn_ca (goodIn_r _ [288, 9, 1, 289, 290, 291, 15, 292, 212, 152, 153, 154, 155, 21, 22, 34, 156, 35, 36, 37, 38, 39, 40, 157, 158, 159, 160, 161, 162, 163, 164, 165, 166, 167, 168, 169, 170, 171, 172, 95, 279, 280, 281, 150, 151, 293, 294, 295, 64, 296, 80, 79, 78, 77, 297, 298, 299, 300, 75, 76, 198, 199, 200, 201, 202, 203, 110, 111, 112, 204, 137, 138, 452, 453, 454, 455, 456, 457, 458, 459, 460, 461, 462, 463, 464, 465, 466, 467, 468, 475, 476, 477, 478, 469, 470, 471, 472, 473, 474] (by decide +kernel) (by decide +kernel)) (goodIn_sub (fun _ h => List.mem_cons_of_mem _ (List.mem_append_left _ (List.mem_append_left _ (List.mem_append_right _ h)))) (by decide +kernel))
set_option maxRecDepth 20000 in
theorem gL_refuses_L_byWork : GoodIn wsL_refuses (va_wsS RL 105 yL_byWork wsL_byWork) := goodIn_app (goodIn_of _ (by decide +kernel)) ggL_refuses_L_byWork
set_option maxRecDepth 20000 in
theorem ggL_refuses_L_need : GoodIn wsL_refuses wsL_need := goodIn_ca (goodIn_ca (goodIn_r _ [303, 9, 10, 1, 2, 304, 305, 306, 15, 307, 150, 152, 153, 154, 155, 21, 22, 34, 156, 35, 36, 37, 38, 39, 40, 157, 158, 159, 160, 161, 162, 163, 164, 165, 166, 167, 168, 169, 170, 171, 172, 95, 216, 217, 218, 23, 24, 25, 26, 27, 308, 309, 310, 68, 311, 85, 87, 452, 453, 454, 455, 456, 457, 458, 459, 460, 461, 462, 463, 464, 465, 466, 467, 468, 475, 476, 477, 478] (by decide +kernel) (by decide +kernel)) (goodIn_sub (fun _ h => List.mem_cons_of_mem _ (List.mem_append_left _ (List.mem_append_left _ (List.mem_append_right _ h)))) (by decide +kernel))) (goodIn_sub (fun _ h => List.mem_cons_of_mem _ (List.mem_append_left _ (List.mem_append_right _ h))) (by decide +kernel))
set_option maxRecDepth 20000 in
theorem gL_refuses_L_need : GoodIn wsL_refuses (va_wsS RL 108 yL_need wsL_need) := goodIn_app (goodIn_of _ (by decide +kernel)) ggL_refuses_L_need
set_option maxRecDepth 20000 in
theorem ggL_refuses_L_buys : GoodIn wsL_refuses wsL_buys := goodIn_ca (goodIn_ca (goodIn_r _ [314, 9, 11, 1, 4, 315, 316, 317, 15, 318, 32, 33, 319, 320, 321, 215, 322, 214, 152, 153, 154, 155, 21, 22, 34, 156, 35, 36, 37, 38, 39, 40, 157, 158, 159, 160, 161, 162, 163, 164, 165, 166, 167, 168, 169, 170, 171, 172, 95, 18, 19, 20, 173, 174, 175, 47, 176, 56, 323, 324, 325, 326, 60, 55, 452, 453, 454, 455, 456, 457, 458, 459, 460, 461, 462, 463, 464, 465, 466, 467, 468] (by decide +kernel) (by decide +kernel)) (goodIn_sub (fun _ h => List.mem_cons_of_mem _ (List.mem_append_right _ h)) (by decide +kernel))) (goodIn_sub (fun _ h => List.mem_cons_of_mem _ (List.mem_append_left _ (List.mem_append_left _ (List.mem_append_right _ h)))) (by decide +kernel))
set_option maxRecDepth 20000 in
theorem gL_refuses_L_buys : GoodIn wsL_refuses (va_wsS RL 110 yL_buys wsL_buys) := goodIn_app (goodIn_of _ (by decide +kernel)) ggL_refuses_L_buys
set_option maxRecDepth 20000 in
theorem ggL_refuses_L_rules : GoodIn wsL_refuses wsL_rules := goodIn_ca (goodIn_ca (goodIn_r _ [329, 9, 11, 1, 4, 330, 331, 332, 15, 333, 32, 33, 248, 214, 319, 322, 321, 152, 153, 154, 155, 21, 22, 34, 156, 35, 36, 37, 38, 39, 40, 157, 158, 159, 160, 161, 162, 163, 164, 165, 166, 167, 168, 169, 170, 171, 172, 95, 452, 453, 454, 455, 456, 457, 458, 459, 460, 461, 462, 463, 464, 465, 466, 467, 468] (by decide +kernel) (by decide +kernel)) (goodIn_sub (fun _ h => List.mem_cons_of_mem _ (List.mem_append_right _ h)) (by decide +kernel))) (goodIn_sub (fun _ h => List.mem_cons_of_mem _ (List.mem_append_left _ (List.mem_append_left _ (List.mem_append_right _ h)))) (by decide +kernel))
set_option maxRecDepth 20000 in
theorem gL_refuses_L_rules : GoodIn wsL_refuses (va_wsS RL 113 yL_rules wsL_rules) := goodIn_app (goodIn_of _ (by decide +kernel)) ggL_refuses_L_rules
set_option maxRecDepth 20000 in
theorem ggL_refuses_L_money : GoodIn wsL_refuses wsL_money := goodIn_ca (goodIn_r _ [336, 9, 1, 337, 338, 339, 15, 340, 322, 18, 19, 20, 21, 22, 461, 462, 463, 464, 465] (by decide +kernel) (by decide +kernel)) (goodIn_sub (fun _ h => List.mem_cons_of_mem _ (List.mem_append_left _ (List.mem_append_left _ (List.mem_append_right _ h)))) (by decide +kernel))
set_option maxRecDepth 20000 in
theorem gL_refuses_L_money : GoodIn wsL_refuses (va_wsS RL 116 yL_money wsL_money) := goodIn_app (goodIn_of _ (by decide +kernel)) ggL_refuses_L_money
set_option maxRecDepth 20000 in
theorem ggL_refuses_L_lots : GoodIn wsL_refuses wsL_lots := goodIn_ca (goodIn_ca (goodIn_ca (goodIn_r _ [343, 9, 10, 11, 1, 2, 4, 344, 345, 346, 15, 347, 32, 33, 348, 349, 350, 351, 352, 18, 19, 20, 21, 22, 216, 217, 218, 23, 24, 25, 26, 27, 35, 36, 37, 38, 39, 40, 353, 354, 355, 356, 52, 53, 357, 358, 359, 360, 89, 90, 91, 92, 93, 94, 95, 96, 97, 98, 99, 100, 101, 102, 103, 104, 105, 106, 107, 108, 109, 110, 111, 112, 113, 114, 115, 116, 117, 118, 119, 120, 121, 122, 123, 124, 125, 126, 127, 128, 129, 130, 131, 132, 133, 134, 135, 136, 137, 138, 139, 140, 141, 142, 461, 462, 463, 464, 465, 479, 480, 481, 482, 466, 467, 468] (by decide +kernel) (by decide +kernel)) (goodIn_sub (fun _ h => List.mem_cons_of_mem _ (List.mem_append_right _ h)) (by decide +kernel))) (goodIn_sub (fun _ h => List.mem_cons_of_mem _ (List.mem_append_left _ (List.mem_append_left _ (List.mem_append_right _ h)))) (by decide +kernel))) (goodIn_sub (fun _ h => List.mem_cons_of_mem _ (List.mem_append_left _ (List.mem_append_right _ h))) (by decide +kernel))
set_option maxRecDepth 20000 in
theorem gL_refuses_L_lots : GoodIn wsL_refuses (va_wsS RL 118 yL_lots wsL_lots) := goodIn_app (goodIn_of _ (by decide +kernel)) ggL_refuses_L_lots
set_option maxRecDepth 20000 in
theorem ggL_refuses_L_swaps : GoodIn wsL_refuses wsL_swaps := goodIn_ca (goodIn_ca (goodIn_r _ [363, 9, 11, 1, 4, 364, 365, 366, 15, 367, 32, 33, 368, 369, 370, 371, 372, 21, 22, 349, 373, 35, 36, 37, 38, 39, 40, 157, 158, 159, 160, 161, 162, 163, 164, 165, 166, 167, 168, 169, 170, 171, 172, 95, 479, 480, 481, 482, 461, 462, 463, 464, 465, 466, 467, 468] (by decide +kernel) (by decide +kernel)) (goodIn_sub (fun _ h => List.mem_cons_of_mem _ (List.mem_append_right _ h)) (by decide +kernel))) (goodIn_sub (fun _ h => List.mem_cons_of_mem _ (List.mem_append_left _ (List.mem_append_left _ (List.mem_append_right _ h)))) (by decide +kernel))
set_option maxRecDepth 20000 in
theorem gL_refuses_L_swaps : GoodIn wsL_refuses (va_wsS RL 122 yL_swaps wsL_swaps) := goodIn_app (goodIn_of _ (by decide +kernel)) ggL_refuses_L_swaps
set_option maxRecDepth 20000 in
theorem ggL_refuses_L_left : GoodIn wsL_refuses wsL_left := goodIn_ca (goodIn_r _ [376, 9, 1, 377, 378, 379, 15, 380, 381, 369, 370, 371, 372, 21, 22, 349, 373, 35, 36, 37, 38, 39, 40, 157, 158, 159, 160, 161, 162, 163, 164, 165, 166, 167, 168, 169, 170, 171, 172, 95, 479, 480, 481, 482, 461, 462, 463, 464, 465, 466, 467, 468] (by decide +kernel) (by decide +kernel)) (goodIn_sub (fun _ h => List.mem_cons_of_mem _ (List.mem_append_left _ (List.mem_append_left _ (List.mem_append_right _ h)))) (by decide +kernel))
set_option maxRecDepth 20000 in
theorem gL_refuses_L_left : GoodIn wsL_refuses (va_wsS RL 125 yL_left wsL_left) := goodIn_app (goodIn_of _ (by decide +kernel)) ggL_refuses_L_left
set_option maxRecDepth 20000 in
theorem ggL_refuses_L_projects : GoodIn wsL_refuses wsL_projects := goodIn_ca (goodIn_ca (goodIn_r _ [384, 9, 11, 1, 4, 385, 386, 387, 15, 388, 32, 33, 389, 368, 390, 391, 392, 18, 19, 20, 21, 22, 152, 153, 154, 155, 34, 156, 35, 36, 37, 38, 39, 40, 157, 158, 159, 160, 161, 162, 163, 164, 165, 166, 167, 168, 169, 170, 171, 172, 95, 369, 370, 371, 372, 349, 373, 173, 174, 175, 47, 176, 56, 323, 324, 325, 326, 60, 55, 393, 394, 395, 396, 52, 53, 397, 398, 399, 400, 89, 90, 91, 92, 93, 94, 96, 97, 98, 99, 100, 101, 102, 103, 104, 105, 106, 107, 108, 109, 110, 111, 112, 113, 114, 115, 116, 117, 118, 119, 120, 121, 122, 123, 124, 125, 126, 127, 128, 129, 130, 131, 132, 133, 134, 135, 136, 137, 138, 139, 140, 141, 142, 461, 462, 463, 464, 465, 479, 480, 481, 482, 483, 484, 485, 486, 466, 467, 468, 452, 453, 454, 455, 456, 457, 458, 459, 460] (by decide +kernel) (by decide +kernel)) (goodIn_sub (fun _ h => List.mem_cons_of_mem _ (List.mem_append_right _ h)) (by decide +kernel))) (goodIn_sub (fun _ h => List.mem_cons_of_mem _ (List.mem_append_left _ (List.mem_append_left _ (List.mem_append_right _ h)))) (by decide +kernel))
set_option maxRecDepth 20000 in
theorem gL_refuses_L_projects : GoodIn wsL_refuses (va_wsS RL 127 yL_projects wsL_projects) := goodIn_app (goodIn_of _ (by decide +kernel)) ggL_refuses_L_projects
set_option maxRecDepth 20000 in
theorem ggL_refuses_L_takes : GoodIn wsL_refuses wsL_takes := goodIn_ca (goodIn_ca (goodIn_r _ [403, 9, 11, 1, 4, 404, 405, 406, 15, 407, 32, 33, 368, 408, 409, 410, 411, 412, 413, 414, 21, 22, 389, 415, 35, 36, 37, 38, 39, 40, 157, 158, 159, 160, 161, 162, 163, 164, 165, 166, 167, 168, 169, 170, 171, 172, 95, 369, 370, 371, 372, 349, 373, 479, 480, 481, 482, 483, 484, 485, 486, 461, 462, 463, 464, 465, 466, 467, 468] (by decide +kernel) (by decide +kernel)) (goodIn_sub (fun _ h => List.mem_cons_of_mem _ (List.mem_append_right _ h)) (by decide +kernel))) (goodIn_sub (fun _ h => List.mem_cons_of_mem _ (List.mem_append_left _ (List.mem_append_left _ (List.mem_append_right _ h)))) (by decide +kernel))
set_option maxRecDepth 20000 in
theorem gL_refuses_L_takes : GoodIn wsL_refuses (va_wsS RL 130 yL_takes wsL_takes) := goodIn_app (goodIn_of _ (by decide +kernel)) ggL_refuses_L_takes
set_option maxRecDepth 20000 in
theorem ggL_refuses_L_knits : GoodIn wsL_refuses wsL_knits := goodIn_ca (goodIn_ca (goodIn_r _ [418, 9, 10, 1, 2, 419, 420, 421, 15, 422, 411, 412, 413, 414, 21, 22, 389, 415, 35, 36, 37, 38, 39, 40, 157, 158, 159, 160, 161, 162, 163, 164, 165, 166, 167, 168, 169, 170, 171, 172, 95, 23, 24, 25, 26, 27, 423, 424, 425, 392, 426, 400, 427, 397, 428, 429, 430, 431, 399, 432, 433, 434, 398, 435, 436, 437, 438, 439, 440, 441, 442, 68, 443, 87, 461, 462, 463, 464, 465, 466, 467, 468, 483, 484, 485, 486, 479, 480, 481, 482, 452, 453, 454, 455, 456, 457, 458, 459, 460, 475, 476, 477, 478] (by decide +kernel) (by decide +kernel)) (goodIn_sub (fun _ h => List.mem_cons_of_mem _ (List.mem_append_left _ (List.mem_append_left _ (List.mem_append_right _ h)))) (by decide +kernel))) (goodIn_sub (fun _ h => List.mem_cons_of_mem _ (List.mem_append_left _ (List.mem_append_right _ h))) (by decide +kernel))
set_option maxRecDepth 20000 in
theorem gL_refuses_L_knits : GoodIn wsL_refuses (va_wsS RL 133 yL_knits wsL_knits) := goodIn_app (goodIn_of _ (by decide +kernel)) ggL_refuses_L_knits
set_option maxRecDepth 20000 in
theorem ggL_refuses_L_progress : GoodIn wsL_refuses wsL_progress := goodIn_ca (goodIn_r _ [446, 9, 1, 447, 448, 449, 15, 450, 451, 411, 412, 413, 414, 21, 22, 389, 415, 35, 36, 37, 38, 39, 40, 157, 158, 159, 160, 161, 162, 163, 164, 165, 166, 167, 168, 169, 170, 171, 172, 95, 483, 484, 485, 486, 461, 462, 463, 464, 465, 466, 467, 468] (by decide +kernel) (by decide +kernel)) (goodIn_sub (fun _ h => List.mem_cons_of_mem _ (List.mem_append_left _ (List.mem_append_left _ (List.mem_append_right _ h)))) (by decide +kernel))
set_option maxRecDepth 20000 in
theorem gL_refuses_L_progress : GoodIn wsL_refuses (va_wsS RL 136 yL_progress wsL_progress) := goodIn_app (goodIn_of _ (by decide +kernel)) ggL_refuses_L_progress
theorem dL_refuses_0 : decode cL_refuses 0 = .ok (.iload_n 2, 1) := by decide +kernel
theorem dL_refuses_1 : decode cL_refuses 1 = .ok (.iconst 2, 1) := by decide +kernel
theorem dL_refuses_2 : decode cL_refuses 2 = .ok (.irem, 1) := by decide +kernel
theorem dL_refuses_3 : decode cL_refuses 3 = .ok (.ifCond .ne 7, 3) := by decide +kernel
theorem dL_refuses_6 : decode cL_refuses 6 = .ok (.iconst 1, 1) := by decide +kernel
theorem dL_refuses_7 : decode cL_refuses 7 = .ok (.goto 4, 3) := by decide +kernel
theorem dL_refuses_10 : decode cL_refuses 10 = .ok (.iconst 0, 1) := by decide +kernel
theorem dL_refuses_11 : decode cL_refuses 11 = .ok (.istore_n 3, 1) := by decide +kernel
theorem dL_refuses_12 : decode cL_refuses 12 = .ok (.iload_n 3, 1) := by decide +kernel
theorem dL_refuses_13 : decode cL_refuses 13 = .ok (.ifCond .eq 12, 3) := by decide +kernel
theorem dL_refuses_16 : decode cL_refuses 16 = .ok (.iconst (-1), 1) := by decide +kernel
theorem dL_refuses_17 : decode cL_refuses 17 = .ok (.iload_n 2, 1) := by decide +kernel
theorem dL_refuses_18 : decode cL_refuses 18 = .ok (.bipush 50, 2) := by decide +kernel
theorem dL_refuses_20 : decode cL_refuses 20 = .ok (.irem, 1) := by decide +kernel
theorem dL_refuses_21 : decode cL_refuses 21 = .ok (.isub, 1) := by decide +kernel
theorem dL_refuses_22 : decode cL_refuses 22 = .ok (.goto 9, 3) := by decide +kernel
theorem dL_refuses_25 : decode cL_refuses 25 = .ok (.iconst 5, 1) := by decide +kernel
theorem dL_refuses_26 : decode cL_refuses 26 = .ok (.iload_n 2, 1) := by decide +kernel
theorem dL_refuses_27 : decode cL_refuses 27 = .ok (.bipush 50, 2) := by decide +kernel
theorem dL_refuses_29 : decode cL_refuses 29 = .ok (.irem, 1) := by decide +kernel
theorem dL_refuses_30 : decode cL_refuses 30 = .ok (.iadd, 1) := by decide +kernel
theorem dL_refuses_31 : decode cL_refuses 31 = .ok (.istore 4, 2) := by decide +kernel
theorem dL_refuses_33 : decode cL_refuses 33 = .ok (.iload_n 3, 1) := by decide +kernel
theorem dL_refuses_34 : decode cL_refuses 34 = .ok (.ifCond .eq 12, 3) := by decide +kernel
theorem dL_refuses_37 : decode cL_refuses 37 = .ok (.iconst (-1), 1) := by decide +kernel
theorem dL_refuses_38 : decode cL_refuses 38 = .ok (.iload_n 2, 1) := by decide +kernel
theorem dL_refuses_39 : decode cL_refuses 39 = .ok (.bipush 50, 2) := by decide +kernel
theorem dL_refuses_41 : decode cL_refuses 41 = .ok (.irem, 1) := by decide +kernel
theorem dL_refuses_42 : decode cL_refuses 42 = .ok (.isub, 1) := by decide +kernel
theorem dL_refuses_43 : decode cL_refuses 43 = .ok (.goto 11, 3) := by decide +kernel
theorem dL_refuses_46 : decode cL_refuses 46 = .ok (.aload_n 1, 1) := by decide +kernel
theorem dL_refuses_47 : decode cL_refuses 47 = .ok (.iconst 0, 1) := by decide +kernel
theorem dL_refuses_48 : decode cL_refuses 48 = .ok (.iaload, 1) := by decide +kernel
theorem dL_refuses_49 : decode cL_refuses 49 = .ok (.iload_n 2, 1) := by decide +kernel
theorem dL_refuses_50 : decode cL_refuses 50 = .ok (.bipush 50, 2) := by decide +kernel
theorem dL_refuses_52 : decode cL_refuses 52 = .ok (.irem, 1) := by decide +kernel
theorem dL_refuses_53 : decode cL_refuses 53 = .ok (.iadd, 1) := by decide +kernel
theorem dL_refuses_54 : decode cL_refuses 54 = .ok (.istore 5, 2) := by decide +kernel
theorem dL_refuses_56 : decode cL_refuses 56 = .ok (.iload_n 3, 1) := by decide +kernel
theorem dL_refuses_57 : decode cL_refuses 57 = .ok (.ifCond .eq 12, 3) := by decide +kernel
theorem dL_refuses_60 : decode cL_refuses 60 = .ok (.iconst (-1), 1) := by decide +kernel
theorem dL_refuses_61 : decode cL_refuses 61 = .ok (.iload_n 2, 1) := by decide +kernel
theorem dL_refuses_62 : decode cL_refuses 62 = .ok (.bipush 50, 2) := by decide +kernel
theorem dL_refuses_64 : decode cL_refuses 64 = .ok (.irem, 1) := by decide +kernel
theorem dL_refuses_65 : decode cL_refuses 65 = .ok (.isub, 1) := by decide +kernel
theorem dL_refuses_66 : decode cL_refuses 66 = .ok (.goto 11, 3) := by decide +kernel
theorem dL_refuses_69 : decode cL_refuses 69 = .ok (.aload_n 1, 1) := by decide +kernel
theorem dL_refuses_70 : decode cL_refuses 70 = .ok (.iconst 1, 1) := by decide +kernel
theorem dL_refuses_71 : decode cL_refuses 71 = .ok (.iaload, 1) := by decide +kernel
theorem dL_refuses_72 : decode cL_refuses 72 = .ok (.iload_n 2, 1) := by decide +kernel
theorem dL_refuses_73 : decode cL_refuses 73 = .ok (.bipush 50, 2) := by decide +kernel
theorem dL_refuses_75 : decode cL_refuses 75 = .ok (.irem, 1) := by decide +kernel
theorem dL_refuses_76 : decode cL_refuses 76 = .ok (.iadd, 1) := by decide +kernel
theorem dL_refuses_77 : decode cL_refuses 77 = .ok (.istore 6, 2) := by decide +kernel
theorem dL_refuses_79 : decode cL_refuses 79 = .ok (.iload_n 3, 1) := by decide +kernel
theorem dL_refuses_80 : decode cL_refuses 80 = .ok (.ifCond .eq 12, 3) := by decide +kernel
theorem dL_refuses_83 : decode cL_refuses 83 = .ok (.iconst (-1), 1) := by decide +kernel
theorem dL_refuses_84 : decode cL_refuses 84 = .ok (.iload_n 2, 1) := by decide +kernel
theorem dL_refuses_85 : decode cL_refuses 85 = .ok (.bipush 50, 2) := by decide +kernel
theorem dL_refuses_87 : decode cL_refuses 87 = .ok (.irem, 1) := by decide +kernel
theorem dL_refuses_88 : decode cL_refuses 88 = .ok (.isub, 1) := by decide +kernel
theorem dL_refuses_89 : decode cL_refuses 89 = .ok (.goto 11, 3) := by decide +kernel
theorem dL_refuses_92 : decode cL_refuses 92 = .ok (.aload_n 1, 1) := by decide +kernel
theorem dL_refuses_93 : decode cL_refuses 93 = .ok (.iconst 2, 1) := by decide +kernel
theorem dL_refuses_94 : decode cL_refuses 94 = .ok (.iaload, 1) := by decide +kernel
theorem dL_refuses_95 : decode cL_refuses 95 = .ok (.iload_n 2, 1) := by decide +kernel
theorem dL_refuses_96 : decode cL_refuses 96 = .ok (.bipush 50, 2) := by decide +kernel
theorem dL_refuses_98 : decode cL_refuses 98 = .ok (.irem, 1) := by decide +kernel
theorem dL_refuses_99 : decode cL_refuses 99 = .ok (.iadd, 1) := by decide +kernel
theorem dL_refuses_100 : decode cL_refuses 100 = .ok (.istore 7, 2) := by decide +kernel
theorem dL_refuses_102 : decode cL_refuses 102 = .ok (.aload_n 0, 1) := by decide +kernel
theorem dL_refuses_103 : decode cL_refuses 103 = .ok (.iload 4, 2) := by decide +kernel
theorem dL_refuses_105 : decode cL_refuses 105 = .ok (.iconst 0, 1) := by decide +kernel
theorem dL_refuses_106 : decode cL_refuses 106 = .ok (.iconst 0, 1) := by decide +kernel
theorem dL_refuses_107 : decode cL_refuses 107 = .ok (.invokestatic 81, 3) := by decide +kernel
theorem dL_refuses_110 : decode cL_refuses 110 = .ok (.ldc 15, 2) := by decide +kernel
theorem dL_refuses_112 : decode cL_refuses 112 = .ok (.if_icmp .ne 437, 3) := by decide +kernel
theorem dL_refuses_115 : decode cL_refuses 115 = .ok (.aload_n 0, 1) := by decide +kernel
theorem dL_refuses_116 : decode cL_refuses 116 = .ok (.iload_n 2, 1) := by decide +kernel
theorem dL_refuses_117 : decode cL_refuses 117 = .ok (.iconst 5, 1) := by decide +kernel
theorem dL_refuses_118 : decode cL_refuses 118 = .ok (.irem, 1) := by decide +kernel
theorem dL_refuses_119 : decode cL_refuses 119 = .ok (.bipush 21, 2) := by decide +kernel
theorem dL_refuses_121 : decode cL_refuses 121 = .ok (.iload_n 2, 1) := by decide +kernel
theorem dL_refuses_122 : decode cL_refuses 122 = .ok (.iadd, 1) := by decide +kernel
theorem dL_refuses_123 : decode cL_refuses 123 = .ok (.iconst 0, 1) := by decide +kernel
theorem dL_refuses_124 : decode cL_refuses 124 = .ok (.invokestatic 81, 3) := by decide +kernel
theorem dL_refuses_127 : decode cL_refuses 127 = .ok (.ldc 18, 2) := by decide +kernel
theorem dL_refuses_129 : decode cL_refuses 129 = .ok (.if_icmp .ne 420, 3) := by decide +kernel
theorem dL_refuses_132 : decode cL_refuses 132 = .ok (.aload_n 0, 1) := by decide +kernel
theorem dL_refuses_133 : decode cL_refuses 133 = .ok (.iload_n 2, 1) := by decide +kernel
theorem dL_refuses_134 : decode cL_refuses 134 = .ok (.iconst 5, 1) := by decide +kernel
theorem dL_refuses_135 : decode cL_refuses 135 = .ok (.irem, 1) := by decide +kernel
theorem dL_refuses_136 : decode cL_refuses 136 = .ok (.iload_n 2, 1) := by decide +kernel
theorem dL_refuses_137 : decode cL_refuses 137 = .ok (.ineg, 1) := by decide +kernel
theorem dL_refuses_138 : decode cL_refuses 138 = .ok (.iconst 0, 1) := by decide +kernel
theorem dL_refuses_139 : decode cL_refuses 139 = .ok (.invokestatic 81, 3) := by decide +kernel
theorem dL_refuses_142 : decode cL_refuses 142 = .ok (.ldc 18, 2) := by decide +kernel
theorem dL_refuses_144 : decode cL_refuses 144 = .ok (.if_icmp .ne 405, 3) := by decide +kernel
theorem dL_refuses_147 : decode cL_refuses 147 = .ok (.aload_n 0, 1) := by decide +kernel
theorem dL_refuses_148 : decode cL_refuses 148 = .ok (.iload_n 2, 1) := by decide +kernel
theorem dL_refuses_149 : decode cL_refuses 149 = .ok (.iconst 5, 1) := by decide +kernel
theorem dL_refuses_150 : decode cL_refuses 150 = .ok (.irem, 1) := by decide +kernel
theorem dL_refuses_151 : decode cL_refuses 151 = .ok (.iconst 1, 1) := by decide +kernel
theorem dL_refuses_152 : decode cL_refuses 152 = .ok (.sipush 1001, 3) := by decide +kernel
theorem dL_refuses_155 : decode cL_refuses 155 = .ok (.iload_n 2, 1) := by decide +kernel
theorem dL_refuses_156 : decode cL_refuses 156 = .ok (.iadd, 1) := by decide +kernel
theorem dL_refuses_157 : decode cL_refuses 157 = .ok (.invokestatic 81, 3) := by decide +kernel
theorem dL_refuses_160 : decode cL_refuses 160 = .ok (.ldc 18, 2) := by decide +kernel
theorem dL_refuses_162 : decode cL_refuses 162 = .ok (.if_icmp .ne 387, 3) := by decide +kernel
theorem dL_refuses_165 : decode cL_refuses 165 = .ok (.aload_n 0, 1) := by decide +kernel
theorem dL_refuses_166 : decode cL_refuses 166 = .ok (.iload_n 2, 1) := by decide +kernel
theorem dL_refuses_167 : decode cL_refuses 167 = .ok (.iconst 5, 1) := by decide +kernel
theorem dL_refuses_168 : decode cL_refuses 168 = .ok (.irem, 1) := by decide +kernel
theorem dL_refuses_169 : decode cL_refuses 169 = .ok (.iconst 1, 1) := by decide +kernel
theorem dL_refuses_170 : decode cL_refuses 170 = .ok (.iconst (-1), 1) := by decide +kernel
theorem dL_refuses_171 : decode cL_refuses 171 = .ok (.iload_n 2, 1) := by decide +kernel
theorem dL_refuses_172 : decode cL_refuses 172 = .ok (.isub, 1) := by decide +kernel
theorem dL_refuses_173 : decode cL_refuses 173 = .ok (.invokestatic 81, 3) := by decide +kernel
theorem dL_refuses_176 : decode cL_refuses 176 = .ok (.ldc 18, 2) := by decide +kernel
theorem dL_refuses_178 : decode cL_refuses 178 = .ok (.if_icmp .ne 371, 3) := by decide +kernel
theorem dL_refuses_181 : decode cL_refuses 181 = .ok (.aload_n 0, 1) := by decide +kernel
theorem dL_refuses_182 : decode cL_refuses 182 = .ok (.iload 5, 2) := by decide +kernel
theorem dL_refuses_184 : decode cL_refuses 184 = .ok (.iconst 0, 1) := by decide +kernel
theorem dL_refuses_185 : decode cL_refuses 185 = .ok (.iconst 0, 1) := by decide +kernel
theorem dL_refuses_186 : decode cL_refuses 186 = .ok (.iconst 0, 1) := by decide +kernel
theorem dL_refuses_187 : decode cL_refuses 187 = .ok (.iconst 0, 1) := by decide +kernel
theorem dL_refuses_188 : decode cL_refuses 188 = .ok (.invokestatic 87, 3) := by decide +kernel
theorem dL_refuses_191 : decode cL_refuses 191 = .ok (.ldc 15, 2) := by decide +kernel
theorem dL_refuses_193 : decode cL_refuses 193 = .ok (.if_icmp .ne 356, 3) := by decide +kernel
theorem dL_refuses_196 : decode cL_refuses 196 = .ok (.aload_n 0, 1) := by decide +kernel
theorem dL_refuses_197 : decode cL_refuses 197 = .ok (.iload 5, 2) := by decide +kernel
theorem dL_refuses_199 : decode cL_refuses 199 = .ok (.iconst 0, 1) := by decide +kernel
theorem dL_refuses_200 : decode cL_refuses 200 = .ok (.invokestatic 91, 3) := by decide +kernel
theorem dL_refuses_203 : decode cL_refuses 203 = .ok (.ldc 15, 2) := by decide +kernel
theorem dL_refuses_205 : decode cL_refuses 205 = .ok (.if_icmp .ne 344, 3) := by decide +kernel
theorem dL_refuses_208 : decode cL_refuses 208 = .ok (.aload_n 0, 1) := by decide +kernel
theorem dL_refuses_209 : decode cL_refuses 209 = .ok (.iload 5, 2) := by decide +kernel
theorem dL_refuses_211 : decode cL_refuses 211 = .ok (.invokestatic 95, 3) := by decide +kernel
theorem dL_refuses_214 : decode cL_refuses 214 = .ok (.ldc 15, 2) := by decide +kernel
theorem dL_refuses_216 : decode cL_refuses 216 = .ok (.if_icmp .ne 333, 3) := by decide +kernel
theorem dL_refuses_219 : decode cL_refuses 219 = .ok (.aload_n 0, 1) := by decide +kernel
theorem dL_refuses_220 : decode cL_refuses 220 = .ok (.iload 5, 2) := by decide +kernel
theorem dL_refuses_222 : decode cL_refuses 222 = .ok (.invokestatic 99, 3) := by decide +kernel
theorem dL_refuses_225 : decode cL_refuses 225 = .ok (.ldc 15, 2) := by decide +kernel
theorem dL_refuses_227 : decode cL_refuses 227 = .ok (.if_icmp .ne 322, 3) := by decide +kernel
theorem dL_refuses_230 : decode cL_refuses 230 = .ok (.aload_n 0, 1) := by decide +kernel
theorem dL_refuses_231 : decode cL_refuses 231 = .ok (.iload 5, 2) := by decide +kernel
theorem dL_refuses_233 : decode cL_refuses 233 = .ok (.invokestatic 101, 3) := by decide +kernel
theorem dL_refuses_236 : decode cL_refuses 236 = .ok (.ldc 15, 2) := by decide +kernel
theorem dL_refuses_238 : decode cL_refuses 238 = .ok (.if_icmp .ne 311, 3) := by decide +kernel
theorem dL_refuses_241 : decode cL_refuses 241 = .ok (.aload_n 0, 1) := by decide +kernel
theorem dL_refuses_242 : decode cL_refuses 242 = .ok (.iload 5, 2) := by decide +kernel
theorem dL_refuses_244 : decode cL_refuses 244 = .ok (.iconst 0, 1) := by decide +kernel
theorem dL_refuses_245 : decode cL_refuses 245 = .ok (.iconst 0, 1) := by decide +kernel
theorem dL_refuses_246 : decode cL_refuses 246 = .ok (.invokestatic 103, 3) := by decide +kernel
theorem dL_refuses_249 : decode cL_refuses 249 = .ok (.ldc 15, 2) := by decide +kernel
theorem dL_refuses_251 : decode cL_refuses 251 = .ok (.if_icmp .ne 298, 3) := by decide +kernel
theorem dL_refuses_254 : decode cL_refuses 254 = .ok (.aload_n 0, 1) := by decide +kernel
theorem dL_refuses_255 : decode cL_refuses 255 = .ok (.iload 5, 2) := by decide +kernel
theorem dL_refuses_257 : decode cL_refuses 257 = .ok (.iconst 0, 1) := by decide +kernel
theorem dL_refuses_258 : decode cL_refuses 258 = .ok (.iconst 0, 1) := by decide +kernel
theorem dL_refuses_259 : decode cL_refuses 259 = .ok (.invokestatic 105, 3) := by decide +kernel
theorem dL_refuses_262 : decode cL_refuses 262 = .ok (.ldc 15, 2) := by decide +kernel
theorem dL_refuses_264 : decode cL_refuses 264 = .ok (.if_icmp .ne 285, 3) := by decide +kernel
theorem dL_refuses_267 : decode cL_refuses 267 = .ok (.aload_n 0, 1) := by decide +kernel
theorem dL_refuses_268 : decode cL_refuses 268 = .ok (.iload 5, 2) := by decide +kernel
theorem dL_refuses_270 : decode cL_refuses 270 = .ok (.iconst 4, 1) := by decide +kernel
theorem dL_refuses_271 : decode cL_refuses 271 = .ok (.invokestatic 108, 3) := by decide +kernel
theorem dL_refuses_274 : decode cL_refuses 274 = .ok (.ldc 15, 2) := by decide +kernel
theorem dL_refuses_276 : decode cL_refuses 276 = .ok (.if_icmp .ne 273, 3) := by decide +kernel
theorem dL_refuses_279 : decode cL_refuses 279 = .ok (.aload_n 0, 1) := by decide +kernel
theorem dL_refuses_280 : decode cL_refuses 280 = .ok (.iload 5, 2) := by decide +kernel
theorem dL_refuses_282 : decode cL_refuses 282 = .ok (.iconst 0, 1) := by decide +kernel
theorem dL_refuses_283 : decode cL_refuses 283 = .ok (.invokestatic 110, 3) := by decide +kernel
theorem dL_refuses_286 : decode cL_refuses 286 = .ok (.ldc 15, 2) := by decide +kernel
theorem dL_refuses_288 : decode cL_refuses 288 = .ok (.if_icmp .ne 261, 3) := by decide +kernel
theorem dL_refuses_291 : decode cL_refuses 291 = .ok (.aload_n 0, 1) := by decide +kernel
theorem dL_refuses_292 : decode cL_refuses 292 = .ok (.iload 5, 2) := by decide +kernel
theorem dL_refuses_294 : decode cL_refuses 294 = .ok (.invokestatic 113, 3) := by decide +kernel
theorem dL_refuses_297 : decode cL_refuses 297 = .ok (.ldc 15, 2) := by decide +kernel
theorem dL_refuses_299 : decode cL_refuses 299 = .ok (.if_icmp .ne 250, 3) := by decide +kernel
theorem dL_refuses_302 : decode cL_refuses 302 = .ok (.aload_n 0, 1) := by decide +kernel
theorem dL_refuses_303 : decode cL_refuses 303 = .ok (.iload 4, 2) := by decide +kernel
theorem dL_refuses_305 : decode cL_refuses 305 = .ok (.invokestatic 116, 3) := by decide +kernel
theorem dL_refuses_308 : decode cL_refuses 308 = .ok (.ldc 15, 2) := by decide +kernel
theorem dL_refuses_310 : decode cL_refuses 310 = .ok (.if_icmp .ne 239, 3) := by decide +kernel
theorem dL_refuses_313 : decode cL_refuses 313 = .ok (.aload_n 0, 1) := by decide +kernel
theorem dL_refuses_314 : decode cL_refuses 314 = .ok (.iload 4, 2) := by decide +kernel
theorem dL_refuses_316 : decode cL_refuses 316 = .ok (.iconst 4, 1) := by decide +kernel
theorem dL_refuses_317 : decode cL_refuses 317 = .ok (.iconst 0, 1) := by decide +kernel
theorem dL_refuses_318 : decode cL_refuses 318 = .ok (.invokestatic 118, 3) := by decide +kernel
theorem dL_refuses_321 : decode cL_refuses 321 = .ok (.ldc 15, 2) := by decide +kernel
theorem dL_refuses_323 : decode cL_refuses 323 = .ok (.if_icmp .ne 226, 3) := by decide +kernel
theorem dL_refuses_326 : decode cL_refuses 326 = .ok (.aload_n 0, 1) := by decide +kernel
theorem dL_refuses_327 : decode cL_refuses 327 = .ok (.iload_n 2, 1) := by decide +kernel
theorem dL_refuses_328 : decode cL_refuses 328 = .ok (.iconst 5, 1) := by decide +kernel
theorem dL_refuses_329 : decode cL_refuses 329 = .ok (.irem, 1) := by decide +kernel
theorem dL_refuses_330 : decode cL_refuses 330 = .ok (.iconst 4, 1) := by decide +kernel
theorem dL_refuses_331 : decode cL_refuses 331 = .ok (.iload_n 2, 1) := by decide +kernel
theorem dL_refuses_332 : decode cL_refuses 332 = .ok (.isub, 1) := by decide +kernel
theorem dL_refuses_333 : decode cL_refuses 333 = .ok (.iconst 1, 1) := by decide +kernel
theorem dL_refuses_334 : decode cL_refuses 334 = .ok (.invokestatic 118, 3) := by decide +kernel
theorem dL_refuses_337 : decode cL_refuses 337 = .ok (.ldc 18, 2) := by decide +kernel
theorem dL_refuses_339 : decode cL_refuses 339 = .ok (.if_icmp .ne 210, 3) := by decide +kernel
theorem dL_refuses_342 : decode cL_refuses 342 = .ok (.aload_n 0, 1) := by decide +kernel
theorem dL_refuses_343 : decode cL_refuses 343 = .ok (.iload_n 2, 1) := by decide +kernel
theorem dL_refuses_344 : decode cL_refuses 344 = .ok (.iconst 5, 1) := by decide +kernel
theorem dL_refuses_345 : decode cL_refuses 345 = .ok (.irem, 1) := by decide +kernel
theorem dL_refuses_346 : decode cL_refuses 346 = .ok (.bipush 21, 2) := by decide +kernel
theorem dL_refuses_348 : decode cL_refuses 348 = .ok (.iload_n 2, 1) := by decide +kernel
theorem dL_refuses_349 : decode cL_refuses 349 = .ok (.iadd, 1) := by decide +kernel
theorem dL_refuses_350 : decode cL_refuses 350 = .ok (.iconst 1, 1) := by decide +kernel
theorem dL_refuses_351 : decode cL_refuses 351 = .ok (.invokestatic 118, 3) := by decide +kernel
theorem dL_refuses_354 : decode cL_refuses 354 = .ok (.ldc 18, 2) := by decide +kernel
theorem dL_refuses_356 : decode cL_refuses 356 = .ok (.if_icmp .ne 193, 3) := by decide +kernel
theorem dL_refuses_359 : decode cL_refuses 359 = .ok (.aload_n 0, 1) := by decide +kernel
theorem dL_refuses_360 : decode cL_refuses 360 = .ok (.iload_n 2, 1) := by decide +kernel
theorem dL_refuses_361 : decode cL_refuses 361 = .ok (.iconst 5, 1) := by decide +kernel
theorem dL_refuses_362 : decode cL_refuses 362 = .ok (.irem, 1) := by decide +kernel
theorem dL_refuses_363 : decode cL_refuses 363 = .ok (.iconst 5, 1) := by decide +kernel
theorem dL_refuses_364 : decode cL_refuses 364 = .ok (.iload_n 2, 1) := by decide +kernel
theorem dL_refuses_365 : decode cL_refuses 365 = .ok (.ineg, 1) := by decide +kernel
theorem dL_refuses_366 : decode cL_refuses 366 = .ok (.invokestatic 118, 3) := by decide +kernel
theorem dL_refuses_369 : decode cL_refuses 369 = .ok (.ldc 18, 2) := by decide +kernel
theorem dL_refuses_371 : decode cL_refuses 371 = .ok (.if_icmp .ne 178, 3) := by decide +kernel
theorem dL_refuses_374 : decode cL_refuses 374 = .ok (.aload_n 0, 1) := by decide +kernel
theorem dL_refuses_375 : decode cL_refuses 375 = .ok (.iload_n 2, 1) := by decide +kernel
theorem dL_refuses_376 : decode cL_refuses 376 = .ok (.iconst 5, 1) := by decide +kernel
theorem dL_refuses_377 : decode cL_refuses 377 = .ok (.irem, 1) := by decide +kernel
theorem dL_refuses_378 : decode cL_refuses 378 = .ok (.iconst 5, 1) := by decide +kernel
theorem dL_refuses_379 : decode cL_refuses 379 = .ok (.ldc 121, 2) := by decide +kernel
theorem dL_refuses_381 : decode cL_refuses 381 = .ok (.iload_n 2, 1) := by decide +kernel
theorem dL_refuses_382 : decode cL_refuses 382 = .ok (.iadd, 1) := by decide +kernel
theorem dL_refuses_383 : decode cL_refuses 383 = .ok (.invokestatic 118, 3) := by decide +kernel
theorem dL_refuses_386 : decode cL_refuses 386 = .ok (.ldc 18, 2) := by decide +kernel
theorem dL_refuses_388 : decode cL_refuses 388 = .ok (.if_icmp .ne 161, 3) := by decide +kernel
theorem dL_refuses_391 : decode cL_refuses 391 = .ok (.aload_n 0, 1) := by decide +kernel
theorem dL_refuses_392 : decode cL_refuses 392 = .ok (.iload 6, 2) := by decide +kernel
theorem dL_refuses_394 : decode cL_refuses 394 = .ok (.iload 6, 2) := by decide +kernel
theorem dL_refuses_396 : decode cL_refuses 396 = .ok (.invokestatic 122, 3) := by decide +kernel
theorem dL_refuses_399 : decode cL_refuses 399 = .ok (.ldc 15, 2) := by decide +kernel
theorem dL_refuses_401 : decode cL_refuses 401 = .ok (.if_icmp .ne 148, 3) := by decide +kernel
theorem dL_refuses_404 : decode cL_refuses 404 = .ok (.aload_n 0, 1) := by decide +kernel
theorem dL_refuses_405 : decode cL_refuses 405 = .ok (.iload 6, 2) := by decide +kernel
theorem dL_refuses_407 : decode cL_refuses 407 = .ok (.invokestatic 125, 3) := by decide +kernel
theorem dL_refuses_410 : decode cL_refuses 410 = .ok (.ldc 15, 2) := by decide +kernel
theorem dL_refuses_412 : decode cL_refuses 412 = .ok (.if_icmp .ne 137, 3) := by decide +kernel
theorem dL_refuses_415 : decode cL_refuses 415 = .ok (.aload_n 0, 1) := by decide +kernel
theorem dL_refuses_416 : decode cL_refuses 416 = .ok (.iload 4, 2) := by decide +kernel
theorem dL_refuses_418 : decode cL_refuses 418 = .ok (.iconst 0, 1) := by decide +kernel
theorem dL_refuses_419 : decode cL_refuses 419 = .ok (.iconst 0, 1) := by decide +kernel
theorem dL_refuses_420 : decode cL_refuses 420 = .ok (.invokestatic 127, 3) := by decide +kernel
theorem dL_refuses_423 : decode cL_refuses 423 = .ok (.ldc 15, 2) := by decide +kernel
theorem dL_refuses_425 : decode cL_refuses 425 = .ok (.if_icmp .ne 124, 3) := by decide +kernel
theorem dL_refuses_428 : decode cL_refuses 428 = .ok (.aload_n 0, 1) := by decide +kernel
theorem dL_refuses_429 : decode cL_refuses 429 = .ok (.iload_n 2, 1) := by decide +kernel
theorem dL_refuses_430 : decode cL_refuses 430 = .ok (.iconst 5, 1) := by decide +kernel
theorem dL_refuses_431 : decode cL_refuses 431 = .ok (.irem, 1) := by decide +kernel
theorem dL_refuses_432 : decode cL_refuses 432 = .ok (.iload 5, 2) := by decide +kernel
theorem dL_refuses_434 : decode cL_refuses 434 = .ok (.iconst 0, 1) := by decide +kernel
theorem dL_refuses_435 : decode cL_refuses 435 = .ok (.invokestatic 127, 3) := by decide +kernel
theorem dL_refuses_438 : decode cL_refuses 438 = .ok (.ldc 15, 2) := by decide +kernel
theorem dL_refuses_440 : decode cL_refuses 440 = .ok (.if_icmp .ne 109, 3) := by decide +kernel
theorem dL_refuses_443 : decode cL_refuses 443 = .ok (.aload_n 0, 1) := by decide +kernel
theorem dL_refuses_444 : decode cL_refuses 444 = .ok (.iload_n 2, 1) := by decide +kernel
theorem dL_refuses_445 : decode cL_refuses 445 = .ok (.iconst 5, 1) := by decide +kernel
theorem dL_refuses_446 : decode cL_refuses 446 = .ok (.irem, 1) := by decide +kernel
theorem dL_refuses_447 : decode cL_refuses 447 = .ok (.iconst 0, 1) := by decide +kernel
theorem dL_refuses_448 : decode cL_refuses 448 = .ok (.iload 6, 2) := by decide +kernel
theorem dL_refuses_450 : decode cL_refuses 450 = .ok (.invokestatic 127, 3) := by decide +kernel
theorem dL_refuses_453 : decode cL_refuses 453 = .ok (.ldc 15, 2) := by decide +kernel
theorem dL_refuses_455 : decode cL_refuses 455 = .ok (.if_icmp .ne 94, 3) := by decide +kernel
theorem dL_refuses_458 : decode cL_refuses 458 = .ok (.aload_n 0, 1) := by decide +kernel
theorem dL_refuses_459 : decode cL_refuses 459 = .ok (.iload 7, 2) := by decide +kernel
theorem dL_refuses_461 : decode cL_refuses 461 = .ok (.iconst 0, 1) := by decide +kernel
theorem dL_refuses_462 : decode cL_refuses 462 = .ok (.invokestatic 130, 3) := by decide +kernel
theorem dL_refuses_465 : decode cL_refuses 465 = .ok (.ldc 15, 2) := by decide +kernel
theorem dL_refuses_467 : decode cL_refuses 467 = .ok (.if_icmp .ne 82, 3) := by decide +kernel
theorem dL_refuses_470 : decode cL_refuses 470 = .ok (.aload_n 0, 1) := by decide +kernel
theorem dL_refuses_471 : decode cL_refuses 471 = .ok (.iconst 0, 1) := by decide +kernel
theorem dL_refuses_472 : decode cL_refuses 472 = .ok (.iload 6, 2) := by decide +kernel
theorem dL_refuses_474 : decode cL_refuses 474 = .ok (.invokestatic 130, 3) := by decide +kernel
theorem dL_refuses_477 : decode cL_refuses 477 = .ok (.ldc 15, 2) := by decide +kernel
theorem dL_refuses_479 : decode cL_refuses 479 = .ok (.if_icmp .ne 70, 3) := by decide +kernel
theorem dL_refuses_482 : decode cL_refuses 482 = .ok (.aload_n 0, 1) := by decide +kernel
theorem dL_refuses_483 : decode cL_refuses 483 = .ok (.iload 7, 2) := by decide +kernel
theorem dL_refuses_485 : decode cL_refuses 485 = .ok (.iconst 0, 1) := by decide +kernel
theorem dL_refuses_486 : decode cL_refuses 486 = .ok (.invokestatic 133, 3) := by decide +kernel
theorem dL_refuses_489 : decode cL_refuses 489 = .ok (.ldc 15, 2) := by decide +kernel
theorem dL_refuses_491 : decode cL_refuses 491 = .ok (.if_icmp .ne 58, 3) := by decide +kernel
theorem dL_refuses_494 : decode cL_refuses 494 = .ok (.aload_n 0, 1) := by decide +kernel
theorem dL_refuses_495 : decode cL_refuses 495 = .ok (.iload 7, 2) := by decide +kernel
theorem dL_refuses_497 : decode cL_refuses 497 = .ok (.invokestatic 136, 3) := by decide +kernel
theorem dL_refuses_500 : decode cL_refuses 500 = .ok (.ldc 15, 2) := by decide +kernel
theorem dL_refuses_502 : decode cL_refuses 502 = .ok (.if_icmp .ne 47, 3) := by decide +kernel
theorem dL_refuses_505 : decode cL_refuses 505 = .ok (.aload_n 1, 1) := by decide +kernel
theorem dL_refuses_506 : decode cL_refuses 506 = .ok (.iconst 0, 1) := by decide +kernel
theorem dL_refuses_507 : decode cL_refuses 507 = .ok (.iaload, 1) := by decide +kernel
theorem dL_refuses_508 : decode cL_refuses 508 = .ok (.bipush 16, 2) := by decide +kernel
theorem dL_refuses_510 : decode cL_refuses 510 = .ok (.if_icmp .lt 15, 3) := by decide +kernel
theorem dL_refuses_513 : decode cL_refuses 513 = .ok (.aload_n 0, 1) := by decide +kernel
theorem dL_refuses_514 : decode cL_refuses 514 = .ok (.iconst 0, 1) := by decide +kernel
theorem dL_refuses_515 : decode cL_refuses 515 = .ok (.iconst 1, 1) := by decide +kernel
theorem dL_refuses_516 : decode cL_refuses 516 = .ok (.iconst 1, 1) := by decide +kernel
theorem dL_refuses_517 : decode cL_refuses 517 = .ok (.invokestatic 81, 3) := by decide +kernel
theorem dL_refuses_520 : decode cL_refuses 520 = .ok (.ldc 21, 2) := by decide +kernel
theorem dL_refuses_522 : decode cL_refuses 522 = .ok (.if_icmp .ne 27, 3) := by decide +kernel
theorem dL_refuses_525 : decode cL_refuses 525 = .ok (.aload_n 1, 1) := by decide +kernel
theorem dL_refuses_526 : decode cL_refuses 526 = .ok (.iconst 1, 1) := by decide +kernel
theorem dL_refuses_527 : decode cL_refuses 527 = .ok (.iaload, 1) := by decide +kernel
theorem dL_refuses_528 : decode cL_refuses 528 = .ok (.bipush 20, 2) := by decide +kernel
theorem dL_refuses_530 : decode cL_refuses 530 = .ok (.if_icmp .lt 15, 3) := by decide +kernel
theorem dL_refuses_533 : decode cL_refuses 533 = .ok (.aload_n 0, 1) := by decide +kernel
theorem dL_refuses_534 : decode cL_refuses 534 = .ok (.iconst 0, 1) := by decide +kernel
theorem dL_refuses_535 : decode cL_refuses 535 = .ok (.iconst 5, 1) := by decide +kernel
theorem dL_refuses_536 : decode cL_refuses 536 = .ok (.iconst 1, 1) := by decide +kernel
theorem dL_refuses_537 : decode cL_refuses 537 = .ok (.invokestatic 118, 3) := by decide +kernel
theorem dL_refuses_540 : decode cL_refuses 540 = .ok (.ldc 21, 2) := by decide +kernel
theorem dL_refuses_542 : decode cL_refuses 542 = .ok (.if_icmp .ne 7, 3) := by decide +kernel
theorem dL_refuses_545 : decode cL_refuses 545 = .ok (.iconst 1, 1) := by decide +kernel
theorem dL_refuses_546 : decode cL_refuses 546 = .ok (.goto 4, 3) := by decide +kernel
theorem dL_refuses_549 : decode cL_refuses 549 = .ok (.iconst 0, 1) := by decide +kernel
theorem dL_refuses_550 : decode cL_refuses 550 = .ok (.istore 8, 2) := by decide +kernel
theorem dL_refuses_552 : decode cL_refuses 552 = .ok (.iload 8, 2) := by decide +kernel
theorem dL_refuses_554 : decode cL_refuses 554 = .ok (.ifCond .eq 414, 3) := by decide +kernel
theorem dL_refuses_557 : decode cL_refuses 557 = .ok (.aload_n 1, 1) := by decide +kernel
theorem dL_refuses_558 : decode cL_refuses 558 = .ok (.iconst 0, 1) := by decide +kernel
theorem dL_refuses_559 : decode cL_refuses 559 = .ok (.iaload, 1) := by decide +kernel
theorem dL_refuses_560 : decode cL_refuses 560 = .ok (.ifCond .le 408, 3) := by decide +kernel
theorem dL_refuses_563 : decode cL_refuses 563 = .ok (.iload_n 2, 1) := by decide +kernel
theorem dL_refuses_564 : decode cL_refuses 564 = .ok (.iconst 2, 1) := by decide +kernel
theorem dL_refuses_565 : decode cL_refuses 565 = .ok (.idiv, 1) := by decide +kernel
theorem dL_refuses_566 : decode cL_refuses 566 = .ok (.aload_n 1, 1) := by decide +kernel
theorem dL_refuses_567 : decode cL_refuses 567 = .ok (.iconst 0, 1) := by decide +kernel
theorem dL_refuses_568 : decode cL_refuses 568 = .ok (.iaload, 1) := by decide +kernel
theorem dL_refuses_569 : decode cL_refuses 569 = .ok (.irem, 1) := by decide +kernel
theorem dL_refuses_570 : decode cL_refuses 570 = .ok (.istore 9, 2) := by decide +kernel
theorem dL_refuses_572 : decode cL_refuses 572 = .ok (.aload_n 0, 1) := by decide +kernel
theorem dL_refuses_573 : decode cL_refuses 573 = .ok (.iload 9, 2) := by decide +kernel
theorem dL_refuses_575 : decode cL_refuses 575 = .ok (.invokestatic 101, 3) := by decide +kernel
theorem dL_refuses_578 : decode cL_refuses 578 = .ok (.istore 10, 2) := by decide +kernel
theorem dL_refuses_580 : decode cL_refuses 580 = .ok (.iload_n 3, 1) := by decide +kernel
theorem dL_refuses_581 : decode cL_refuses 581 = .ok (.ifCond .eq 12, 3) := by decide +kernel
theorem dL_refuses_584 : decode cL_refuses 584 = .ok (.iconst (-1), 1) := by decide +kernel
theorem dL_refuses_585 : decode cL_refuses 585 = .ok (.iload_n 2, 1) := by decide +kernel
theorem dL_refuses_586 : decode cL_refuses 586 = .ok (.bipush 50, 2) := by decide +kernel
theorem dL_refuses_588 : decode cL_refuses 588 = .ok (.irem, 1) := by decide +kernel
theorem dL_refuses_589 : decode cL_refuses 589 = .ok (.isub, 1) := by decide +kernel
theorem dL_refuses_590 : decode cL_refuses 590 = .ok (.goto 10, 3) := by decide +kernel
theorem dL_refuses_593 : decode cL_refuses 593 = .ok (.iload 10, 2) := by decide +kernel
theorem dL_refuses_595 : decode cL_refuses 595 = .ok (.iload_n 2, 1) := by decide +kernel
theorem dL_refuses_596 : decode cL_refuses 596 = .ok (.bipush 50, 2) := by decide +kernel
theorem dL_refuses_598 : decode cL_refuses 598 = .ok (.irem, 1) := by decide +kernel
theorem dL_refuses_599 : decode cL_refuses 599 = .ok (.iadd, 1) := by decide +kernel
theorem dL_refuses_600 : decode cL_refuses 600 = .ok (.istore 11, 2) := by decide +kernel
theorem dL_refuses_602 : decode cL_refuses 602 = .ok (.aload_n 0, 1) := by decide +kernel
theorem dL_refuses_603 : decode cL_refuses 603 = .ok (.iload 9, 2) := by decide +kernel
theorem dL_refuses_605 : decode cL_refuses 605 = .ok (.bipush 10, 2) := by decide +kernel
theorem dL_refuses_607 : decode cL_refuses 607 = .ok (.iload_n 2, 1) := by decide +kernel
theorem dL_refuses_608 : decode cL_refuses 608 = .ok (.iadd, 1) := by decide +kernel
theorem dL_refuses_609 : decode cL_refuses 609 = .ok (.iconst 0, 1) := by decide +kernel
theorem dL_refuses_610 : decode cL_refuses 610 = .ok (.iconst 0, 1) := by decide +kernel
theorem dL_refuses_611 : decode cL_refuses 611 = .ok (.iconst 1, 1) := by decide +kernel
theorem dL_refuses_612 : decode cL_refuses 612 = .ok (.invokestatic 87, 3) := by decide +kernel
theorem dL_refuses_615 : decode cL_refuses 615 = .ok (.ldc 18, 2) := by decide +kernel
theorem dL_refuses_617 : decode cL_refuses 617 = .ok (.if_icmp .ne 222, 3) := by decide +kernel
theorem dL_refuses_620 : decode cL_refuses 620 = .ok (.aload_n 0, 1) := by decide +kernel
theorem dL_refuses_621 : decode cL_refuses 621 = .ok (.iload 9, 2) := by decide +kernel
theorem dL_refuses_623 : decode cL_refuses 623 = .ok (.iconst 0, 1) := by decide +kernel
theorem dL_refuses_624 : decode cL_refuses 624 = .ok (.iconst (-1), 1) := by decide +kernel
theorem dL_refuses_625 : decode cL_refuses 625 = .ok (.iload_n 2, 1) := by decide +kernel
theorem dL_refuses_626 : decode cL_refuses 626 = .ok (.isub, 1) := by decide +kernel
theorem dL_refuses_627 : decode cL_refuses 627 = .ok (.iconst 0, 1) := by decide +kernel
theorem dL_refuses_628 : decode cL_refuses 628 = .ok (.iconst 1, 1) := by decide +kernel
theorem dL_refuses_629 : decode cL_refuses 629 = .ok (.invokestatic 87, 3) := by decide +kernel
theorem dL_refuses_632 : decode cL_refuses 632 = .ok (.ldc 18, 2) := by decide +kernel
theorem dL_refuses_634 : decode cL_refuses 634 = .ok (.if_icmp .ne 205, 3) := by decide +kernel
theorem dL_refuses_637 : decode cL_refuses 637 = .ok (.aload_n 0, 1) := by decide +kernel
theorem dL_refuses_638 : decode cL_refuses 638 = .ok (.iload 9, 2) := by decide +kernel
theorem dL_refuses_640 : decode cL_refuses 640 = .ok (.iconst 0, 1) := by decide +kernel
theorem dL_refuses_641 : decode cL_refuses 641 = .ok (.iconst 0, 1) := by decide +kernel
theorem dL_refuses_642 : decode cL_refuses 642 = .ok (.iconst 0, 1) := by decide +kernel
theorem dL_refuses_643 : decode cL_refuses 643 = .ok (.iconst 1, 1) := by decide +kernel
theorem dL_refuses_644 : decode cL_refuses 644 = .ok (.invokestatic 87, 3) := by decide +kernel
theorem dL_refuses_647 : decode cL_refuses 647 = .ok (.ldc 18, 2) := by decide +kernel
theorem dL_refuses_649 : decode cL_refuses 649 = .ok (.if_icmp .ne 190, 3) := by decide +kernel
theorem dL_refuses_652 : decode cL_refuses 652 = .ok (.aload_n 0, 1) := by decide +kernel
theorem dL_refuses_653 : decode cL_refuses 653 = .ok (.iload 9, 2) := by decide +kernel
theorem dL_refuses_655 : decode cL_refuses 655 = .ok (.iconst 1, 1) := by decide +kernel
theorem dL_refuses_656 : decode cL_refuses 656 = .ok (.iconst 0, 1) := by decide +kernel
theorem dL_refuses_657 : decode cL_refuses 657 = .ok (.iconst 4, 1) := by decide +kernel
theorem dL_refuses_658 : decode cL_refuses 658 = .ok (.iload_n 2, 1) := by decide +kernel
theorem dL_refuses_659 : decode cL_refuses 659 = .ok (.iadd, 1) := by decide +kernel
theorem dL_refuses_660 : decode cL_refuses 660 = .ok (.iconst 1, 1) := by decide +kernel
theorem dL_refuses_661 : decode cL_refuses 661 = .ok (.invokestatic 87, 3) := by decide +kernel
theorem dL_refuses_664 : decode cL_refuses 664 = .ok (.ldc 18, 2) := by decide +kernel
theorem dL_refuses_666 : decode cL_refuses 666 = .ok (.if_icmp .ne 173, 3) := by decide +kernel
theorem dL_refuses_669 : decode cL_refuses 669 = .ok (.aload_n 0, 1) := by decide +kernel
theorem dL_refuses_670 : decode cL_refuses 670 = .ok (.iload 9, 2) := by decide +kernel
theorem dL_refuses_672 : decode cL_refuses 672 = .ok (.iconst 1, 1) := by decide +kernel
theorem dL_refuses_673 : decode cL_refuses 673 = .ok (.iconst 0, 1) := by decide +kernel
theorem dL_refuses_674 : decode cL_refuses 674 = .ok (.bipush (-4), 2) := by decide +kernel
theorem dL_refuses_676 : decode cL_refuses 676 = .ok (.iload_n 2, 1) := by decide +kernel
theorem dL_refuses_677 : decode cL_refuses 677 = .ok (.isub, 1) := by decide +kernel
theorem dL_refuses_678 : decode cL_refuses 678 = .ok (.iconst 1, 1) := by decide +kernel
theorem dL_refuses_679 : decode cL_refuses 679 = .ok (.invokestatic 87, 3) := by decide +kernel
theorem dL_refuses_682 : decode cL_refuses 682 = .ok (.ldc 18, 2) := by decide +kernel
theorem dL_refuses_684 : decode cL_refuses 684 = .ok (.if_icmp .ne 155, 3) := by decide +kernel
theorem dL_refuses_687 : decode cL_refuses 687 = .ok (.aload_n 0, 1) := by decide +kernel
theorem dL_refuses_688 : decode cL_refuses 688 = .ok (.iload 9, 2) := by decide +kernel
theorem dL_refuses_690 : decode cL_refuses 690 = .ok (.iconst 1, 1) := by decide +kernel
theorem dL_refuses_691 : decode cL_refuses 691 = .ok (.iconst 0, 1) := by decide +kernel
theorem dL_refuses_692 : decode cL_refuses 692 = .ok (.iconst 0, 1) := by decide +kernel
theorem dL_refuses_693 : decode cL_refuses 693 = .ok (.iload_n 2, 1) := by decide +kernel
theorem dL_refuses_694 : decode cL_refuses 694 = .ok (.ineg, 1) := by decide +kernel
theorem dL_refuses_695 : decode cL_refuses 695 = .ok (.invokestatic 87, 3) := by decide +kernel
theorem dL_refuses_698 : decode cL_refuses 698 = .ok (.ldc 18, 2) := by decide +kernel
theorem dL_refuses_700 : decode cL_refuses 700 = .ok (.if_icmp .ne 139, 3) := by decide +kernel
theorem dL_refuses_703 : decode cL_refuses 703 = .ok (.aload_n 0, 1) := by decide +kernel
theorem dL_refuses_704 : decode cL_refuses 704 = .ok (.iload 9, 2) := by decide +kernel
theorem dL_refuses_706 : decode cL_refuses 706 = .ok (.iconst 1, 1) := by decide +kernel
theorem dL_refuses_707 : decode cL_refuses 707 = .ok (.iconst 0, 1) := by decide +kernel
theorem dL_refuses_708 : decode cL_refuses 708 = .ok (.iconst 0, 1) := by decide +kernel
theorem dL_refuses_709 : decode cL_refuses 709 = .ok (.bipush 21, 2) := by decide +kernel
theorem dL_refuses_711 : decode cL_refuses 711 = .ok (.iload_n 2, 1) := by decide +kernel
theorem dL_refuses_712 : decode cL_refuses 712 = .ok (.iadd, 1) := by decide +kernel
theorem dL_refuses_713 : decode cL_refuses 713 = .ok (.invokestatic 87, 3) := by decide +kernel
theorem dL_refuses_716 : decode cL_refuses 716 = .ok (.ldc 18, 2) := by decide +kernel
theorem dL_refuses_718 : decode cL_refuses 718 = .ok (.if_icmp .ne 121, 3) := by decide +kernel
theorem dL_refuses_721 : decode cL_refuses 721 = .ok (.aload_n 0, 1) := by decide +kernel
theorem dL_refuses_722 : decode cL_refuses 722 = .ok (.iload 9, 2) := by decide +kernel
theorem dL_refuses_724 : decode cL_refuses 724 = .ok (.iconst 4, 1) := by decide +kernel
theorem dL_refuses_725 : decode cL_refuses 725 = .ok (.iload_n 2, 1) := by decide +kernel
theorem dL_refuses_726 : decode cL_refuses 726 = .ok (.isub, 1) := by decide +kernel
theorem dL_refuses_727 : decode cL_refuses 727 = .ok (.invokestatic 91, 3) := by decide +kernel
theorem dL_refuses_730 : decode cL_refuses 730 = .ok (.ldc 18, 2) := by decide +kernel
theorem dL_refuses_732 : decode cL_refuses 732 = .ok (.if_icmp .ne 107, 3) := by decide +kernel
theorem dL_refuses_735 : decode cL_refuses 735 = .ok (.aload_n 0, 1) := by decide +kernel
theorem dL_refuses_736 : decode cL_refuses 736 = .ok (.iload 9, 2) := by decide +kernel
theorem dL_refuses_738 : decode cL_refuses 738 = .ok (.bipush 21, 2) := by decide +kernel
theorem dL_refuses_740 : decode cL_refuses 740 = .ok (.iload_n 2, 1) := by decide +kernel
theorem dL_refuses_741 : decode cL_refuses 741 = .ok (.iadd, 1) := by decide +kernel
theorem dL_refuses_742 : decode cL_refuses 742 = .ok (.invokestatic 91, 3) := by decide +kernel
theorem dL_refuses_745 : decode cL_refuses 745 = .ok (.ldc 18, 2) := by decide +kernel
theorem dL_refuses_747 : decode cL_refuses 747 = .ok (.if_icmp .ne 92, 3) := by decide +kernel
theorem dL_refuses_750 : decode cL_refuses 750 = .ok (.aload_n 0, 1) := by decide +kernel
theorem dL_refuses_751 : decode cL_refuses 751 = .ok (.iload 9, 2) := by decide +kernel
theorem dL_refuses_753 : decode cL_refuses 753 = .ok (.iload 11, 2) := by decide +kernel
theorem dL_refuses_755 : decode cL_refuses 755 = .ok (.iconst 0, 1) := by decide +kernel
theorem dL_refuses_756 : decode cL_refuses 756 = .ok (.invokestatic 103, 3) := by decide +kernel
theorem dL_refuses_759 : decode cL_refuses 759 = .ok (.ldc 15, 2) := by decide +kernel
theorem dL_refuses_761 : decode cL_refuses 761 = .ok (.if_icmp .ne 78, 3) := by decide +kernel
theorem dL_refuses_764 : decode cL_refuses 764 = .ok (.aload_n 0, 1) := by decide +kernel
theorem dL_refuses_765 : decode cL_refuses 765 = .ok (.iload 9, 2) := by decide +kernel
theorem dL_refuses_767 : decode cL_refuses 767 = .ok (.iconst 0, 1) := by decide +kernel
theorem dL_refuses_768 : decode cL_refuses 768 = .ok (.iconst (-1), 1) := by decide +kernel
theorem dL_refuses_769 : decode cL_refuses 769 = .ok (.iload_n 2, 1) := by decide +kernel
theorem dL_refuses_770 : decode cL_refuses 770 = .ok (.isub, 1) := by decide +kernel
theorem dL_refuses_771 : decode cL_refuses 771 = .ok (.invokestatic 103, 3) := by decide +kernel
theorem dL_refuses_774 : decode cL_refuses 774 = .ok (.ldc 15, 2) := by decide +kernel
theorem dL_refuses_776 : decode cL_refuses 776 = .ok (.if_icmp .ne 63, 3) := by decide +kernel
theorem dL_refuses_779 : decode cL_refuses 779 = .ok (.aload_n 0, 1) := by decide +kernel
theorem dL_refuses_780 : decode cL_refuses 780 = .ok (.iload 9, 2) := by decide +kernel
theorem dL_refuses_782 : decode cL_refuses 782 = .ok (.iload 11, 2) := by decide +kernel
theorem dL_refuses_784 : decode cL_refuses 784 = .ok (.iconst 0, 1) := by decide +kernel
theorem dL_refuses_785 : decode cL_refuses 785 = .ok (.invokestatic 105, 3) := by decide +kernel
theorem dL_refuses_788 : decode cL_refuses 788 = .ok (.ldc 15, 2) := by decide +kernel
theorem dL_refuses_790 : decode cL_refuses 790 = .ok (.if_icmp .ne 49, 3) := by decide +kernel
theorem dL_refuses_793 : decode cL_refuses 793 = .ok (.aload_n 0, 1) := by decide +kernel
theorem dL_refuses_794 : decode cL_refuses 794 = .ok (.iload 9, 2) := by decide +kernel
theorem dL_refuses_796 : decode cL_refuses 796 = .ok (.bipush 21, 2) := by decide +kernel
theorem dL_refuses_798 : decode cL_refuses 798 = .ok (.iload_n 2, 1) := by decide +kernel
theorem dL_refuses_799 : decode cL_refuses 799 = .ok (.iadd, 1) := by decide +kernel
theorem dL_refuses_800 : decode cL_refuses 800 = .ok (.invokestatic 108, 3) := by decide +kernel
theorem dL_refuses_803 : decode cL_refuses 803 = .ok (.ldc 18, 2) := by decide +kernel
theorem dL_refuses_805 : decode cL_refuses 805 = .ok (.if_icmp .ne 34, 3) := by decide +kernel
theorem dL_refuses_808 : decode cL_refuses 808 = .ok (.aload_n 0, 1) := by decide +kernel
theorem dL_refuses_809 : decode cL_refuses 809 = .ok (.iload 9, 2) := by decide +kernel
theorem dL_refuses_811 : decode cL_refuses 811 = .ok (.iconst 4, 1) := by decide +kernel
theorem dL_refuses_812 : decode cL_refuses 812 = .ok (.iload_n 2, 1) := by decide +kernel
theorem dL_refuses_813 : decode cL_refuses 813 = .ok (.isub, 1) := by decide +kernel
theorem dL_refuses_814 : decode cL_refuses 814 = .ok (.invokestatic 108, 3) := by decide +kernel
theorem dL_refuses_817 : decode cL_refuses 817 = .ok (.ldc 18, 2) := by decide +kernel
theorem dL_refuses_819 : decode cL_refuses 819 = .ok (.if_icmp .ne 20, 3) := by decide +kernel
theorem dL_refuses_822 : decode cL_refuses 822 = .ok (.aload_n 0, 1) := by decide +kernel
theorem dL_refuses_823 : decode cL_refuses 823 = .ok (.iload 9, 2) := by decide +kernel
theorem dL_refuses_825 : decode cL_refuses 825 = .ok (.iload 4, 2) := by decide +kernel
theorem dL_refuses_827 : decode cL_refuses 827 = .ok (.invokestatic 110, 3) := by decide +kernel
theorem dL_refuses_830 : decode cL_refuses 830 = .ok (.ldc 15, 2) := by decide +kernel
theorem dL_refuses_832 : decode cL_refuses 832 = .ok (.if_icmp .ne 7, 3) := by decide +kernel
theorem dL_refuses_835 : decode cL_refuses 835 = .ok (.iconst 1, 1) := by decide +kernel
theorem dL_refuses_836 : decode cL_refuses 836 = .ok (.goto 4, 3) := by decide +kernel
theorem dL_refuses_839 : decode cL_refuses 839 = .ok (.iconst 0, 1) := by decide +kernel
theorem dL_refuses_840 : decode cL_refuses 840 = .ok (.istore 8, 2) := by decide +kernel
theorem dL_refuses_842 : decode cL_refuses 842 = .ok (.aload_n 0, 1) := by decide +kernel
theorem dL_refuses_843 : decode cL_refuses 843 = .ok (.iload 9, 2) := by decide +kernel
theorem dL_refuses_845 : decode cL_refuses 845 = .ok (.invokestatic 99, 3) := by decide +kernel
theorem dL_refuses_848 : decode cL_refuses 848 = .ok (.istore 12, 2) := by decide +kernel
theorem dL_refuses_850 : decode cL_refuses 850 = .ok (.iload 8, 2) := by decide +kernel
theorem dL_refuses_852 : decode cL_refuses 852 = .ok (.ifCond .eq 113, 3) := by decide +kernel
theorem dL_refuses_855 : decode cL_refuses 855 = .ok (.iload 12, 2) := by decide +kernel
theorem dL_refuses_857 : decode cL_refuses 857 = .ok (.ifCond .ge 60, 3) := by decide +kernel
theorem dL_refuses_860 : decode cL_refuses 860 = .ok (.iload 10, 2) := by decide +kernel
theorem dL_refuses_862 : decode cL_refuses 862 = .ok (.ifCond .gt 27, 3) := by decide +kernel
theorem dL_refuses_865 : decode cL_refuses 865 = .ok (.aload_n 0, 1) := by decide +kernel
theorem dL_refuses_866 : decode cL_refuses 866 = .ok (.iload 9, 2) := by decide +kernel
theorem dL_refuses_868 : decode cL_refuses 868 = .ok (.invokestatic 95, 3) := by decide +kernel
theorem dL_refuses_871 : decode cL_refuses 871 = .ok (.ldc 21, 2) := by decide +kernel
theorem dL_refuses_873 : decode cL_refuses 873 = .ok (.if_icmp .ne 92, 3) := by decide +kernel
theorem dL_refuses_876 : decode cL_refuses 876 = .ok (.aload_n 0, 1) := by decide +kernel
theorem dL_refuses_877 : decode cL_refuses 877 = .ok (.iload 9, 2) := by decide +kernel
theorem dL_refuses_879 : decode cL_refuses 879 = .ok (.bipush 10, 2) := by decide +kernel
theorem dL_refuses_881 : decode cL_refuses 881 = .ok (.invokestatic 91, 3) := by decide +kernel
theorem dL_refuses_884 : decode cL_refuses 884 = .ok (.ldc 21, 2) := by decide +kernel
theorem dL_refuses_886 : decode cL_refuses 886 = .ok (.if_icmp .ne 79, 3) := by decide +kernel
theorem dL_refuses_889 : decode cL_refuses 889 = .ok (.aload_n 0, 1) := by decide +kernel
theorem dL_refuses_890 : decode cL_refuses 890 = .ok (.iload 9, 2) := by decide +kernel
theorem dL_refuses_892 : decode cL_refuses 892 = .ok (.iload_n 2, 1) := by decide +kernel
theorem dL_refuses_893 : decode cL_refuses 893 = .ok (.iconst 5, 1) := by decide +kernel
theorem dL_refuses_894 : decode cL_refuses 894 = .ok (.irem, 1) := by decide +kernel
theorem dL_refuses_895 : decode cL_refuses 895 = .ok (.invokestatic 110, 3) := by decide +kernel
theorem dL_refuses_898 : decode cL_refuses 898 = .ok (.ldc 21, 2) := by decide +kernel
theorem dL_refuses_900 : decode cL_refuses 900 = .ok (.if_icmp .ne 65, 3) := by decide +kernel
theorem dL_refuses_903 : decode cL_refuses 903 = .ok (.aload_n 0, 1) := by decide +kernel
theorem dL_refuses_904 : decode cL_refuses 904 = .ok (.iload 9, 2) := by decide +kernel
theorem dL_refuses_906 : decode cL_refuses 906 = .ok (.invokestatic 113, 3) := by decide +kernel
theorem dL_refuses_909 : decode cL_refuses 909 = .ok (.ldc 21, 2) := by decide +kernel
theorem dL_refuses_911 : decode cL_refuses 911 = .ok (.if_icmp .ne 54, 3) := by decide +kernel
theorem dL_refuses_914 : decode cL_refuses 914 = .ok (.goto 47, 3) := by decide +kernel
theorem dL_refuses_917 : decode cL_refuses 917 = .ok (.aload_n 0, 1) := by decide +kernel
theorem dL_refuses_918 : decode cL_refuses 918 = .ok (.iload 9, 2) := by decide +kernel
theorem dL_refuses_920 : decode cL_refuses 920 = .ok (.invokestatic 95, 3) := by decide +kernel
theorem dL_refuses_923 : decode cL_refuses 923 = .ok (.ldc 21, 2) := by decide +kernel
theorem dL_refuses_925 : decode cL_refuses 925 = .ok (.if_icmp .ne 40, 3) := by decide +kernel
theorem dL_refuses_928 : decode cL_refuses 928 = .ok (.aload_n 0, 1) := by decide +kernel
theorem dL_refuses_929 : decode cL_refuses 929 = .ok (.iload 9, 2) := by decide +kernel
theorem dL_refuses_931 : decode cL_refuses 931 = .ok (.iconst 1, 1) := by decide +kernel
theorem dL_refuses_932 : decode cL_refuses 932 = .ok (.iconst 0, 1) := by decide +kernel
theorem dL_refuses_933 : decode cL_refuses 933 = .ok (.iconst 0, 1) := by decide +kernel
theorem dL_refuses_934 : decode cL_refuses 934 = .ok (.iconst 1, 1) := by decide +kernel
theorem dL_refuses_935 : decode cL_refuses 935 = .ok (.invokestatic 87, 3) := by decide +kernel
theorem dL_refuses_938 : decode cL_refuses 938 = .ok (.ldc 21, 2) := by decide +kernel
theorem dL_refuses_940 : decode cL_refuses 940 = .ok (.if_icmp .ne 25, 3) := by decide +kernel
theorem dL_refuses_943 : decode cL_refuses 943 = .ok (.iload 12, 2) := by decide +kernel
theorem dL_refuses_945 : decode cL_refuses 945 = .ok (.iload 9, 2) := by decide +kernel
theorem dL_refuses_947 : decode cL_refuses 947 = .ok (.if_icmp .ne 14, 3) := by decide +kernel
theorem dL_refuses_950 : decode cL_refuses 950 = .ok (.aload_n 0, 1) := by decide +kernel
theorem dL_refuses_951 : decode cL_refuses 951 = .ok (.iload 9, 2) := by decide +kernel
theorem dL_refuses_953 : decode cL_refuses 953 = .ok (.invokestatic 113, 3) := by decide +kernel
theorem dL_refuses_956 : decode cL_refuses 956 = .ok (.ldc 21, 2) := by decide +kernel
theorem dL_refuses_958 : decode cL_refuses 958 = .ok (.if_icmp .ne 7, 3) := by decide +kernel
theorem dL_refuses_961 : decode cL_refuses 961 = .ok (.iconst 1, 1) := by decide +kernel
theorem dL_refuses_962 : decode cL_refuses 962 = .ok (.goto 4, 3) := by decide +kernel
theorem dL_refuses_965 : decode cL_refuses 965 = .ok (.iconst 0, 1) := by decide +kernel
theorem dL_refuses_966 : decode cL_refuses 966 = .ok (.istore 8, 2) := by decide +kernel
theorem dL_refuses_968 : decode cL_refuses 968 = .ok (.iload 8, 2) := by decide +kernel
theorem dL_refuses_970 : decode cL_refuses 970 = .ok (.ifCond .eq 54, 3) := by decide +kernel
theorem dL_refuses_973 : decode cL_refuses 973 = .ok (.aload_n 1, 1) := by decide +kernel
theorem dL_refuses_974 : decode cL_refuses 974 = .ok (.iconst 2, 1) := by decide +kernel
theorem dL_refuses_975 : decode cL_refuses 975 = .ok (.iaload, 1) := by decide +kernel
theorem dL_refuses_976 : decode cL_refuses 976 = .ok (.ifCond .le 48, 3) := by decide +kernel
theorem dL_refuses_979 : decode cL_refuses 979 = .ok (.aload_n 0, 1) := by decide +kernel
theorem dL_refuses_980 : decode cL_refuses 980 = .ok (.iload_n 2, 1) := by decide +kernel
theorem dL_refuses_981 : decode cL_refuses 981 = .ok (.iconst 2, 1) := by decide +kernel
theorem dL_refuses_982 : decode cL_refuses 982 = .ok (.idiv, 1) := by decide +kernel
theorem dL_refuses_983 : decode cL_refuses 983 = .ok (.aload_n 1, 1) := by decide +kernel
theorem dL_refuses_984 : decode cL_refuses 984 = .ok (.iconst 2, 1) := by decide +kernel
theorem dL_refuses_985 : decode cL_refuses 985 = .ok (.iaload, 1) := by decide +kernel
theorem dL_refuses_986 : decode cL_refuses 986 = .ok (.irem, 1) := by decide +kernel
theorem dL_refuses_987 : decode cL_refuses 987 = .ok (.bipush 41, 2) := by decide +kernel
theorem dL_refuses_989 : decode cL_refuses 989 = .ok (.iload_n 2, 1) := by decide +kernel
theorem dL_refuses_990 : decode cL_refuses 990 = .ok (.iadd, 1) := by decide +kernel
theorem dL_refuses_991 : decode cL_refuses 991 = .ok (.invokestatic 133, 3) := by decide +kernel
theorem dL_refuses_994 : decode cL_refuses 994 = .ok (.ldc 18, 2) := by decide +kernel
theorem dL_refuses_996 : decode cL_refuses 996 = .ok (.if_icmp .ne 25, 3) := by decide +kernel
theorem dL_refuses_999 : decode cL_refuses 999 = .ok (.aload_n 0, 1) := by decide +kernel
theorem dL_refuses_1000 : decode cL_refuses 1000 = .ok (.iload_n 2, 1) := by decide +kernel
theorem dL_refuses_1001 : decode cL_refuses 1001 = .ok (.iconst 2, 1) := by decide +kernel
theorem dL_refuses_1002 : decode cL_refuses 1002 = .ok (.idiv, 1) := by decide +kernel
theorem dL_refuses_1003 : decode cL_refuses 1003 = .ok (.aload_n 1, 1) := by decide +kernel
theorem dL_refuses_1004 : decode cL_refuses 1004 = .ok (.iconst 2, 1) := by decide +kernel
theorem dL_refuses_1005 : decode cL_refuses 1005 = .ok (.iaload, 1) := by decide +kernel
theorem dL_refuses_1006 : decode cL_refuses 1006 = .ok (.irem, 1) := by decide +kernel
theorem dL_refuses_1007 : decode cL_refuses 1007 = .ok (.iload_n 2, 1) := by decide +kernel
theorem dL_refuses_1008 : decode cL_refuses 1008 = .ok (.ineg, 1) := by decide +kernel
theorem dL_refuses_1009 : decode cL_refuses 1009 = .ok (.invokestatic 133, 3) := by decide +kernel
theorem dL_refuses_1012 : decode cL_refuses 1012 = .ok (.ldc 18, 2) := by decide +kernel
theorem dL_refuses_1014 : decode cL_refuses 1014 = .ok (.if_icmp .ne 7, 3) := by decide +kernel
theorem dL_refuses_1017 : decode cL_refuses 1017 = .ok (.iconst 1, 1) := by decide +kernel
theorem dL_refuses_1018 : decode cL_refuses 1018 = .ok (.goto 4, 3) := by decide +kernel
theorem dL_refuses_1021 : decode cL_refuses 1021 = .ok (.iconst 0, 1) := by decide +kernel
theorem dL_refuses_1022 : decode cL_refuses 1022 = .ok (.istore 8, 2) := by decide +kernel
theorem dL_refuses_1024 : decode cL_refuses 1024 = .ok (.iload 8, 2) := by decide +kernel
theorem dL_refuses_1026 : decode cL_refuses 1026 = .ok (.ifCond .eq 32, 3) := by decide +kernel
theorem dL_refuses_1029 : decode cL_refuses 1029 = .ok (.aload_n 1, 1) := by decide +kernel
theorem dL_refuses_1030 : decode cL_refuses 1030 = .ok (.iconst 1, 1) := by decide +kernel
theorem dL_refuses_1031 : decode cL_refuses 1031 = .ok (.iaload, 1) := by decide +kernel
theorem dL_refuses_1032 : decode cL_refuses 1032 = .ok (.ifCond .eq 22, 3) := by decide +kernel
theorem dL_refuses_1035 : decode cL_refuses 1035 = .ok (.aload_n 0, 1) := by decide +kernel
theorem dL_refuses_1036 : decode cL_refuses 1036 = .ok (.iload_n 2, 1) := by decide +kernel
theorem dL_refuses_1037 : decode cL_refuses 1037 = .ok (.aload_n 1, 1) := by decide +kernel
theorem dL_refuses_1038 : decode cL_refuses 1038 = .ok (.iconst 1, 1) := by decide +kernel
theorem dL_refuses_1039 : decode cL_refuses 1039 = .ok (.iaload, 1) := by decide +kernel
theorem dL_refuses_1040 : decode cL_refuses 1040 = .ok (.irem, 1) := by decide +kernel
theorem dL_refuses_1041 : decode cL_refuses 1041 = .ok (.iload_n 2, 1) := by decide +kernel
theorem dL_refuses_1042 : decode cL_refuses 1042 = .ok (.aload_n 1, 1) := by decide +kernel
theorem dL_refuses_1043 : decode cL_refuses 1043 = .ok (.iconst 1, 1) := by decide +kernel
theorem dL_refuses_1044 : decode cL_refuses 1044 = .ok (.iaload, 1) := by decide +kernel
theorem dL_refuses_1045 : decode cL_refuses 1045 = .ok (.irem, 1) := by decide +kernel
theorem dL_refuses_1046 : decode cL_refuses 1046 = .ok (.invokestatic 122, 3) := by decide +kernel
theorem dL_refuses_1049 : decode cL_refuses 1049 = .ok (.ldc 21, 2) := by decide +kernel
theorem dL_refuses_1051 : decode cL_refuses 1051 = .ok (.if_icmp .ne 7, 3) := by decide +kernel
theorem dL_refuses_1054 : decode cL_refuses 1054 = .ok (.iconst 1, 1) := by decide +kernel
theorem dL_refuses_1055 : decode cL_refuses 1055 = .ok (.goto 4, 3) := by decide +kernel
theorem dL_refuses_1058 : decode cL_refuses 1058 = .ok (.iconst 0, 1) := by decide +kernel
theorem dL_refuses_1059 : decode cL_refuses 1059 = .ok (.ireturn, 1) := by decide +kernel
