set_option maxRecDepth 20000 in
theorem gp_ends_c : GoodIn wsL_law [Cond.code yL_ends cL_ends 18 (some .boolean)] := goodIn_r _ [491] rfl (by decide +kernel)
set_option maxRecDepth 20000 in
theorem gp_wsL_ends_r1 : GoodIn wsL_law wsL_ends_r1 := goodIn_r _ [50, 42, 43, 35, 44, 45, 46, 47, 48, 49, 51, 52, 53, 2, 54, 55, 56, 57, 58, 59, 60, 61, 62, 63] rfl (by decide +kernel)
set_option maxRecDepth 20000 in
theorem gp_wsL_ends_r2 : GoodIn wsL_law wsL_ends_r2 := goodIn_r _ [64, 65, 66, 67, 68, 69, 70, 71, 13, 72, 73, 74, 12, 75, 76, 77, 78, 79, 80, 81, 82, 83, 84, 85] rfl (by decide +kernel)
set_option maxRecDepth 20000 in
theorem gp_wsL_ends_r3 : GoodIn wsL_law wsL_ends_r3 := goodIn_r _ [86, 87, 8, 9, 88, 89, 90, 91, 92, 93, 94, 95, 96, 97, 98, 99, 100, 101, 102, 103, 104, 105, 106, 107] rfl (by decide +kernel)
set_option maxRecDepth 20000 in
theorem gp_wsL_ends_r4 : GoodIn wsL_law wsL_ends_r4 := goodIn_r _ [3, 108, 109, 110, 111, 112, 113, 114, 115, 116, 117, 118, 119, 120, 121, 122, 123, 124, 125, 126, 127, 22, 128, 129] rfl (by decide +kernel)
set_option maxRecDepth 20000 in
theorem gp_wsL_ends_r5 : GoodIn wsL_law wsL_ends_r5 := goodIn_r _ [130, 131, 132, 133, 134, 135, 136, 137, 138, 139, 21, 140, 141, 142, 143, 144, 145, 146, 147, 148, 149, 150, 151, 152] rfl (by decide +kernel)
set_option maxRecDepth 20000 in
theorem gp_wsL_ends_r6 : GoodIn wsL_law wsL_ends_r6 := goodIn_r _ [153, 154, 155, 156, 157, 158, 159, 160, 161, 162, 163, 164, 165, 166, 167, 168, 169, 170, 171, 172, 173, 174, 175, 176] rfl (by decide +kernel)
set_option maxRecDepth 20000 in
theorem gp_wsL_ends_r7 : GoodIn wsL_law wsL_ends_r7 := goodIn_r _ [177, 178, 179, 180, 181, 182, 183, 184, 185, 186, 187, 188, 189, 190, 191, 192, 193, 194, 195, 196, 197, 198, 199, 200] rfl (by decide +kernel)
set_option maxRecDepth 20000 in
theorem gp_wsL_ends_r8 : GoodIn wsL_law wsL_ends_r8 := goodIn_r _ [201, 202, 203, 204, 205, 206, 207, 208, 209, 210, 211, 212, 213, 214, 215, 216, 217, 218, 219, 220, 221, 222, 223, 224] rfl (by decide +kernel)
set_option maxRecDepth 20000 in
theorem gp_wsL_ends_r9 : GoodIn wsL_law wsL_ends_r9 := goodIn_r _ [225, 226, 227, 228, 229, 230, 231, 232, 233, 234, 235, 272, 273, 274, 275, 276, 277, 278, 279, 14, 250, 251, 252, 253] rfl (by decide +kernel)
set_option maxRecDepth 20000 in
theorem gp_wsL_ends_r10 : GoodIn wsL_law wsL_ends_r10 := goodIn_r _ [280, 281, 282, 283, 284, 285, 286, 287, 406, 407, 408, 409, 410, 411, 412, 460, 461, 462, 463, 464, 465, 466, 17, 449] rfl (by decide +kernel)
set_option maxRecDepth 20000 in
theorem gp_wsL_ends_r11 : GoodIn wsL_law wsL_ends_r11 := goodIn_r _ [450, 451, 452, 453, 454, 455, 247, 248, 249, 456, 457, 458, 459, 288, 289, 290, 291, 292, 293, 294, 295, 296, 297, 246] rfl (by decide +kernel)
set_option maxRecDepth 20000 in
theorem gp_wsL_ends_r12 : GoodIn wsL_law wsL_ends_r12 := goodIn_r _ [245, 298, 299, 300, 301, 302, 303, 304, 305, 306, 307, 308, 309, 310, 311, 312, 313, 314, 315, 316, 15, 317, 318, 319] rfl (by decide +kernel)
set_option maxRecDepth 20000 in
theorem gp_wsL_ends_r13 : GoodIn wsL_law wsL_ends_r13 := goodIn_r _ [320, 321, 322, 323, 324, 325, 326, 327, 341, 342, 343, 344, 345, 346, 347, 16, 335, 348, 349, 350, 336, 337, 338, 339] rfl (by decide +kernel)
set_option maxRecDepth 20000 in
theorem gp_wsL_ends_r14 : GoodIn wsL_law wsL_ends_r14 := goodIn_r _ [340, 351, 352, 353, 354, 355, 356, 357, 358, 467, 468, 469, 470, 471, 472, 473, 474, 374, 375, 376, 377, 378, 379, 380] rfl (by decide +kernel)
set_option maxRecDepth 20000 in
theorem gp_wsL_ends_r15 : GoodIn wsL_law wsL_ends_r15 := goodIn_r _ [369, 370, 371, 372, 373, 381, 382, 383, 384, 385, 386, 387, 388, 389, 390, 391, 392, 393, 394, 395, 396, 397, 398, 399] rfl (by decide +kernel)
set_option maxRecDepth 20000 in
theorem gp_wsL_ends_r16 : GoodIn wsL_law wsL_ends_r16 := goodIn_r _ [400, 401, 475, 476, 477, 478, 479, 480, 481, 482, 359, 360, 361, 362, 363, 364, 365, 366, 367, 368] rfl (by decide +kernel)
set_option maxRecDepth 20000 in
theorem gp_ends_X2 : GoodIn wsL_law wsX20 := goodIn_r _ [500, 501, 502, 503, 504, 505, 506, 507, 508] rfl (by decide +kernel)
set_option maxRecDepth 20000 in
theorem gp_ends_X5 : GoodIn wsL_law wsX50 := goodIn_r _ [492, 493, 494, 495, 496] rfl (by decide +kernel)
set_option maxRecDepth 20000 in
theorem gp_ends_Jx4a65c : GoodIn wsL_law wsJx4a65c0 := goodIn_r _ [497, 498, 499] rfl (by decide +kernel)
set_option maxRecDepth 20000 in
theorem gp_ends_X3 : GoodIn wsL_law wsX30 := goodIn_r _ [509, 510, 511, 512, 513, 514] rfl (by decide +kernel)
set_option maxRecDepth 20000 in
theorem gp_ends_X0 : GoodIn wsL_law wsX00 := goodIn_r _ [515, 516, 517, 518] rfl (by decide +kernel)
set_option maxRecDepth 20000 in
theorem gp_ends_X1 : GoodIn wsL_law wsX10 := goodIn_r _ [519, 520, 521, 522] rfl (by decide +kernel)
set_option maxRecDepth 20000 in
theorem gp_ends_X4 : GoodIn wsL_law wsX40 := goodIn_r _ [523, 524, 525, 526] rfl (by decide +kernel)
set_option maxRecDepth 20000 in
theorem ggL_law_L_ends : GoodIn wsL_law wsL_ends := goodIn_ca (goodIn_ca (goodIn_ca (goodIn_ca (goodIn_ca (goodIn_ca (goodIn_ca (goodIn_ca (goodIn_ca (goodIn_ca (goodIn_cc gp_ends_c (goodIn_app gp_wsL_ends_r1 (goodIn_app gp_wsL_ends_r2 (goodIn_app gp_wsL_ends_r3 (goodIn_app gp_wsL_ends_r4 (goodIn_app gp_wsL_ends_r5 (goodIn_app gp_wsL_ends_r6 (goodIn_app gp_wsL_ends_r7 (goodIn_app gp_wsL_ends_r8 (goodIn_app gp_wsL_ends_r9 (goodIn_app gp_wsL_ends_r10 (goodIn_app gp_wsL_ends_r11 (goodIn_app gp_wsL_ends_r12 (goodIn_app gp_wsL_ends_r13 (goodIn_app gp_wsL_ends_r14 (goodIn_app gp_wsL_ends_r15 gp_wsL_ends_r16)))))))))))))))) gp_ends_X2) gp_ends_X5) gp_ends_Jx4a65c) gp_ends_X3) gp_ends_X0) gp_ends_X1) gp_ends_X4) (goodIn_sub (fun _ h => List.mem_append_left _ (List.mem_append_left _ (List.mem_append_right _ h))) (by decide +kernel))) (goodIn_sub (fun _ h => List.mem_append_left _ (List.mem_append_right _ h)) (by decide +kernel))) (goodIn_sub (fun _ h => List.mem_append_right _ h) (by decide +kernel))
set_option maxRecDepth 20000 in
theorem gL_law_L_ends : GoodIn wsL_law (va_wsS RL 158 yL_ends wsL_ends) := goodIn_app (goodIn_of _ (by decide +kernel)) ggL_law_L_ends
