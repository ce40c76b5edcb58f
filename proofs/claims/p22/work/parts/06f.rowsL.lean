set_option maxRecDepth 20000 in
theorem gp_refuses_c : GoodIn wsL_law [Cond.code yL_refuses cL_refuses 13 (some .boolean)] := goodIn_r _ [404] rfl (by decide +kernel)
set_option maxRecDepth 20000 in
theorem gp_wsL_refuses_r1 : GoodIn wsL_law wsL_refuses_r1 := goodIn_r _ [48, 49, 405, 50, 42, 43, 35, 44, 45, 46, 47, 51, 52, 53, 2, 54, 55, 56, 57, 58, 59, 60, 61, 62] rfl (by decide +kernel)
set_option maxRecDepth 20000 in
theorem gp_wsL_refuses_r2 : GoodIn wsL_law wsL_refuses_r2 := goodIn_r _ [63, 64, 65, 66, 67, 68, 69, 70, 71, 13, 72, 73, 74, 12, 75, 76, 77, 78, 79, 80, 81, 82, 83, 84] rfl (by decide +kernel)
set_option maxRecDepth 20000 in
theorem gp_wsL_refuses_r3 : GoodIn wsL_law wsL_refuses_r3 := goodIn_r _ [85, 86, 87, 8, 9, 88, 89, 90, 91, 92, 93, 94, 95, 96, 97, 98, 99, 100, 101, 102, 103, 104, 105, 106] rfl (by decide +kernel)
set_option maxRecDepth 20000 in
theorem gp_wsL_refuses_r4 : GoodIn wsL_law wsL_refuses_r4 := goodIn_r _ [107, 3, 108, 109, 110, 111, 112, 113, 114, 115, 116, 117, 118, 119, 120, 121, 122, 123, 124, 125, 126, 127, 22, 128] rfl (by decide +kernel)
set_option maxRecDepth 20000 in
theorem gp_wsL_refuses_r5 : GoodIn wsL_law wsL_refuses_r5 := goodIn_r _ [129, 130, 131, 132, 133, 134, 135, 136, 137, 138, 139, 21, 140, 141, 142, 143, 144, 145, 146, 147, 148, 149, 150, 151] rfl (by decide +kernel)
set_option maxRecDepth 20000 in
theorem gp_wsL_refuses_r6 : GoodIn wsL_law wsL_refuses_r6 := goodIn_r _ [152, 153, 154, 155, 156, 157, 158, 159, 160, 161, 162, 163, 164, 165, 166, 167, 168, 169, 170, 171, 172, 173, 174, 175] rfl (by decide +kernel)
set_option maxRecDepth 20000 in
theorem gp_wsL_refuses_r7 : GoodIn wsL_law wsL_refuses_r7 := goodIn_r _ [176, 177, 178, 179, 180, 181, 182, 183, 184, 185, 186, 187, 188, 189, 190, 191, 192, 193, 194, 195, 196, 197, 198, 199] rfl (by decide +kernel)
set_option maxRecDepth 20000 in
theorem gp_wsL_refuses_r8 : GoodIn wsL_law wsL_refuses_r8 := goodIn_r _ [200, 201, 202, 203, 204, 205, 206, 207, 208, 209, 210, 211, 212, 213, 214, 215, 216, 217, 218, 219, 220, 221, 222, 223] rfl (by decide +kernel)
set_option maxRecDepth 20000 in
theorem gp_wsL_refuses_r9 : GoodIn wsL_law wsL_refuses_r9 := goodIn_r _ [224, 225, 226, 227, 228, 229, 230, 231, 232, 233, 234, 235, 236, 237, 238, 239, 240, 241, 242, 243, 244, 245, 246, 247] rfl (by decide +kernel)
set_option maxRecDepth 20000 in
theorem gp_wsL_refuses_r10 : GoodIn wsL_law wsL_refuses_r10 := goodIn_r _ [248, 249, 250, 251, 252, 253, 254, 255, 256, 257, 258, 259, 260, 261, 262, 263, 264, 265, 266, 267, 268, 269, 270, 271] rfl (by decide +kernel)
set_option maxRecDepth 20000 in
theorem gp_wsL_refuses_r11 : GoodIn wsL_law wsL_refuses_r11 := goodIn_r _ [272, 273, 274, 275, 276, 277, 278, 279, 14, 280, 281, 282, 283, 284, 285, 286, 287, 406, 407, 408, 409, 410, 411, 412] rfl (by decide +kernel)
set_option maxRecDepth 20000 in
theorem gp_wsL_refuses_r12 : GoodIn wsL_law wsL_refuses_r12 := goodIn_r _ [413, 414, 415, 416, 417, 418, 419, 420, 421, 422, 423, 424, 425, 426, 427, 428, 429, 430, 431, 432, 433, 434, 435, 436] rfl (by decide +kernel)
set_option maxRecDepth 20000 in
theorem gp_wsL_refuses_r13 : GoodIn wsL_law wsL_refuses_r13 := goodIn_r _ [437, 438, 439, 440, 441, 442, 443, 444, 445, 446, 447, 448, 449, 450, 451, 452, 453, 454, 455, 456, 457, 458, 459, 288] rfl (by decide +kernel)
set_option maxRecDepth 20000 in
theorem gp_wsL_refuses_r14 : GoodIn wsL_law wsL_refuses_r14 := goodIn_r _ [289, 290, 291, 292, 293, 294, 295, 296, 297, 17, 298, 299, 300, 301, 302, 303, 304, 305, 306, 307, 308, 460, 461, 462] rfl (by decide +kernel)
set_option maxRecDepth 20000 in
theorem gp_wsL_refuses_r15 : GoodIn wsL_law wsL_refuses_r15 := goodIn_r _ [463, 464, 465, 466, 309, 310, 311, 312, 313, 314, 315, 316, 15, 317, 318, 319, 320, 321, 322, 323, 324, 325, 326, 327] rfl (by decide +kernel)
set_option maxRecDepth 20000 in
theorem gp_wsL_refuses_r16 : GoodIn wsL_law wsL_refuses_r16 := goodIn_r _ [328, 329, 330, 331, 332, 333, 334, 335, 336, 337, 338, 339, 340, 467, 468, 469, 470, 471, 472, 473, 474, 341, 342, 343] rfl (by decide +kernel)
set_option maxRecDepth 20000 in
theorem gp_wsL_refuses_r17 : GoodIn wsL_law wsL_refuses_r17 := goodIn_r _ [344, 345, 346, 347, 16, 348, 349, 350, 351, 352, 353, 354, 355, 356, 357, 358, 359, 360, 361, 362, 363, 364, 365, 366] rfl (by decide +kernel)
set_option maxRecDepth 20000 in
theorem gp_wsL_refuses_r18 : GoodIn wsL_law wsL_refuses_r18 := goodIn_r _ [367, 368, 369, 370, 371, 372, 373, 374, 375, 376, 377, 378, 379, 380, 381, 382, 383, 384, 385, 386, 387, 388, 389, 390] rfl (by decide +kernel)
set_option maxRecDepth 20000 in
theorem gp_wsL_refuses_r19 : GoodIn wsL_law wsL_refuses_r19 := goodIn_r _ [391, 392, 393, 394, 395, 396, 397, 398, 399, 400, 401, 475, 476, 477, 478, 479, 480, 481, 482] rfl (by decide +kernel)
set_option maxRecDepth 20000 in
theorem gp_refuses_X2 : GoodIn wsL_law wsX20 := goodIn_r _ [500, 501, 502, 503, 504, 505, 506, 507, 508] rfl (by decide +kernel)
set_option maxRecDepth 20000 in
theorem gp_refuses_X5 : GoodIn wsL_law wsX50 := goodIn_r _ [492, 493, 494, 495, 496] rfl (by decide +kernel)
set_option maxRecDepth 20000 in
theorem gp_refuses_Jx4a65c : GoodIn wsL_law wsJx4a65c0 := goodIn_r _ [497, 498, 499] rfl (by decide +kernel)
set_option maxRecDepth 20000 in
theorem gp_refuses_X3 : GoodIn wsL_law wsX30 := goodIn_r _ [509, 510, 511, 512, 513, 514] rfl (by decide +kernel)
set_option maxRecDepth 20000 in
theorem gp_refuses_X0 : GoodIn wsL_law wsX00 := goodIn_r _ [515, 516, 517, 518] rfl (by decide +kernel)
set_option maxRecDepth 20000 in
theorem gp_refuses_X1 : GoodIn wsL_law wsX10 := goodIn_r _ [519, 520, 521, 522] rfl (by decide +kernel)
set_option maxRecDepth 20000 in
theorem gp_refuses_X4 : GoodIn wsL_law wsX40 := goodIn_r _ [523, 524, 525, 526] rfl (by decide +kernel)
set_option maxRecDepth 20000 in
theorem ggL_law_L_refuses : GoodIn wsL_law wsL_refuses := goodIn_ca (goodIn_ca (goodIn_ca (goodIn_ca (goodIn_ca (goodIn_ca (goodIn_ca (goodIn_ca (goodIn_ca (goodIn_ca (goodIn_cc gp_refuses_c (goodIn_app gp_wsL_refuses_r1 (goodIn_app gp_wsL_refuses_r2 (goodIn_app gp_wsL_refuses_r3 (goodIn_app gp_wsL_refuses_r4 (goodIn_app gp_wsL_refuses_r5 (goodIn_app gp_wsL_refuses_r6 (goodIn_app gp_wsL_refuses_r7 (goodIn_app gp_wsL_refuses_r8 (goodIn_app gp_wsL_refuses_r9 (goodIn_app gp_wsL_refuses_r10 (goodIn_app gp_wsL_refuses_r11 (goodIn_app gp_wsL_refuses_r12 (goodIn_app gp_wsL_refuses_r13 (goodIn_app gp_wsL_refuses_r14 (goodIn_app gp_wsL_refuses_r15 (goodIn_app gp_wsL_refuses_r16 (goodIn_app gp_wsL_refuses_r17 (goodIn_app gp_wsL_refuses_r18 gp_wsL_refuses_r19))))))))))))))))))) gp_refuses_X2) gp_refuses_X5) gp_refuses_Jx4a65c) gp_refuses_X3) gp_refuses_X0) gp_refuses_X1) gp_refuses_X4) (goodIn_sub (fun _ h => List.mem_append_left _ (List.mem_append_left _ (List.mem_append_right _ h))) (by decide +kernel))) (goodIn_sub (fun _ h => List.mem_append_left _ (List.mem_append_right _ h)) (by decide +kernel))) (goodIn_sub (fun _ h => List.mem_append_right _ h) (by decide +kernel))
set_option maxRecDepth 20000 in
theorem gL_law_L_refuses : GoodIn wsL_law (va_wsS RL 147 yL_refuses wsL_refuses) := goodIn_app (goodIn_of _ (by decide +kernel)) ggL_law_L_refuses
