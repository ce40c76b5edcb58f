set_option maxRecDepth 20000 in
theorem wsL_law0_r1_in : ∀ w ∈ wsL_law0_r1, w ∈ lw_tbl := tb_of [36, 37, 15, 86, 38, 39, 40, 41, 42, 43, 44, 45, 18, 70, 71, 72, 73, 74, 46, 47, 48, 56, 58, 49] rfl
set_option maxRecDepth 20000 in
theorem wsL_law0_r2_in : ∀ w ∈ wsL_law0_r2, w ∈ lw_tbl := tb_of [50, 17, 51, 60, 52, 53, 16, 54, 55, 87, 88, 14, 89, 90, 91, 701, 702, 703, 95, 96, 97, 98, 99, 100] rfl
set_option maxRecDepth 20000 in
theorem wsL_law0_r3_in : ∀ w ∈ wsL_law0_r3, w ∈ lw_tbl := tb_of [377, 378, 379, 101, 102, 103, 104, 283, 105, 106, 107, 108, 22, 176, 177, 178, 179, 23, 195, 197, 1, 198, 203, 24] rfl
set_option maxRecDepth 20000 in
theorem wsL_law0_r4_in : ∀ w ∈ wsL_law0_r4, w ∈ lw_tbl := tb_of [199, 200, 201, 202, 59, 219, 221, 2, 222, 223, 224, 25, 225, 226, 227, 228, 259, 293, 295, 297, 299, 282, 284, 286] rfl
set_option maxRecDepth 20000 in
theorem wsL_law0_r5_in : ∀ w ∈ wsL_law0_r5, w ∈ lw_tbl := tb_of [229, 230, 26, 288, 260, 261, 27, 290, 231, 232, 233, 234, 237, 239, 241, 243, 244, 235, 262, 263, 264, 265, 266, 270] rfl
set_option maxRecDepth 20000 in
theorem wsL_law0_r6_in : ∀ w ∈ wsL_law0_r6, w ∈ lw_tbl := tb_of [271, 272, 320, 321, 322, 323, 61, 62, 324, 326, 3, 327, 328, 330, 4, 331, 332, 334, 5, 335, 375, 340, 29, 341] rfl
set_option maxRecDepth 20000 in
theorem wsL_law0_r7_in : ∀ w ∈ wsL_law0_r7, w ∈ lw_tbl := tb_of [376, 336, 337, 28, 338, 339, 342, 343, 344, 345, 346, 347, 30, 348, 349, 727, 350, 362, 363, 364, 365, 366, 368, 369] rfl
set_option maxRecDepth 20000 in
theorem wsL_law0_r8_in : ∀ w ∈ wsL_law0_r8, w ∈ lw_tbl := tb_of [370, 371, 372, 374, 373, 31, 380, 381, 382, 383, 384, 385, 386, 292, 268, 387, 389, 6, 390, 223, 392, 393, 394, 395] rfl
set_option maxRecDepth 20000 in
theorem wsL_law0_r9_in : ∀ w ∈ wsL_law0_r9, w ∈ lw_tbl := tb_of [396, 397, 32, 398, 399, 400, 33, 401, 402, 403, 404, 405, 407, 408, 409, 410, 411, 412, 413, 414, 269, 416, 417, 418] rfl
set_option maxRecDepth 20000 in
theorem wsL_law0_r10_in : ∀ w ∈ wsL_law0_r10, w ∈ lw_tbl := tb_of [419, 420, 421, 422, 423, 424, 425, 426, 427, 428, 430, 7, 431, 433, 434, 435, 436, 437, 438, 439, 440, 441, 442, 443] rfl
set_option maxRecDepth 20000 in
theorem wsL_law0_r11_in : ∀ w ∈ wsL_law0_r11, w ∈ lw_tbl := tb_of [444, 445, 446, 289, 236, 285, 287, 447, 448, 449, 450, 451, 452, 453, 454, 455, 456, 457, 458, 459, 460, 461, 465, 463] rfl
set_option maxRecDepth 20000 in
theorem wsL_law0_r12_in : ∀ w ∈ wsL_law0_r12, w ∈ lw_tbl := tb_of [464, 467, 468, 469, 470, 471, 472, 473, 474, 475, 476, 477, 478, 479, 480, 296, 482, 484, 8, 485, 486, 487, 488, 489] rfl
set_option maxRecDepth 20000 in
theorem wsL_law0_r13_in : ∀ w ∈ wsL_law0_r13, w ∈ lw_tbl := tb_of [546, 547, 548, 549, 550, 551, 552, 300, 294, 298, 553, 554, 555, 556, 558, 559, 560, 561, 562, 563, 564, 573, 574, 575] rfl
set_option maxRecDepth 20000 in
theorem wsL_law0_r14_in : ∀ w ∈ wsL_law0_r14, w ∈ lw_tbl := tb_of [576, 577, 578, 579, 580, 582, 583, 34, 584, 585, 586, 587, 588, 590, 592, 595, 608, 609, 610, 611, 612, 613, 614, 594] rfl
set_option maxRecDepth 20000 in
theorem wsL_law0_r15_in : ∀ w ∈ wsL_law0_r15, w ∈ lw_tbl := tb_of [615, 617, 10, 618, 582, 628, 629, 630, 631, 632, 633, 634, 636, 637, 35, 638, 639, 640, 641, 647, 642, 644, 645, 658] rfl
set_option maxRecDepth 20000 in
theorem wsL_law0_r16_in : ∀ w ∈ wsL_law0_r16, w ∈ lw_tbl := tb_of [659, 660, 661, 662, 663, 664, 643, 646, 589, 665, 667, 11, 668, 636, 671, 672, 673, 674, 675, 676, 677, 678, 679, 680] rfl
set_option maxRecDepth 20000 in
theorem wsL_law0_r17_in : ∀ w ∈ wsL_law0_r17, w ∈ lw_tbl := tb_of [681, 596, 682, 684, 12, 685, 291, 267, 593, 686, 688, 13, 689, 591, 690, 691, 692, 693, 92, 93, 94, 607, 490, 491] rfl
set_option maxRecDepth 20000 in
theorem wsL_law0_r18_in : ∀ w ∈ wsL_law0_r18, w ∈ lw_tbl := tb_of [492, 493, 494, 495, 496, 497, 498, 499, 500, 501, 502, 503, 504, 505, 506, 507, 508, 509, 510, 511, 512, 513, 515, 516] rfl
set_option maxRecDepth 20000 in
theorem wsL_law0_r19_in : ∀ w ∈ wsL_law0_r19, w ∈ lw_tbl := tb_of [517, 518, 519, 520, 521, 522, 523, 524, 525, 526, 527, 528, 529, 530, 532, 9, 533, 535, 536, 537, 538, 539, 540, 541] rfl
set_option maxRecDepth 20000 in
theorem wsL_law0_r20_in : ∀ w ∈ wsL_law0_r20, w ∈ lw_tbl := tb_of [542, 543, 544, 545, 566, 567, 568, 569, 570, 571, 572, 621, 622, 623, 624, 625, 626, 627, 597, 694, 695, 696, 697, 698] rfl
set_option maxRecDepth 20000 in
theorem wsL_law0_r21_in : ∀ w ∈ wsL_law0_r21, w ∈ lw_tbl := tb_of [699, 700, 648, 704, 705, 706, 707, 708, 709, 710, 711, 712] rfl
set_option maxRecDepth 20000 in
theorem tbX_X5 : ∀ w ∈ wsX50, w ∈ lw_tbl := tb_of [75, 77, 79, 81, 83] rfl
set_option maxRecDepth 20000 in
theorem tbX_Jx4a65c : ∀ w ∈ wsJx4a65c0, w ∈ lw_tbl := tb_of [67, 63, 65] rfl
set_option maxRecDepth 20000 in
theorem tbX_X2 : ∀ w ∈ wsX20, w ∈ lw_tbl := tb_of [301, 303, 305, 307, 309, 311, 313, 315, 317] rfl
set_option maxRecDepth 20000 in
theorem tbX_X3 : ∀ w ∈ wsX30, w ∈ lw_tbl := tb_of [246, 248, 250, 252, 254, 256] rfl
set_option maxRecDepth 20000 in
theorem tbX_X0 : ∀ w ∈ wsX00, w ∈ lw_tbl := tb_of [273, 275, 277, 279] rfl
set_option maxRecDepth 20000 in
theorem tbX_X1 : ∀ w ∈ wsX10, w ∈ lw_tbl := tb_of [598, 600, 602, 604] rfl
set_option maxRecDepth 20000 in
theorem tbX_X4 : ∀ w ∈ wsX40, w ∈ lw_tbl := tb_of [649, 651, 653, 655] rfl
theorem tb_app {a b : List Cond} (ha : ∀ w ∈ a, w ∈ lw_tbl) (hb : ∀ w ∈ b, w ∈ lw_tbl) : ∀ w ∈ a ++ b, w ∈ lw_tbl := fun w h => (List.mem_append.mp h).elim (ha w) (hb w)
theorem wsL_law_in0 : ∀ w ∈ wsL_law0, w ∈ lw_tbl := tb_app (tb_app (tb_app (tb_app (tb_app (tb_app (tb_app (tb_app (tb_app wsL_law0_r1_in (tb_app wsL_law0_r2_in (tb_app wsL_law0_r3_in (tb_app wsL_law0_r4_in (tb_app wsL_law0_r5_in (tb_app wsL_law0_r6_in (tb_app wsL_law0_r7_in (tb_app wsL_law0_r8_in (tb_app wsL_law0_r9_in (tb_app wsL_law0_r10_in (tb_app wsL_law0_r11_in (tb_app wsL_law0_r12_in (tb_app wsL_law0_r13_in (tb_app wsL_law0_r14_in (tb_app wsL_law0_r15_in (tb_app wsL_law0_r16_in (tb_app wsL_law0_r17_in (tb_app wsL_law0_r18_in (tb_app wsL_law0_r19_in (tb_app wsL_law0_r20_in wsL_law0_r21_in)))))))))))))))))))) tbX_X5) tbX_Jx4a65c) tbX_X2) tbX_X3) tbX_X0) tbX_X1) tbX_X4) (fun w h => nomatch h)
theorem wsL_law_x0 : ∀ w ∈ (vx_atS RX5 223 "java/lang/IndexOutOfBoundsException" ["java/lang/RuntimeException", "java/lang/Exception"]).filter goodWord, w ∈ lw_tbl := by decide +kernel
theorem wsL_law_x1 : ∀ w ∈ (vx_atS RX5 58 "java/lang/IllegalArgumentException" ["java/lang/RuntimeException", "java/lang/Exception"]).filter goodWord, w ∈ lw_tbl := by decide +kernel
theorem wsL_law_x2 : ∀ w ∈ (vx_atS RX5 73 "java/lang/IllegalStateException" ["java/lang/RuntimeException", "java/lang/Exception"]).filter goodWord, w ∈ lw_tbl := by decide +kernel
theorem wsL_law_in : ∀ w ∈ wsL_law, w ∈ lw_tbl := fun w h => (List.mem_append.mp h).elim (fun h => (List.mem_append.mp h).elim (fun h => (List.mem_append.mp h).elim (fun h => wsL_law_in0 w h) (fun h => wsL_law_x0 w h)) (fun h => wsL_law_x1 w h)) (fun h => wsL_law_x2 w h)
theorem inlX0 : ∀ w ∈ wsX00, w ∈ wsL_law := fun _ h => List.mem_append_left _ (List.mem_append_left _ (List.mem_append_left _ (List.mem_append_left _ (List.mem_append_left _ (List.mem_append_left _ (List.mem_append_right _ h))))))
theorem inX0 : ∀ w ∈ wsX00, w ∈ lw_tbl := fun w h => wsL_law_in w (inlX0 w h)
theorem inlX1 : ∀ w ∈ wsX10, w ∈ wsL_law := fun _ h => List.mem_append_left _ (List.mem_append_left _ (List.mem_append_left _ (List.mem_append_left _ (List.mem_append_left _ (List.mem_append_right _ h)))))
theorem inX1 : ∀ w ∈ wsX10, w ∈ lw_tbl := fun w h => wsL_law_in w (inlX1 w h)
theorem inlX2 : ∀ w ∈ wsX20, w ∈ wsL_law := fun _ h => List.mem_append_left _ (List.mem_append_left _ (List.mem_append_left _ (List.mem_append_left _ (List.mem_append_left _ (List.mem_append_left _ (List.mem_append_left _ (List.mem_append_left _ (List.mem_append_right _ h))))))))
theorem inX2 : ∀ w ∈ wsX20, w ∈ lw_tbl := fun w h => wsL_law_in w (inlX2 w h)
theorem inlX3 : ∀ w ∈ wsX30, w ∈ wsL_law := fun _ h => List.mem_append_left _ (List.mem_append_left _ (List.mem_append_left _ (List.mem_append_left _ (List.mem_append_left _ (List.mem_append_left _ (List.mem_append_left _ (List.mem_append_right _ h)))))))
theorem inX3 : ∀ w ∈ wsX30, w ∈ lw_tbl := fun w h => wsL_law_in w (inlX3 w h)
theorem inlX4 : ∀ w ∈ wsX40, w ∈ wsL_law := fun _ h => List.mem_append_left _ (List.mem_append_left _ (List.mem_append_left _ (List.mem_append_left _ (List.mem_append_right _ h))))
theorem inX4 : ∀ w ∈ wsX40, w ∈ lw_tbl := fun w h => wsL_law_in w (inlX4 w h)
theorem inlX5 : ∀ w ∈ wsX50, w ∈ wsL_law := fun _ h => List.mem_append_left _ (List.mem_append_left _ (List.mem_append_left _ (List.mem_append_left _ (List.mem_append_left _ (List.mem_append_left _ (List.mem_append_left _ (List.mem_append_left _ (List.mem_append_left _ (List.mem_append_left _ (List.mem_append_right _ h))))))))))
theorem inX5 : ∀ w ∈ wsX50, w ∈ lw_tbl := fun w h => wsL_law_in w (inlX5 w h)
theorem inX6 : ∀ w ∈ wsX60, w ∈ lw_tbl := by decide +kernel
theorem inJx145de : ∀ w ∈ wsJx145de0, w ∈ lw_tbl := by decide +kernel
theorem inJx8e188 : ∀ w ∈ wsJx8e1880, w ∈ lw_tbl := by decide +kernel
theorem inJxab1ab : ∀ w ∈ wsJxab1ab0, w ∈ lw_tbl := by decide +kernel
theorem inJ9 : ∀ w ∈ wsJ90, w ∈ lw_tbl := by decide +kernel
theorem inJ0 : ∀ w ∈ wsJ00, w ∈ lw_tbl := by decide +kernel
theorem inJ10 : ∀ w ∈ wsJ100, w ∈ lw_tbl := by decide +kernel
theorem inJxa1e45 : ∀ w ∈ wsJxa1e450, w ∈ lw_tbl := by decide +kernel
theorem inJxc12de : ∀ w ∈ wsJxc12de0, w ∈ lw_tbl := by decide +kernel
theorem inlJx4a65c : ∀ w ∈ wsJx4a65c0, w ∈ wsL_law := fun _ h => List.mem_append_left _ (List.mem_append_left _ (List.mem_append_left _ (List.mem_append_left _ (List.mem_append_left _ (List.mem_append_left _ (List.mem_append_left _ (List.mem_append_left _ (List.mem_append_left _ (List.mem_append_right _ h)))))))))
theorem inJx4a65c : ∀ w ∈ wsJx4a65c0, w ∈ lw_tbl := fun w h => wsL_law_in w (inlJx4a65c w h)
theorem inJ7 : ∀ w ∈ wsJ70, w ∈ lw_tbl := by decide +kernel
theorem inJx5ef63 : ∀ w ∈ wsJx5ef630, w ∈ lw_tbl := by decide +kernel
theorem inJxbd725 : ∀ w ∈ wsJxbd7250, w ∈ lw_tbl := by decide +kernel
theorem inJ15 : ∀ w ∈ wsJ150, w ∈ lw_tbl := by decide +kernel
theorem inJxf0a74 : ∀ w ∈ wsJxf0a740, w ∈ lw_tbl := by decide +kernel
theorem inJxa66e6 : ∀ w ∈ wsJxa66e60, w ∈ lw_tbl := by decide +kernel
theorem inJ8 : ∀ w ∈ wsJ80, w ∈ lw_tbl := by decide +kernel
theorem inJ3 : ∀ w ∈ wsJ30, w ∈ lw_tbl := by decide +kernel
