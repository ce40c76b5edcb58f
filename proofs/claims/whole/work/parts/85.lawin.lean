set_option maxRecDepth 20000 in
theorem wsL_law0_r1_in : ∀ w ∈ wsL_law0_r1, w ∈ lw_tbl := tb_of [55, 56, 33, 709, 710, 37, 954, 57, 58, 59, 60, 61, 62, 63, 64, 36, 89, 90, 91, 92, 105, 93, 65, 66] rfl
set_option maxRecDepth 20000 in
theorem wsL_law0_r2_in : ∀ w ∈ wsL_law0_r2, w ∈ lw_tbl := tb_of [67, 75, 77, 68, 69, 35, 70, 79, 71, 72, 34, 73, 74, 711, 712, 713, 714, 717, 718, 719, 720, 721, 722, 723] rfl
set_option maxRecDepth 20000 in
theorem wsL_law0_r3_in : ∀ w ∈ wsL_law0_r3, w ∈ lw_tbl := tb_of [724, 725, 270, 727, 728, 729, 731, 732, 733, 735, 736, 737, 738, 106, 107, 32, 108, 109, 110, 111, 112, 113, 114, 115] rfl
set_option maxRecDepth 20000 in
theorem wsL_law0_r4_in : ∀ w ∈ wsL_law0_r4, w ∈ lw_tbl := tb_of [294, 116, 117, 118, 119, 41, 187, 188, 189, 190, 42, 206, 208, 1, 209, 214, 43, 210, 211, 212, 213, 78, 230, 232] rfl
set_option maxRecDepth 20000 in
theorem wsL_law0_r5_in : ∀ w ∈ wsL_law0_r5, w ∈ lw_tbl := tb_of [2, 233, 234, 235, 44, 236, 237, 238, 239, 304, 306, 308, 310, 293, 295, 297, 240, 241, 45, 299, 271, 272, 46, 301] rfl
set_option maxRecDepth 20000 in
theorem wsL_law0_r6_in : ∀ w ∈ wsL_law0_r6, w ∈ lw_tbl := tb_of [242, 243, 244, 245, 248, 250, 252, 254, 255, 246, 273, 274, 275, 276, 277, 281, 282, 283, 331, 332, 333, 334, 80, 81] rfl
set_option maxRecDepth 20000 in
theorem wsL_law0_r7_in : ∀ w ∈ wsL_law0_r7, w ∈ lw_tbl := tb_of [335, 337, 3, 338, 339, 341, 4, 342, 343, 345, 5, 346, 387, 351, 48, 352, 388, 347, 348, 47, 349, 350, 353, 354] rfl
set_option maxRecDepth 20000 in
theorem wsL_law0_r8_in : ∀ w ∈ wsL_law0_r8, w ∈ lw_tbl := tb_of [355, 356, 357, 358, 49, 359, 360, 970, 361, 374, 375, 376, 377, 378, 380, 381, 382, 383, 384, 386, 385, 50, 798, 799] rfl
set_option maxRecDepth 20000 in
theorem wsL_law0_r9_in : ∀ w ∈ wsL_law0_r9, w ∈ lw_tbl := tb_of [800, 801, 716, 802, 803, 804, 805, 806, 807, 808, 810, 14, 811, 715, 812, 814, 15, 815, 794, 795, 796, 797, 389, 390] rfl
set_option maxRecDepth 20000 in
theorem wsL_law0_r10_in : ∀ w ∈ wsL_law0_r10, w ∈ lw_tbl := tb_of [391, 392, 393, 394, 395, 303, 279, 396, 398, 6, 399, 234, 401, 402, 403, 404, 405, 406, 51, 407, 408, 409, 52, 410] rfl
set_option maxRecDepth 20000 in
theorem wsL_law0_r11_in : ∀ w ∈ wsL_law0_r11, w ∈ lw_tbl := tb_of [411, 412, 413, 414, 416, 417, 418, 419, 420, 421, 422, 423, 280, 425, 426, 427, 428, 429, 430, 431, 432, 433, 434, 435] rfl
set_option maxRecDepth 20000 in
theorem wsL_law0_r12_in : ∀ w ∈ wsL_law0_r12, w ∈ lw_tbl := tb_of [436, 437, 439, 7, 440, 442, 443, 444, 445, 446, 447, 448, 816, 817, 818, 819, 820, 822, 16, 823, 824, 826, 17, 827] rfl
set_option maxRecDepth 20000 in
theorem wsL_law0_r13_in : ∀ w ∈ wsL_law0_r13, w ∈ lw_tbl := tb_of [828, 830, 18, 831, 832, 834, 19, 835, 449, 450, 451, 452, 453, 454, 455, 300, 247, 296, 298, 456, 457, 458, 459, 460] rfl
set_option maxRecDepth 20000 in
theorem wsL_law0_r14_in : ∀ w ∈ wsL_law0_r14, w ∈ lw_tbl := tb_of [461, 462, 463, 464, 465, 466, 467, 468, 469, 470, 474, 472, 473, 476, 477, 478, 479, 480, 481, 482, 836, 837, 838, 839] rfl
set_option maxRecDepth 20000 in
theorem wsL_law0_r15_in : ∀ w ∈ wsL_law0_r15, w ∈ lw_tbl := tb_of [840, 842, 20, 843, 483, 484, 485, 486, 487, 488, 489, 307, 491, 493, 8, 494, 495, 496, 497, 498, 844, 845, 846, 847] rfl
set_option maxRecDepth 20000 in
theorem wsL_law0_r16_in : ∀ w ∈ wsL_law0_r16, w ∈ lw_tbl := tb_of [726, 848, 850, 21, 851, 852, 854, 22, 855, 856, 858, 23, 859, 860, 862, 24, 863, 739, 740, 864, 866, 25, 867, 499] rfl
set_option maxRecDepth 20000 in
theorem wsL_law0_r17_in : ∀ w ∈ wsL_law0_r17, w ∈ lw_tbl := tb_of [500, 501, 502, 503, 504, 505, 868, 869, 870, 871, 872, 874, 26, 875, 506, 507, 508, 509, 510, 511, 512, 876, 877, 878] rfl
set_option maxRecDepth 20000 in
theorem wsL_law0_r18_in : ∀ w ∈ wsL_law0_r18, w ∈ lw_tbl := tb_of [879, 513, 514, 515, 516, 517, 518, 519, 520, 521, 522, 524, 525, 526, 527, 880, 881, 882, 883, 528, 529, 530, 531, 532] rfl
set_option maxRecDepth 20000 in
theorem wsL_law0_r19_in : ∀ w ∈ wsL_law0_r19, w ∈ lw_tbl := tb_of [533, 534, 535, 536, 537, 538, 539, 541, 9, 542, 884, 885, 886, 887, 888, 544, 545, 546, 547, 548, 549, 550, 551, 552] rfl
set_option maxRecDepth 20000 in
theorem wsL_law0_r20_in : ∀ w ∈ wsL_law0_r20, w ∈ lw_tbl := tb_of [553, 554, 889, 890, 891, 892, 893, 895, 27, 896, 555, 556, 557, 558, 559, 560, 561, 311, 305, 309, 562, 563, 564, 565] rfl
set_option maxRecDepth 20000 in
theorem wsL_law0_r21_in : ∀ w ∈ wsL_law0_r21, w ∈ lw_tbl := tb_of [897, 898, 899, 900, 901, 903, 28, 904, 567, 568, 569, 570, 571, 572, 573, 905, 906, 907, 908, 575, 576, 577, 578, 579] rfl
set_option maxRecDepth 20000 in
theorem wsL_law0_r22_in : ∀ w ∈ wsL_law0_r22, w ∈ lw_tbl := tb_of [580, 581, 909, 910, 911, 912, 582, 583, 584, 585, 586, 587, 588, 589, 591, 592, 53, 593, 594, 595, 596, 597, 599, 601] rfl
set_option maxRecDepth 20000 in
theorem wsL_law0_r23_in : ∀ w ∈ wsL_law0_r23, w ∈ lw_tbl := tb_of [604, 913, 914, 915, 916, 917, 730, 616, 617, 618, 619, 620, 621, 622, 603, 623, 625, 10, 626, 591, 918, 919, 920, 921] rfl
set_option maxRecDepth 20000 in
theorem wsL_law0_r24_in : ∀ w ∈ wsL_law0_r24, w ∈ lw_tbl := tb_of [922, 924, 29, 925, 629, 630, 631, 632, 633, 634, 635, 606, 926, 927, 928, 929, 636, 637, 638, 639, 640, 641, 642, 644] rfl
set_option maxRecDepth 20000 in
theorem wsL_law0_r25_in : ∀ w ∈ wsL_law0_r25, w ∈ lw_tbl := tb_of [645, 54, 646, 647, 648, 649, 655, 650, 652, 653, 930, 931, 932, 933, 734, 666, 667, 668, 669, 670, 671, 672, 651, 654] rfl
set_option maxRecDepth 20000 in
theorem wsL_law0_r26_in : ∀ w ∈ wsL_law0_r26, w ∈ lw_tbl := tb_of [598, 673, 675, 11, 676, 644, 934, 935, 936, 937, 938, 940, 30, 941, 679, 680, 681, 682, 683, 684, 685, 686, 687, 688] rfl
set_option maxRecDepth 20000 in
theorem wsL_law0_r27_in : ∀ w ∈ wsL_law0_r27, w ∈ lw_tbl := tb_of [689, 605, 690, 692, 12, 693, 302, 278, 602, 694, 696, 13, 697, 600, 698, 699, 700, 701, 942, 943, 944, 945, 946, 948] rfl
set_option maxRecDepth 20000 in
theorem wsL_law0_r28_in : ∀ w ∈ wsL_law0_r28, w ∈ lw_tbl := tb_of [31, 949, 702, 703, 704, 705, 706, 707, 708, 656, 950, 951, 952, 953] rfl
set_option maxRecDepth 20000 in
theorem tbX_X5 : ∀ w ∈ wsX50, w ∈ lw_tbl := tb_of [94, 96, 98, 100, 102] rfl
set_option maxRecDepth 20000 in
theorem tbX_X6 : ∀ w ∈ wsX60, w ∈ lw_tbl := tb_of [741, 743, 745, 747, 749, 751, 753, 755, 757, 759, 761, 763, 765, 767, 769, 771, 773, 775, 777, 779, 781, 783, 785, 787, 789, 791] rfl
set_option maxRecDepth 20000 in
theorem tbX_Jx4a65c : ∀ w ∈ wsJx4a65c0, w ∈ lw_tbl := tb_of [86, 82, 84] rfl
set_option maxRecDepth 20000 in
theorem tbX_X2 : ∀ w ∈ wsX20, w ∈ lw_tbl := tb_of [312, 314, 316, 318, 320, 322, 324, 326, 328] rfl
set_option maxRecDepth 20000 in
theorem tbX_X3 : ∀ w ∈ wsX30, w ∈ lw_tbl := tb_of [257, 259, 261, 263, 265, 267] rfl
set_option maxRecDepth 20000 in
theorem tbX_X0 : ∀ w ∈ wsX00, w ∈ lw_tbl := tb_of [284, 286, 288, 290] rfl
set_option maxRecDepth 20000 in
theorem tbX_X1 : ∀ w ∈ wsX10, w ∈ lw_tbl := tb_of [607, 609, 611, 613] rfl
set_option maxRecDepth 20000 in
theorem tbX_X4 : ∀ w ∈ wsX40, w ∈ lw_tbl := tb_of [657, 659, 661, 663] rfl
theorem tb_app {a b : List Cond} (ha : ∀ w ∈ a, w ∈ lw_tbl) (hb : ∀ w ∈ b, w ∈ lw_tbl) : ∀ w ∈ a ++ b, w ∈ lw_tbl := fun w h => (List.mem_append.mp h).elim (ha w) (hb w)
theorem wsL_law_in0 : ∀ w ∈ wsL_law0, w ∈ lw_tbl := tb_app (tb_app (tb_app (tb_app (tb_app (tb_app (tb_app (tb_app (tb_app (tb_app wsL_law0_r1_in (tb_app wsL_law0_r2_in (tb_app wsL_law0_r3_in (tb_app wsL_law0_r4_in (tb_app wsL_law0_r5_in (tb_app wsL_law0_r6_in (tb_app wsL_law0_r7_in (tb_app wsL_law0_r8_in (tb_app wsL_law0_r9_in (tb_app wsL_law0_r10_in (tb_app wsL_law0_r11_in (tb_app wsL_law0_r12_in (tb_app wsL_law0_r13_in (tb_app wsL_law0_r14_in (tb_app wsL_law0_r15_in (tb_app wsL_law0_r16_in (tb_app wsL_law0_r17_in (tb_app wsL_law0_r18_in (tb_app wsL_law0_r19_in (tb_app wsL_law0_r20_in (tb_app wsL_law0_r21_in (tb_app wsL_law0_r22_in (tb_app wsL_law0_r23_in (tb_app wsL_law0_r24_in (tb_app wsL_law0_r25_in (tb_app wsL_law0_r26_in (tb_app wsL_law0_r27_in wsL_law0_r28_in))))))))))))))))))))))))))) tbX_X5) tbX_X6) tbX_Jx4a65c) tbX_X2) tbX_X3) tbX_X0) tbX_X1) tbX_X4) (fun w h => nomatch h)
theorem wsL_law_x0 : ∀ w ∈ (vx_atS RX5 223 "java/lang/IndexOutOfBoundsException" ["java/lang/RuntimeException", "java/lang/Exception"]).filter goodWord, w ∈ lw_tbl := by decide +kernel
theorem wsL_law_x1 : ∀ w ∈ (vx_atS RX5 58 "java/lang/IllegalArgumentException" ["java/lang/RuntimeException", "java/lang/Exception"]).filter goodWord, w ∈ lw_tbl := by decide +kernel
theorem wsL_law_x2 : ∀ w ∈ (vx_atS RX5 73 "java/lang/IllegalStateException" ["java/lang/RuntimeException", "java/lang/Exception"]).filter goodWord, w ∈ lw_tbl := by decide +kernel
theorem wsL_law_in : ∀ w ∈ wsL_law, w ∈ lw_tbl := fun w h => (List.mem_append.mp h).elim (fun h => (List.mem_append.mp h).elim (fun h => (List.mem_append.mp h).elim (fun h => wsL_law_in0 w h) (fun h => wsL_law_x0 w h)) (fun h => wsL_law_x1 w h)) (fun h => wsL_law_x2 w h)
theorem inlX0 : ∀ w ∈ wsX00, w ∈ wsL_law := fun _ h => List.mem_append_left _ (List.mem_append_left _ (List.mem_append_left _ (List.mem_append_left _ (List.mem_append_left _ (List.mem_append_left _ (List.mem_append_right _ h))))))
theorem inX0 : ∀ w ∈ wsX00, w ∈ lw_tbl := fun w h => wsL_law_in w (inlX0 w h)
theorem inlX1 : ∀ w ∈ wsX10, w ∈ wsL_law := fun _ h => List.mem_append_left _ (List.mem_append_left _ (List.mem_append_left _ (List.mem_append_left _ (List.mem_append_left _ (List.mem_append_right _ h)))))
theorem inX1 : ∀ w ∈ wsX10, w ∈ lw_tbl := fun w h => wsL_law_in w (inlX1 w h)
theorem inlX2 : ∀ w ∈ wsX20, w ∈ wsL_law := fun _ h => List.mem_append_left _ (List.mem_append_left _ (List.mem_append_left _ (List.mem_append_left _ (List.mem_append_left _ (List.mem_append_left _ (List.mem_append_left _ (List.mem_append_left _ (List.mem_append_right _ h))))))))
theorem inX2 : ∀ w ∈ wsX20, w ∈ lw_tbl := fun w h => wsL_law_in w (inlX2 w h)
theorem inlX3 : ∀ w ∈ wsX30, w ∈ wsL_law := fun _ h => List.mem_append_left _ (List.mem_append_left _ (List.mem_append_left _ (List.mem_append_left _ (List.mem_append_left _ (List.mem_append_left _ (List.mem_append_left _ (List.mem_append_right _ h)))))))
theorem inX3 : ∀ w ∈ wsX30, w ∈ lw_tbl := fun w h => wsL_law_in w (inlX3 w h)
theorem inlX4 : ∀ w ∈ wsX40, w ∈ wsL_law := fun _ h => List.mem_append_left _ (List.mem_append_left _ (List.mem_append_left _ (List.mem_append_left _ (List.mem_append_right _ h))))
theorem inX4 : ∀ w ∈ wsX40, w ∈ lw_tbl := fun w h => wsL_law_in w (inlX4 w h)
theorem inlX5 : ∀ w ∈ wsX50, w ∈ wsL_law := fun _ h => List.mem_append_left _ (List.mem_append_left _ (List.mem_append_left _ (List.mem_append_left _ (List.mem_append_left _ (List.mem_append_left _ (List.mem_append_left _ (List.mem_append_left _ (List.mem_append_left _ (List.mem_append_left _ (List.mem_append_left _ (List.mem_append_right _ h)))))))))))
theorem inX5 : ∀ w ∈ wsX50, w ∈ lw_tbl := fun w h => wsL_law_in w (inlX5 w h)
theorem inlX6 : ∀ w ∈ wsX60, w ∈ wsL_law := fun _ h => List.mem_append_left _ (List.mem_append_left _ (List.mem_append_left _ (List.mem_append_left _ (List.mem_append_left _ (List.mem_append_left _ (List.mem_append_left _ (List.mem_append_left _ (List.mem_append_left _ (List.mem_append_left _ (List.mem_append_right _ h))))))))))
theorem inX6 : ∀ w ∈ wsX60, w ∈ lw_tbl := fun w h => wsL_law_in w (inlX6 w h)
theorem inJx145de : ∀ w ∈ wsJx145de0, w ∈ lw_tbl := by decide +kernel
theorem inJx8e188 : ∀ w ∈ wsJx8e1880, w ∈ lw_tbl := by decide +kernel
theorem inJxab1ab : ∀ w ∈ wsJxab1ab0, w ∈ lw_tbl := by decide +kernel
theorem inJ9 : ∀ w ∈ wsJ90, w ∈ lw_tbl := by decide +kernel
theorem inJ0 : ∀ w ∈ wsJ00, w ∈ lw_tbl := by decide +kernel
theorem inJ10 : ∀ w ∈ wsJ100, w ∈ lw_tbl := by decide +kernel
theorem inJxa1e45 : ∀ w ∈ wsJxa1e450, w ∈ lw_tbl := by decide +kernel
theorem inJxc12de : ∀ w ∈ wsJxc12de0, w ∈ lw_tbl := by decide +kernel
theorem inlJx4a65c : ∀ w ∈ wsJx4a65c0, w ∈ wsL_law := fun _ h => List.mem_append_left _ (List.mem_append_left _ (List.mem_append_left _ (List.mem_append_left _ (List.mem_append_left _ (List.mem_append_left _ (List.mem_append_left _ (List.mem_append_left _ (List.mem_append_left _ (List.mem_append_right _ h)))))))))
theorem inJx4a65c : ∀ w ∈ wsJx4a65c0, w ∈ lw_tbl := fun w h => wsL_law_in w (inlJx4a65c w h)
theorem inJ7 : ∀ w ∈ wsJ70, w ∈ lw_tbl := by decide +kernel
theorem inJx5ef63 : ∀ w ∈ wsJx5ef630, w ∈ lw_tbl := by decide +kernel
theorem inJxbd725 : ∀ w ∈ wsJxbd7250, w ∈ lw_tbl := by decide +kernel
theorem inJ15 : ∀ w ∈ wsJ150, w ∈ lw_tbl := by decide +kernel
theorem inJxf0a74 : ∀ w ∈ wsJxf0a740, w ∈ lw_tbl := by decide +kernel
theorem inJxa66e6 : ∀ w ∈ wsJxa66e60, w ∈ lw_tbl := by decide +kernel
theorem inJ8 : ∀ w ∈ wsJ80, w ∈ lw_tbl := by decide +kernel
theorem inJ3 : ∀ w ∈ wsJ30, w ∈ lw_tbl := by decide +kernel
