set_option maxRecDepth 20000 in
theorem ggL_begins_X5_begin : GoodIn wsL_begins wsX5_begin := goodIn_ca (goodIn_ca (goodIn_ca (goodIn_r _ [11, 12, 13, 14, 10, 15, 16, 17, 18, 19, 20, 21, 22, 23, 24, 25, 26, 27, 28, 29, 30, 31, 32, 33, 34, 35, 36, 37, 38, 39, 40, 41, 42, 43, 44, 45, 46, 47, 48, 49, 50, 51, 52, 53, 54, 55, 56, 57, 58, 59, 60, 61, 62, 63, 64, 65, 66, 67, 68, 69, 70, 71, 72, 73, 74, 75, 76, 77, 78, 79, 80, 81, 82, 83, 84, 85, 86, 87, 88, 89, 90, 91, 92, 93, 94, 95, 96, 97, 98, 99, 100, 101, 102, 103, 104, 105, 106, 107, 108, 109, 110, 111, 112, 113, 114, 115, 116, 117, 118, 119, 120, 121, 122, 123, 124, 125, 126, 127, 128, 129, 130, 131, 132, 133, 134, 135, 136, 137, 138, 139, 140, 141, 142, 143, 144, 145, 146, 147, 148, 149, 150, 151, 152, 153, 154, 155, 156, 157, 158, 159, 160, 161, 162, 163, 164] (by decide +kernel) (by decide +kernel)) (goodIn_sub (fun _ h => List.mem_cons_of_mem _ (List.mem_append_left _ (List.mem_append_left _ (List.mem_append_right _ h)))) (by decide +kernel))) (goodIn_sub (fun _ h => List.mem_cons_of_mem _ (List.mem_append_left _ (List.mem_append_right _ h))) (by decide +kernel))) (goodIn_sub (fun _ h => List.mem_cons_of_mem _ (List.mem_append_right _ h)) (by decide +kernel))
set_option maxRecDepth 20000 in
theorem gL_begins_X5_begin : GoodIn wsL_begins (wsV RL 7 RX5 yX5_begin wsX5_begin) := goodIn_app (goodIn_of _ (by decide +kernel)) ggL_begins_X5_begin
theorem dL_begins_0 : decode cL_begins 0 = .ok (.aload_n 0, 1) := by decide +kernel
theorem dL_begins_1 : decode cL_begins 1 = .ok (.iload_n 1, 1) := by decide +kernel
theorem dL_begins_2 : decode cL_begins 2 = .ok (.iload_n 2, 1) := by decide +kernel
theorem dL_begins_3 : decode cL_begins 3 = .ok (.iload_n 3, 1) := by decide +kernel
theorem dL_begins_4 : decode cL_begins 4 = .ok (.invokevirtual 7, 3) := by decide +kernel
theorem dL_begins_7 : decode cL_begins 7 = .ok (.ireturn, 1) := by decide +kernel
theorem dL_begins_8 : decode cL_begins 8 = .ok (.astore 4, 2) := by decide +kernel
theorem dL_begins_10 : decode cL_begins 10 = .ok (.ldc 15, 2) := by decide +kernel
theorem dL_begins_12 : decode cL_begins 12 = .ok (.ireturn, 1) := by decide +kernel
theorem dL_begins_13 : decode cL_begins 13 = .ok (.astore 4, 2) := by decide +kernel
theorem dL_begins_15 : decode cL_begins 15 = .ok (.ldc 18, 2) := by decide +kernel
theorem dL_begins_17 : decode cL_begins 17 = .ok (.ireturn, 1) := by decide +kernel
theorem dL_begins_18 : decode cL_begins 18 = .ok (.astore 4, 2) := by decide +kernel
theorem dL_begins_20 : decode cL_begins 20 = .ok (.ldc 21, 2) := by decide +kernel
theorem dL_begins_22 : decode cL_begins 22 = .ok (.ireturn, 1) := by decide +kernel
set_option maxRecDepth 20000 in
theorem ggL_lines_X5_line : GoodIn wsL_lines wsX5_line := goodIn_ca (goodIn_ca (goodIn_ca (goodIn_r _ [11, 12, 13, 14, 15, 16, 17, 18, 19, 20, 10, 21, 22, 23, 24, 25, 26, 27, 28, 29, 30, 31, 32, 33, 34, 35, 36, 37, 38, 39, 40, 41, 42, 43, 44, 45, 46, 47, 48, 49, 50, 51, 52, 53, 54, 55, 56, 57, 58, 59, 60, 61, 62, 63, 64, 65, 66, 67, 68, 69, 70, 71, 72, 73, 74, 75, 76, 77, 78, 79, 80, 81, 82, 83, 84, 85, 86, 87, 88, 89, 90, 91, 92, 93, 94, 95, 96, 97, 98, 99, 100, 101, 102, 103, 104, 105, 106, 107, 108, 109, 110, 111, 112, 113, 114, 115, 116, 117, 118, 119, 120, 121, 122, 123, 124, 125, 126, 127, 128, 129, 130] (by decide +kernel) (by decide +kernel)) (goodIn_sub (fun _ h => List.mem_cons_of_mem _ (List.mem_append_left _ (List.mem_append_left _ (List.mem_append_right _ h)))) (by decide +kernel))) (goodIn_sub (fun _ h => List.mem_cons_of_mem _ (List.mem_append_left _ (List.mem_append_right _ h))) (by decide +kernel))) (goodIn_sub (fun _ h => List.mem_cons_of_mem _ (List.mem_append_right _ h)) (by decide +kernel))
set_option maxRecDepth 20000 in
theorem gL_lines_X5_line : GoodIn wsL_lines (wsV RL 22 RX5 yX5_line wsX5_line) := goodIn_app (goodIn_of _ (by decide +kernel)) ggL_lines_X5_line
theorem dL_lines_0 : decode cL_lines 0 = .ok (.aload_n 0, 1) := by decide +kernel
theorem dL_lines_1 : decode cL_lines 1 = .ok (.iload_n 1, 1) := by decide +kernel
theorem dL_lines_2 : decode cL_lines 2 = .ok (.iload_n 2, 1) := by decide +kernel
theorem dL_lines_3 : decode cL_lines 3 = .ok (.iload_n 3, 1) := by decide +kernel
theorem dL_lines_4 : decode cL_lines 4 = .ok (.iload 4, 2) := by decide +kernel
theorem dL_lines_6 : decode cL_lines 6 = .ok (.iload 5, 2) := by decide +kernel
theorem dL_lines_8 : decode cL_lines 8 = .ok (.invokevirtual 22, 3) := by decide +kernel
theorem dL_lines_11 : decode cL_lines 11 = .ok (.ireturn, 1) := by decide +kernel
theorem dL_lines_12 : decode cL_lines 12 = .ok (.astore 6, 2) := by decide +kernel
theorem dL_lines_14 : decode cL_lines 14 = .ok (.ldc 15, 2) := by decide +kernel
theorem dL_lines_16 : decode cL_lines 16 = .ok (.ireturn, 1) := by decide +kernel
theorem dL_lines_17 : decode cL_lines 17 = .ok (.astore 6, 2) := by decide +kernel
theorem dL_lines_19 : decode cL_lines 19 = .ok (.ldc 18, 2) := by decide +kernel
theorem dL_lines_21 : decode cL_lines 21 = .ok (.ireturn, 1) := by decide +kernel
theorem dL_lines_22 : decode cL_lines 22 = .ok (.astore 6, 2) := by decide +kernel
theorem dL_lines_24 : decode cL_lines 24 = .ok (.ldc 21, 2) := by decide +kernel
theorem dL_lines_26 : decode cL_lines 26 = .ok (.ireturn, 1) := by decide +kernel
set_option maxRecDepth 20000 in
theorem ggL_anews_X5_anew : GoodIn wsL_anews wsX5_anew := goodIn_ca (goodIn_ca (goodIn_ca (goodIn_r _ [11, 12, 13, 14, 15, 16, 17, 18, 19, 20, 21, 10, 22, 23, 24, 25, 26, 27, 28, 29, 30, 31, 32, 33, 34, 35, 36, 37, 38, 39, 40, 41, 42, 43, 44, 45, 46, 47, 48, 49, 50, 51, 52, 53, 54, 55, 56, 57, 58, 59, 60, 61, 62, 63, 64, 65, 66, 67, 68, 69, 70, 71, 72, 73, 74, 75, 76, 77, 78, 79, 80, 81, 82, 83, 84, 85, 86, 87, 88, 89, 90, 91, 92, 93, 94, 95, 96, 97, 98, 99, 100, 101, 102, 103, 104, 105, 106, 107, 108, 109, 110, 111, 112, 113, 114, 115, 116, 117, 118, 119, 120, 121, 122, 123, 124, 125, 126, 127, 128, 129, 130, 131, 132, 133, 134, 135, 136, 137, 138, 139, 140, 141, 142, 143, 144, 145, 146, 147, 148, 149, 150, 151, 152, 153, 154, 155, 156, 157, 158, 159, 160, 161, 162, 163, 164, 165, 166, 167, 168, 169, 170, 171, 172, 173, 174, 175, 176, 177, 178, 179, 180, 181, 182, 183, 184, 185, 186, 187, 188, 189, 190, 191, 192, 193, 194, 195, 196, 197, 198, 199, 200, 201, 202, 203, 204, 205, 206, 207, 208, 209, 210, 211, 212, 213, 214, 215, 216, 217, 218, 219, 220, 221, 222, 223, 224, 225, 226, 227, 228, 229, 230, 231, 232, 233] (by decide +kernel) (by decide +kernel)) (goodIn_sub (fun _ h => List.mem_cons_of_mem _ (List.mem_append_left _ (List.mem_append_left _ (List.mem_append_right _ h)))) (by decide +kernel))) (goodIn_sub (fun _ h => List.mem_cons_of_mem _ (List.mem_append_left _ (List.mem_append_right _ h))) (by decide +kernel))) (goodIn_sub (fun _ h => List.mem_cons_of_mem _ (List.mem_append_right _ h)) (by decide +kernel))
set_option maxRecDepth 20000 in
theorem gL_anews_X5_anew : GoodIn wsL_anews (wsV RL 26 RX5 yX5_anew wsX5_anew) := goodIn_app (goodIn_of _ (by decide +kernel)) ggL_anews_X5_anew
theorem dL_anews_0 : decode cL_anews 0 = .ok (.aload_n 0, 1) := by decide +kernel
theorem dL_anews_1 : decode cL_anews 1 = .ok (.iload_n 1, 1) := by decide +kernel
theorem dL_anews_2 : decode cL_anews 2 = .ok (.iload_n 2, 1) := by decide +kernel
theorem dL_anews_3 : decode cL_anews 3 = .ok (.invokevirtual 26, 3) := by decide +kernel
theorem dL_anews_6 : decode cL_anews 6 = .ok (.ireturn, 1) := by decide +kernel
theorem dL_anews_7 : decode cL_anews 7 = .ok (.astore_n 3, 1) := by decide +kernel
theorem dL_anews_8 : decode cL_anews 8 = .ok (.ldc 15, 2) := by decide +kernel
theorem dL_anews_10 : decode cL_anews 10 = .ok (.ireturn, 1) := by decide +kernel
theorem dL_anews_11 : decode cL_anews 11 = .ok (.astore_n 3, 1) := by decide +kernel
theorem dL_anews_12 : decode cL_anews 12 = .ok (.ldc 18, 2) := by decide +kernel
theorem dL_anews_14 : decode cL_anews 14 = .ok (.ireturn, 1) := by decide +kernel
theorem dL_anews_15 : decode cL_anews 15 = .ok (.astore_n 3, 1) := by decide +kernel
theorem dL_anews_16 : decode cL_anews 16 = .ok (.ldc 21, 2) := by decide +kernel
theorem dL_anews_18 : decode cL_anews 18 = .ok (.ireturn, 1) := by decide +kernel
set_option maxRecDepth 20000 in
theorem ggL_publishes_X5_publish : GoodIn wsL_publishes wsX5_publish := goodIn_ca (goodIn_ca (goodIn_r _ [9, 10, 11, 12, 13, 14, 15, 16, 17, 8, 18, 19, 20, 21, 22, 23, 24, 25, 26, 27, 28, 29, 30, 31, 32, 33, 34, 35, 36, 37, 38, 39, 40, 41, 42, 43, 44, 45, 46, 47, 48, 49, 50, 51, 52, 53, 54, 55, 56, 57, 58, 59, 60, 61, 62, 63, 64, 65, 66, 67, 68, 69, 70, 71, 72, 73, 74, 75, 76, 77, 78, 79, 80, 81, 82, 83, 84, 85, 86, 87, 88, 89, 90, 91, 92, 93, 94, 95, 96, 97, 98, 99, 100, 101, 102, 103, 104, 105, 106, 107, 108, 109, 110, 111, 112, 113, 114, 115, 116, 117, 118, 119, 120, 121, 122, 123, 124, 125, 126, 127, 128, 129, 130, 131, 132, 133, 134, 135, 136, 137, 138, 139, 140, 141, 142, 143, 144, 145, 146, 147, 148] (by decide +kernel) (by decide +kernel)) (goodIn_sub (fun _ h => List.mem_cons_of_mem _ (List.mem_append_left _ (List.mem_append_right _ h))) (by decide +kernel))) (goodIn_sub (fun _ h => List.mem_cons_of_mem _ (List.mem_append_right _ h)) (by decide +kernel))
set_option maxRecDepth 20000 in
theorem gL_publishes_X5_publish : GoodIn wsL_publishes (wsV RL 30 RX5 yX5_publish wsX5_publish) := goodIn_app (goodIn_of _ (by decide +kernel)) ggL_publishes_X5_publish
theorem dL_publishes_0 : decode cL_publishes 0 = .ok (.aload_n 0, 1) := by decide +kernel
theorem dL_publishes_1 : decode cL_publishes 1 = .ok (.iload_n 1, 1) := by decide +kernel
theorem dL_publishes_2 : decode cL_publishes 2 = .ok (.invokevirtual 30, 3) := by decide +kernel
theorem dL_publishes_5 : decode cL_publishes 5 = .ok (.ireturn, 1) := by decide +kernel
theorem dL_publishes_6 : decode cL_publishes 6 = .ok (.astore_n 2, 1) := by decide +kernel
theorem dL_publishes_7 : decode cL_publishes 7 = .ok (.ldc 15, 2) := by decide +kernel
theorem dL_publishes_9 : decode cL_publishes 9 = .ok (.ireturn, 1) := by decide +kernel
theorem dL_publishes_10 : decode cL_publishes 10 = .ok (.astore_n 2, 1) := by decide +kernel
theorem dL_publishes_11 : decode cL_publishes 11 = .ok (.ldc 21, 2) := by decide +kernel
theorem dL_publishes_13 : decode cL_publishes 13 = .ok (.ireturn, 1) := by decide +kernel
set_option maxRecDepth 20000 in
theorem ggL_original_X5_original : GoodIn wsL_original wsX5_original := goodIn_ca (goodIn_r _ [7, 8, 9, 10, 11, 12, 6, 13, 14, 15, 16, 17, 18, 19, 20, 21, 22, 23, 24, 25, 26, 27, 28, 29, 30, 31, 32, 33, 34, 35, 36, 37, 38, 39, 40, 41, 42, 43, 44, 45, 46, 47, 48, 49, 50, 51, 52, 53, 54, 55, 56, 57] (by decide +kernel) (by decide +kernel)) (goodIn_sub (fun _ h => List.mem_cons_of_mem _ (List.mem_append_right _ h)) (by decide +kernel))
set_option maxRecDepth 20000 in
theorem gL_original_X5_original : GoodIn wsL_original (wsV RL 34 RX5 yX5_original wsX5_original) := goodIn_app (goodIn_of _ (by decide +kernel)) ggL_original_X5_original
theorem dL_original_0 : decode cL_original 0 = .ok (.aload_n 0, 1) := by decide +kernel
theorem dL_original_1 : decode cL_original 1 = .ok (.iload_n 1, 1) := by decide +kernel
theorem dL_original_2 : decode cL_original 2 = .ok (.invokevirtual 34, 3) := by decide +kernel
theorem dL_original_5 : decode cL_original 5 = .ok (.ireturn, 1) := by decide +kernel
theorem dL_original_6 : decode cL_original 6 = .ok (.astore_n 2, 1) := by decide +kernel
theorem dL_original_7 : decode cL_original 7 = .ok (.ldc 15, 2) := by decide +kernel
theorem dL_original_9 : decode cL_original 9 = .ok (.ireturn, 1) := by decide +kernel
set_option maxRecDepth 20000 in
theorem ggL_rows_X5_rows : GoodIn wsL_rows wsX5_rows := goodIn_ca (goodIn_r _ [7, 8, 9, 10, 11, 12, 6, 13, 14, 15, 16, 17, 18, 19, 20, 21, 22, 23, 24, 25, 26, 27, 28, 29, 30, 31, 32, 33, 34, 35, 36, 37, 38, 39, 40, 41, 42, 43, 44, 45, 46, 47, 48, 49, 50, 51, 52, 53, 54, 55, 56, 57, 58, 59, 60, 61] (by decide +kernel) (by decide +kernel)) (goodIn_sub (fun _ h => List.mem_cons_of_mem _ (List.mem_append_right _ h)) (by decide +kernel))
set_option maxRecDepth 20000 in
theorem gL_rows_X5_rows : GoodIn wsL_rows (wsV RL 37 RX5 yX5_rows wsX5_rows) := goodIn_app (goodIn_of _ (by decide +kernel)) ggL_rows_X5_rows
theorem dL_rows_0 : decode cL_rows 0 = .ok (.aload_n 0, 1) := by decide +kernel
theorem dL_rows_1 : decode cL_rows 1 = .ok (.iload_n 1, 1) := by decide +kernel
theorem dL_rows_2 : decode cL_rows 2 = .ok (.invokevirtual 37, 3) := by decide +kernel
theorem dL_rows_5 : decode cL_rows 5 = .ok (.ireturn, 1) := by decide +kernel
theorem dL_rows_6 : decode cL_rows 6 = .ok (.astore_n 2, 1) := by decide +kernel
theorem dL_rows_7 : decode cL_rows 7 = .ok (.ldc 15, 2) := by decide +kernel
theorem dL_rows_9 : decode cL_rows 9 = .ok (.ireturn, 1) := by decide +kernel
set_option maxRecDepth 20000 in
theorem ggL_stitch_X5_stitch : GoodIn wsL_stitch wsX5_stitch := goodIn_ca (goodIn_r _ [7, 8, 9, 10, 11, 6, 12, 13, 14, 15, 16, 17, 18, 19, 20, 21, 22, 23, 24, 25, 26, 27, 28, 29, 30, 31, 32, 33, 34, 35, 36, 37, 38, 39, 40, 41, 42, 43, 44, 45, 46, 47, 48, 49, 50, 51, 52, 53, 54, 55, 56, 57, 58, 59, 60, 61, 62, 63, 64, 65, 66, 67, 68, 69, 70] (by decide +kernel) (by decide +kernel)) (goodIn_sub (fun _ h => List.mem_cons_of_mem _ (List.mem_append_right _ h)) (by decide +kernel))
set_option maxRecDepth 20000 in
theorem gL_stitch_X5_stitch : GoodIn wsL_stitch (wsV RL 40 RX5 yX5_stitch wsX5_stitch) := goodIn_app (goodIn_of _ (by decide +kernel)) ggL_stitch_X5_stitch
theorem dL_stitch_0 : decode cL_stitch 0 = .ok (.aload_n 0, 1) := by decide +kernel
theorem dL_stitch_1 : decode cL_stitch 1 = .ok (.iload_n 1, 1) := by decide +kernel
theorem dL_stitch_2 : decode cL_stitch 2 = .ok (.iload_n 2, 1) := by decide +kernel
theorem dL_stitch_3 : decode cL_stitch 3 = .ok (.iload_n 3, 1) := by decide +kernel
theorem dL_stitch_4 : decode cL_stitch 4 = .ok (.invokevirtual 40, 3) := by decide +kernel
theorem dL_stitch_7 : decode cL_stitch 7 = .ok (.ireturn, 1) := by decide +kernel
theorem dL_stitch_8 : decode cL_stitch 8 = .ok (.astore 4, 2) := by decide +kernel
theorem dL_stitch_10 : decode cL_stitch 10 = .ok (.ldc 15, 2) := by decide +kernel
theorem dL_stitch_12 : decode cL_stitch 12 = .ok (.ireturn, 1) := by decide +kernel
set_option maxRecDepth 20000 in
theorem ggL_byWork_X5_stitchByWork : GoodIn wsL_byWork wsX5_stitchByWork := goodIn_ca (goodIn_r _ [7, 8, 9, 10, 11, 6, 12, 13, 14, 15, 16, 17, 18, 19, 20, 21, 22, 23, 24, 25, 26, 27, 28, 29, 30, 31, 32, 33, 34, 35, 36, 37, 38, 39, 40, 41, 42, 43, 44, 45, 46, 47, 48, 49, 50, 51, 52, 53, 54, 55, 56, 57, 58, 59, 60, 61, 62, 63, 64, 65, 66, 67, 68, 69, 70, 71, 72, 73, 74, 75, 76, 77, 78, 79, 80, 81, 82, 83, 84, 85, 86, 87, 88, 89, 90, 91, 92, 93, 94, 95, 96, 97, 98] (by decide +kernel) (by decide +kernel)) (goodIn_sub (fun _ h => List.mem_cons_of_mem _ (List.mem_append_right _ h)) (by decide +kernel))
set_option maxRecDepth 20000 in
theorem gL_byWork_X5_stitchByWork : GoodIn wsL_byWork (wsV RL 43 RX5 yX5_stitchByWork wsX5_stitchByWork) := goodIn_app (goodIn_of _ (by decide +kernel)) ggL_byWork_X5_stitchByWork
theorem dL_byWork_0 : decode cL_byWork 0 = .ok (.aload_n 0, 1) := by decide +kernel
theorem dL_byWork_1 : decode cL_byWork 1 = .ok (.iload_n 1, 1) := by decide +kernel
theorem dL_byWork_2 : decode cL_byWork 2 = .ok (.iload_n 2, 1) := by decide +kernel
theorem dL_byWork_3 : decode cL_byWork 3 = .ok (.iload_n 3, 1) := by decide +kernel
theorem dL_byWork_4 : decode cL_byWork 4 = .ok (.invokevirtual 43, 3) := by decide +kernel
theorem dL_byWork_7 : decode cL_byWork 7 = .ok (.ireturn, 1) := by decide +kernel
theorem dL_byWork_8 : decode cL_byWork 8 = .ok (.astore 4, 2) := by decide +kernel
theorem dL_byWork_10 : decode cL_byWork 10 = .ok (.ldc 15, 2) := by decide +kernel
theorem dL_byWork_12 : decode cL_byWork 12 = .ok (.ireturn, 1) := by decide +kernel
set_option maxRecDepth 20000 in
theorem ggL_need_X5_need : GoodIn wsL_need wsX5_need := goodIn_ca (goodIn_ca (goodIn_r _ [9, 10, 11, 12, 13, 8, 14, 15, 16, 17, 18, 19, 20, 21, 22, 23, 24, 25, 26, 27, 28, 29, 30, 31, 32, 33, 34, 35, 36, 37, 38, 39, 40, 41, 42, 43, 44, 45, 46, 47, 48, 49, 50, 51, 52, 53, 54, 55, 56, 57, 58, 59, 60, 61, 62, 63, 64, 65, 66, 67, 68, 69, 70, 71, 72, 73, 74, 75, 76, 77] (by decide +kernel) (by decide +kernel)) (goodIn_sub (fun _ h => List.mem_cons_of_mem _ (List.mem_append_left _ (List.mem_append_right _ h))) (by decide +kernel))) (goodIn_sub (fun _ h => List.mem_cons_of_mem _ (List.mem_append_right _ h)) (by decide +kernel))
set_option maxRecDepth 20000 in
theorem gL_need_X5_need : GoodIn wsL_need (wsV RL 46 RX5 yX5_need wsX5_need) := goodIn_app (goodIn_of _ (by decide +kernel)) ggL_need_X5_need
theorem dL_need_0 : decode cL_need 0 = .ok (.aload_n 0, 1) := by decide +kernel
theorem dL_need_1 : decode cL_need 1 = .ok (.iload_n 1, 1) := by decide +kernel
theorem dL_need_2 : decode cL_need 2 = .ok (.iload_n 2, 1) := by decide +kernel
theorem dL_need_3 : decode cL_need 3 = .ok (.invokevirtual 46, 3) := by decide +kernel
theorem dL_need_6 : decode cL_need 6 = .ok (.ireturn, 1) := by decide +kernel
theorem dL_need_7 : decode cL_need 7 = .ok (.astore_n 3, 1) := by decide +kernel
theorem dL_need_8 : decode cL_need 8 = .ok (.ldc 15, 2) := by decide +kernel
theorem dL_need_10 : decode cL_need 10 = .ok (.ireturn, 1) := by decide +kernel
theorem dL_need_11 : decode cL_need 11 = .ok (.astore_n 3, 1) := by decide +kernel
theorem dL_need_12 : decode cL_need 12 = .ok (.ldc 18, 2) := by decide +kernel
theorem dL_need_14 : decode cL_need 14 = .ok (.ireturn, 1) := by decide +kernel
set_option maxRecDepth 20000 in
theorem ggL_buys_X5_buy : GoodIn wsL_buys wsX5_buy := goodIn_ca (goodIn_ca (goodIn_r _ [9, 10, 11, 12, 13, 14, 15, 16, 17, 18, 19, 20, 8, 21, 22, 23, 24, 25, 26, 27, 28, 29, 30, 31, 32, 33, 34, 35, 36, 37, 38, 39, 40, 41, 42, 43, 44, 45, 46, 47, 48, 49, 50, 51, 52, 53, 54, 55, 56, 57, 58, 59, 60, 61, 62, 63, 64, 65, 66, 67, 68, 69, 70, 71, 72, 73, 74, 75, 76, 77, 78, 79, 80] (by decide +kernel) (by decide +kernel)) (goodIn_sub (fun _ h => List.mem_cons_of_mem _ (List.mem_append_left _ (List.mem_append_right _ h))) (by decide +kernel))) (goodIn_sub (fun _ h => List.mem_cons_of_mem _ (List.mem_append_right _ h)) (by decide +kernel))
set_option maxRecDepth 20000 in
theorem gL_buys_X5_buy : GoodIn wsL_buys (wsV RL 49 RX5 yX5_buy wsX5_buy) := goodIn_app (goodIn_of _ (by decide +kernel)) ggL_buys_X5_buy
theorem dL_buys_0 : decode cL_buys 0 = .ok (.aload_n 0, 1) := by decide +kernel
theorem dL_buys_1 : decode cL_buys 1 = .ok (.iload_n 1, 1) := by decide +kernel
theorem dL_buys_2 : decode cL_buys 2 = .ok (.iload_n 2, 1) := by decide +kernel
theorem dL_buys_3 : decode cL_buys 3 = .ok (.invokevirtual 49, 3) := by decide +kernel
theorem dL_buys_6 : decode cL_buys 6 = .ok (.ireturn, 1) := by decide +kernel
theorem dL_buys_7 : decode cL_buys 7 = .ok (.astore_n 3, 1) := by decide +kernel
theorem dL_buys_8 : decode cL_buys 8 = .ok (.ldc 15, 2) := by decide +kernel
theorem dL_buys_10 : decode cL_buys 10 = .ok (.ireturn, 1) := by decide +kernel
theorem dL_buys_11 : decode cL_buys 11 = .ok (.astore_n 3, 1) := by decide +kernel
theorem dL_buys_12 : decode cL_buys 12 = .ok (.ldc 21, 2) := by decide +kernel
theorem dL_buys_14 : decode cL_buys 14 = .ok (.ireturn, 1) := by decide +kernel
set_option maxRecDepth 20000 in
theorem ggL_rules_X5_rule : GoodIn wsL_rules wsX5_rule := goodIn_ca (goodIn_ca (goodIn_r _ [9, 10, 11, 12, 13, 14, 15, 16, 17, 18, 19, 8, 20, 21, 22, 23, 24, 25, 26, 27, 28, 29, 30, 31, 32, 33, 34, 35, 36, 37, 38, 39, 40, 41, 42, 43, 44, 45, 46, 47, 48, 49, 50, 51, 52, 53, 54, 55, 56, 57, 58, 59, 60, 61, 62, 63, 64] (by decide +kernel) (by decide +kernel)) (goodIn_sub (fun _ h => List.mem_cons_of_mem _ (List.mem_append_left _ (List.mem_append_right _ h))) (by decide +kernel))) (goodIn_sub (fun _ h => List.mem_cons_of_mem _ (List.mem_append_right _ h)) (by decide +kernel))
set_option maxRecDepth 20000 in
theorem gL_rules_X5_rule : GoodIn wsL_rules (wsV RL 52 RX5 yX5_rule wsX5_rule) := goodIn_app (goodIn_of _ (by decide +kernel)) ggL_rules_X5_rule
theorem dL_rules_0 : decode cL_rules 0 = .ok (.aload_n 0, 1) := by decide +kernel
theorem dL_rules_1 : decode cL_rules 1 = .ok (.iload_n 1, 1) := by decide +kernel
theorem dL_rules_2 : decode cL_rules 2 = .ok (.invokevirtual 52, 3) := by decide +kernel
theorem dL_rules_5 : decode cL_rules 5 = .ok (.ireturn, 1) := by decide +kernel
theorem dL_rules_6 : decode cL_rules 6 = .ok (.astore_n 2, 1) := by decide +kernel
theorem dL_rules_7 : decode cL_rules 7 = .ok (.ldc 15, 2) := by decide +kernel
theorem dL_rules_9 : decode cL_rules 9 = .ok (.ireturn, 1) := by decide +kernel
theorem dL_rules_10 : decode cL_rules 10 = .ok (.astore_n 2, 1) := by decide +kernel
theorem dL_rules_11 : decode cL_rules 11 = .ok (.ldc 21, 2) := by decide +kernel
theorem dL_rules_13 : decode cL_rules 13 = .ok (.ireturn, 1) := by decide +kernel
set_option maxRecDepth 20000 in
theorem ggL_money_X5_money : GoodIn wsL_money wsX5_money := goodIn_ca (goodIn_r _ [7, 8, 9, 10, 6, 11, 12, 13, 14, 15, 16, 17, 18] (by decide +kernel) (by decide +kernel)) (goodIn_sub (fun _ h => List.mem_cons_of_mem _ (List.mem_append_right _ h)) (by decide +kernel))
set_option maxRecDepth 20000 in
theorem gL_money_X5_money : GoodIn wsL_money (wsV RL 55 RX5 yX5_money wsX5_money) := goodIn_app (goodIn_of _ (by decide +kernel)) ggL_money_X5_money
theorem dL_money_0 : decode cL_money 0 = .ok (.aload_n 0, 1) := by decide +kernel
theorem dL_money_1 : decode cL_money 1 = .ok (.iload_n 1, 1) := by decide +kernel
theorem dL_money_2 : decode cL_money 2 = .ok (.invokevirtual 55, 3) := by decide +kernel
theorem dL_money_5 : decode cL_money 5 = .ok (.ireturn, 1) := by decide +kernel
theorem dL_money_6 : decode cL_money 6 = .ok (.astore_n 2, 1) := by decide +kernel
theorem dL_money_7 : decode cL_money 7 = .ok (.ldc 15, 2) := by decide +kernel
theorem dL_money_9 : decode cL_money 9 = .ok (.ireturn, 1) := by decide +kernel
set_option maxRecDepth 20000 in
theorem ggL_lots_X5_lot : GoodIn wsL_lots wsX5_lot := goodIn_ca (goodIn_ca (goodIn_ca (goodIn_r _ [11, 12, 13, 14, 15, 16, 17, 18, 19, 20, 10, 21, 22, 23, 24, 25, 26, 27, 28, 29, 30, 31, 32, 33, 34, 35, 36, 37, 38, 39, 40, 41, 42, 43, 44, 45, 46, 47, 48, 49, 50, 51, 52, 53, 54, 55, 56, 57, 58, 59, 60, 61, 62, 63, 64, 65, 66, 67, 68, 69, 70, 71, 72, 73, 74, 75, 76, 77, 78, 79, 80, 81, 82, 83, 84, 85, 86, 87, 88, 89, 90, 91, 92, 93, 94, 95, 96, 97, 98, 99, 100, 101, 102, 103, 104, 105, 106, 107, 108, 109, 110, 111, 112, 113] (by decide +kernel) (by decide +kernel)) (goodIn_sub (fun _ h => List.mem_cons_of_mem _ (List.mem_append_left _ (List.mem_append_left _ (List.mem_append_right _ h)))) (by decide +kernel))) (goodIn_sub (fun _ h => List.mem_cons_of_mem _ (List.mem_append_left _ (List.mem_append_right _ h))) (by decide +kernel))) (goodIn_sub (fun _ h => List.mem_cons_of_mem _ (List.mem_append_right _ h)) (by decide +kernel))
set_option maxRecDepth 20000 in
theorem gL_lots_X5_lot : GoodIn wsL_lots (wsV RL 58 RX5 yX5_lot wsX5_lot) := goodIn_app (goodIn_of _ (by decide +kernel)) ggL_lots_X5_lot
theorem dL_lots_0 : decode cL_lots 0 = .ok (.aload_n 0, 1) := by decide +kernel
theorem dL_lots_1 : decode cL_lots 1 = .ok (.iload_n 1, 1) := by decide +kernel
theorem dL_lots_2 : decode cL_lots 2 = .ok (.iload_n 2, 1) := by decide +kernel
theorem dL_lots_3 : decode cL_lots 3 = .ok (.iload_n 3, 1) := by decide +kernel
theorem dL_lots_4 : decode cL_lots 4 = .ok (.invokevirtual 58, 3) := by decide +kernel
theorem dL_lots_7 : decode cL_lots 7 = .ok (.ireturn, 1) := by decide +kernel
theorem dL_lots_8 : decode cL_lots 8 = .ok (.astore 4, 2) := by decide +kernel
theorem dL_lots_10 : decode cL_lots 10 = .ok (.ldc 15, 2) := by decide +kernel
theorem dL_lots_12 : decode cL_lots 12 = .ok (.ireturn, 1) := by decide +kernel
theorem dL_lots_13 : decode cL_lots 13 = .ok (.astore 4, 2) := by decide +kernel
theorem dL_lots_15 : decode cL_lots 15 = .ok (.ldc 18, 2) := by decide +kernel
theorem dL_lots_17 : decode cL_lots 17 = .ok (.ireturn, 1) := by decide +kernel
theorem dL_lots_18 : decode cL_lots 18 = .ok (.astore 4, 2) := by decide +kernel
theorem dL_lots_20 : decode cL_lots 20 = .ok (.ldc 21, 2) := by decide +kernel
theorem dL_lots_22 : decode cL_lots 22 = .ok (.ireturn, 1) := by decide +kernel
set_option maxRecDepth 20000 in
theorem ggL_swaps_X5_swap : GoodIn wsL_swaps wsX5_swap := goodIn_ca (goodIn_ca (goodIn_r _ [9, 10, 11, 12, 13, 14, 15, 8, 16, 17, 18, 19, 20, 21, 22, 23, 24, 25, 26, 27, 28, 29, 30, 31, 32, 33, 34, 35, 36, 37, 38, 39, 40, 41, 42, 43, 44, 45, 46, 47, 48, 49, 50, 51, 52, 53, 54, 55] (by decide +kernel) (by decide +kernel)) (goodIn_sub (fun _ h => List.mem_cons_of_mem _ (List.mem_append_left _ (List.mem_append_right _ h))) (by decide +kernel))) (goodIn_sub (fun _ h => List.mem_cons_of_mem _ (List.mem_append_right _ h)) (by decide +kernel))
set_option maxRecDepth 20000 in
theorem gL_swaps_X5_swap : GoodIn wsL_swaps (wsV RL 61 RX5 yX5_swap wsX5_swap) := goodIn_app (goodIn_of _ (by decide +kernel)) ggL_swaps_X5_swap
theorem dL_swaps_0 : decode cL_swaps 0 = .ok (.aload_n 0, 1) := by decide +kernel
theorem dL_swaps_1 : decode cL_swaps 1 = .ok (.iload_n 1, 1) := by decide +kernel
theorem dL_swaps_2 : decode cL_swaps 2 = .ok (.iload_n 2, 1) := by decide +kernel
theorem dL_swaps_3 : decode cL_swaps 3 = .ok (.invokevirtual 61, 3) := by decide +kernel
theorem dL_swaps_6 : decode cL_swaps 6 = .ok (.ireturn, 1) := by decide +kernel
theorem dL_swaps_7 : decode cL_swaps 7 = .ok (.astore_n 3, 1) := by decide +kernel
theorem dL_swaps_8 : decode cL_swaps 8 = .ok (.ldc 15, 2) := by decide +kernel
theorem dL_swaps_10 : decode cL_swaps 10 = .ok (.ireturn, 1) := by decide +kernel
theorem dL_swaps_11 : decode cL_swaps 11 = .ok (.astore_n 3, 1) := by decide +kernel
theorem dL_swaps_12 : decode cL_swaps 12 = .ok (.ldc 21, 2) := by decide +kernel
theorem dL_swaps_14 : decode cL_swaps 14 = .ok (.ireturn, 1) := by decide +kernel
set_option maxRecDepth 20000 in
theorem ggL_left_X5_left : GoodIn wsL_left wsX5_left := goodIn_ca (goodIn_r _ [7, 8, 9, 10, 11, 6, 12, 13, 14, 15, 16, 17, 18, 19, 20, 21, 22, 23, 24, 25, 26, 27, 28, 29, 30, 31, 32, 33, 34, 35, 36, 37, 38, 39, 40, 41, 42, 43, 44, 45, 46, 47, 48, 49, 50, 51] (by decide +kernel) (by decide +kernel)) (goodIn_sub (fun _ h => List.mem_cons_of_mem _ (List.mem_append_right _ h)) (by decide +kernel))
set_option maxRecDepth 20000 in
theorem gL_left_X5_left : GoodIn wsL_left (wsV RL 64 RX5 yX5_left wsX5_left) := goodIn_app (goodIn_of _ (by decide +kernel)) ggL_left_X5_left
theorem dL_left_0 : decode cL_left 0 = .ok (.aload_n 0, 1) := by decide +kernel
theorem dL_left_1 : decode cL_left 1 = .ok (.iload_n 1, 1) := by decide +kernel
theorem dL_left_2 : decode cL_left 2 = .ok (.invokevirtual 64, 3) := by decide +kernel
theorem dL_left_5 : decode cL_left 5 = .ok (.ireturn, 1) := by decide +kernel
theorem dL_left_6 : decode cL_left 6 = .ok (.astore_n 2, 1) := by decide +kernel
theorem dL_left_7 : decode cL_left 7 = .ok (.ldc 15, 2) := by decide +kernel
theorem dL_left_9 : decode cL_left 9 = .ok (.ireturn, 1) := by decide +kernel
set_option maxRecDepth 20000 in
theorem ggL_projects_X5_project : GoodIn wsL_projects wsX5_project := goodIn_ca (goodIn_ca (goodIn_r _ [9, 10, 11, 12, 13, 14, 15, 16, 17, 18, 8, 19, 20, 21, 22, 23, 24, 25, 26, 27, 28, 29, 30, 31, 32, 33, 34, 35, 36, 37, 38, 39, 40, 41, 42, 43, 44, 45, 46, 47, 48, 49, 50, 51, 52, 53, 54, 55, 56, 57, 58, 59, 60, 61, 62, 63, 64, 65, 66, 67, 68, 69, 70, 71, 72, 73, 74, 75, 76, 77, 78, 79, 80, 81, 82, 83, 84, 85, 86, 87, 88, 89, 90, 91, 92, 93, 94, 95, 96, 97, 98, 99, 100, 101, 102, 103, 104, 105, 106, 107, 108, 109, 110, 111, 112, 113, 114, 115, 116, 117, 118, 119, 120, 121, 122, 123, 124, 125, 126, 127, 128, 129, 130, 131, 132, 133, 134, 135, 136, 137, 138, 139, 140, 141, 142, 143, 144, 145, 146, 147, 148, 149, 150, 151, 152, 153, 154, 155, 156] (by decide +kernel) (by decide +kernel)) (goodIn_sub (fun _ h => List.mem_cons_of_mem _ (List.mem_append_left _ (List.mem_append_right _ h))) (by decide +kernel))) (goodIn_sub (fun _ h => List.mem_cons_of_mem _ (List.mem_append_right _ h)) (by decide +kernel))
set_option maxRecDepth 20000 in
theorem gL_projects_X5_project : GoodIn wsL_projects (wsV RL 67 RX5 yX5_project wsX5_project) := goodIn_app (goodIn_of _ (by decide +kernel)) ggL_projects_X5_project
theorem dL_projects_0 : decode cL_projects 0 = .ok (.aload_n 0, 1) := by decide +kernel
theorem dL_projects_1 : decode cL_projects 1 = .ok (.iload_n 1, 1) := by decide +kernel
theorem dL_projects_2 : decode cL_projects 2 = .ok (.iload_n 2, 1) := by decide +kernel
theorem dL_projects_3 : decode cL_projects 3 = .ok (.iload_n 3, 1) := by decide +kernel
theorem dL_projects_4 : decode cL_projects 4 = .ok (.invokevirtual 67, 3) := by decide +kernel
theorem dL_projects_7 : decode cL_projects 7 = .ok (.ireturn, 1) := by decide +kernel
theorem dL_projects_8 : decode cL_projects 8 = .ok (.astore 4, 2) := by decide +kernel
theorem dL_projects_10 : decode cL_projects 10 = .ok (.ldc 15, 2) := by decide +kernel
theorem dL_projects_12 : decode cL_projects 12 = .ok (.ireturn, 1) := by decide +kernel
theorem dL_projects_13 : decode cL_projects 13 = .ok (.astore 4, 2) := by decide +kernel
theorem dL_projects_15 : decode cL_projects 15 = .ok (.ldc 21, 2) := by decide +kernel
theorem dL_projects_17 : decode cL_projects 17 = .ok (.ireturn, 1) := by decide +kernel
set_option maxRecDepth 20000 in
theorem ggL_takes_X5_take : GoodIn wsL_takes wsX5_take := goodIn_ca (goodIn_ca (goodIn_r _ [9, 10, 11, 12, 13, 14, 15, 16, 17, 18, 8, 19, 20, 21, 22, 23, 24, 25, 26, 27, 28, 29, 30, 31, 32, 33, 34, 35, 36, 37, 38, 39, 40, 41, 42, 43, 44, 45, 46, 47, 48, 49, 50, 51, 52, 53, 54, 55, 56, 57, 58, 59, 60, 61, 62, 63, 64, 65, 66, 67, 68] (by decide +kernel) (by decide +kernel)) (goodIn_sub (fun _ h => List.mem_cons_of_mem _ (List.mem_append_left _ (List.mem_append_right _ h))) (by decide +kernel))) (goodIn_sub (fun _ h => List.mem_cons_of_mem _ (List.mem_append_right _ h)) (by decide +kernel))
set_option maxRecDepth 20000 in
theorem gL_takes_X5_take : GoodIn wsL_takes (wsV RL 70 RX5 yX5_take wsX5_take) := goodIn_app (goodIn_of _ (by decide +kernel)) ggL_takes_X5_take
theorem dL_takes_0 : decode cL_takes 0 = .ok (.aload_n 0, 1) := by decide +kernel
theorem dL_takes_1 : decode cL_takes 1 = .ok (.iload_n 1, 1) := by decide +kernel
theorem dL_takes_2 : decode cL_takes 2 = .ok (.iload_n 2, 1) := by decide +kernel
theorem dL_takes_3 : decode cL_takes 3 = .ok (.invokevirtual 70, 3) := by decide +kernel
theorem dL_takes_6 : decode cL_takes 6 = .ok (.ireturn, 1) := by decide +kernel
theorem dL_takes_7 : decode cL_takes 7 = .ok (.astore_n 3, 1) := by decide +kernel
theorem dL_takes_8 : decode cL_takes 8 = .ok (.ldc 15, 2) := by decide +kernel
theorem dL_takes_10 : decode cL_takes 10 = .ok (.ireturn, 1) := by decide +kernel
theorem dL_takes_11 : decode cL_takes 11 = .ok (.astore_n 3, 1) := by decide +kernel
theorem dL_takes_12 : decode cL_takes 12 = .ok (.ldc 21, 2) := by decide +kernel
theorem dL_takes_14 : decode cL_takes 14 = .ok (.ireturn, 1) := by decide +kernel
set_option maxRecDepth 20000 in
theorem ggL_knits_X5_knit : GoodIn wsL_knits wsX5_knit := goodIn_ca (goodIn_ca (goodIn_r _ [9, 10, 11, 12, 8, 13, 14, 15, 16, 17, 18, 19, 20, 21, 22, 23, 24, 25, 26, 27, 28, 29, 30, 31, 32, 33, 34, 35, 36, 37, 38, 39, 40, 41, 42, 43, 44, 45, 46, 47, 48, 49, 50, 51, 52, 53, 54, 55, 56, 57, 58, 59, 60, 61, 62, 63, 64, 65, 66, 67, 68, 69, 70, 71, 72, 73, 74, 75, 76, 77, 78, 79, 80, 81, 82, 83, 84, 85, 86, 87, 88, 89, 90, 91, 92, 93, 94, 95, 96, 97, 98, 99, 100, 101, 102] (by decide +kernel) (by decide +kernel)) (goodIn_sub (fun _ h => List.mem_cons_of_mem _ (List.mem_append_left _ (List.mem_append_right _ h))) (by decide +kernel))) (goodIn_sub (fun _ h => List.mem_cons_of_mem _ (List.mem_append_right _ h)) (by decide +kernel))
set_option maxRecDepth 20000 in
theorem gL_knits_X5_knit : GoodIn wsL_knits (wsV RL 73 RX5 yX5_knit wsX5_knit) := goodIn_app (goodIn_of _ (by decide +kernel)) ggL_knits_X5_knit
theorem dL_knits_0 : decode cL_knits 0 = .ok (.aload_n 0, 1) := by decide +kernel
theorem dL_knits_1 : decode cL_knits 1 = .ok (.iload_n 1, 1) := by decide +kernel
theorem dL_knits_2 : decode cL_knits 2 = .ok (.iload_n 2, 1) := by decide +kernel
theorem dL_knits_3 : decode cL_knits 3 = .ok (.invokevirtual 73, 3) := by decide +kernel
theorem dL_knits_6 : decode cL_knits 6 = .ok (.ireturn, 1) := by decide +kernel
theorem dL_knits_7 : decode cL_knits 7 = .ok (.astore_n 3, 1) := by decide +kernel
theorem dL_knits_8 : decode cL_knits 8 = .ok (.ldc 15, 2) := by decide +kernel
theorem dL_knits_10 : decode cL_knits 10 = .ok (.ireturn, 1) := by decide +kernel
theorem dL_knits_11 : decode cL_knits 11 = .ok (.astore_n 3, 1) := by decide +kernel
theorem dL_knits_12 : decode cL_knits 12 = .ok (.ldc 18, 2) := by decide +kernel
theorem dL_knits_14 : decode cL_knits 14 = .ok (.ireturn, 1) := by decide +kernel
set_option maxRecDepth 20000 in
theorem ggL_progress_X5_progress : GoodIn wsL_progress wsX5_progress := goodIn_ca (goodIn_r _ [7, 8, 9, 10, 11, 6, 12, 13, 14, 15, 16, 17, 18, 19, 20, 21, 22, 23, 24, 25, 26, 27, 28, 29, 30, 31, 32, 33, 34, 35, 36, 37, 38, 39, 40, 41, 42, 43, 44, 45, 46, 47, 48, 49, 50, 51] (by decide +kernel) (by decide +kernel)) (goodIn_sub (fun _ h => List.mem_cons_of_mem _ (List.mem_append_right _ h)) (by decide +kernel))
set_option maxRecDepth 20000 in
theorem gL_progress_X5_progress : GoodIn wsL_progress (wsV RL 76 RX5 yX5_progress wsX5_progress) := goodIn_app (goodIn_of _ (by decide +kernel)) ggL_progress_X5_progress
theorem dL_progress_0 : decode cL_progress 0 = .ok (.aload_n 0, 1) := by decide +kernel
theorem dL_progress_1 : decode cL_progress 1 = .ok (.iload_n 1, 1) := by decide +kernel
theorem dL_progress_2 : decode cL_progress 2 = .ok (.invokevirtual 76, 3) := by decide +kernel
theorem dL_progress_5 : decode cL_progress 5 = .ok (.ireturn, 1) := by decide +kernel
theorem dL_progress_6 : decode cL_progress 6 = .ok (.astore_n 2, 1) := by decide +kernel
theorem dL_progress_7 : decode cL_progress 7 = .ok (.ldc 15, 2) := by decide +kernel
theorem dL_progress_9 : decode cL_progress 9 = .ok (.ireturn, 1) := by decide +kernel
theorem dL_drawn_0 : decode cL_drawn 0 = .ok (.iload_n 1, 1) := by decide +kernel
theorem dL_drawn_1 : decode cL_drawn 1 = .ok (.aload_n 0, 1) := by decide +kernel
theorem dL_drawn_2 : decode cL_drawn 2 = .ok (.arraylength, 1) := by decide +kernel
theorem dL_drawn_3 : decode cL_drawn 3 = .ok (.if_icmp .ge 9, 3) := by decide +kernel
theorem dL_drawn_6 : decode cL_drawn 6 = .ok (.aload_n 0, 1) := by decide +kernel
theorem dL_drawn_7 : decode cL_drawn 7 = .ok (.iload_n 1, 1) := by decide +kernel
theorem dL_drawn_8 : decode cL_drawn 8 = .ok (.iaload, 1) := by decide +kernel
theorem dL_drawn_9 : decode cL_drawn 9 = .ok (.goto 13, 3) := by decide +kernel
theorem dL_drawn_12 : decode cL_drawn 12 = .ok (.ldc 79, 2) := by decide +kernel
theorem dL_drawn_14 : decode cL_drawn 14 = .ok (.iload_n 1, 1) := by decide +kernel
theorem dL_drawn_15 : decode cL_drawn 15 = .ok (.iconst 3, 1) := by decide +kernel
theorem dL_drawn_16 : decode cL_drawn 16 = .ok (.iadd, 1) := by decide +kernel
theorem dL_drawn_17 : decode cL_drawn 17 = .ok (.imul, 1) := by decide +kernel
theorem dL_drawn_18 : decode cL_drawn 18 = .ok (.sipush 14033, 3) := by decide +kernel
theorem dL_drawn_21 : decode cL_drawn 21 = .ok (.iadd, 1) := by decide +kernel
theorem dL_drawn_22 : decode cL_drawn 22 = .ok (.ldc 80, 2) := by decide +kernel
theorem dL_drawn_24 : decode cL_drawn 24 = .ok (.iand, 1) := by decide +kernel
theorem dL_drawn_25 : decode cL_drawn 25 = .ok (.ireturn, 1) := by decide +kernel
