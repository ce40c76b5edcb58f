set_option maxRecDepth 20000 in
theorem ggL_begins_X5_begin : GoodIn wsL_begins wsX5_begin := goodIn_ca (goodIn_ca (goodIn_ca (goodIn_r _ [11, 12, 13, 14, 10, 15, 16, 17, 18, 19, 20, 21, 22, 23, 24, 25, 26, 27, 28, 29, 30, 31, 32, 33, 34, 35, 36, 37, 38, 39, 40, 41, 42, 43, 44, 45, 46, 47, 48, 49, 50, 51, 52, 53, 54, 55, 56, 57, 58, 59, 60, 61, 62, 63, 64, 65, 66, 67, 68, 69, 70, 71, 72, 73, 74, 75, 76, 77, 78, 79, 80, 81, 82, 83, 84, 85, 86, 87, 88, 89, 90, 91, 92, 93, 94, 95, 96, 97, 98, 99, 100, 101, 102, 103, 104, 105, 106, 107, 108, 109, 110, 111, 112, 113, 114, 115, 116, 117, 118, 119, 120, 121, 122, 123, 124, 125, 126, 127, 128, 129, 130, 131, 132, 133, 134, 135, 136, 137, 138, 139, 140, 141, 142, 143, 144, 145, 146, 147, 148, 149, 150, 151, 152, 153, 154, 155, 156, 157, 158, 159, 160, 161, 162, 163, 164] (by decide +kernel) (by decide +kernel)) (goodIn_sub (fun _ h => List.mem_cons_of_mem _ (List.mem_append_left _ (List.mem_append_left _ (List.mem_append_right _ h)))) (by decide +kernel))) (goodIn_sub (fun _ h => List.mem_cons_of_mem _ (List.mem_append_left _ (List.mem_append_right _ h))) (by decide +kernel))) (goodIn_sub (fun _ h => List.mem_cons_of_mem _ (List.mem_append_right _ h)) (by decide +kernel))
set_option maxRecDepth 20000 in
theorem gL_begins_X5_begin : GoodIn wsL_begins (wsV RL 7 RX5 yX5_begin wsX5_begin) := goodIn_app (goodIn_of _ (by decide +kernel)) ggL_begins_X5_begin
theorem dL_begins_0 : decode cL_begins 0 = .ok (.aload_n 0, 1) := by decide +kernel
theorem dL_begins_1 : decode cL_begins 1 = .ok (.iload_n 1, 1) := by decide +kernel
theorem dL_begins_2 : decode cL_begins 2 = .ok (.iload_n 2, 1) := by decide +kernel
theorem dL_begins_3 : decode cL_begins 3 = .ok (.iload_n 3, 1) := by decide +kernel
theorem dL_begins_4 : decode cL_begins 4 = .ok (.invokevirtual 7, 3) := by decide +kernel
theorem dL_begins_7 : decode cL_begins 7 = .ok (.ireturn, 1) := by decide +kernel
theorem dL_begins_8 : decode cL_begins 8 = .ok (.astore 4, 2) := by decide +kernel
theorem dL_begins_10 : decode cL_begins 10 = .ok (.ldc 15, 2) := by decide +kernel
theorem dL_begins_12 : decode cL_begins 12 = .ok (.ireturn, 1) := by decide +kernel
theorem dL_begins_13 : decode cL_begins 13 = .ok (.astore 4, 2) := by decide +kernel
theorem dL_begins_15 : decode cL_begins 15 = .ok (.ldc 18, 2) := by decide +kernel
theorem dL_begins_17 : decode cL_begins 17 = .ok (.ireturn, 1) := by decide +kernel
theorem dL_begins_18 : decode cL_begins 18 = .ok (.astore 4, 2) := by decide +kernel
theorem dL_begins_20 : decode cL_begins 20 = .ok (.ldc 21, 2) := by decide +kernel
theorem dL_begins_22 : decode cL_begins 22 = .ok (.ireturn, 1) := by decide +kernel
set_option maxRecDepth 20000 in
theorem ggL_lines_X5_line : GoodIn wsL_lines wsX5_line := goodIn_ca (goodIn_ca (goodIn_ca (goodIn_r _ [11, 12, 13, 14, 15, 16, 17, 18, 19, 20, 10, 21, 22, 23, 24, 25, 26, 27, 28, 29, 30, 31, 32, 33, 34, 35, 36, 37, 38, 39, 40, 41, 42, 43, 44, 45, 46, 47, 48, 49, 50, 51, 52, 53, 54, 55, 56, 57, 58, 59, 60, 61, 62, 63, 64, 65, 66, 67, 68, 69, 70, 71, 72, 73, 74, 75, 76, 77, 78, 79, 80, 81, 82, 83, 84, 85, 86, 87, 88, 89, 90, 91, 92, 93, 94, 95, 96, 97, 98, 99, 100, 101, 102, 103, 104, 105, 106, 107, 108, 109, 110, 111, 112, 113, 114, 115, 116, 117, 118, 119, 120, 121, 122, 123, 124, 125, 126, 127, 128, 129, 130] (by decide +kernel) (by decide +kernel)) (goodIn_sub (fun _ h => List.mem_cons_of_mem _ (List.mem_append_left _ (List.mem_append_left _ (List.mem_append_right _ h)))) (by decide +kernel))) (goodIn_sub (fun _ h => List.mem_cons_of_mem _ (List.mem_append_left _ (List.mem_append_right _ h))) (by decide +kernel))) (goodIn_sub (fun _ h => List.mem_cons_of_mem _ (List.mem_append_right _ h)) (by decide +kernel))
set_option maxRecDepth 20000 in
theorem gL_lines_X5_line : GoodIn wsL_lines (wsV RL 22 RX5 yX5_line wsX5_line) := goodIn_app (goodIn_of _ (by decide +kernel)) ggL_lines_X5_line
theorem dL_lines_0 : decode cL_lines 0 = .ok (.aload_n 0, 1) := by decide +kernel
theorem dL_lines_1 : decode cL_lines 1 = .ok (.iload_n 1, 1) := by decide +kernel
theorem dL_lines_2 : decode cL_lines 2 = .ok (.iload_n 2, 1) := by decide +kernel
theorem dL_lines_3 : decode cL_lines 3 = .ok (.iload_n 3, 1) := by decide +kernel
theorem dL_lines_4 : decode cL_lines 4 = .ok (.iload 4, 2) := by decide +kernel
theorem dL_lines_6 : decode cL_lines 6 = .ok (.iload 5, 2) := by decide +kernel
theorem dL_lines_8 : decode cL_lines 8 = .ok (.invokevirtual 22, 3) := by decide +kernel
theorem dL_lines_11 : decode cL_lines 11 = .ok (.ireturn, 1) := by decide +kernel
theorem dL_lines_12 : decode cL_lines 12 = .ok (.astore 6, 2) := by decide +kernel
theorem dL_lines_14 : decode cL_lines 14 = .ok (.ldc 15, 2) := by decide +kernel
theorem dL_lines_16 : decode cL_lines 16 = .ok (.ireturn, 1) := by decide +kernel
theorem dL_lines_17 : decode cL_lines 17 = .ok (.astore 6, 2) := by decide +kernel
theorem dL_lines_19 : decode cL_lines 19 = .ok (.ldc 18, 2) := by decide +kernel
theorem dL_lines_21 : decode cL_lines 21 = .ok (.ireturn, 1) := by decide +kernel
theorem dL_lines_22 : decode cL_lines 22 = .ok (.astore 6, 2) := by decide +kernel
theorem dL_lines_24 : decode cL_lines 24 = .ok (.ldc 21, 2) := by decide +kernel
theorem dL_lines_26 : decode cL_lines 26 = .ok (.ireturn, 1) := by decide +kernel
set_option maxRecDepth 20000 in
theorem ggL_anews_X5_anew : GoodIn wsL_anews wsX5_anew := goodIn_ca (goodIn_ca (goodIn_ca (goodIn_r _ [11, 12, 13, 14, 15, 16, 17, 18, 19, 20, 21, 10, 22, 23, 24, 25, 26, 27, 28, 29, 30, 31, 32, 33, 34, 35, 36, 37, 38, 39, 40, 41, 42, 43, 44, 45, 46, 47, 48, 49, 50, 51, 52, 53, 54, 55, 56, 57, 58, 59, 60, 61, 62, 63, 64, 65, 66, 67, 68, 69, 70, 71, 72, 73, 74, 75, 76, 77, 78, 79, 80, 81, 82, 83, 84, 85, 86, 87, 88, 89, 90, 91, 92, 93, 94, 95, 96, 97, 98, 99, 100, 101, 102, 103, 104, 105, 106, 107, 108, 109, 110, 111, 112, 113, 114, 115, 116, 117, 118, 119, 120, 121, 122, 123, 124, 125, 126, 127, 128, 129, 130, 131, 132, 133, 134, 135, 136, 137, 138, 139, 140, 141, 142, 143, 144, 145, 146, 147, 148, 149, 150, 151, 152, 153, 154, 155, 156, 157, 158, 159, 160, 161, 162, 163, 164, 165, 166, 167, 168, 169, 170, 171, 172, 173, 174, 175, 176, 177, 178, 179, 180, 181, 182, 183, 184, 185, 186, 187, 188, 189, 190, 191, 192, 193, 194, 195, 196, 197, 198, 199, 200, 201, 202, 203, 204, 205, 206, 207, 208, 209, 210, 211, 212, 213, 214, 215, 216, 217, 218, 219, 220, 221, 222, 223, 224, 225, 226, 227, 228, 229, 230, 231, 232, 233] (by decide +kernel) (by decide +kernel)) (goodIn_sub (fun _ h => List.mem_cons_of_mem _ (List.mem_append_left _ (List.mem_append_left _ (List.mem_append_right _ h)))) (by decide +kernel))) (goodIn_sub (fun _ h => List.mem_cons_of_mem _ (List.mem_append_left _ (List.mem_append_right _ h))) (by decide +kernel))) (goodIn_sub (fun _ h => List.mem_cons_of_mem _ (List.mem_append_right _ h)) (by decide +kernel))
set_option maxRecDepth 20000 in
theorem gL_anews_X5_anew : GoodIn wsL_anews (wsV RL 26 RX5 yX5_anew wsX5_anew) := goodIn_app (goodIn_of _ (by decide +kernel)) ggL_anews_X5_anew
theorem dL_anews_0 : decode cL_anews 0 = .ok (.aload_n 0, 1) := by decide +kernel
theorem dL_anews_1 : decode cL_anews 1 = .ok (.iload_n 1, 1) := by decide +kernel
theorem dL_anews_2 : decode cL_anews 2 = .ok (.iload_n 2, 1) := by decide +kernel
theorem dL_anews_3 : decode cL_anews 3 = .ok (.invokevirtual 26, 3) := by decide +kernel
theorem dL_anews_6 : decode cL_anews 6 = .ok (.ireturn, 1) := by decide +kernel
theorem dL_anews_7 : decode cL_anews 7 = .ok (.astore_n 3, 1) := by decide +kernel
theorem dL_anews_8 : decode cL_anews 8 = .ok (.ldc 15, 2) := by decide +kernel
theorem dL_anews_10 : decode cL_anews 10 = .ok (.ireturn, 1) := by decide +kernel
theorem dL_anews_11 : decode cL_anews 11 = .ok (.astore_n 3, 1) := by decide +kernel
theorem dL_anews_12 : decode cL_anews 12 = .ok (.ldc 18, 2) := by decide +kernel
theorem dL_anews_14 : decode cL_anews 14 = .ok (.ireturn, 1) := by decide +kernel
theorem dL_anews_15 : decode cL_anews 15 = .ok (.astore_n 3, 1) := by decide +kernel
theorem dL_anews_16 : decode cL_anews 16 = .ok (.ldc 21, 2) := by decide +kernel
theorem dL_anews_18 : decode cL_anews 18 = .ok (.ireturn, 1) := by decide +kernel
set_option maxRecDepth 20000 in
theorem ggL_publishes_X5_publish : GoodIn wsL_publishes wsX5_publish := goodIn_ca (goodIn_ca (goodIn_r _ [9, 10, 11, 12, 13, 14, 15, 16, 17, 8, 18, 19, 20, 21, 22, 23, 24, 25, 26, 27, 28, 29, 30, 31, 32, 33, 34, 35, 36, 37, 38, 39, 40, 41, 42, 43, 44, 45, 46, 47, 48, 49, 50, 51, 52, 53, 54, 55, 56, 57, 58, 59, 60, 61, 62, 63, 64, 65, 66, 67, 68, 69, 70, 71, 72, 73, 74, 75, 76, 77, 78, 79, 80, 81, 82, 83, 84, 85, 86, 87, 88, 89, 90, 91, 92, 93, 94, 95, 96, 97, 98, 99, 100, 101, 102, 103, 104, 105, 106, 107, 108, 109, 110, 111, 112, 113, 114, 115, 116, 117, 118, 119, 120, 121, 122, 123, 124, 125, 126, 127, 128, 129, 130, 131, 132, 133, 134, 135, 136, 137, 138, 139, 140, 141, 142, 143, 144, 145, 146, 147, 148] (by decide +kernel) (by decide +kernel)) (goodIn_sub (fun _ h => List.mem_cons_of_mem _ (List.mem_append_left _ (List.mem_append_right _ h))) (by decide +kernel))) (goodIn_sub (fun _ h => List.mem_cons_of_mem _ (List.mem_append_right _ h)) (by decide +kernel))
set_option maxRecDepth 20000 in
theorem gL_publishes_X5_publish : GoodIn wsL_publishes (wsV RL 30 RX5 yX5_publish wsX5_publish) := goodIn_app (goodIn_of _ (by decide +kernel)) ggL_publishes_X5_publish
theorem dL_publishes_0 : decode cL_publishes 0 = .ok (.aload_n 0, 1) := by decide +kernel
theorem dL_publishes_1 : decode cL_publishes 1 = .ok (.iload_n 1, 1) := by decide +kernel
theorem dL_publishes_2 : decode cL_publishes 2 = .ok (.invokevirtual 30, 3) := by decide +kernel
theorem dL_publishes_5 : decode cL_publishes 5 = .ok (.ireturn, 1) := by decide +kernel
theorem dL_publishes_6 : decode cL_publishes 6 = .ok (.astore_n 2, 1) := by decide +kernel
theorem dL_publishes_7 : decode cL_publishes 7 = .ok (.ldc 15, 2) := by decide +kernel
theorem dL_publishes_9 : decode cL_publishes 9 = .ok (.ireturn, 1) := by decide +kernel
theorem dL_publishes_10 : decode cL_publishes 10 = .ok (.astore_n 2, 1) := by decide +kernel
theorem dL_publishes_11 : decode cL_publishes 11 = .ok (.ldc 21, 2) := by decide +kernel
theorem dL_publishes_13 : decode cL_publishes 13 = .ok (.ireturn, 1) := by decide +kernel
set_option maxRecDepth 20000 in
theorem ggL_original_X5_original : GoodIn wsL_original wsX5_original := goodIn_ca (goodIn_r _ [7, 8, 9, 10, 11, 12, 6, 13, 14, 15, 16, 17, 18, 19, 20, 21, 22, 23, 24, 25, 26, 27, 28, 29, 30, 31, 32, 33, 34, 35, 36, 37, 38, 39, 40, 41, 42, 43, 44, 45, 46, 47, 48, 49, 50, 51, 52, 53, 54, 55, 56, 57] (by decide +kernel) (by decide +kernel)) (goodIn_sub (fun _ h => List.mem_cons_of_mem _ (List.mem_append_right _ h)) (by decide +kernel))
set_option maxRecDepth 20000 in
theorem gL_original_X5_original : GoodIn wsL_original (wsV RL 34 RX5 yX5_original wsX5_original) := goodIn_app (goodIn_of _ (by decide +kernel)) ggL_original_X5_original
theorem dL_original_0 : decode cL_original 0 = .ok (.aload_n 0, 1) := by decide +kernel
theorem dL_original_1 : decode cL_original 1 = .ok (.iload_n 1, 1) := by decide +kernel
theorem dL_original_2 : decode cL_original 2 = .ok (.invokevirtual 34, 3) := by decide +kernel
theorem dL_original_5 : decode cL_original 5 = .ok (.ireturn, 1) := by decide +kernel
theorem dL_original_6 : decode cL_original 6 = .ok (.astore_n 2, 1) := by decide +kernel
theorem dL_original_7 : decode cL_original 7 = .ok (.ldc 15, 2) := by decide +kernel
theorem dL_original_9 : decode cL_original 9 = .ok (.ireturn, 1) := by decide +kernel
set_option maxRecDepth 20000 in
theorem ggL_rows_X5_rows : GoodIn wsL_rows wsX5_rows := goodIn_ca (goodIn_r _ [7, 8, 9, 10, 11, 12, 6, 13, 14, 15, 16, 17, 18, 19, 20, 21, 22, 23, 24, 25, 26, 27, 28, 29, 30, 31, 32, 33, 34, 35, 36, 37, 38, 39, 40, 41, 42, 43, 44, 45, 46, 47, 48, 49, 50, 51, 52, 53, 54, 55, 56, 57, 58, 59, 60, 61] (by decide +kernel) (by decide +kernel)) (goodIn_sub (fun _ h => List.mem_cons_of_mem _ (List.mem_append_right _ h)) (by decide +kernel))
set_option maxRecDepth 20000 in
theorem gL_rows_X5_rows : GoodIn wsL_rows (wsV RL 37 RX5 yX5_rows wsX5_rows) := goodIn_app (goodIn_of _ (by decide +kernel)) ggL_rows_X5_rows
theorem dL_rows_0 : decode cL_rows 0 = .ok (.aload_n 0, 1) := by decide +kernel
theorem dL_rows_1 : decode cL_rows 1 = .ok (.iload_n 1, 1) := by decide +kernel
theorem dL_rows_2 : decode cL_rows 2 = .ok (.invokevirtual 37, 3) := by decide +kernel
theorem dL_rows_5 : decode cL_rows 5 = .ok (.ireturn, 1) := by decide +kernel
theorem dL_rows_6 : decode cL_rows 6 = .ok (.astore_n 2, 1) := by decide +kernel
theorem dL_rows_7 : decode cL_rows 7 = .ok (.ldc 15, 2) := by decide +kernel
theorem dL_rows_9 : decode cL_rows 9 = .ok (.ireturn, 1) := by decide +kernel
set_option maxRecDepth 20000 in
theorem ggL_stitch_X5_stitch : GoodIn wsL_stitch wsX5_stitch := goodIn_ca (goodIn_r _ [7, 8, 9, 10, 11, 6, 12, 13, 14, 15, 16, 17, 18, 19, 20, 21, 22, 23, 24, 25, 26, 27, 28, 29, 30, 31, 32, 33, 34, 35, 36, 37, 38, 39, 40, 41, 42, 43, 44, 45, 46, 47, 48, 49, 50, 51, 52, 53, 54, 55, 56, 57, 58, 59, 60, 61, 62, 63, 64, 65, 66, 67, 68, 69, 70] (by decide +kernel) (by decide +kernel)) (goodIn_sub (fun _ h => List.mem_cons_of_mem _ (List.mem_append_right _ h)) (by decide +kernel))
set_option maxRecDepth 20000 in
theorem gL_stitch_X5_stitch : GoodIn wsL_stitch (wsV RL 40 RX5 yX5_stitch wsX5_stitch) := goodIn_app (goodIn_of _ (by decide +kernel)) ggL_stitch_X5_stitch
theorem dL_stitch_0 : decode cL_stitch 0 = .ok (.aload_n 0, 1) := by decide +kernel
theorem dL_stitch_1 : decode cL_stitch 1 = .ok (.iload_n 1, 1) := by decide +kernel
theorem dL_stitch_2 : decode cL_stitch 2 = .ok (.iload_n 2, 1) := by decide +kernel
theorem dL_stitch_3 : decode cL_stitch 3 = .ok (.iload_n 3, 1) := by decide +kernel
theorem dL_stitch_4 : decode cL_stitch 4 = .ok (.invokevirtual 40, 3) := by decide +kernel
theorem dL_stitch_7 : decode cL_stitch 7 = .ok (.ireturn, 1) := by decide +kernel
theorem dL_stitch_8 : decode cL_stitch 8 = .ok (.astore 4, 2) := by decide +kernel
theorem dL_stitch_10 : decode cL_stitch 10 = .ok (.ldc 15, 2) := by decide +kernel
theorem dL_stitch_12 : decode cL_stitch 12 = .ok (.ireturn, 1) := by decide +kernel
set_option maxRecDepth 20000 in
theorem ggL_byWork_X5_stitchByWork : GoodIn wsL_byWork wsX5_stitchByWork := goodIn_ca (goodIn_r _ [7, 8, 9, 10, 11, 6, 12, 13, 14, 15, 16, 17, 18, 19, 20, 21, 22, 23, 24, 25, 26, 27, 28, 29, 30, 31, 32, 33, 34, 35, 36, 37, 38, 39, 40, 41, 42, 43, 44, 45, 46, 47, 48, 49, 50, 51, 52, 53, 54, 55, 56, 57, 58, 59, 60, 61, 62, 63, 64, 65, 66, 67, 68, 69, 70, 71, 72, 73, 74, 75, 76, 77, 78, 79, 80, 81, 82, 83, 84, 85, 86, 87, 88, 89, 90, 91, 92, 93, 94, 95, 96, 97, 98] (by decide +kernel) (by decide +kernel)) (goodIn_sub (fun _ h => List.mem_cons_of_mem _ (List.mem_append_right _ h)) (by decide +kernel))
set_option maxRecDepth 20000 in
theorem gL_byWork_X5_stitchByWork : GoodIn wsL_byWork (wsV RL 43 RX5 yX5_stitchByWork wsX5_stitchByWork) := goodIn_app (goodIn_of _ (by decide +kernel)) ggL_byWork_X5_stitchByWork
theorem dL_byWork_0 : decode cL_byWork 0 = .ok (.aload_n 0, 1) := by decide +kernel
theorem dL_byWork_1 : decode cL_byWork 1 = .ok (.iload_n 1, 1) := by decide +kernel
theorem dL_byWork_2 : decode cL_byWork 2 = .ok (.iload_n 2, 1) := by decide +kernel
theorem dL_byWork_3 : decode cL_byWork 3 = .ok (.iload_n 3, 1) := by decide +kernel
theorem dL_byWork_4 : decode cL_byWork 4 = .ok (.invokevirtual 43, 3) := by decide +kernel
theorem dL_byWork_7 : decode cL_byWork 7 = .ok (.ireturn, 1) := by decide +kernel
theorem dL_byWork_8 : decode cL_byWork 8 = .ok (.astore 4, 2) := by decide +kernel
theorem dL_byWork_10 : decode cL_byWork 10 = .ok (.ldc 15, 2) := by decide +kernel
theorem dL_byWork_12 : decode cL_byWork 12 = .ok (.ireturn, 1) := by decide +kernel
set_option maxRecDepth 20000 in
theorem ggL_need_X5_need : GoodIn wsL_need wsX5_need := goodIn_ca (goodIn_ca (goodIn_r _ [9, 10, 11, 12, 13, 8, 14, 15, 16, 17, 18, 19, 20, 21, 22, 23, 24, 25, 26, 27, 28, 29, 30, 31, 32, 33, 34, 35, 36, 37, 38, 39, 40, 41, 42, 43, 44, 45, 46, 47, 48, 49, 50, 51, 52, 53, 54, 55, 56, 57, 58, 59, 60, 61, 62, 63, 64, 65, 66, 67, 68, 69, 70, 71, 72, 73, 74, 75, 76, 77] (by decide +kernel) (by decide +kernel)) (goodIn_sub (fun _ h => List.mem_cons_of_mem _ (List.mem_append_left _ (List.mem_append_right _ h))) (by decide +kernel))) (goodIn_sub (fun _ h => List.mem_cons_of_mem _ (List.mem_append_right _ h)) (by decide +kernel))
set_option maxRecDepth 20000 in
theorem gL_need_X5_need : GoodIn wsL_need (wsV RL 46 RX5 yX5_need wsX5_need) := goodIn_app (goodIn_of _ (by decide +kernel)) ggL_need_X5_need
theorem dL_need_0 : decode cL_need 0 = .ok (.aload_n 0, 1) := by decide +kernel
theorem dL_need_1 : decode cL_need 1 = .ok (.iload_n 1, 1) := by decide +kernel
theorem dL_need_2 : decode cL_need 2 = .ok (.iload_n 2, 1) := by decide +kernel
theorem dL_need_3 : decode cL_need 3 = .ok (.invokevirtual 46, 3) := by decide +kernel
theorem dL_need_6 : decode cL_need 6 = .ok (.ireturn, 1) := by decide +kernel
theorem dL_need_7 : decode cL_need 7 = .ok (.astore_n 3, 1) := by decide +kernel
theorem dL_need_8 : decode cL_need 8 = .ok (.ldc 15, 2) := by decide +kernel
theorem dL_need_10 : decode cL_need 10 = .ok (.ireturn, 1) := by decide +kernel
theorem dL_need_11 : decode cL_need 11 = .ok (.astore_n 3, 1) := by decide +kernel
theorem dL_need_12 : decode cL_need 12 = .ok (.ldc 18, 2) := by decide +kernel
theorem dL_need_14 : decode cL_need 14 = .ok (.ireturn, 1) := by decide +kernel
set_option maxRecDepth 20000 in
theorem ggL_buys_X5_buy : GoodIn wsL_buys wsX5_buy := goodIn_ca (goodIn_ca (goodIn_r _ [9, 10, 11, 12, 13, 14, 15, 16, 17, 18, 19, 20, 8, 21, 22, 23, 24, 25, 26, 27, 28, 29, 30, 31, 32, 33, 34, 35, 36, 37, 38, 39, 40, 41, 42, 43, 44, 45, 46, 47, 48, 49, 50, 51, 52, 53, 54, 55, 56, 57, 58, 59, 60, 61, 62, 63, 64, 65, 66, 67, 68, 69, 70, 71, 72, 73, 74, 75, 76, 77, 78, 79, 80] (by decide +kernel) (by decide +kernel)) (goodIn_sub (fun _ h => List.mem_cons_of_mem _ (List.mem_append_left _ (List.mem_append_right _ h))) (by decide +kernel))) (goodIn_sub (fun _ h => List.mem_cons_of_mem _ (List.mem_append_right _ h)) (by decide +kernel))
set_option maxRecDepth 20000 in
theorem gL_buys_X5_buy : GoodIn wsL_buys (wsV RL 49 RX5 yX5_buy wsX5_buy) := goodIn_app (goodIn_of _ (by decide +kernel)) ggL_buys_X5_buy
theorem dL_buys_0 : decode cL_buys 0 = .ok (.aload_n 0, 1) := by decide +kernel
theorem dL_buys_1 : decode cL_buys 1 = .ok (.iload_n 1, 1) := by decide +kernel
theorem dL_buys_2 : decode cL_buys 2 = .ok (.iload_n 2, 1) := by decide +kernel
theorem dL_buys_3 : decode cL_buys 3 = .ok (.invokevirtual 49, 3) := by decide +kernel
theorem dL_buys_6 : decode cL_buys 6 = .ok (.ireturn, 1) := by decide +kernel
theorem dL_buys_7 : decode cL_buys 7 = .ok (.astore_n 3, 1) := by decide +kernel
theorem dL_buys_8 : decode cL_buys 8 = .ok (.ldc 15, 2) := by decide +kernel
theorem dL_buys_10 : decode cL_buys 10 = .ok (.ireturn, 1) := by decide +kernel
theorem dL_buys_11 : decode cL_buys 11 = .ok (.astore_n 3, 1) := by decide +kernel
theorem dL_buys_12 : decode cL_buys 12 = .ok (.ldc 21, 2) := by decide +kernel
theorem dL_buys_14 : decode cL_buys 14 = .ok (.ireturn, 1) := by decide +kernel
set_option maxRecDepth 20000 in
theorem ggL_rules_X5_rule : GoodIn wsL_rules wsX5_rule := goodIn_ca (goodIn_ca (goodIn_r _ [9, 10, 11, 12, 13, 14, 15, 16, 17, 18, 19, 8, 20, 21, 22, 23, 24, 25, 26, 27, 28, 29, 30, 31, 32, 33, 34, 35, 36, 37, 38, 39, 40, 41, 42, 43, 44, 45, 46, 47, 48, 49, 50, 51, 52, 53, 54, 55, 56, 57, 58, 59, 60, 61, 62, 63, 64] (by decide +kernel) (by decide +kernel)) (goodIn_sub (fun _ h => List.mem_cons_of_mem _ (List.mem_append_left _ (List.mem_append_right _ h))) (by decide +kernel))) (goodIn_sub (fun _ h => List.mem_cons_of_mem _ (List.mem_append_right _ h)) (by decide +kernel))
set_option maxRecDepth 20000 in
theorem gL_rules_X5_rule : GoodIn wsL_rules (wsV RL 52 RX5 yX5_rule wsX5_rule) := goodIn_app (goodIn_of _ (by decide +kernel)) ggL_rules_X5_rule
theorem dL_rules_0 : decode cL_rules 0 = .ok (.aload_n 0, 1) := by decide +kernel
theorem dL_rules_1 : decode cL_rules 1 = .ok (.iload_n 1, 1) := by decide +kernel
theorem dL_rules_2 : decode cL_rules 2 = .ok (.invokevirtual 52, 3) := by decide +kernel
theorem dL_rules_5 : decode cL_rules 5 = .ok (.ireturn, 1) := by decide +kernel
theorem dL_rules_6 : decode cL_rules 6 = .ok (.astore_n 2, 1) := by decide +kernel
theorem dL_rules_7 : decode cL_rules 7 = .ok (.ldc 15, 2) := by decide +kernel
theorem dL_rules_9 : decode cL_rules 9 = .ok (.ireturn, 1) := by decide +kernel
theorem dL_rules_10 : decode cL_rules 10 = .ok (.astore_n 2, 1) := by decide +kernel
theorem dL_rules_11 : decode cL_rules 11 = .ok (.ldc 21, 2) := by decide +kernel
theorem dL_rules_13 : decode cL_rules 13 = .ok (.ireturn, 1) := by decide +kernel
set_option maxRecDepth 20000 in
theorem ggL_money_X5_money : GoodIn wsL_money wsX5_money := goodIn_ca (goodIn_r _ [7, 8, 9, 10, 6, 11, 12, 13, 14, 15, 16, 17, 18] (by decide +kernel) (by decide +kernel)) (goodIn_sub (fun _ h => List.mem_cons_of_mem _ (List.mem_append_right _ h)) (by decide +kernel))
set_option maxRecDepth 20000 in
theorem gL_money_X5_money : GoodIn wsL_money (wsV RL 55 RX5 yX5_money wsX5_money) := goodIn_app (goodIn_of _ (by decide +kernel)) ggL_money_X5_money
theorem dL_money_0 : decode cL_money 0 = .ok (.aload_n 0, 1) := by decide +kernel
theorem dL_money_1 : decode cL_money 1 = .ok (.iload_n 1, 1) := by decide +kernel
theorem dL_money_2 : decode cL_money 2 = .ok (.invokevirtual 55, 3) := by decide +kernel
theorem dL_money_5 : decode cL_money 5 = .ok (.ireturn, 1) := by decide +kernel
theorem dL_money_6 : decode cL_money 6 = .ok (.astore_n 2, 1) := by decide +kernel
theorem dL_money_7 : decode cL_money 7 = .ok (.ldc 15, 2) := by decide +kernel
theorem dL_money_9 : decode cL_money 9 = .ok (.ireturn, 1) := by decide +kernel
set_option maxRecDepth 20000 in
theorem ggL_lots_X5_lot : GoodIn wsL_lots wsX5_lot := goodIn_ca (goodIn_ca (goodIn_ca (goodIn_r _ [11, 12, 13, 14, 15, 16, 17, 18, 19, 20, 10, 21, 22, 23, 24, 25, 26, 27, 28, 29, 30, 31, 32, 33, 34, 35, 36, 37, 38, 39, 40, 41, 42, 43, 44, 45, 46, 47, 48, 49, 50, 51, 52, 53, 54, 55, 56, 57, 58, 59, 60, 61, 62, 63, 64, 65, 66, 67, 68, 69, 70, 71, 72, 73, 74, 75, 76, 77, 78, 79, 80, 81, 82, 83, 84, 85, 86, 87, 88, 89, 90, 91, 92, 93, 94, 95, 96, 97, 98, 99, 100, 101, 102, 103, 104, 105, 106, 107, 108, 109, 110, 111, 112, 113] (by decide +kernel) (by decide +kernel)) (goodIn_sub (fun _ h => List.mem_cons_of_mem _ (List.mem_append_left _ (List.mem_append_left _ (List.mem_append_right _ h)))) (by decide +kernel))) (goodIn_sub (fun _ h => List.mem_cons_of_mem _ (List.mem_append_left _ (List.mem_append_right _ h))) (by decide +kernel))) (goodIn_sub (fun _ h => List.mem_cons_of_mem _ (List.mem_append_right _ h)) (by decide +kernel))
set_option maxRecDepth 20000 in
theorem gL_lots_X5_lot : GoodIn wsL_lots (wsV RL 58 RX5 yX5_lot wsX5_lot) := goodIn_app (goodIn_of _ (by decide +kernel)) ggL_lots_X5_lot
theorem dL_lots_0 : decode cL_lots 0 = .ok (.aload_n 0, 1) := by decide +kernel
theorem dL_lots_1 : decode cL_lots 1 = .ok (.iload_n 1, 1) := by decide +kernel
theorem dL_lots_2 : decode cL_lots 2 = .ok (.iload_n 2, 1) := by decide +kernel
theorem dL_lots_3 : decode cL_lots 3 = .ok (.iload_n 3, 1) := by decide +kernel
theorem dL_lots_4 : decode cL_lots 4 = .ok (.invokevirtual 58, 3) := by decide +kernel
theorem dL_lots_7 : decode cL_lots 7 = .ok (.ireturn, 1) := by decide +kernel
theorem dL_lots_8 : decode cL_lots 8 = .ok (.astore 4, 2) := by decide +kernel
theorem dL_lots_10 : decode cL_lots 10 = .ok (.ldc 15, 2) := by decide +kernel
theorem dL_lots_12 : decode cL_lots 12 = .ok (.ireturn, 1) := by decide +kernel
theorem dL_lots_13 : decode cL_lots 13 = .ok (.astore 4, 2) := by decide +kernel
theorem dL_lots_15 : decode cL_lots 15 = .ok (.ldc 18, 2) := by decide +kernel
theorem dL_lots_17 : decode cL_lots 17 = .ok (.ireturn, 1) := by decide +kernel
theorem dL_lots_18 : decode cL_lots 18 = .ok (.astore 4, 2) := by decide +kernel
theorem dL_lots_20 : decode cL_lots 20 = .ok (.ldc 21, 2) := by decide +kernel
theorem dL_lots_22 : decode cL_lots 22 = .ok (.ireturn, 1) := by decide +kernel
set_option maxRecDepth 20000 in
theorem ggL_swaps_X5_swap : GoodIn wsL_swaps wsX5_swap := goodIn_ca (goodIn_ca (goodIn_r _ [9, 10, 11, 12, 13, 14, 15, 8, 16, 17, 18, 19, 20, 21, 22, 23, 24, 25, 26, 27, 28, 29, 30, 31, 32, 33, 34, 35, 36, 37, 38, 39, 40, 41, 42, 43, 44, 45, 46, 47, 48, 49, 50, 51, 52, 53, 54, 55] (by decide +kernel) (by decide +kernel)) (goodIn_sub (fun _ h => List.mem_cons_of_mem _ (List.mem_append_left _ (List.mem_append_right _ h))) (by decide +kernel))) (goodIn_sub (fun _ h => List.mem_cons_of_mem _ (List.mem_append_right _ h)) (by decide +kernel))
set_option maxRecDepth 20000 in
theorem gL_swaps_X5_swap : GoodIn wsL_swaps (wsV RL 61 RX5 yX5_swap wsX5_swap) := goodIn_app (goodIn_of _ (by decide +kernel)) ggL_swaps_X5_swap
theorem dL_swaps_0 : decode cL_swaps 0 = .ok (.aload_n 0, 1) := by decide +kernel
theorem dL_swaps_1 : decode cL_swaps 1 = .ok (.iload_n 1, 1) := by decide +kernel
theorem dL_swaps_2 : decode cL_swaps 2 = .ok (.iload_n 2, 1) := by decide +kernel
theorem dL_swaps_3 : decode cL_swaps 3 = .ok (.invokevirtual 61, 3) := by decide +kernel
theorem dL_swaps_6 : decode cL_swaps 6 = .ok (.ireturn, 1) := by decide +kernel
theorem dL_swaps_7 : decode cL_swaps 7 = .ok (.astore_n 3, 1) := by decide +kernel
theorem dL_swaps_8 : decode cL_swaps 8 = .ok (.ldc 15, 2) := by decide +kernel
theorem dL_swaps_10 : decode cL_swaps 10 = .ok (.ireturn, 1) := by decide +kernel
theorem dL_swaps_11 : decode cL_swaps 11 = .ok (.astore_n 3, 1) := by decide +kernel
theorem dL_swaps_12 : decode cL_swaps 12 = .ok (.ldc 21, 2) := by decide +kernel
theorem dL_swaps_14 : decode cL_swaps 14 = .ok (.ireturn, 1) := by decide +kernel
set_option maxRecDepth 20000 in
theorem ggL_left_X5_left : GoodIn wsL_left wsX5_left := goodIn_ca (goodIn_r _ [7, 8, 9, 10, 11, 6, 12, 13, 14, 15, 16, 17, 18, 19, 20, 21, 22, 23, 24, 25, 26, 27, 28, 29, 30, 31, 32, 33, 34, 35, 36, 37, 38, 39, 40, 41, 42, 43, 44, 45, 46, 47, 48, 49, 50, 51] (by decide +kernel) (by decide +kernel)) (goodIn_sub (fun _ h => List.mem_cons_of_mem _ (List.mem_append_right _ h)) (by decide +kernel))
set_option maxRecDepth 20000 in
theorem gL_left_X5_left : GoodIn wsL_left (wsV RL 64 RX5 yX5_left wsX5_left) := goodIn_app (goodIn_of _ (by decide +kernel)) ggL_left_X5_left
theorem dL_left_0 : decode cL_left 0 = .ok (.aload_n 0, 1) := by decide +kernel
theorem dL_left_1 : decode cL_left 1 = .ok (.iload_n 1, 1) := by decide +kernel
theorem dL_left_2 : decode cL_left 2 = .ok (.invokevirtual 64, 3) := by decide +kernel
theorem dL_left_5 : decode cL_left 5 = .ok (.ireturn, 1) := by decide +kernel
theorem dL_left_6 : decode cL_left 6 = .ok (.astore_n 2, 1) := by decide +kernel
theorem dL_left_7 : decode cL_left 7 = .ok (.ldc 15, 2) := by decide +kernel
theorem dL_left_9 : decode cL_left 9 = .ok (.ireturn, 1) := by decide +kernel
set_option maxRecDepth 20000 in
theorem ggL_projects_X5_project : GoodIn wsL_projects wsX5_project := goodIn_ca (goodIn_ca (goodIn_r _ [9, 10, 11, 12, 13, 14, 15, 16, 17, 18, 8, 19, 20, 21, 22, 23, 24, 25, 26, 27, 28, 29, 30, 31, 32, 33, 34, 35, 36, 37, 38, 39, 40, 41, 42, 43, 44, 45, 46, 47, 48, 49, 50, 51, 52, 53, 54, 55, 56, 57, 58, 59, 60, 61, 62, 63, 64, 65, 66, 67, 68, 69, 70, 71, 72, 73, 74, 75, 76, 77, 78, 79, 80, 81, 82, 83, 84, 85, 86, 87, 88, 89, 90, 91, 92, 93, 94, 95, 96, 97, 98, 99, 100, 101, 102, 103, 104, 105, 106, 107, 108, 109, 110, 111, 112, 113, 114, 115, 116, 117, 118, 119, 120, 121, 122, 123, 124, 125, 126, 127, 128, 129, 130, 131, 132, 133, 134, 135, 136, 137, 138, 139, 140, 141, 142, 143, 144, 145, 146, 147, 148, 149, 150, 151, 152, 153, 154, 155, 156] (by decide +kernel) (by decide +kernel)) (goodIn_sub (fun _ h => List.mem_cons_of_mem _ (List.mem_append_left _ (List.mem_append_right _ h))) (by decide +kernel))) (goodIn_sub (fun _ h => List.mem_cons_of_mem _ (List.mem_append_right _ h)) (by decide +kernel))
set_option maxRecDepth 20000 in
theorem gL_projects_X5_project : GoodIn wsL_projects (wsV RL 67 RX5 yX5_project wsX5_project) := goodIn_app (goodIn_of _ (by decide +kernel)) ggL_projects_X5_project
theorem dL_projects_0 : decode cL_projects 0 = .ok (.aload_n 0, 1) := by decide +kernel
theorem dL_projects_1 : decode cL_projects 1 = .ok (.iload_n 1, 1) := by decide +kernel
theorem dL_projects_2 : decode cL_projects 2 = .ok (.iload_n 2, 1) := by decide +kernel
theorem dL_projects_3 : decode cL_projects 3 = .ok (.iload_n 3, 1) := by decide +kernel
theorem dL_projects_4 : decode cL_projects 4 = .ok (.invokevirtual 67, 3) := by decide +kernel
theorem dL_projects_7 : decode cL_projects 7 = .ok (.ireturn, 1) := by decide +kernel
theorem dL_projects_8 : decode cL_projects 8 = .ok (.astore 4, 2) := by decide +kernel
theorem dL_projects_10 : decode cL_projects 10 = .ok (.ldc 15, 2) := by decide +kernel
theorem dL_projects_12 : decode cL_projects 12 = .ok (.ireturn, 1) := by decide +kernel
theorem dL_projects_13 : decode cL_projects 13 = .ok (.astore 4, 2) := by decide +kernel
theorem dL_projects_15 : decode cL_projects 15 = .ok (.ldc 21, 2) := by decide +kernel
theorem dL_projects_17 : decode cL_projects 17 = .ok (.ireturn, 1) := by decide +kernel
set_option maxRecDepth 20000 in
theorem ggL_takes_X5_take : GoodIn wsL_takes wsX5_take := goodIn_ca (goodIn_ca (goodIn_r _ [9, 10, 11, 12, 13, 14, 15, 16, 17, 18, 8, 19, 20, 21, 22, 23, 24, 25, 26, 27, 28, 29, 30, 31, 32, 33, 34, 35, 36, 37, 38, 39, 40, 41, 42, 43, 44, 45, 46, 47, 48, 49, 50, 51, 52, 53, 54, 55, 56, 57, 58, 59, 60, 61, 62, 63, 64, 65, 66, 67, 68] (by decide +kernel) (by decide +kernel)) (goodIn_sub (fun _ h => List.mem_cons_of_mem _ (List.mem_append_left _ (List.mem_append_right _ h))) (by decide +kernel))) (goodIn_sub (fun _ h => List.mem_cons_of_mem _ (List.mem_append_right _ h)) (by decide +kernel))
set_option maxRecDepth 20000 in
theorem gL_takes_X5_take : GoodIn wsL_takes (wsV RL 70 RX5 yX5_take wsX5_take) := goodIn_app (goodIn_of _ (by decide +kernel)) ggL_takes_X5_take
theorem dL_takes_0 : decode cL_takes 0 = .ok (.aload_n 0, 1) := by decide +kernel
theorem dL_takes_1 : decode cL_takes 1 = .ok (.iload_n 1, 1) := by decide +kernel
theorem dL_takes_2 : decode cL_takes 2 = .ok (.iload_n 2, 1) := by decide +kernel
theorem dL_takes_3 : decode cL_takes 3 = .ok (.invokevirtual 70, 3) := by decide +kernel
theorem dL_takes_6 : decode cL_takes 6 = .ok (.ireturn, 1) := by decide +kernel
theorem dL_takes_7 : decode cL_takes 7 = .ok (.astore_n 3, 1) := by decide +kernel
theorem dL_takes_8 : decode cL_takes 8 = .ok (.ldc 15, 2) := by decide +kernel
theorem dL_takes_10 : decode cL_takes 10 = .ok (.ireturn, 1) := by decide +kernel
theorem dL_takes_11 : decode cL_takes 11 = .ok (.astore_n 3, 1) := by decide +kernel
theorem dL_takes_12 : decode cL_takes 12 = .ok (.ldc 21, 2) := by decide +kernel
theorem dL_takes_14 : decode cL_takes 14 = .ok (.ireturn, 1) := by decide +kernel
set_option maxRecDepth 20000 in
theorem ggL_knits_X5_knit : GoodIn wsL_knits wsX5_knit := goodIn_ca (goodIn_ca (goodIn_r _ [9, 10, 11, 12, 8, 13, 14, 15, 16, 17, 18, 19, 20, 21, 22, 23, 24, 25, 26, 27, 28, 29, 30, 31, 32, 33, 34, 35, 36, 37, 38, 39, 40, 41, 42, 43, 44, 45, 46, 47, 48, 49, 50, 51, 52, 53, 54, 55, 56, 57, 58, 59, 60, 61, 62, 63, 64, 65, 66, 67, 68, 69, 70, 71, 72, 73, 74, 75, 76, 77, 78, 79, 80, 81, 82, 83, 84, 85, 86, 87, 88, 89, 90, 91, 92, 93, 94, 95, 96, 97, 98, 99, 100, 101, 102] (by decide +kernel) (by decide +kernel)) (goodIn_sub (fun _ h => List.mem_cons_of_mem _ (List.mem_append_left _ (List.mem_append_right _ h))) (by decide +kernel))) (goodIn_sub (fun _ h => List.mem_cons_of_mem _ (List.mem_append_right _ h)) (by decide +kernel))
set_option maxRecDepth 20000 in
theorem gL_knits_X5_knit : GoodIn wsL_knits (wsV RL 73 RX5 yX5_knit wsX5_knit) := goodIn_app (goodIn_of _ (by decide +kernel)) ggL_knits_X5_knit
theorem dL_knits_0 : decode cL_knits 0 = .ok (.aload_n 0, 1) := by decide +kernel
theorem dL_knits_1 : decode cL_knits 1 = .ok (.iload_n 1, 1) := by decide +kernel
theorem dL_knits_2 : decode cL_knits 2 = .ok (.iload_n 2, 1) := by decide +kernel
theorem dL_knits_3 : decode cL_knits 3 = .ok (.invokevirtual 73, 3) := by decide +kernel
theorem dL_knits_6 : decode cL_knits 6 = .ok (.ireturn, 1) := by decide +kernel
theorem dL_knits_7 : decode cL_knits 7 = .ok (.astore_n 3, 1) := by decide +kernel
theorem dL_knits_8 : decode cL_knits 8 = .ok (.ldc 15, 2) := by decide +kernel
theorem dL_knits_10 : decode cL_knits 10 = .ok (.ireturn, 1) := by decide +kernel
theorem dL_knits_11 : decode cL_knits 11 = .ok (.astore_n 3, 1) := by decide +kernel
theorem dL_knits_12 : decode cL_knits 12 = .ok (.ldc 18, 2) := by decide +kernel
theorem dL_knits_14 : decode cL_knits 14 = .ok (.ireturn, 1) := by decide +kernel
set_option maxRecDepth 20000 in
theorem ggL_progress_X5_progress : GoodIn wsL_progress wsX5_progress := goodIn_ca (goodIn_r _ [7, 8, 9, 10, 11, 6, 12, 13, 14, 15, 16, 17, 18, 19, 20, 21, 22, 23, 24, 25, 26, 27, 28, 29, 30, 31, 32, 33, 34, 35, 36, 37, 38, 39, 40, 41, 42, 43, 44, 45, 46, 47, 48, 49, 50, 51] (by decide +kernel) (by decide +kernel)) (goodIn_sub (fun _ h => List.mem_cons_of_mem _ (List.mem_append_right _ h)) (by decide +kernel))
set_option maxRecDepth 20000 in
theorem gL_progress_X5_progress : GoodIn wsL_progress (wsV RL 76 RX5 yX5_progress wsX5_progress) := goodIn_app (goodIn_of _ (by decide +kernel)) ggL_progress_X5_progress
theorem dL_progress_0 : decode cL_progress 0 = .ok (.aload_n 0, 1) := by decide +kernel
theorem dL_progress_1 : decode cL_progress 1 = .ok (.iload_n 1, 1) := by decide +kernel
theorem dL_progress_2 : decode cL_progress 2 = .ok (.invokevirtual 76, 3) := by decide +kernel
theorem dL_progress_5 : decode cL_progress 5 = .ok (.ireturn, 1) := by decide +kernel
theorem dL_progress_6 : decode cL_progress 6 = .ok (.astore_n 2, 1) := by decide +kernel
theorem dL_progress_7 : decode cL_progress 7 = .ok (.ldc 15, 2) := by decide +kernel
theorem dL_progress_9 : decode cL_progress 9 = .ok (.ireturn, 1) := by decide +kernel
theorem dL_drawn_0 : decode cL_drawn 0 = .ok (.iload_n 1, 1) := by decide +kernel
theorem dL_drawn_1 : decode cL_drawn 1 = .ok (.aload_n 0, 1) := by decide +kernel
theorem dL_drawn_2 : decode cL_drawn 2 = .ok (.arraylength, 1) := by decide +kernel
theorem dL_drawn_3 : decode cL_drawn 3 = .ok (.if_icmp .ge 9, 3) := by decide +kernel
theorem dL_drawn_6 : decode cL_drawn 6 = .ok (.aload_n 0, 1) := by decide +kernel
theorem dL_drawn_7 : decode cL_drawn 7 = .ok (.iload_n 1, 1) := by decide +kernel
theorem dL_drawn_8 : decode cL_drawn 8 = .ok (.iaload, 1) := by decide +kernel
theorem dL_drawn_9 : decode cL_drawn 9 = .ok (.goto 13, 3) := by decide +kernel
theorem dL_drawn_12 : decode cL_drawn 12 = .ok (.ldc 79, 2) := by decide +kernel
theorem dL_drawn_14 : decode cL_drawn 14 = .ok (.iload_n 1, 1) := by decide +kernel
theorem dL_drawn_15 : decode cL_drawn 15 = .ok (.iconst 3, 1) := by decide +kernel
theorem dL_drawn_16 : decode cL_drawn 16 = .ok (.iadd, 1) := by decide +kernel
theorem dL_drawn_17 : decode cL_drawn 17 = .ok (.imul, 1) := by decide +kernel
theorem dL_drawn_18 : decode cL_drawn 18 = .ok (.sipush 14033, 3) := by decide +kernel
theorem dL_drawn_21 : decode cL_drawn 21 = .ok (.iadd, 1) := by decide +kernel
theorem dL_drawn_22 : decode cL_drawn 22 = .ok (.ldc 80, 2) := by decide +kernel
theorem dL_drawn_24 : decode cL_drawn 24 = .ok (.iand, 1) := by decide +kernel
theorem dL_drawn_25 : decode cL_drawn 25 = .ok (.ireturn, 1) := by decide +kernel
set_option maxRecDepth 20000 in
theorem ggL_refuses_L_begins : GoodIn wsL_refuses wsL_begins := goodIn_ca (goodIn_ca (goodIn_ca (goodIn_r _ [8, 9, 10, 11, 1, 2, 4, 12, 13, 14, 15, 16, 17, 18, 19, 20, 21, 22, 23, 24, 25, 26, 27, 28, 29, 30, 31, 32, 33, 34, 35, 36, 37, 38, 39, 40, 41, 42, 43, 44, 45, 46, 47, 48, 49, 50, 51, 52, 53, 54, 55, 56, 57, 58, 59, 60, 61, 62, 63, 64, 65, 66, 67, 68, 69, 70, 71, 72, 73, 74, 75, 76, 77, 78, 79, 80, 81, 82, 83, 84, 85, 86, 87, 88, 89, 90, 91, 92, 93, 94, 95, 96, 97, 98, 99, 100, 101, 102, 103, 104, 105, 106, 107, 108, 109, 110, 111, 112, 113, 114, 115, 116, 117, 118, 119, 120, 121, 122, 123, 124, 125, 126, 127, 128, 129, 130, 131, 132, 133, 134, 135, 136, 137, 138, 139, 140, 141, 142, 452, 453, 454, 455, 456, 457, 458, 459, 460, 461, 462, 463, 464, 465, 466, 467, 468, 469, 470, 471, 472, 473, 474, 475, 476, 477, 478] (by decide +kernel) (by decide +kernel)) (goodIn_sub (fun _ h => List.mem_cons_of_mem _ (List.mem_append_left _ (List.mem_append_left _ (List.mem_append_right _ h)))) (by decide +kernel))) (goodIn_sub (fun _ h => List.mem_cons_of_mem _ (List.mem_append_left _ (List.mem_append_right _ h))) (by decide +kernel))) (goodIn_sub (fun _ h => List.mem_cons_of_mem _ (List.mem_append_right _ h)) (by decide +kernel))
set_option maxRecDepth 20000 in
theorem gL_refuses_L_begins : GoodIn wsL_refuses (va_wsS RL 81 yL_begins wsL_begins) := goodIn_app (goodIn_of _ (by decide +kernel)) ggL_refuses_L_begins
set_option maxRecDepth 20000 in
theorem ggL_refuses_L_lines : GoodIn wsL_refuses wsL_lines := goodIn_ca (goodIn_ca (goodIn_ca (goodIn_r _ [145, 9, 10, 11, 1, 2, 4, 146, 147, 148, 15, 149, 26, 27, 32, 33, 150, 151, 152, 153, 154, 155, 21, 22, 34, 156, 35, 36, 37, 38, 39, 40, 157, 158, 159, 160, 161, 162, 163, 164, 165, 166, 167, 168, 169, 170, 171, 172, 95, 23, 24, 25, 173, 174, 175, 47, 176, 56, 177, 178, 179, 180, 65, 69, 181, 182, 183, 184, 185, 186, 187, 188, 64, 189, 79, 75, 76, 77, 78, 190, 191, 192, 68, 193, 85, 87, 88, 194, 195, 196, 197, 86, 198, 199, 200, 201, 202, 203, 110, 111, 112, 204, 137, 138, 452, 453, 454, 455, 456, 457, 458, 459, 460, 475, 476, 477, 478, 461, 462, 463, 464, 465, 466, 467, 468, 469, 470, 471, 472, 473, 474] (by decide +kernel) (by decide +kernel)) (goodIn_sub (fun _ h => List.mem_cons_of_mem _ (List.mem_append_left _ (List.mem_append_right _ h))) (by decide +kernel))) (goodIn_sub (fun _ h => List.mem_cons_of_mem _ (List.mem_append_right _ h)) (by decide +kernel))) (goodIn_sub (fun _ h => List.mem_cons_of_mem _ (List.mem_append_left _ (List.mem_append_left _ (List.mem_append_right _ h)))) (by decide +kernel))
set_option maxRecDepth 20000 in
theorem gL_refuses_L_lines : GoodIn wsL_refuses (va_wsS RL 87 yL_lines wsL_lines) := goodIn_app (goodIn_of _ (by decide +kernel)) ggL_refuses_L_lines
set_option maxRecDepth 20000 in
theorem ggL_refuses_L_anews : GoodIn wsL_refuses wsL_anews := goodIn_ca (goodIn_ca (goodIn_ca (goodIn_r _ [207, 9, 10, 11, 1, 2, 4, 208, 209, 210, 15, 211, 32, 33, 212, 213, 214, 215, 17, 152, 153, 154, 155, 21, 22, 34, 156, 35, 36, 37, 38, 39, 40, 157, 158, 159, 160, 161, 162, 163, 164, 165, 166, 167, 168, 169, 170, 171, 172, 95, 216, 217, 218, 23, 24, 25, 26, 27, 219, 220, 221, 47, 222, 65, 223, 224, 225, 64, 226, 79, 227, 228, 229, 230, 78, 231, 110, 111, 112, 232, 233, 28, 29, 30, 31, 234, 200, 201, 202, 203, 204, 137, 138, 41, 42, 43, 44, 45, 46, 48, 49, 50, 51, 52, 53, 54, 55, 56, 57, 58, 59, 60, 61, 62, 63, 66, 67, 68, 69, 70, 71, 72, 73, 74, 75, 76, 77, 80, 81, 82, 83, 84, 85, 86, 87, 88, 89, 90, 91, 92, 93, 94, 96, 97, 98, 99, 100, 101, 102, 103, 104, 105, 106, 107, 108, 109, 113, 114, 115, 116, 117, 118, 119, 120, 121, 122, 123, 124, 125, 126, 127, 128, 129, 130, 131, 132, 133, 134, 135, 136, 139, 140, 141, 142, 235, 236, 237, 238, 239, 240, 183, 184, 185, 186, 187, 188, 189, 190, 191, 192, 193, 194, 195, 196, 197, 198, 199, 452, 453, 454, 455, 456, 457, 458, 459, 460, 469, 470, 471, 472, 473, 474, 461, 462, 463, 464, 465, 466, 467, 468, 475, 476, 477, 478] (by decide +kernel) (by decide +kernel)) (goodIn_sub (fun _ h => List.mem_cons_of_mem _ (List.mem_append_right _ h)) (by decide +kernel))) (goodIn_sub (fun _ h => List.mem_cons_of_mem _ (List.mem_append_left _ (List.mem_append_left _ (List.mem_append_right _ h)))) (by decide +kernel))) (goodIn_sub (fun _ h => List.mem_cons_of_mem _ (List.mem_append_left _ (List.mem_append_right _ h))) (by decide +kernel))
set_option maxRecDepth 20000 in
theorem gL_refuses_L_anews : GoodIn wsL_refuses (va_wsS RL 91 yL_anews wsL_anews) := goodIn_app (goodIn_of _ (by decide +kernel)) ggL_refuses_L_anews
set_option maxRecDepth 20000 in
theorem ggL_refuses_L_publishes : GoodIn wsL_refuses wsL_publishes := goodIn_ca (goodIn_ca (goodIn_r _ [243, 9, 11, 1, 4, 244, 245, 246, 15, 247, 32, 33, 248, 249, 17, 152, 153, 154, 155, 21, 22, 34, 156, 35, 36, 37, 38, 39, 40, 157, 158, 159, 160, 161, 162, 163, 164, 165, 166, 167, 168, 169, 170, 171, 172, 95, 173, 174, 175, 47, 176, 56, 219, 220, 221, 222, 65, 250, 251, 252, 253, 150, 254, 255, 256, 68, 257, 85, 86, 89, 90, 91, 92, 93, 94, 96, 97, 98, 99, 100, 101, 102, 103, 104, 105, 106, 107, 108, 109, 110, 111, 112, 113, 114, 115, 116, 117, 118, 119, 120, 121, 122, 123, 124, 125, 126, 127, 128, 129, 130, 131, 132, 133, 134, 135, 136, 137, 138, 139, 140, 141, 142, 452, 453, 454, 455, 456, 457, 458, 459, 460, 461, 462, 463, 464, 465, 466, 467, 468, 469, 470, 471, 472, 473, 474, 475, 476, 477, 478] (by decide +kernel) (by decide +kernel)) (goodIn_sub (fun _ h => List.mem_cons_of_mem _ (List.mem_append_right _ h)) (by decide +kernel))) (goodIn_sub (fun _ h => List.mem_cons_of_mem _ (List.mem_append_left _ (List.mem_append_left _ (List.mem_append_right _ h)))) (by decide +kernel))
set_option maxRecDepth 20000 in
theorem gL_refuses_L_publishes : GoodIn wsL_refuses (va_wsS RL 95 yL_publishes wsL_publishes) := goodIn_app (goodIn_of _ (by decide +kernel)) ggL_refuses_L_publishes
set_option maxRecDepth 20000 in
theorem ggL_refuses_L_original : GoodIn wsL_refuses wsL_original := goodIn_ca (goodIn_r _ [260, 9, 1, 261, 262, 263, 15, 264, 248, 17, 152, 153, 154, 155, 21, 22, 34, 156, 35, 36, 37, 38, 39, 40, 157, 158, 159, 160, 161, 162, 163, 164, 165, 166, 167, 168, 169, 170, 171, 172, 95, 452, 453, 454, 455, 456, 457, 458, 459, 460, 461, 462, 463, 464, 465, 466, 467, 468] (by decide +kernel) (by decide +kernel)) (goodIn_sub (fun _ h => List.mem_cons_of_mem _ (List.mem_append_left _ (List.mem_append_left _ (List.mem_append_right _ h)))) (by decide +kernel))
set_option maxRecDepth 20000 in
theorem gL_refuses_L_original : GoodIn wsL_refuses (va_wsS RL 99 yL_original wsL_original) := goodIn_app (goodIn_of _ (by decide +kernel)) ggL_refuses_L_original
set_option maxRecDepth 20000 in
theorem ggL_refuses_L_rows : GoodIn wsL_refuses wsL_rows := goodIn_ca (goodIn_r _ [267, 9, 1, 268, 269, 270, 15, 271, 150, 151, 152, 153, 154, 155, 21, 22, 34, 156, 35, 36, 37, 38, 39, 40, 157, 158, 159, 160, 161, 162, 163, 164, 165, 166, 167, 168, 169, 170, 171, 172, 95, 452, 453, 454, 455, 456, 457, 458, 459, 460, 475, 476, 477, 478, 461, 462, 463, 464, 465, 466, 467, 468] (by decide +kernel) (by decide +kernel)) (goodIn_sub (fun _ h => List.mem_cons_of_mem _ (List.mem_append_left _ (List.mem_append_left _ (List.mem_append_right _ h)))) (by decide +kernel))
set_option maxRecDepth 20000 in
theorem gL_refuses_L_rows : GoodIn wsL_refuses (va_wsS RL 101 yL_rows wsL_rows) := goodIn_app (goodIn_of _ (by decide +kernel)) ggL_refuses_L_rows
set_option maxRecDepth 20000 in
theorem ggL_refuses_L_stitch : GoodIn wsL_refuses wsL_stitch := goodIn_ca (goodIn_r _ [274, 9, 1, 275, 276, 277, 15, 278, 150, 152, 153, 154, 155, 21, 22, 34, 156, 35, 36, 37, 38, 39, 40, 157, 158, 159, 160, 161, 162, 163, 164, 165, 166, 167, 168, 169, 170, 171, 172, 95, 279, 280, 281, 151, 282, 283, 284, 68, 285, 86, 452, 453, 454, 455, 456, 457, 458, 459, 460, 461, 462, 463, 464, 465, 466, 467, 468, 475, 476, 477, 478] (by decide +kernel) (by decide +kernel)) (goodIn_sub (fun _ h => List.mem_cons_of_mem _ (List.mem_append_left _ (List.mem_append_left _ (List.mem_append_right _ h)))) (by decide +kernel))
set_option maxRecDepth 20000 in
theorem gL_refuses_L_stitch : GoodIn wsL_refuses (va_wsS RL 103 yL_stitch wsL_stitch) := goodIn_app (goodIn_of _ (by decide +kernel)) ggL_refuses_L_stitch
set_option maxRecDepth 20000 in
theorem ggL_refuses_L_byWork : GoodIn wsL_refuses wsL_byWork := goodIn_ca (goodIn_r _ [288, 9, 1, 289, 290, 291, 15, 292, 212, 152, 153, 154, 155, 21, 22, 34, 156, 35, 36, 37, 38, 39, 40, 157, 158, 159, 160, 161, 162, 163, 164, 165, 166, 167, 168, 169, 170, 171, 172, 95, 279, 280, 281, 150, 151, 293, 294, 295, 64, 296, 80, 79, 78, 77, 297, 298, 299, 300, 75, 76, 198, 199, 200, 201, 202, 203, 110, 111, 112, 204, 137, 138, 452, 453, 454, 455, 456, 457, 458, 459, 460, 461, 462, 463, 464, 465, 466, 467, 468, 475, 476, 477, 478, 469, 470, 471, 472, 473, 474] (by decide +kernel) (by decide +kernel)) (goodIn_sub (fun _ h => List.mem_cons_of_mem _ (List.mem_append_left _ (List.mem_append_left _ (List.mem_append_right _ h)))) (by decide +kernel))
set_option maxRecDepth 20000 in
theorem gL_refuses_L_byWork : GoodIn wsL_refuses (va_wsS RL 105 yL_byWork wsL_byWork) := goodIn_app (goodIn_of _ (by decide +kernel)) ggL_refuses_L_byWork
set_option maxRecDepth 20000 in
theorem ggL_refuses_L_need : GoodIn wsL_refuses wsL_need := goodIn_ca (goodIn_ca (goodIn_r _ [303, 9, 10, 1, 2, 304, 305, 306, 15, 307, 150, 152, 153, 154, 155, 21, 22, 34, 156, 35, 36, 37, 38, 39, 40, 157, 158, 159, 160, 161, 162, 163, 164, 165, 166, 167, 168, 169, 170, 171, 172, 95, 216, 217, 218, 23, 24, 25, 26, 27, 308, 309, 310, 68, 311, 85, 87, 452, 453, 454, 455, 456, 457, 458, 459, 460, 461, 462, 463, 464, 465, 466, 467, 468, 475, 476, 477, 478] (by decide +kernel) (by decide +kernel)) (goodIn_sub (fun _ h => List.mem_cons_of_mem _ (List.mem_append_left _ (List.mem_append_left _ (List.mem_append_right _ h)))) (by decide +kernel))) (goodIn_sub (fun _ h => List.mem_cons_of_mem _ (List.mem_append_left _ (List.mem_append_right _ h))) (by decide +kernel))
set_option maxRecDepth 20000 in
theorem gL_refuses_L_need : GoodIn wsL_refuses (va_wsS RL 108 yL_need wsL_need) := goodIn_app (goodIn_of _ (by decide +kernel)) ggL_refuses_L_need
set_option maxRecDepth 20000 in
theorem ggL_refuses_L_buys : GoodIn wsL_refuses wsL_buys := goodIn_ca (goodIn_ca (goodIn_r _ [314, 9, 11, 1, 4, 315, 316, 317, 15, 318, 32, 33, 319, 320, 321, 215, 322, 214, 152, 153, 154, 155, 21, 22, 34, 156, 35, 36, 37, 38, 39, 40, 157, 158, 159, 160, 161, 162, 163, 164, 165, 166, 167, 168, 169, 170, 171, 172, 95, 18, 19, 20, 173, 174, 175, 47, 176, 56, 323, 324, 325, 326, 60, 55, 452, 453, 454, 455, 456, 457, 458, 459, 460, 461, 462, 463, 464, 465, 466, 467, 468] (by decide +kernel) (by decide +kernel)) (goodIn_sub (fun _ h => List.mem_cons_of_mem _ (List.mem_append_right _ h)) (by decide +kernel))) (goodIn_sub (fun _ h => List.mem_cons_of_mem _ (List.mem_append_left _ (List.mem_append_left _ (List.mem_append_right _ h)))) (by decide +kernel))
set_option maxRecDepth 20000 in
theorem gL_refuses_L_buys : GoodIn wsL_refuses (va_wsS RL 110 yL_buys wsL_buys) := goodIn_app (goodIn_of _ (by decide +kernel)) ggL_refuses_L_buys
set_option maxRecDepth 20000 in
theorem ggL_refuses_L_rules : GoodIn wsL_refuses wsL_rules := goodIn_ca (goodIn_ca (goodIn_r _ [329, 9, 11, 1, 4, 330, 331, 332, 15, 333, 32, 33, 248, 214, 319, 322, 321, 152, 153, 154, 155, 21, 22, 34, 156, 35, 36, 37, 38, 39, 40, 157, 158, 159, 160, 161, 162, 163, 164, 165, 166, 167, 168, 169, 170, 171, 172, 95, 452, 453, 454, 455, 456, 457, 458, 459, 460, 461, 462, 463, 464, 465, 466, 467, 468] (by decide +kernel) (by decide +kernel)) (goodIn_sub (fun _ h => List.mem_cons_of_mem _ (List.mem_append_right _ h)) (by decide +kernel))) (goodIn_sub (fun _ h => List.mem_cons_of_mem _ (List.mem_append_left _ (List.mem_append_left _ (List.mem_append_right _ h)))) (by decide +kernel))
set_option maxRecDepth 20000 in
theorem gL_refuses_L_rules : GoodIn wsL_refuses (va_wsS RL 113 yL_rules wsL_rules) := goodIn_app (goodIn_of _ (by decide +kernel)) ggL_refuses_L_rules
set_option maxRecDepth 20000 in
theorem ggL_refuses_L_money : GoodIn wsL_refuses wsL_money := goodIn_ca (goodIn_r _ [336, 9, 1, 337, 338, 339, 15, 340, 322, 18, 19, 20, 21, 22, 461, 462, 463, 464, 465] (by decide +kernel) (by decide +kernel)) (goodIn_sub (fun _ h => List.mem_cons_of_mem _ (List.mem_append_left _ (List.mem_append_left _ (List.mem_append_right _ h)))) (by decide +kernel))
set_option maxRecDepth 20000 in
theorem gL_refuses_L_money : GoodIn wsL_refuses (va_wsS RL 116 yL_money wsL_money) := goodIn_app (goodIn_of _ (by decide +kernel)) ggL_refuses_L_money
set_option maxRecDepth 20000 in
theorem ggL_refuses_L_lots : GoodIn wsL_refuses wsL_lots := goodIn_ca (goodIn_ca (goodIn_ca (goodIn_r _ [343, 9, 10, 11, 1, 2, 4, 344, 345, 346, 15, 347, 32, 33, 348, 349, 350, 351, 352, 18, 19, 20, 21, 22, 216, 217, 218, 23, 24, 25, 26, 27, 35, 36, 37, 38, 39, 40, 353, 354, 355, 356, 52, 53, 357, 358, 359, 360, 89, 90, 91, 92, 93, 94, 95, 96, 97, 98, 99, 100, 101, 102, 103, 104, 105, 106, 107, 108, 109, 110, 111, 112, 113, 114, 115, 116, 117, 118, 119, 120, 121, 122, 123, 124, 125, 126, 127, 128, 129, 130, 131, 132, 133, 134, 135, 136, 137, 138, 139, 140, 141, 142, 461, 462, 463, 464, 465, 479, 480, 481, 482, 466, 467, 468] (by decide +kernel) (by decide +kernel)) (goodIn_sub (fun _ h => List.mem_cons_of_mem _ (List.mem_append_right _ h)) (by decide +kernel))) (goodIn_sub (fun _ h => List.mem_cons_of_mem _ (List.mem_append_left _ (List.mem_append_left _ (List.mem_append_right _ h)))) (by decide +kernel))) (goodIn_sub (fun _ h => List.mem_cons_of_mem _ (List.mem_append_left _ (List.mem_append_right _ h))) (by decide +kernel))
set_option maxRecDepth 20000 in
theorem gL_refuses_L_lots : GoodIn wsL_refuses (va_wsS RL 118 yL_lots wsL_lots) := goodIn_app (goodIn_of _ (by decide +kernel)) ggL_refuses_L_lots
set_option maxRecDepth 20000 in
theorem ggL_refuses_L_swaps : GoodIn wsL_refuses wsL_swaps := goodIn_ca (goodIn_ca (goodIn_r _ [363, 9, 11, 1, 4, 364, 365, 366, 15, 367, 32, 33, 368, 369, 370, 371, 372, 21, 22, 349, 373, 35, 36, 37, 38, 39, 40, 157, 158, 159, 160, 161, 162, 163, 164, 165, 166, 167, 168, 169, 170, 171, 172, 95, 479, 480, 481, 482, 461, 462, 463, 464, 465, 466, 467, 468] (by decide +kernel) (by decide +kernel)) (goodIn_sub (fun _ h => List.mem_cons_of_mem _ (List.mem_append_right _ h)) (by decide +kernel))) (goodIn_sub (fun _ h => List.mem_cons_of_mem _ (List.mem_append_left _ (List.mem_append_left _ (List.mem_append_right _ h)))) (by decide +kernel))
set_option maxRecDepth 20000 in
theorem gL_refuses_L_swaps : GoodIn wsL_refuses (va_wsS RL 122 yL_swaps wsL_swaps) := goodIn_app (goodIn_of _ (by decide +kernel)) ggL_refuses_L_swaps
set_option maxRecDepth 20000 in
theorem ggL_refuses_L_left : GoodIn wsL_refuses wsL_left := goodIn_ca (goodIn_r _ [376, 9, 1, 377, 378, 379, 15, 380, 381, 369, 370, 371, 372, 21, 22, 349, 373, 35, 36, 37, 38, 39, 40, 157, 158, 159, 160, 161, 162, 163, 164, 165, 166, 167, 168, 169, 170, 171, 172, 95, 479, 480, 481, 482, 461, 462, 463, 464, 465, 466, 467, 468] (by decide +kernel) (by decide +kernel)) (goodIn_sub (fun _ h => List.mem_cons_of_mem _ (List.mem_append_left _ (List.mem_append_left _ (List.mem_append_right _ h)))) (by decide +kernel))
set_option maxRecDepth 20000 in
theorem gL_refuses_L_left : GoodIn wsL_refuses (va_wsS RL 125 yL_left wsL_left) := goodIn_app (goodIn_of _ (by decide +kernel)) ggL_refuses_L_left
set_option maxRecDepth 20000 in
theorem ggL_refuses_L_projects : GoodIn wsL_refuses wsL_projects := goodIn_ca (goodIn_ca (goodIn_r _ [384, 9, 11, 1, 4, 385, 386, 387, 15, 388, 32, 33, 389, 368, 390, 391, 392, 18, 19, 20, 21, 22, 152, 153, 154, 155, 34, 156, 35, 36, 37, 38, 39, 40, 157, 158, 159, 160, 161, 162, 163, 164, 165, 166, 167, 168, 169, 170, 171, 172, 95, 369, 370, 371, 372, 349, 373, 173, 174, 175, 47, 176, 56, 323, 324, 325, 326, 60, 55, 393, 394, 395, 396, 52, 53, 397, 398, 399, 400, 89, 90, 91, 92, 93, 94, 96, 97, 98, 99, 100, 101, 102, 103, 104, 105, 106, 107, 108, 109, 110, 111, 112, 113, 114, 115, 116, 117, 118, 119, 120, 121, 122, 123, 124, 125, 126, 127, 128, 129, 130, 131, 132, 133, 134, 135, 136, 137, 138, 139, 140, 141, 142, 461, 462, 463, 464, 465, 479, 480, 481, 482, 483, 484, 485, 486, 466, 467, 468, 452, 453, 454, 455, 456, 457, 458, 459, 460] (by decide +kernel) (by decide +kernel)) (goodIn_sub (fun _ h => List.mem_cons_of_mem _ (List.mem_append_right _ h)) (by decide +kernel))) (goodIn_sub (fun _ h => List.mem_cons_of_mem _ (List.mem_append_left _ (List.mem_append_left _ (List.mem_append_right _ h)))) (by decide +kernel))
set_option maxRecDepth 20000 in
theorem gL_refuses_L_projects : GoodIn wsL_refuses (va_wsS RL 127 yL_projects wsL_projects) := goodIn_app (goodIn_of _ (by decide +kernel)) ggL_refuses_L_projects
set_option maxRecDepth 20000 in
theorem ggL_refuses_L_takes : GoodIn wsL_refuses wsL_takes := goodIn_ca (goodIn_ca (goodIn_r _ [403, 9, 11, 1, 4, 404, 405, 406, 15, 407, 32, 33, 368, 408, 409, 410, 411, 412, 413, 414, 21, 22, 389, 415, 35, 36, 37, 38, 39, 40, 157, 158, 159, 160, 161, 162, 163, 164, 165, 166, 167, 168, 169, 170, 171, 172, 95, 369, 370, 371, 372, 349, 373, 479, 480, 481, 482, 483, 484, 485, 486, 461, 462, 463, 464, 465, 466, 467, 468] (by decide +kernel) (by decide +kernel)) (goodIn_sub (fun _ h => List.mem_cons_of_mem _ (List.mem_append_right _ h)) (by decide +kernel))) (goodIn_sub (fun _ h => List.mem_cons_of_mem _ (List.mem_append_left _ (List.mem_append_left _ (List.mem_append_right _ h)))) (by decide +kernel))
set_option maxRecDepth 20000 in
theorem gL_refuses_L_takes : GoodIn wsL_refuses (va_wsS RL 130 yL_takes wsL_takes) := goodIn_app (goodIn_of _ (by decide +kernel)) ggL_refuses_L_takes
set_option maxRecDepth 20000 in
theorem ggL_refuses_L_knits : GoodIn wsL_refuses wsL_knits := goodIn_ca (goodIn_ca (goodIn_r _ [418, 9, 10, 1, 2, 419, 420, 421, 15, 422, 411, 412, 413, 414, 21, 22, 389, 415, 35, 36, 37, 38, 39, 40, 157, 158, 159, 160, 161, 162, 163, 164, 165, 166, 167, 168, 169, 170, 171, 172, 95, 23, 24, 25, 26, 27, 423, 424, 425, 392, 426, 400, 427, 397, 428, 429, 430, 431, 399, 432, 433, 434, 398, 435, 436, 437, 438, 439, 440, 441, 442, 68, 443, 87, 461, 462, 463, 464, 465, 466, 467, 468, 483, 484, 485, 486, 479, 480, 481, 482, 452, 453, 454, 455, 456, 457, 458, 459, 460, 475, 476, 477, 478] (by decide +kernel) (by decide +kernel)) (goodIn_sub (fun _ h => List.mem_cons_of_mem _ (List.mem_append_left _ (List.mem_append_left _ (List.mem_append_right _ h)))) (by decide +kernel))) (goodIn_sub (fun _ h => List.mem_cons_of_mem _ (List.mem_append_left _ (List.mem_append_right _ h))) (by decide +kernel))
set_option maxRecDepth 20000 in
theorem gL_refuses_L_knits : GoodIn wsL_refuses (va_wsS RL 133 yL_knits wsL_knits) := goodIn_app (goodIn_of _ (by decide +kernel)) ggL_refuses_L_knits
set_option maxRecDepth 20000 in
theorem ggL_refuses_L_progress : GoodIn wsL_refuses wsL_progress := goodIn_ca (goodIn_r _ [446, 9, 1, 447, 448, 449, 15, 450, 451, 411, 412, 413, 414, 21, 22, 389, 415, 35, 36, 37, 38, 39, 40, 157, 158, 159, 160, 161, 162, 163, 164, 165, 166, 167, 168, 169, 170, 171, 172, 95, 483, 484, 485, 486, 461, 462, 463, 464, 465, 466, 467, 468] (by decide +kernel) (by decide +kernel)) (goodIn_sub (fun _ h => List.mem_cons_of_mem _ (List.mem_append_left _ (List.mem_append_left _ (List.mem_append_right _ h)))) (by decide +kernel))
set_option maxRecDepth 20000 in
theorem gL_refuses_L_progress : GoodIn wsL_refuses (va_wsS RL 136 yL_progress wsL_progress) := goodIn_app (goodIn_of _ (by decide +kernel)) ggL_refuses_L_progress
theorem dL_refuses_0 : decode cL_refuses 0 = .ok (.iload_n 2, 1) := by decide +kernel
theorem dL_refuses_1 : decode cL_refuses 1 = .ok (.iconst 2, 1) := by decide +kernel
theorem dL_refuses_2 : decode cL_refuses 2 = .ok (.irem, 1) := by decide +kernel
theorem dL_refuses_3 : decode cL_refuses 3 = .ok (.ifCond .ne 7, 3) := by decide +kernel
theorem dL_refuses_6 : decode cL_refuses 6 = .ok (.iconst 1, 1) := by decide +kernel
theorem dL_refuses_7 : decode cL_refuses 7 = .ok (.goto 4, 3) := by decide +kernel
theorem dL_refuses_10 : decode cL_refuses 10 = .ok (.iconst 0, 1) := by decide +kernel
theorem dL_refuses_11 : decode cL_refuses 11 = .ok (.istore_n 3, 1) := by decide +kernel
theorem dL_refuses_12 : decode cL_refuses 12 = .ok (.iload_n 3, 1) := by decide +kernel
theorem dL_refuses_13 : decode cL_refuses 13 = .ok (.ifCond .eq 12, 3) := by decide +kernel
theorem dL_refuses_16 : decode cL_refuses 16 = .ok (.iconst (-1), 1) := by decide +kernel
theorem dL_refuses_17 : decode cL_refuses 17 = .ok (.iload_n 2, 1) := by decide +kernel
theorem dL_refuses_18 : decode cL_refuses 18 = .ok (.bipush 50, 2) := by decide +kernel
theorem dL_refuses_20 : decode cL_refuses 20 = .ok (.irem, 1) := by decide +kernel
theorem dL_refuses_21 : decode cL_refuses 21 = .ok (.isub, 1) := by decide +kernel
theorem dL_refuses_22 : decode cL_refuses 22 = .ok (.goto 9, 3) := by decide +kernel
theorem dL_refuses_25 : decode cL_refuses 25 = .ok (.iconst 5, 1) := by decide +kernel
theorem dL_refuses_26 : decode cL_refuses 26 = .ok (.iload_n 2, 1) := by decide +kernel
theorem dL_refuses_27 : decode cL_refuses 27 = .ok (.bipush 50, 2) := by decide +kernel
theorem dL_refuses_29 : decode cL_refuses 29 = .ok (.irem, 1) := by decide +kernel
theorem dL_refuses_30 : decode cL_refuses 30 = .ok (.iadd, 1) := by decide +kernel
theorem dL_refuses_31 : decode cL_refuses 31 = .ok (.istore 4, 2) := by decide +kernel
theorem dL_refuses_33 : decode cL_refuses 33 = .ok (.iload_n 3, 1) := by decide +kernel
theorem dL_refuses_34 : decode cL_refuses 34 = .ok (.ifCond .eq 12, 3) := by decide +kernel
theorem dL_refuses_37 : decode cL_refuses 37 = .ok (.iconst (-1), 1) := by decide +kernel
theorem dL_refuses_38 : decode cL_refuses 38 = .ok (.iload_n 2, 1) := by decide +kernel
theorem dL_refuses_39 : decode cL_refuses 39 = .ok (.bipush 50, 2) := by decide +kernel
theorem dL_refuses_41 : decode cL_refuses 41 = .ok (.irem, 1) := by decide +kernel
theorem dL_refuses_42 : decode cL_refuses 42 = .ok (.isub, 1) := by decide +kernel
theorem dL_refuses_43 : decode cL_refuses 43 = .ok (.goto 11, 3) := by decide +kernel
theorem dL_refuses_46 : decode cL_refuses 46 = .ok (.aload_n 1, 1) := by decide +kernel
theorem dL_refuses_47 : decode cL_refuses 47 = .ok (.iconst 0, 1) := by decide +kernel
theorem dL_refuses_48 : decode cL_refuses 48 = .ok (.iaload, 1) := by decide +kernel
theorem dL_refuses_49 : decode cL_refuses 49 = .ok (.iload_n 2, 1) := by decide +kernel
theorem dL_refuses_50 : decode cL_refuses 50 = .ok (.bipush 50, 2) := by decide +kernel
theorem dL_refuses_52 : decode cL_refuses 52 = .ok (.irem, 1) := by decide +kernel
theorem dL_refuses_53 : decode cL_refuses 53 = .ok (.iadd, 1) := by decide +kernel
theorem dL_refuses_54 : decode cL_refuses 54 = .ok (.istore 5, 2) := by decide +kernel
theorem dL_refuses_56 : decode cL_refuses 56 = .ok (.iload_n 3, 1) := by decide +kernel
theorem dL_refuses_57 : decode cL_refuses 57 = .ok (.ifCond .eq 12, 3) := by decide +kernel
theorem dL_refuses_60 : decode cL_refuses 60 = .ok (.iconst (-1), 1) := by decide +kernel
theorem dL_refuses_61 : decode cL_refuses 61 = .ok (.iload_n 2, 1) := by decide +kernel
theorem dL_refuses_62 : decode cL_refuses 62 = .ok (.bipush 50, 2) := by decide +kernel
theorem dL_refuses_64 : decode cL_refuses 64 = .ok (.irem, 1) := by decide +kernel
theorem dL_refuses_65 : decode cL_refuses 65 = .ok (.isub, 1) := by decide +kernel
theorem dL_refuses_66 : decode cL_refuses 66 = .ok (.goto 11, 3) := by decide +kernel
theorem dL_refuses_69 : decode cL_refuses 69 = .ok (.aload_n 1, 1) := by decide +kernel
theorem dL_refuses_70 : decode cL_refuses 70 = .ok (.iconst 1, 1) := by decide +kernel
theorem dL_refuses_71 : decode cL_refuses 71 = .ok (.iaload, 1) := by decide +kernel
theorem dL_refuses_72 : decode cL_refuses 72 = .ok (.iload_n 2, 1) := by decide +kernel
theorem dL_refuses_73 : decode cL_refuses 73 = .ok (.bipush 50, 2) := by decide +kernel
theorem dL_refuses_75 : decode cL_refuses 75 = .ok (.irem, 1) := by decide +kernel
theorem dL_refuses_76 : decode cL_refuses 76 = .ok (.iadd, 1) := by decide +kernel
theorem dL_refuses_77 : decode cL_refuses 77 = .ok (.istore 6, 2) := by decide +kernel
theorem dL_refuses_79 : decode cL_refuses 79 = .ok (.iload_n 3, 1) := by decide +kernel
theorem dL_refuses_80 : decode cL_refuses 80 = .ok (.ifCond .eq 12, 3) := by decide +kernel
theorem dL_refuses_83 : decode cL_refuses 83 = .ok (.iconst (-1), 1) := by decide +kernel
theorem dL_refuses_84 : decode cL_refuses 84 = .ok (.iload_n 2, 1) := by decide +kernel
theorem dL_refuses_85 : decode cL_refuses 85 = .ok (.bipush 50, 2) := by decide +kernel
theorem dL_refuses_87 : decode cL_refuses 87 = .ok (.irem, 1) := by decide +kernel
theorem dL_refuses_88 : decode cL_refuses 88 = .ok (.isub, 1) := by decide +kernel
theorem dL_refuses_89 : decode cL_refuses 89 = .ok (.goto 11, 3) := by decide +kernel
theorem dL_refuses_92 : decode cL_refuses 92 = .ok (.aload_n 1, 1) := by decide +kernel
theorem dL_refuses_93 : decode cL_refuses 93 = .ok (.iconst 2, 1) := by decide +kernel
theorem dL_refuses_94 : decode cL_refuses 94 = .ok (.iaload, 1) := by decide +kernel
theorem dL_refuses_95 : decode cL_refuses 95 = .ok (.iload_n 2, 1) := by decide +kernel
theorem dL_refuses_96 : decode cL_refuses 96 = .ok (.bipush 50, 2) := by decide +kernel
theorem dL_refuses_98 : decode cL_refuses 98 = .ok (.irem, 1) := by decide +kernel
theorem dL_refuses_99 : decode cL_refuses 99 = .ok (.iadd, 1) := by decide +kernel
theorem dL_refuses_100 : decode cL_refuses 100 = .ok (.istore 7, 2) := by decide +kernel
theorem dL_refuses_102 : decode cL_refuses 102 = .ok (.aload_n 0, 1) := by decide +kernel
theorem dL_refuses_103 : decode cL_refuses 103 = .ok (.iload 4, 2) := by decide +kernel
theorem dL_refuses_105 : decode cL_refuses 105 = .ok (.iconst 0, 1) := by decide +kernel
theorem dL_refuses_106 : decode cL_refuses 106 = .ok (.iconst 0, 1) := by decide +kernel
theorem dL_refuses_107 : decode cL_refuses 107 = .ok (.invokestatic 81, 3) := by decide +kernel
theorem dL_refuses_110 : decode cL_refuses 110 = .ok (.ldc 15, 2) := by decide +kernel
theorem dL_refuses_112 : decode cL_refuses 112 = .ok (.if_icmp .ne 437, 3) := by decide +kernel
theorem dL_refuses_115 : decode cL_refuses 115 = .ok (.aload_n 0, 1) := by decide +kernel
theorem dL_refuses_116 : decode cL_refuses 116 = .ok (.iload_n 2, 1) := by decide +kernel
theorem dL_refuses_117 : decode cL_refuses 117 = .ok (.iconst 5, 1) := by decide +kernel
theorem dL_refuses_118 : decode cL_refuses 118 = .ok (.irem, 1) := by decide +kernel
theorem dL_refuses_119 : decode cL_refuses 119 = .ok (.bipush 21, 2) := by decide +kernel
theorem dL_refuses_121 : decode cL_refuses 121 = .ok (.iload_n 2, 1) := by decide +kernel
theorem dL_refuses_122 : decode cL_refuses 122 = .ok (.iadd, 1) := by decide +kernel
theorem dL_refuses_123 : decode cL_refuses 123 = .ok (.iconst 0, 1) := by decide +kernel
theorem dL_refuses_124 : decode cL_refuses 124 = .ok (.invokestatic 81, 3) := by decide +kernel
theorem dL_refuses_127 : decode cL_refuses 127 = .ok (.ldc 18, 2) := by decide +kernel
theorem dL_refuses_129 : decode cL_refuses 129 = .ok (.if_icmp .ne 420, 3) := by decide +kernel
theorem dL_refuses_132 : decode cL_refuses 132 = .ok (.aload_n 0, 1) := by decide +kernel
theorem dL_refuses_133 : decode cL_refuses 133 = .ok (.iload_n 2, 1) := by decide +kernel
theorem dL_refuses_134 : decode cL_refuses 134 = .ok (.iconst 5, 1) := by decide +kernel
theorem dL_refuses_135 : decode cL_refuses 135 = .ok (.irem, 1) := by decide +kernel
theorem dL_refuses_136 : decode cL_refuses 136 = .ok (.iload_n 2, 1) := by decide +kernel
theorem dL_refuses_137 : decode cL_refuses 137 = .ok (.ineg, 1) := by decide +kernel
theorem dL_refuses_138 : decode cL_refuses 138 = .ok (.iconst 0, 1) := by decide +kernel
theorem dL_refuses_139 : decode cL_refuses 139 = .ok (.invokestatic 81, 3) := by decide +kernel
theorem dL_refuses_142 : decode cL_refuses 142 = .ok (.ldc 18, 2) := by decide +kernel
theorem dL_refuses_144 : decode cL_refuses 144 = .ok (.if_icmp .ne 405, 3) := by decide +kernel
theorem dL_refuses_147 : decode cL_refuses 147 = .ok (.aload_n 0, 1) := by decide +kernel
theorem dL_refuses_148 : decode cL_refuses 148 = .ok (.iload_n 2, 1) := by decide +kernel
theorem dL_refuses_149 : decode cL_refuses 149 = .ok (.iconst 5, 1) := by decide +kernel
theorem dL_refuses_150 : decode cL_refuses 150 = .ok (.irem, 1) := by decide +kernel
theorem dL_refuses_151 : decode cL_refuses 151 = .ok (.iconst 1, 1) := by decide +kernel
theorem dL_refuses_152 : decode cL_refuses 152 = .ok (.sipush 1001, 3) := by decide +kernel
theorem dL_refuses_155 : decode cL_refuses 155 = .ok (.iload_n 2, 1) := by decide +kernel
theorem dL_refuses_156 : decode cL_refuses 156 = .ok (.iadd, 1) := by decide +kernel
theorem dL_refuses_157 : decode cL_refuses 157 = .ok (.invokestatic 81, 3) := by decide +kernel
theorem dL_refuses_160 : decode cL_refuses 160 = .ok (.ldc 18, 2) := by decide +kernel
theorem dL_refuses_162 : decode cL_refuses 162 = .ok (.if_icmp .ne 387, 3) := by decide +kernel
theorem dL_refuses_165 : decode cL_refuses 165 = .ok (.aload_n 0, 1) := by decide +kernel
theorem dL_refuses_166 : decode cL_refuses 166 = .ok (.iload_n 2, 1) := by decide +kernel
theorem dL_refuses_167 : decode cL_refuses 167 = .ok (.iconst 5, 1) := by decide +kernel
theorem dL_refuses_168 : decode cL_refuses 168 = .ok (.irem, 1) := by decide +kernel
theorem dL_refuses_169 : decode cL_refuses 169 = .ok (.iconst 1, 1) := by decide +kernel
theorem dL_refuses_170 : decode cL_refuses 170 = .ok (.iconst (-1), 1) := by decide +kernel
theorem dL_refuses_171 : decode cL_refuses 171 = .ok (.iload_n 2, 1) := by decide +kernel
theorem dL_refuses_172 : decode cL_refuses 172 = .ok (.isub, 1) := by decide +kernel
theorem dL_refuses_173 : decode cL_refuses 173 = .ok (.invokestatic 81, 3) := by decide +kernel
theorem dL_refuses_176 : decode cL_refuses 176 = .ok (.ldc 18, 2) := by decide +kernel
theorem dL_refuses_178 : decode cL_refuses 178 = .ok (.if_icmp .ne 371, 3) := by decide +kernel
theorem dL_refuses_181 : decode cL_refuses 181 = .ok (.aload_n 0, 1) := by decide +kernel
theorem dL_refuses_182 : decode cL_refuses 182 = .ok (.iload 5, 2) := by decide +kernel
theorem dL_refuses_184 : decode cL_refuses 184 = .ok (.iconst 0, 1) := by decide +kernel
theorem dL_refuses_185 : decode cL_refuses 185 = .ok (.iconst 0, 1) := by decide +kernel
theorem dL_refuses_186 : decode cL_refuses 186 = .ok (.iconst 0, 1) := by decide +kernel
theorem dL_refuses_187 : decode cL_refuses 187 = .ok (.iconst 0, 1) := by decide +kernel
theorem dL_refuses_188 : decode cL_refuses 188 = .ok (.invokestatic 87, 3) := by decide +kernel
theorem dL_refuses_191 : decode cL_refuses 191 = .ok (.ldc 15, 2) := by decide +kernel
theorem dL_refuses_193 : decode cL_refuses 193 = .ok (.if_icmp .ne 356, 3) := by decide +kernel
theorem dL_refuses_196 : decode cL_refuses 196 = .ok (.aload_n 0, 1) := by decide +kernel
theorem dL_refuses_197 : decode cL_refuses 197 = .ok (.iload 5, 2) := by decide +kernel
theorem dL_refuses_199 : decode cL_refuses 199 = .ok (.iconst 0, 1) := by decide +kernel
theorem dL_refuses_200 : decode cL_refuses 200 = .ok (.invokestatic 91, 3) := by decide +kernel
theorem dL_refuses_203 : decode cL_refuses 203 = .ok (.ldc 15, 2) := by decide +kernel
theorem dL_refuses_205 : decode cL_refuses 205 = .ok (.if_icmp .ne 344, 3) := by decide +kernel
theorem dL_refuses_208 : decode cL_refuses 208 = .ok (.aload_n 0, 1) := by decide +kernel
theorem dL_refuses_209 : decode cL_refuses 209 = .ok (.iload 5, 2) := by decide +kernel
theorem dL_refuses_211 : decode cL_refuses 211 = .ok (.invokestatic 95, 3) := by decide +kernel
theorem dL_refuses_214 : decode cL_refuses 214 = .ok (.ldc 15, 2) := by decide +kernel
theorem dL_refuses_216 : decode cL_refuses 216 = .ok (.if_icmp .ne 333, 3) := by decide +kernel
theorem dL_refuses_219 : decode cL_refuses 219 = .ok (.aload_n 0, 1) := by decide +kernel
theorem dL_refuses_220 : decode cL_refuses 220 = .ok (.iload 5, 2) := by decide +kernel
theorem dL_refuses_222 : decode cL_refuses 222 = .ok (.invokestatic 99, 3) := by decide +kernel
theorem dL_refuses_225 : decode cL_refuses 225 = .ok (.ldc 15, 2) := by decide +kernel
theorem dL_refuses_227 : decode cL_refuses 227 = .ok (.if_icmp .ne 322, 3) := by decide +kernel
theorem dL_refuses_230 : decode cL_refuses 230 = .ok (.aload_n 0, 1) := by decide +kernel
theorem dL_refuses_231 : decode cL_refuses 231 = .ok (.iload 5, 2) := by decide +kernel
theorem dL_refuses_233 : decode cL_refuses 233 = .ok (.invokestatic 101, 3) := by decide +kernel
theorem dL_refuses_236 : decode cL_refuses 236 = .ok (.ldc 15, 2) := by decide +kernel
theorem dL_refuses_238 : decode cL_refuses 238 = .ok (.if_icmp .ne 311, 3) := by decide +kernel
theorem dL_refuses_241 : decode cL_refuses 241 = .ok (.aload_n 0, 1) := by decide +kernel
theorem dL_refuses_242 : decode cL_refuses 242 = .ok (.iload 5, 2) := by decide +kernel
theorem dL_refuses_244 : decode cL_refuses 244 = .ok (.iconst 0, 1) := by decide +kernel
theorem dL_refuses_245 : decode cL_refuses 245 = .ok (.iconst 0, 1) := by decide +kernel
theorem dL_refuses_246 : decode cL_refuses 246 = .ok (.invokestatic 103, 3) := by decide +kernel
theorem dL_refuses_249 : decode cL_refuses 249 = .ok (.ldc 15, 2) := by decide +kernel
theorem dL_refuses_251 : decode cL_refuses 251 = .ok (.if_icmp .ne 298, 3) := by decide +kernel
theorem dL_refuses_254 : decode cL_refuses 254 = .ok (.aload_n 0, 1) := by decide +kernel
theorem dL_refuses_255 : decode cL_refuses 255 = .ok (.iload 5, 2) := by decide +kernel
theorem dL_refuses_257 : decode cL_refuses 257 = .ok (.iconst 0, 1) := by decide +kernel
theorem dL_refuses_258 : decode cL_refuses 258 = .ok (.iconst 0, 1) := by decide +kernel
theorem dL_refuses_259 : decode cL_refuses 259 = .ok (.invokestatic 105, 3) := by decide +kernel
theorem dL_refuses_262 : decode cL_refuses 262 = .ok (.ldc 15, 2) := by decide +kernel
theorem dL_refuses_264 : decode cL_refuses 264 = .ok (.if_icmp .ne 285, 3) := by decide +kernel
theorem dL_refuses_267 : decode cL_refuses 267 = .ok (.aload_n 0, 1) := by decide +kernel
theorem dL_refuses_268 : decode cL_refuses 268 = .ok (.iload 5, 2) := by decide +kernel
theorem dL_refuses_270 : decode cL_refuses 270 = .ok (.iconst 4, 1) := by decide +kernel
theorem dL_refuses_271 : decode cL_refuses 271 = .ok (.invokestatic 108, 3) := by decide +kernel
theorem dL_refuses_274 : decode cL_refuses 274 = .ok (.ldc 15, 2) := by decide +kernel
theorem dL_refuses_276 : decode cL_refuses 276 = .ok (.if_icmp .ne 273, 3) := by decide +kernel
theorem dL_refuses_279 : decode cL_refuses 279 = .ok (.aload_n 0, 1) := by decide +kernel
theorem dL_refuses_280 : decode cL_refuses 280 = .ok (.iload 5, 2) := by decide +kernel
theorem dL_refuses_282 : decode cL_refuses 282 = .ok (.iconst 0, 1) := by decide +kernel
theorem dL_refuses_283 : decode cL_refuses 283 = .ok (.invokestatic 110, 3) := by decide +kernel
theorem dL_refuses_286 : decode cL_refuses 286 = .ok (.ldc 15, 2) := by decide +kernel
theorem dL_refuses_288 : decode cL_refuses 288 = .ok (.if_icmp .ne 261, 3) := by decide +kernel
theorem dL_refuses_291 : decode cL_refuses 291 = .ok (.aload_n 0, 1) := by decide +kernel
theorem dL_refuses_292 : decode cL_refuses 292 = .ok (.iload 5, 2) := by decide +kernel
theorem dL_refuses_294 : decode cL_refuses 294 = .ok (.invokestatic 113, 3) := by decide +kernel
theorem dL_refuses_297 : decode cL_refuses 297 = .ok (.ldc 15, 2) := by decide +kernel
theorem dL_refuses_299 : decode cL_refuses 299 = .ok (.if_icmp .ne 250, 3) := by decide +kernel
theorem dL_refuses_302 : decode cL_refuses 302 = .ok (.aload_n 0, 1) := by decide +kernel
theorem dL_refuses_303 : decode cL_refuses 303 = .ok (.iload 4, 2) := by decide +kernel
theorem dL_refuses_305 : decode cL_refuses 305 = .ok (.invokestatic 116, 3) := by decide +kernel
theorem dL_refuses_308 : decode cL_refuses 308 = .ok (.ldc 15, 2) := by decide +kernel
theorem dL_refuses_310 : decode cL_refuses 310 = .ok (.if_icmp .ne 239, 3) := by decide +kernel
theorem dL_refuses_313 : decode cL_refuses 313 = .ok (.aload_n 0, 1) := by decide +kernel
theorem dL_refuses_314 : decode cL_refuses 314 = .ok (.iload 4, 2) := by decide +kernel
theorem dL_refuses_316 : decode cL_refuses 316 = .ok (.iconst 4, 1) := by decide +kernel
theorem dL_refuses_317 : decode cL_refuses 317 = .ok (.iconst 0, 1) := by decide +kernel
theorem dL_refuses_318 : decode cL_refuses 318 = .ok (.invokestatic 118, 3) := by decide +kernel
theorem dL_refuses_321 : decode cL_refuses 321 = .ok (.ldc 15, 2) := by decide +kernel
theorem dL_refuses_323 : decode cL_refuses 323 = .ok (.if_icmp .ne 226, 3) := by decide +kernel
theorem dL_refuses_326 : decode cL_refuses 326 = .ok (.aload_n 0, 1) := by decide +kernel
theorem dL_refuses_327 : decode cL_refuses 327 = .ok (.iload_n 2, 1) := by decide +kernel
theorem dL_refuses_328 : decode cL_refuses 328 = .ok (.iconst 5, 1) := by decide +kernel
theorem dL_refuses_329 : decode cL_refuses 329 = .ok (.irem, 1) := by decide +kernel
theorem dL_refuses_330 : decode cL_refuses 330 = .ok (.iconst 4, 1) := by decide +kernel
theorem dL_refuses_331 : decode cL_refuses 331 = .ok (.iload_n 2, 1) := by decide +kernel
theorem dL_refuses_332 : decode cL_refuses 332 = .ok (.isub, 1) := by decide +kernel
theorem dL_refuses_333 : decode cL_refuses 333 = .ok (.iconst 1, 1) := by decide +kernel
theorem dL_refuses_334 : decode cL_refuses 334 = .ok (.invokestatic 118, 3) := by decide +kernel
theorem dL_refuses_337 : decode cL_refuses 337 = .ok (.ldc 18, 2) := by decide +kernel
theorem dL_refuses_339 : decode cL_refuses 339 = .ok (.if_icmp .ne 210, 3) := by decide +kernel
theorem dL_refuses_342 : decode cL_refuses 342 = .ok (.aload_n 0, 1) := by decide +kernel
theorem dL_refuses_343 : decode cL_refuses 343 = .ok (.iload_n 2, 1) := by decide +kernel
theorem dL_refuses_344 : decode cL_refuses 344 = .ok (.iconst 5, 1) := by decide +kernel
theorem dL_refuses_345 : decode cL_refuses 345 = .ok (.irem, 1) := by decide +kernel
theorem dL_refuses_346 : decode cL_refuses 346 = .ok (.bipush 21, 2) := by decide +kernel
theorem dL_refuses_348 : decode cL_refuses 348 = .ok (.iload_n 2, 1) := by decide +kernel
theorem dL_refuses_349 : decode cL_refuses 349 = .ok (.iadd, 1) := by decide +kernel
theorem dL_refuses_350 : decode cL_refuses 350 = .ok (.iconst 1, 1) := by decide +kernel
theorem dL_refuses_351 : decode cL_refuses 351 = .ok (.invokestatic 118, 3) := by decide +kernel
theorem dL_refuses_354 : decode cL_refuses 354 = .ok (.ldc 18, 2) := by decide +kernel
theorem dL_refuses_356 : decode cL_refuses 356 = .ok (.if_icmp .ne 193, 3) := by decide +kernel
theorem dL_refuses_359 : decode cL_refuses 359 = .ok (.aload_n 0, 1) := by decide +kernel
theorem dL_refuses_360 : decode cL_refuses 360 = .ok (.iload_n 2, 1) := by decide +kernel
theorem dL_refuses_361 : decode cL_refuses 361 = .ok (.iconst 5, 1) := by decide +kernel
theorem dL_refuses_362 : decode cL_refuses 362 = .ok (.irem, 1) := by decide +kernel
theorem dL_refuses_363 : decode cL_refuses 363 = .ok (.iconst 5, 1) := by decide +kernel
theorem dL_refuses_364 : decode cL_refuses 364 = .ok (.iload_n 2, 1) := by decide +kernel
theorem dL_refuses_365 : decode cL_refuses 365 = .ok (.ineg, 1) := by decide +kernel
theorem dL_refuses_366 : decode cL_refuses 366 = .ok (.invokestatic 118, 3) := by decide +kernel
theorem dL_refuses_369 : decode cL_refuses 369 = .ok (.ldc 18, 2) := by decide +kernel
theorem dL_refuses_371 : decode cL_refuses 371 = .ok (.if_icmp .ne 178, 3) := by decide +kernel
theorem dL_refuses_374 : decode cL_refuses 374 = .ok (.aload_n 0, 1) := by decide +kernel
theorem dL_refuses_375 : decode cL_refuses 375 = .ok (.iload_n 2, 1) := by decide +kernel
theorem dL_refuses_376 : decode cL_refuses 376 = .ok (.iconst 5, 1) := by decide +kernel
theorem dL_refuses_377 : decode cL_refuses 377 = .ok (.irem, 1) := by decide +kernel
theorem dL_refuses_378 : decode cL_refuses 378 = .ok (.iconst 5, 1) := by decide +kernel
theorem dL_refuses_379 : decode cL_refuses 379 = .ok (.ldc 121, 2) := by decide +kernel
theorem dL_refuses_381 : decode cL_refuses 381 = .ok (.iload_n 2, 1) := by decide +kernel
theorem dL_refuses_382 : decode cL_refuses 382 = .ok (.iadd, 1) := by decide +kernel
theorem dL_refuses_383 : decode cL_refuses 383 = .ok (.invokestatic 118, 3) := by decide +kernel
theorem dL_refuses_386 : decode cL_refuses 386 = .ok (.ldc 18, 2) := by decide +kernel
theorem dL_refuses_388 : decode cL_refuses 388 = .ok (.if_icmp .ne 161, 3) := by decide +kernel
theorem dL_refuses_391 : decode cL_refuses 391 = .ok (.aload_n 0, 1) := by decide +kernel
theorem dL_refuses_392 : decode cL_refuses 392 = .ok (.iload 6, 2) := by decide +kernel
theorem dL_refuses_394 : decode cL_refuses 394 = .ok (.iload 6, 2) := by decide +kernel
theorem dL_refuses_396 : decode cL_refuses 396 = .ok (.invokestatic 122, 3) := by decide +kernel
theorem dL_refuses_399 : decode cL_refuses 399 = .ok (.ldc 15, 2) := by decide +kernel
theorem dL_refuses_401 : decode cL_refuses 401 = .ok (.if_icmp .ne 148, 3) := by decide +kernel
theorem dL_refuses_404 : decode cL_refuses 404 = .ok (.aload_n 0, 1) := by decide +kernel
theorem dL_refuses_405 : decode cL_refuses 405 = .ok (.iload 6, 2) := by decide +kernel
theorem dL_refuses_407 : decode cL_refuses 407 = .ok (.invokestatic 125, 3) := by decide +kernel
theorem dL_refuses_410 : decode cL_refuses 410 = .ok (.ldc 15, 2) := by decide +kernel
theorem dL_refuses_412 : decode cL_refuses 412 = .ok (.if_icmp .ne 137, 3) := by decide +kernel
theorem dL_refuses_415 : decode cL_refuses 415 = .ok (.aload_n 0, 1) := by decide +kernel
theorem dL_refuses_416 : decode cL_refuses 416 = .ok (.iload 4, 2) := by decide +kernel
theorem dL_refuses_418 : decode cL_refuses 418 = .ok (.iconst 0, 1) := by decide +kernel
theorem dL_refuses_419 : decode cL_refuses 419 = .ok (.iconst 0, 1) := by decide +kernel
theorem dL_refuses_420 : decode cL_refuses 420 = .ok (.invokestatic 127, 3) := by decide +kernel
theorem dL_refuses_423 : decode cL_refuses 423 = .ok (.ldc 15, 2) := by decide +kernel
theorem dL_refuses_425 : decode cL_refuses 425 = .ok (.if_icmp .ne 124, 3) := by decide +kernel
theorem dL_refuses_428 : decode cL_refuses 428 = .ok (.aload_n 0, 1) := by decide +kernel
theorem dL_refuses_429 : decode cL_refuses 429 = .ok (.iload_n 2, 1) := by decide +kernel
theorem dL_refuses_430 : decode cL_refuses 430 = .ok (.iconst 5, 1) := by decide +kernel
theorem dL_refuses_431 : decode cL_refuses 431 = .ok (.irem, 1) := by decide +kernel
theorem dL_refuses_432 : decode cL_refuses 432 = .ok (.iload 5, 2) := by decide +kernel
theorem dL_refuses_434 : decode cL_refuses 434 = .ok (.iconst 0, 1) := by decide +kernel
theorem dL_refuses_435 : decode cL_refuses 435 = .ok (.invokestatic 127, 3) := by decide +kernel
theorem dL_refuses_438 : decode cL_refuses 438 = .ok (.ldc 15, 2) := by decide +kernel
theorem dL_refuses_440 : decode cL_refuses 440 = .ok (.if_icmp .ne 109, 3) := by decide +kernel
theorem dL_refuses_443 : decode cL_refuses 443 = .ok (.aload_n 0, 1) := by decide +kernel
theorem dL_refuses_444 : decode cL_refuses 444 = .ok (.iload_n 2, 1) := by decide +kernel
theorem dL_refuses_445 : decode cL_refuses 445 = .ok (.iconst 5, 1) := by decide +kernel
theorem dL_refuses_446 : decode cL_refuses 446 = .ok (.irem, 1) := by decide +kernel
theorem dL_refuses_447 : decode cL_refuses 447 = .ok (.iconst 0, 1) := by decide +kernel
theorem dL_refuses_448 : decode cL_refuses 448 = .ok (.iload 6, 2) := by decide +kernel
theorem dL_refuses_450 : decode cL_refuses 450 = .ok (.invokestatic 127, 3) := by decide +kernel
theorem dL_refuses_453 : decode cL_refuses 453 = .ok (.ldc 15, 2) := by decide +kernel
theorem dL_refuses_455 : decode cL_refuses 455 = .ok (.if_icmp .ne 94, 3) := by decide +kernel
theorem dL_refuses_458 : decode cL_refuses 458 = .ok (.aload_n 0, 1) := by decide +kernel
theorem dL_refuses_459 : decode cL_refuses 459 = .ok (.iload 7, 2) := by decide +kernel
theorem dL_refuses_461 : decode cL_refuses 461 = .ok (.iconst 0, 1) := by decide +kernel
theorem dL_refuses_462 : decode cL_refuses 462 = .ok (.invokestatic 130, 3) := by decide +kernel
theorem dL_refuses_465 : decode cL_refuses 465 = .ok (.ldc 15, 2) := by decide +kernel
theorem dL_refuses_467 : decode cL_refuses 467 = .ok (.if_icmp .ne 82, 3) := by decide +kernel
theorem dL_refuses_470 : decode cL_refuses 470 = .ok (.aload_n 0, 1) := by decide +kernel
theorem dL_refuses_471 : decode cL_refuses 471 = .ok (.iconst 0, 1) := by decide +kernel
theorem dL_refuses_472 : decode cL_refuses 472 = .ok (.iload 6, 2) := by decide +kernel
theorem dL_refuses_474 : decode cL_refuses 474 = .ok (.invokestatic 130, 3) := by decide +kernel
theorem dL_refuses_477 : decode cL_refuses 477 = .ok (.ldc 15, 2) := by decide +kernel
theorem dL_refuses_479 : decode cL_refuses 479 = .ok (.if_icmp .ne 70, 3) := by decide +kernel
theorem dL_refuses_482 : decode cL_refuses 482 = .ok (.aload_n 0, 1) := by decide +kernel
theorem dL_refuses_483 : decode cL_refuses 483 = .ok (.iload 7, 2) := by decide +kernel
theorem dL_refuses_485 : decode cL_refuses 485 = .ok (.iconst 0, 1) := by decide +kernel
theorem dL_refuses_486 : decode cL_refuses 486 = .ok (.invokestatic 133, 3) := by decide +kernel
theorem dL_refuses_489 : decode cL_refuses 489 = .ok (.ldc 15, 2) := by decide +kernel
theorem dL_refuses_491 : decode cL_refuses 491 = .ok (.if_icmp .ne 58, 3) := by decide +kernel
theorem dL_refuses_494 : decode cL_refuses 494 = .ok (.aload_n 0, 1) := by decide +kernel
theorem dL_refuses_495 : decode cL_refuses 495 = .ok (.iload 7, 2) := by decide +kernel
theorem dL_refuses_497 : decode cL_refuses 497 = .ok (.invokestatic 136, 3) := by decide +kernel
theorem dL_refuses_500 : decode cL_refuses 500 = .ok (.ldc 15, 2) := by decide +kernel
theorem dL_refuses_502 : decode cL_refuses 502 = .ok (.if_icmp .ne 47, 3) := by decide +kernel
theorem dL_refuses_505 : decode cL_refuses 505 = .ok (.aload_n 1, 1) := by decide +kernel
theorem dL_refuses_506 : decode cL_refuses 506 = .ok (.iconst 0, 1) := by decide +kernel
theorem dL_refuses_507 : decode cL_refuses 507 = .ok (.iaload, 1) := by decide +kernel
theorem dL_refuses_508 : decode cL_refuses 508 = .ok (.bipush 16, 2) := by decide +kernel
theorem dL_refuses_510 : decode cL_refuses 510 = .ok (.if_icmp .lt 15, 3) := by decide +kernel
theorem dL_refuses_513 : decode cL_refuses 513 = .ok (.aload_n 0, 1) := by decide +kernel
theorem dL_refuses_514 : decode cL_refuses 514 = .ok (.iconst 0, 1) := by decide +kernel
theorem dL_refuses_515 : decode cL_refuses 515 = .ok (.iconst 1, 1) := by decide +kernel
theorem dL_refuses_516 : decode cL_refuses 516 = .ok (.iconst 1, 1) := by decide +kernel
theorem dL_refuses_517 : decode cL_refuses 517 = .ok (.invokestatic 81, 3) := by decide +kernel
theorem dL_refuses_520 : decode cL_refuses 520 = .ok (.ldc 21, 2) := by decide +kernel
theorem dL_refuses_522 : decode cL_refuses 522 = .ok (.if_icmp .ne 27, 3) := by decide +kernel
theorem dL_refuses_525 : decode cL_refuses 525 = .ok (.aload_n 1, 1) := by decide +kernel
theorem dL_refuses_526 : decode cL_refuses 526 = .ok (.iconst 1, 1) := by decide +kernel
theorem dL_refuses_527 : decode cL_refuses 527 = .ok (.iaload, 1) := by decide +kernel
theorem dL_refuses_528 : decode cL_refuses 528 = .ok (.bipush 20, 2) := by decide +kernel
theorem dL_refuses_530 : decode cL_refuses 530 = .ok (.if_icmp .lt 15, 3) := by decide +kernel
theorem dL_refuses_533 : decode cL_refuses 533 = .ok (.aload_n 0, 1) := by decide +kernel
theorem dL_refuses_534 : decode cL_refuses 534 = .ok (.iconst 0, 1) := by decide +kernel
theorem dL_refuses_535 : decode cL_refuses 535 = .ok (.iconst 5, 1) := by decide +kernel
theorem dL_refuses_536 : decode cL_refuses 536 = .ok (.iconst 1, 1) := by decide +kernel
theorem dL_refuses_537 : decode cL_refuses 537 = .ok (.invokestatic 118, 3) := by decide +kernel
theorem dL_refuses_540 : decode cL_refuses 540 = .ok (.ldc 21, 2) := by decide +kernel
theorem dL_refuses_542 : decode cL_refuses 542 = .ok (.if_icmp .ne 7, 3) := by decide +kernel
theorem dL_refuses_545 : decode cL_refuses 545 = .ok (.iconst 1, 1) := by decide +kernel
theorem dL_refuses_546 : decode cL_refuses 546 = .ok (.goto 4, 3) := by decide +kernel
theorem dL_refuses_549 : decode cL_refuses 549 = .ok (.iconst 0, 1) := by decide +kernel
theorem dL_refuses_550 : decode cL_refuses 550 = .ok (.istore 8, 2) := by decide +kernel
theorem dL_refuses_552 : decode cL_refuses 552 = .ok (.iload 8, 2) := by decide +kernel
theorem dL_refuses_554 : decode cL_refuses 554 = .ok (.ifCond .eq 414, 3) := by decide +kernel
theorem dL_refuses_557 : decode cL_refuses 557 = .ok (.aload_n 1, 1) := by decide +kernel
theorem dL_refuses_558 : decode cL_refuses 558 = .ok (.iconst 0, 1) := by decide +kernel
theorem dL_refuses_559 : decode cL_refuses 559 = .ok (.iaload, 1) := by decide +kernel
theorem dL_refuses_560 : decode cL_refuses 560 = .ok (.ifCond .le 408, 3) := by decide +kernel
theorem dL_refuses_563 : decode cL_refuses 563 = .ok (.iload_n 2, 1) := by decide +kernel
theorem dL_refuses_564 : decode cL_refuses 564 = .ok (.iconst 2, 1) := by decide +kernel
theorem dL_refuses_565 : decode cL_refuses 565 = .ok (.idiv, 1) := by decide +kernel
theorem dL_refuses_566 : decode cL_refuses 566 = .ok (.aload_n 1, 1) := by decide +kernel
theorem dL_refuses_567 : decode cL_refuses 567 = .ok (.iconst 0, 1) := by decide +kernel
theorem dL_refuses_568 : decode cL_refuses 568 = .ok (.iaload, 1) := by decide +kernel
theorem dL_refuses_569 : decode cL_refuses 569 = .ok (.irem, 1) := by decide +kernel
theorem dL_refuses_570 : decode cL_refuses 570 = .ok (.istore 9, 2) := by decide +kernel
theorem dL_refuses_572 : decode cL_refuses 572 = .ok (.aload_n 0, 1) := by decide +kernel
theorem dL_refuses_573 : decode cL_refuses 573 = .ok (.iload 9, 2) := by decide +kernel
theorem dL_refuses_575 : decode cL_refuses 575 = .ok (.invokestatic 101, 3) := by decide +kernel
theorem dL_refuses_578 : decode cL_refuses 578 = .ok (.istore 10, 2) := by decide +kernel
theorem dL_refuses_580 : decode cL_refuses 580 = .ok (.iload_n 3, 1) := by decide +kernel
theorem dL_refuses_581 : decode cL_refuses 581 = .ok (.ifCond .eq 12, 3) := by decide +kernel
theorem dL_refuses_584 : decode cL_refuses 584 = .ok (.iconst (-1), 1) := by decide +kernel
theorem dL_refuses_585 : decode cL_refuses 585 = .ok (.iload_n 2, 1) := by decide +kernel
theorem dL_refuses_586 : decode cL_refuses 586 = .ok (.bipush 50, 2) := by decide +kernel
theorem dL_refuses_588 : decode cL_refuses 588 = .ok (.irem, 1) := by decide +kernel
theorem dL_refuses_589 : decode cL_refuses 589 = .ok (.isub, 1) := by decide +kernel
theorem dL_refuses_590 : decode cL_refuses 590 = .ok (.goto 10, 3) := by decide +kernel
theorem dL_refuses_593 : decode cL_refuses 593 = .ok (.iload 10, 2) := by decide +kernel
theorem dL_refuses_595 : decode cL_refuses 595 = .ok (.iload_n 2, 1) := by decide +kernel
theorem dL_refuses_596 : decode cL_refuses 596 = .ok (.bipush 50, 2) := by decide +kernel
theorem dL_refuses_598 : decode cL_refuses 598 = .ok (.irem, 1) := by decide +kernel
theorem dL_refuses_599 : decode cL_refuses 599 = .ok (.iadd, 1) := by decide +kernel
theorem dL_refuses_600 : decode cL_refuses 600 = .ok (.istore 11, 2) := by decide +kernel
theorem dL_refuses_602 : decode cL_refuses 602 = .ok (.aload_n 0, 1) := by decide +kernel
theorem dL_refuses_603 : decode cL_refuses 603 = .ok (.iload 9, 2) := by decide +kernel
theorem dL_refuses_605 : decode cL_refuses 605 = .ok (.bipush 10, 2) := by decide +kernel
theorem dL_refuses_607 : decode cL_refuses 607 = .ok (.iload_n 2, 1) := by decide +kernel
theorem dL_refuses_608 : decode cL_refuses 608 = .ok (.iadd, 1) := by decide +kernel
theorem dL_refuses_609 : decode cL_refuses 609 = .ok (.iconst 0, 1) := by decide +kernel
theorem dL_refuses_610 : decode cL_refuses 610 = .ok (.iconst 0, 1) := by decide +kernel
theorem dL_refuses_611 : decode cL_refuses 611 = .ok (.iconst 1, 1) := by decide +kernel
theorem dL_refuses_612 : decode cL_refuses 612 = .ok (.invokestatic 87, 3) := by decide +kernel
theorem dL_refuses_615 : decode cL_refuses 615 = .ok (.ldc 18, 2) := by decide +kernel
theorem dL_refuses_617 : decode cL_refuses 617 = .ok (.if_icmp .ne 222, 3) := by decide +kernel
theorem dL_refuses_620 : decode cL_refuses 620 = .ok (.aload_n 0, 1) := by decide +kernel
theorem dL_refuses_621 : decode cL_refuses 621 = .ok (.iload 9, 2) := by decide +kernel
theorem dL_refuses_623 : decode cL_refuses 623 = .ok (.iconst 0, 1) := by decide +kernel
theorem dL_refuses_624 : decode cL_refuses 624 = .ok (.iconst (-1), 1) := by decide +kernel
theorem dL_refuses_625 : decode cL_refuses 625 = .ok (.iload_n 2, 1) := by decide +kernel
theorem dL_refuses_626 : decode cL_refuses 626 = .ok (.isub, 1) := by decide +kernel
theorem dL_refuses_627 : decode cL_refuses 627 = .ok (.iconst 0, 1) := by decide +kernel
theorem dL_refuses_628 : decode cL_refuses 628 = .ok (.iconst 1, 1) := by decide +kernel
theorem dL_refuses_629 : decode cL_refuses 629 = .ok (.invokestatic 87, 3) := by decide +kernel
theorem dL_refuses_632 : decode cL_refuses 632 = .ok (.ldc 18, 2) := by decide +kernel
theorem dL_refuses_634 : decode cL_refuses 634 = .ok (.if_icmp .ne 205, 3) := by decide +kernel
theorem dL_refuses_637 : decode cL_refuses 637 = .ok (.aload_n 0, 1) := by decide +kernel
theorem dL_refuses_638 : decode cL_refuses 638 = .ok (.iload 9, 2) := by decide +kernel
theorem dL_refuses_640 : decode cL_refuses 640 = .ok (.iconst 0, 1) := by decide +kernel
theorem dL_refuses_641 : decode cL_refuses 641 = .ok (.iconst 0, 1) := by decide +kernel
theorem dL_refuses_642 : decode cL_refuses 642 = .ok (.iconst 0, 1) := by decide +kernel
theorem dL_refuses_643 : decode cL_refuses 643 = .ok (.iconst 1, 1) := by decide +kernel
theorem dL_refuses_644 : decode cL_refuses 644 = .ok (.invokestatic 87, 3) := by decide +kernel
theorem dL_refuses_647 : decode cL_refuses 647 = .ok (.ldc 18, 2) := by decide +kernel
theorem dL_refuses_649 : decode cL_refuses 649 = .ok (.if_icmp .ne 190, 3) := by decide +kernel
theorem dL_refuses_652 : decode cL_refuses 652 = .ok (.aload_n 0, 1) := by decide +kernel
theorem dL_refuses_653 : decode cL_refuses 653 = .ok (.iload 9, 2) := by decide +kernel
theorem dL_refuses_655 : decode cL_refuses 655 = .ok (.iconst 1, 1) := by decide +kernel
theorem dL_refuses_656 : decode cL_refuses 656 = .ok (.iconst 0, 1) := by decide +kernel
theorem dL_refuses_657 : decode cL_refuses 657 = .ok (.iconst 4, 1) := by decide +kernel
theorem dL_refuses_658 : decode cL_refuses 658 = .ok (.iload_n 2, 1) := by decide +kernel
theorem dL_refuses_659 : decode cL_refuses 659 = .ok (.iadd, 1) := by decide +kernel
theorem dL_refuses_660 : decode cL_refuses 660 = .ok (.iconst 1, 1) := by decide +kernel
theorem dL_refuses_661 : decode cL_refuses 661 = .ok (.invokestatic 87, 3) := by decide +kernel
theorem dL_refuses_664 : decode cL_refuses 664 = .ok (.ldc 18, 2) := by decide +kernel
theorem dL_refuses_666 : decode cL_refuses 666 = .ok (.if_icmp .ne 173, 3) := by decide +kernel
theorem dL_refuses_669 : decode cL_refuses 669 = .ok (.aload_n 0, 1) := by decide +kernel
theorem dL_refuses_670 : decode cL_refuses 670 = .ok (.iload 9, 2) := by decide +kernel
theorem dL_refuses_672 : decode cL_refuses 672 = .ok (.iconst 1, 1) := by decide +kernel
theorem dL_refuses_673 : decode cL_refuses 673 = .ok (.iconst 0, 1) := by decide +kernel
theorem dL_refuses_674 : decode cL_refuses 674 = .ok (.bipush (-4), 2) := by decide +kernel
theorem dL_refuses_676 : decode cL_refuses 676 = .ok (.iload_n 2, 1) := by decide +kernel
theorem dL_refuses_677 : decode cL_refuses 677 = .ok (.isub, 1) := by decide +kernel
theorem dL_refuses_678 : decode cL_refuses 678 = .ok (.iconst 1, 1) := by decide +kernel
theorem dL_refuses_679 : decode cL_refuses 679 = .ok (.invokestatic 87, 3) := by decide +kernel
theorem dL_refuses_682 : decode cL_refuses 682 = .ok (.ldc 18, 2) := by decide +kernel
theorem dL_refuses_684 : decode cL_refuses 684 = .ok (.if_icmp .ne 155, 3) := by decide +kernel
theorem dL_refuses_687 : decode cL_refuses 687 = .ok (.aload_n 0, 1) := by decide +kernel
theorem dL_refuses_688 : decode cL_refuses 688 = .ok (.iload 9, 2) := by decide +kernel
theorem dL_refuses_690 : decode cL_refuses 690 = .ok (.iconst 1, 1) := by decide +kernel
theorem dL_refuses_691 : decode cL_refuses 691 = .ok (.iconst 0, 1) := by decide +kernel
theorem dL_refuses_692 : decode cL_refuses 692 = .ok (.iconst 0, 1) := by decide +kernel
theorem dL_refuses_693 : decode cL_refuses 693 = .ok (.iload_n 2, 1) := by decide +kernel
theorem dL_refuses_694 : decode cL_refuses 694 = .ok (.ineg, 1) := by decide +kernel
theorem dL_refuses_695 : decode cL_refuses 695 = .ok (.invokestatic 87, 3) := by decide +kernel
theorem dL_refuses_698 : decode cL_refuses 698 = .ok (.ldc 18, 2) := by decide +kernel
theorem dL_refuses_700 : decode cL_refuses 700 = .ok (.if_icmp .ne 139, 3) := by decide +kernel
theorem dL_refuses_703 : decode cL_refuses 703 = .ok (.aload_n 0, 1) := by decide +kernel
theorem dL_refuses_704 : decode cL_refuses 704 = .ok (.iload 9, 2) := by decide +kernel
theorem dL_refuses_706 : decode cL_refuses 706 = .ok (.iconst 1, 1) := by decide +kernel
theorem dL_refuses_707 : decode cL_refuses 707 = .ok (.iconst 0, 1) := by decide +kernel
theorem dL_refuses_708 : decode cL_refuses 708 = .ok (.iconst 0, 1) := by decide +kernel
theorem dL_refuses_709 : decode cL_refuses 709 = .ok (.bipush 21, 2) := by decide +kernel
theorem dL_refuses_711 : decode cL_refuses 711 = .ok (.iload_n 2, 1) := by decide +kernel
theorem dL_refuses_712 : decode cL_refuses 712 = .ok (.iadd, 1) := by decide +kernel
theorem dL_refuses_713 : decode cL_refuses 713 = .ok (.invokestatic 87, 3) := by decide +kernel
theorem dL_refuses_716 : decode cL_refuses 716 = .ok (.ldc 18, 2) := by decide +kernel
theorem dL_refuses_718 : decode cL_refuses 718 = .ok (.if_icmp .ne 121, 3) := by decide +kernel
theorem dL_refuses_721 : decode cL_refuses 721 = .ok (.aload_n 0, 1) := by decide +kernel
theorem dL_refuses_722 : decode cL_refuses 722 = .ok (.iload 9, 2) := by decide +kernel
theorem dL_refuses_724 : decode cL_refuses 724 = .ok (.iconst 4, 1) := by decide +kernel
theorem dL_refuses_725 : decode cL_refuses 725 = .ok (.iload_n 2, 1) := by decide +kernel
theorem dL_refuses_726 : decode cL_refuses 726 = .ok (.isub, 1) := by decide +kernel
theorem dL_refuses_727 : decode cL_refuses 727 = .ok (.invokestatic 91, 3) := by decide +kernel
theorem dL_refuses_730 : decode cL_refuses 730 = .ok (.ldc 18, 2) := by decide +kernel
theorem dL_refuses_732 : decode cL_refuses 732 = .ok (.if_icmp .ne 107, 3) := by decide +kernel
theorem dL_refuses_735 : decode cL_refuses 735 = .ok (.aload_n 0, 1) := by decide +kernel
theorem dL_refuses_736 : decode cL_refuses 736 = .ok (.iload 9, 2) := by decide +kernel
theorem dL_refuses_738 : decode cL_refuses 738 = .ok (.bipush 21, 2) := by decide +kernel
theorem dL_refuses_740 : decode cL_refuses 740 = .ok (.iload_n 2, 1) := by decide +kernel
theorem dL_refuses_741 : decode cL_refuses 741 = .ok (.iadd, 1) := by decide +kernel
theorem dL_refuses_742 : decode cL_refuses 742 = .ok (.invokestatic 91, 3) := by decide +kernel
theorem dL_refuses_745 : decode cL_refuses 745 = .ok (.ldc 18, 2) := by decide +kernel
theorem dL_refuses_747 : decode cL_refuses 747 = .ok (.if_icmp .ne 92, 3) := by decide +kernel
theorem dL_refuses_750 : decode cL_refuses 750 = .ok (.aload_n 0, 1) := by decide +kernel
theorem dL_refuses_751 : decode cL_refuses 751 = .ok (.iload 9, 2) := by decide +kernel
theorem dL_refuses_753 : decode cL_refuses 753 = .ok (.iload 11, 2) := by decide +kernel
theorem dL_refuses_755 : decode cL_refuses 755 = .ok (.iconst 0, 1) := by decide +kernel
theorem dL_refuses_756 : decode cL_refuses 756 = .ok (.invokestatic 103, 3) := by decide +kernel
theorem dL_refuses_759 : decode cL_refuses 759 = .ok (.ldc 15, 2) := by decide +kernel
theorem dL_refuses_761 : decode cL_refuses 761 = .ok (.if_icmp .ne 78, 3) := by decide +kernel
theorem dL_refuses_764 : decode cL_refuses 764 = .ok (.aload_n 0, 1) := by decide +kernel
theorem dL_refuses_765 : decode cL_refuses 765 = .ok (.iload 9, 2) := by decide +kernel
theorem dL_refuses_767 : decode cL_refuses 767 = .ok (.iconst 0, 1) := by decide +kernel
theorem dL_refuses_768 : decode cL_refuses 768 = .ok (.iconst (-1), 1) := by decide +kernel
theorem dL_refuses_769 : decode cL_refuses 769 = .ok (.iload_n 2, 1) := by decide +kernel
theorem dL_refuses_770 : decode cL_refuses 770 = .ok (.isub, 1) := by decide +kernel
theorem dL_refuses_771 : decode cL_refuses 771 = .ok (.invokestatic 103, 3) := by decide +kernel
theorem dL_refuses_774 : decode cL_refuses 774 = .ok (.ldc 15, 2) := by decide +kernel
theorem dL_refuses_776 : decode cL_refuses 776 = .ok (.if_icmp .ne 63, 3) := by decide +kernel
theorem dL_refuses_779 : decode cL_refuses 779 = .ok (.aload_n 0, 1) := by decide +kernel
theorem dL_refuses_780 : decode cL_refuses 780 = .ok (.iload 9, 2) := by decide +kernel
theorem dL_refuses_782 : decode cL_refuses 782 = .ok (.iload 11, 2) := by decide +kernel
theorem dL_refuses_784 : decode cL_refuses 784 = .ok (.iconst 0, 1) := by decide +kernel
theorem dL_refuses_785 : decode cL_refuses 785 = .ok (.invokestatic 105, 3) := by decide +kernel
theorem dL_refuses_788 : decode cL_refuses 788 = .ok (.ldc 15, 2) := by decide +kernel
theorem dL_refuses_790 : decode cL_refuses 790 = .ok (.if_icmp .ne 49, 3) := by decide +kernel
theorem dL_refuses_793 : decode cL_refuses 793 = .ok (.aload_n 0, 1) := by decide +kernel
theorem dL_refuses_794 : decode cL_refuses 794 = .ok (.iload 9, 2) := by decide +kernel
theorem dL_refuses_796 : decode cL_refuses 796 = .ok (.bipush 21, 2) := by decide +kernel
theorem dL_refuses_798 : decode cL_refuses 798 = .ok (.iload_n 2, 1) := by decide +kernel
theorem dL_refuses_799 : decode cL_refuses 799 = .ok (.iadd, 1) := by decide +kernel
theorem dL_refuses_800 : decode cL_refuses 800 = .ok (.invokestatic 108, 3) := by decide +kernel
theorem dL_refuses_803 : decode cL_refuses 803 = .ok (.ldc 18, 2) := by decide +kernel
theorem dL_refuses_805 : decode cL_refuses 805 = .ok (.if_icmp .ne 34, 3) := by decide +kernel
theorem dL_refuses_808 : decode cL_refuses 808 = .ok (.aload_n 0, 1) := by decide +kernel
theorem dL_refuses_809 : decode cL_refuses 809 = .ok (.iload 9, 2) := by decide +kernel
theorem dL_refuses_811 : decode cL_refuses 811 = .ok (.iconst 4, 1) := by decide +kernel
theorem dL_refuses_812 : decode cL_refuses 812 = .ok (.iload_n 2, 1) := by decide +kernel
theorem dL_refuses_813 : decode cL_refuses 813 = .ok (.isub, 1) := by decide +kernel
theorem dL_refuses_814 : decode cL_refuses 814 = .ok (.invokestatic 108, 3) := by decide +kernel
theorem dL_refuses_817 : decode cL_refuses 817 = .ok (.ldc 18, 2) := by decide +kernel
theorem dL_refuses_819 : decode cL_refuses 819 = .ok (.if_icmp .ne 20, 3) := by decide +kernel
theorem dL_refuses_822 : decode cL_refuses 822 = .ok (.aload_n 0, 1) := by decide +kernel
theorem dL_refuses_823 : decode cL_refuses 823 = .ok (.iload 9, 2) := by decide +kernel
theorem dL_refuses_825 : decode cL_refuses 825 = .ok (.iload 4, 2) := by decide +kernel
theorem dL_refuses_827 : decode cL_refuses 827 = .ok (.invokestatic 110, 3) := by decide +kernel
theorem dL_refuses_830 : decode cL_refuses 830 = .ok (.ldc 15, 2) := by decide +kernel
theorem dL_refuses_832 : decode cL_refuses 832 = .ok (.if_icmp .ne 7, 3) := by decide +kernel
theorem dL_refuses_835 : decode cL_refuses 835 = .ok (.iconst 1, 1) := by decide +kernel
theorem dL_refuses_836 : decode cL_refuses 836 = .ok (.goto 4, 3) := by decide +kernel
theorem dL_refuses_839 : decode cL_refuses 839 = .ok (.iconst 0, 1) := by decide +kernel
theorem dL_refuses_840 : decode cL_refuses 840 = .ok (.istore 8, 2) := by decide +kernel
theorem dL_refuses_842 : decode cL_refuses 842 = .ok (.aload_n 0, 1) := by decide +kernel
theorem dL_refuses_843 : decode cL_refuses 843 = .ok (.iload 9, 2) := by decide +kernel
theorem dL_refuses_845 : decode cL_refuses 845 = .ok (.invokestatic 99, 3) := by decide +kernel
theorem dL_refuses_848 : decode cL_refuses 848 = .ok (.istore 12, 2) := by decide +kernel
theorem dL_refuses_850 : decode cL_refuses 850 = .ok (.iload 8, 2) := by decide +kernel
theorem dL_refuses_852 : decode cL_refuses 852 = .ok (.ifCond .eq 113, 3) := by decide +kernel
theorem dL_refuses_855 : decode cL_refuses 855 = .ok (.iload 12, 2) := by decide +kernel
theorem dL_refuses_857 : decode cL_refuses 857 = .ok (.ifCond .ge 60, 3) := by decide +kernel
theorem dL_refuses_860 : decode cL_refuses 860 = .ok (.iload 10, 2) := by decide +kernel
theorem dL_refuses_862 : decode cL_refuses 862 = .ok (.ifCond .gt 27, 3) := by decide +kernel
theorem dL_refuses_865 : decode cL_refuses 865 = .ok (.aload_n 0, 1) := by decide +kernel
theorem dL_refuses_866 : decode cL_refuses 866 = .ok (.iload 9, 2) := by decide +kernel
theorem dL_refuses_868 : decode cL_refuses 868 = .ok (.invokestatic 95, 3) := by decide +kernel
theorem dL_refuses_871 : decode cL_refuses 871 = .ok (.ldc 21, 2) := by decide +kernel
theorem dL_refuses_873 : decode cL_refuses 873 = .ok (.if_icmp .ne 92, 3) := by decide +kernel
theorem dL_refuses_876 : decode cL_refuses 876 = .ok (.aload_n 0, 1) := by decide +kernel
theorem dL_refuses_877 : decode cL_refuses 877 = .ok (.iload 9, 2) := by decide +kernel
theorem dL_refuses_879 : decode cL_refuses 879 = .ok (.bipush 10, 2) := by decide +kernel
theorem dL_refuses_881 : decode cL_refuses 881 = .ok (.invokestatic 91, 3) := by decide +kernel
theorem dL_refuses_884 : decode cL_refuses 884 = .ok (.ldc 21, 2) := by decide +kernel
theorem dL_refuses_886 : decode cL_refuses 886 = .ok (.if_icmp .ne 79, 3) := by decide +kernel
theorem dL_refuses_889 : decode cL_refuses 889 = .ok (.aload_n 0, 1) := by decide +kernel
theorem dL_refuses_890 : decode cL_refuses 890 = .ok (.iload 9, 2) := by decide +kernel
theorem dL_refuses_892 : decode cL_refuses 892 = .ok (.iload_n 2, 1) := by decide +kernel
theorem dL_refuses_893 : decode cL_refuses 893 = .ok (.iconst 5, 1) := by decide +kernel
theorem dL_refuses_894 : decode cL_refuses 894 = .ok (.irem, 1) := by decide +kernel
theorem dL_refuses_895 : decode cL_refuses 895 = .ok (.invokestatic 110, 3) := by decide +kernel
theorem dL_refuses_898 : decode cL_refuses 898 = .ok (.ldc 21, 2) := by decide +kernel
theorem dL_refuses_900 : decode cL_refuses 900 = .ok (.if_icmp .ne 65, 3) := by decide +kernel
theorem dL_refuses_903 : decode cL_refuses 903 = .ok (.aload_n 0, 1) := by decide +kernel
theorem dL_refuses_904 : decode cL_refuses 904 = .ok (.iload 9, 2) := by decide +kernel
theorem dL_refuses_906 : decode cL_refuses 906 = .ok (.invokestatic 113, 3) := by decide +kernel
theorem dL_refuses_909 : decode cL_refuses 909 = .ok (.ldc 21, 2) := by decide +kernel
theorem dL_refuses_911 : decode cL_refuses 911 = .ok (.if_icmp .ne 54, 3) := by decide +kernel
theorem dL_refuses_914 : decode cL_refuses 914 = .ok (.goto 47, 3) := by decide +kernel
theorem dL_refuses_917 : decode cL_refuses 917 = .ok (.aload_n 0, 1) := by decide +kernel
theorem dL_refuses_918 : decode cL_refuses 918 = .ok (.iload 9, 2) := by decide +kernel
theorem dL_refuses_920 : decode cL_refuses 920 = .ok (.invokestatic 95, 3) := by decide +kernel
theorem dL_refuses_923 : decode cL_refuses 923 = .ok (.ldc 21, 2) := by decide +kernel
theorem dL_refuses_925 : decode cL_refuses 925 = .ok (.if_icmp .ne 40, 3) := by decide +kernel
theorem dL_refuses_928 : decode cL_refuses 928 = .ok (.aload_n 0, 1) := by decide +kernel
theorem dL_refuses_929 : decode cL_refuses 929 = .ok (.iload 9, 2) := by decide +kernel
theorem dL_refuses_931 : decode cL_refuses 931 = .ok (.iconst 1, 1) := by decide +kernel
theorem dL_refuses_932 : decode cL_refuses 932 = .ok (.iconst 0, 1) := by decide +kernel
theorem dL_refuses_933 : decode cL_refuses 933 = .ok (.iconst 0, 1) := by decide +kernel
theorem dL_refuses_934 : decode cL_refuses 934 = .ok (.iconst 1, 1) := by decide +kernel
theorem dL_refuses_935 : decode cL_refuses 935 = .ok (.invokestatic 87, 3) := by decide +kernel
theorem dL_refuses_938 : decode cL_refuses 938 = .ok (.ldc 21, 2) := by decide +kernel
theorem dL_refuses_940 : decode cL_refuses 940 = .ok (.if_icmp .ne 25, 3) := by decide +kernel
theorem dL_refuses_943 : decode cL_refuses 943 = .ok (.iload 12, 2) := by decide +kernel
theorem dL_refuses_945 : decode cL_refuses 945 = .ok (.iload 9, 2) := by decide +kernel
theorem dL_refuses_947 : decode cL_refuses 947 = .ok (.if_icmp .ne 14, 3) := by decide +kernel
theorem dL_refuses_950 : decode cL_refuses 950 = .ok (.aload_n 0, 1) := by decide +kernel
theorem dL_refuses_951 : decode cL_refuses 951 = .ok (.iload 9, 2) := by decide +kernel
theorem dL_refuses_953 : decode cL_refuses 953 = .ok (.invokestatic 113, 3) := by decide +kernel
theorem dL_refuses_956 : decode cL_refuses 956 = .ok (.ldc 21, 2) := by decide +kernel
theorem dL_refuses_958 : decode cL_refuses 958 = .ok (.if_icmp .ne 7, 3) := by decide +kernel
theorem dL_refuses_961 : decode cL_refuses 961 = .ok (.iconst 1, 1) := by decide +kernel
theorem dL_refuses_962 : decode cL_refuses 962 = .ok (.goto 4, 3) := by decide +kernel
theorem dL_refuses_965 : decode cL_refuses 965 = .ok (.iconst 0, 1) := by decide +kernel
theorem dL_refuses_966 : decode cL_refuses 966 = .ok (.istore 8, 2) := by decide +kernel
theorem dL_refuses_968 : decode cL_refuses 968 = .ok (.iload 8, 2) := by decide +kernel
theorem dL_refuses_970 : decode cL_refuses 970 = .ok (.ifCond .eq 54, 3) := by decide +kernel
theorem dL_refuses_973 : decode cL_refuses 973 = .ok (.aload_n 1, 1) := by decide +kernel
theorem dL_refuses_974 : decode cL_refuses 974 = .ok (.iconst 2, 1) := by decide +kernel
theorem dL_refuses_975 : decode cL_refuses 975 = .ok (.iaload, 1) := by decide +kernel
theorem dL_refuses_976 : decode cL_refuses 976 = .ok (.ifCond .le 48, 3) := by decide +kernel
theorem dL_refuses_979 : decode cL_refuses 979 = .ok (.aload_n 0, 1) := by decide +kernel
theorem dL_refuses_980 : decode cL_refuses 980 = .ok (.iload_n 2, 1) := by decide +kernel
theorem dL_refuses_981 : decode cL_refuses 981 = .ok (.iconst 2, 1) := by decide +kernel
theorem dL_refuses_982 : decode cL_refuses 982 = .ok (.idiv, 1) := by decide +kernel
theorem dL_refuses_983 : decode cL_refuses 983 = .ok (.aload_n 1, 1) := by decide +kernel
theorem dL_refuses_984 : decode cL_refuses 984 = .ok (.iconst 2, 1) := by decide +kernel
theorem dL_refuses_985 : decode cL_refuses 985 = .ok (.iaload, 1) := by decide +kernel
theorem dL_refuses_986 : decode cL_refuses 986 = .ok (.irem, 1) := by decide +kernel
theorem dL_refuses_987 : decode cL_refuses 987 = .ok (.bipush 41, 2) := by decide +kernel
theorem dL_refuses_989 : decode cL_refuses 989 = .ok (.iload_n 2, 1) := by decide +kernel
theorem dL_refuses_990 : decode cL_refuses 990 = .ok (.iadd, 1) := by decide +kernel
theorem dL_refuses_991 : decode cL_refuses 991 = .ok (.invokestatic 133, 3) := by decide +kernel
theorem dL_refuses_994 : decode cL_refuses 994 = .ok (.ldc 18, 2) := by decide +kernel
theorem dL_refuses_996 : decode cL_refuses 996 = .ok (.if_icmp .ne 25, 3) := by decide +kernel
theorem dL_refuses_999 : decode cL_refuses 999 = .ok (.aload_n 0, 1) := by decide +kernel
theorem dL_refuses_1000 : decode cL_refuses 1000 = .ok (.iload_n 2, 1) := by decide +kernel
theorem dL_refuses_1001 : decode cL_refuses 1001 = .ok (.iconst 2, 1) := by decide +kernel
theorem dL_refuses_1002 : decode cL_refuses 1002 = .ok (.idiv, 1) := by decide +kernel
theorem dL_refuses_1003 : decode cL_refuses 1003 = .ok (.aload_n 1, 1) := by decide +kernel
theorem dL_refuses_1004 : decode cL_refuses 1004 = .ok (.iconst 2, 1) := by decide +kernel
theorem dL_refuses_1005 : decode cL_refuses 1005 = .ok (.iaload, 1) := by decide +kernel
theorem dL_refuses_1006 : decode cL_refuses 1006 = .ok (.irem, 1) := by decide +kernel
theorem dL_refuses_1007 : decode cL_refuses 1007 = .ok (.iload_n 2, 1) := by decide +kernel
theorem dL_refuses_1008 : decode cL_refuses 1008 = .ok (.ineg, 1) := by decide +kernel
theorem dL_refuses_1009 : decode cL_refuses 1009 = .ok (.invokestatic 133, 3) := by decide +kernel
theorem dL_refuses_1012 : decode cL_refuses 1012 = .ok (.ldc 18, 2) := by decide +kernel
theorem dL_refuses_1014 : decode cL_refuses 1014 = .ok (.if_icmp .ne 7, 3) := by decide +kernel
theorem dL_refuses_1017 : decode cL_refuses 1017 = .ok (.iconst 1, 1) := by decide +kernel
theorem dL_refuses_1018 : decode cL_refuses 1018 = .ok (.goto 4, 3) := by decide +kernel
theorem dL_refuses_1021 : decode cL_refuses 1021 = .ok (.iconst 0, 1) := by decide +kernel
theorem dL_refuses_1022 : decode cL_refuses 1022 = .ok (.istore 8, 2) := by decide +kernel
theorem dL_refuses_1024 : decode cL_refuses 1024 = .ok (.iload 8, 2) := by decide +kernel
theorem dL_refuses_1026 : decode cL_refuses 1026 = .ok (.ifCond .eq 32, 3) := by decide +kernel
theorem dL_refuses_1029 : decode cL_refuses 1029 = .ok (.aload_n 1, 1) := by decide +kernel
theorem dL_refuses_1030 : decode cL_refuses 1030 = .ok (.iconst 1, 1) := by decide +kernel
theorem dL_refuses_1031 : decode cL_refuses 1031 = .ok (.iaload, 1) := by decide +kernel
theorem dL_refuses_1032 : decode cL_refuses 1032 = .ok (.ifCond .eq 22, 3) := by decide +kernel
theorem dL_refuses_1035 : decode cL_refuses 1035 = .ok (.aload_n 0, 1) := by decide +kernel
theorem dL_refuses_1036 : decode cL_refuses 1036 = .ok (.iload_n 2, 1) := by decide +kernel
theorem dL_refuses_1037 : decode cL_refuses 1037 = .ok (.aload_n 1, 1) := by decide +kernel
theorem dL_refuses_1038 : decode cL_refuses 1038 = .ok (.iconst 1, 1) := by decide +kernel
theorem dL_refuses_1039 : decode cL_refuses 1039 = .ok (.iaload, 1) := by decide +kernel
theorem dL_refuses_1040 : decode cL_refuses 1040 = .ok (.irem, 1) := by decide +kernel
theorem dL_refuses_1041 : decode cL_refuses 1041 = .ok (.iload_n 2, 1) := by decide +kernel
theorem dL_refuses_1042 : decode cL_refuses 1042 = .ok (.aload_n 1, 1) := by decide +kernel
theorem dL_refuses_1043 : decode cL_refuses 1043 = .ok (.iconst 1, 1) := by decide +kernel
theorem dL_refuses_1044 : decode cL_refuses 1044 = .ok (.iaload, 1) := by decide +kernel
theorem dL_refuses_1045 : decode cL_refuses 1045 = .ok (.irem, 1) := by decide +kernel
theorem dL_refuses_1046 : decode cL_refuses 1046 = .ok (.invokestatic 122, 3) := by decide +kernel
theorem dL_refuses_1049 : decode cL_refuses 1049 = .ok (.ldc 21, 2) := by decide +kernel
theorem dL_refuses_1051 : decode cL_refuses 1051 = .ok (.if_icmp .ne 7, 3) := by decide +kernel
theorem dL_refuses_1054 : decode cL_refuses 1054 = .ok (.iconst 1, 1) := by decide +kernel
theorem dL_refuses_1055 : decode cL_refuses 1055 = .ok (.goto 4, 3) := by decide +kernel
theorem dL_refuses_1058 : decode cL_refuses 1058 = .ok (.iconst 0, 1) := by decide +kernel
theorem dL_refuses_1059 : decode cL_refuses 1059 = .ok (.ireturn, 1) := by decide +kernel
set_option maxRecDepth 20000 in
theorem ggL_act_L_begins : GoodIn wsL_act wsL_begins := goodIn_ca (goodIn_ca (goodIn_ca (goodIn_r _ [4, 5, 6, 7, 8, 9, 10, 11, 12, 13, 14, 15, 16, 17, 18, 19, 20, 21, 22, 23, 24, 25, 26, 27, 28, 29, 30, 31, 32, 33, 34, 35, 36, 37, 38, 39, 40, 41, 42, 43, 44, 45, 46, 47, 48, 49, 50, 51, 52, 53, 54, 55, 56, 57, 58, 59, 60, 61, 62, 63, 64, 65, 66, 67, 68, 69, 70, 71, 72, 73, 74, 75, 76, 77, 78, 79, 80, 81, 82, 83, 84, 85, 86, 87, 88, 89, 90, 91, 92, 93, 94, 95, 96, 97, 98, 99, 100, 101, 102, 103, 104, 105, 106, 107, 108, 109, 110, 111, 112, 113, 114, 115, 116, 117, 118, 119, 120, 121, 122, 123, 124, 125, 126, 127, 128, 129, 130, 131, 132, 133, 134, 135, 136, 137, 138, 139, 140, 141, 374, 375, 376, 377, 378, 379, 380, 381, 382, 383, 384, 385, 386, 387, 388, 389, 390, 391, 392, 393, 394, 395, 396, 397, 398, 399, 400] (by decide +kernel) (by decide +kernel)) (goodIn_sub (fun _ h => List.mem_cons_of_mem _ (List.mem_append_left _ (List.mem_append_left _ (List.mem_append_right _ h)))) (by decide +kernel))) (goodIn_sub (fun _ h => List.mem_cons_of_mem _ (List.mem_append_left _ (List.mem_append_right _ h))) (by decide +kernel))) (goodIn_sub (fun _ h => List.mem_cons_of_mem _ (List.mem_append_right _ h)) (by decide +kernel))
set_option maxRecDepth 20000 in
theorem gL_act_L_begins : GoodIn wsL_act (va_wsS RL 81 yL_begins wsL_begins) := goodIn_app (goodIn_of _ (by decide +kernel)) ggL_act_L_begins
set_option maxRecDepth 20000 in
theorem ggL_act_L_lines : GoodIn wsL_act wsL_lines := goodIn_ca (goodIn_ca (goodIn_ca (goodIn_r _ [144, 5, 6, 7, 8, 9, 10, 145, 146, 147, 14, 148, 25, 26, 31, 32, 149, 150, 151, 152, 153, 154, 20, 21, 33, 155, 34, 35, 36, 37, 38, 39, 156, 157, 158, 159, 160, 161, 162, 163, 164, 165, 166, 167, 168, 169, 170, 171, 94, 22, 23, 24, 172, 173, 174, 46, 175, 55, 176, 177, 178, 179, 64, 68, 180, 181, 182, 183, 184, 185, 186, 187, 63, 188, 78, 74, 75, 76, 77, 189, 190, 191, 67, 192, 84, 86, 87, 193, 194, 195, 196, 85, 197, 198, 199, 200, 201, 202, 109, 110, 111, 203, 136, 137, 374, 375, 376, 377, 378, 379, 380, 381, 382, 397, 398, 399, 400, 383, 384, 385, 386, 387, 388, 389, 390, 391, 392, 393, 394, 395, 396] (by decide +kernel) (by decide +kernel)) (goodIn_sub (fun _ h => List.mem_cons_of_mem _ (List.mem_append_left _ (List.mem_append_right _ h))) (by decide +kernel))) (goodIn_sub (fun _ h => List.mem_cons_of_mem _ (List.mem_append_right _ h)) (by decide +kernel))) (goodIn_sub (fun _ h => List.mem_cons_of_mem _ (List.mem_append_left _ (List.mem_append_left _ (List.mem_append_right _ h)))) (by decide +kernel))
set_option maxRecDepth 20000 in
theorem gL_act_L_lines : GoodIn wsL_act (va_wsS RL 87 yL_lines wsL_lines) := goodIn_app (goodIn_of _ (by decide +kernel)) ggL_act_L_lines
set_option maxRecDepth 20000 in
theorem ggL_act_L_anews : GoodIn wsL_act wsL_anews := goodIn_ca (goodIn_ca (goodIn_ca (goodIn_r _ [206, 5, 6, 7, 8, 9, 10, 207, 208, 209, 14, 210, 31, 32, 211, 212, 213, 214, 16, 151, 152, 153, 154, 20, 21, 33, 155, 34, 35, 36, 37, 38, 39, 156, 157, 158, 159, 160, 161, 162, 163, 164, 165, 166, 167, 168, 169, 170, 171, 94, 215, 216, 217, 22, 23, 24, 25, 26, 218, 219, 220, 46, 221, 64, 222, 223, 224, 63, 225, 78, 226, 227, 228, 229, 77, 230, 109, 110, 111, 231, 232, 27, 28, 29, 30, 233, 199, 200, 201, 202, 203, 136, 137, 40, 41, 42, 43, 44, 45, 47, 48, 49, 50, 51, 52, 53, 54, 55, 56, 57, 58, 59, 60, 61, 62, 65, 66, 67, 68, 69, 70, 71, 72, 73, 74, 75, 76, 79, 80, 81, 82, 83, 84, 85, 86, 87, 88, 89, 90, 91, 92, 93, 95, 96, 97, 98, 99, 100, 101, 102, 103, 104, 105, 106, 107, 108, 112, 113, 114, 115, 116, 117, 118, 119, 120, 121, 122, 123, 124, 125, 126, 127, 128, 129, 130, 131, 132, 133, 134, 135, 138, 139, 140, 141, 234, 235, 236, 237, 238, 239, 182, 183, 184, 185, 186, 187, 188, 189, 190, 191, 192, 193, 194, 195, 196, 197, 198, 374, 375, 376, 377, 378, 379, 380, 381, 382, 391, 392, 393, 394, 395, 396, 383, 384, 385, 386, 387, 388, 389, 390, 397, 398, 399, 400] (by decide +kernel) (by decide +kernel)) (goodIn_sub (fun _ h => List.mem_cons_of_mem _ (List.mem_append_right _ h)) (by decide +kernel))) (goodIn_sub (fun _ h => List.mem_cons_of_mem _ (List.mem_append_left _ (List.mem_append_left _ (List.mem_append_right _ h)))) (by decide +kernel))) (goodIn_sub (fun _ h => List.mem_cons_of_mem _ (List.mem_append_left _ (List.mem_append_right _ h))) (by decide +kernel))
set_option maxRecDepth 20000 in
theorem gL_act_L_anews : GoodIn wsL_act (va_wsS RL 91 yL_anews wsL_anews) := goodIn_app (goodIn_of _ (by decide +kernel)) ggL_act_L_anews
set_option maxRecDepth 20000 in
theorem ggL_act_L_publishes : GoodIn wsL_act wsL_publishes := goodIn_ca (goodIn_ca (goodIn_r _ [242, 5, 7, 8, 10, 243, 244, 245, 14, 246, 31, 32, 247, 248, 16, 151, 152, 153, 154, 20, 21, 33, 155, 34, 35, 36, 37, 38, 39, 156, 157, 158, 159, 160, 161, 162, 163, 164, 165, 166, 167, 168, 169, 170, 171, 94, 172, 173, 174, 46, 175, 55, 218, 219, 220, 221, 64, 249, 250, 251, 252, 149, 253, 254, 255, 67, 256, 84, 85, 88, 89, 90, 91, 92, 93, 95, 96, 97, 98, 99, 100, 101, 102, 103, 104, 105, 106, 107, 108, 109, 110, 111, 112, 113, 114, 115, 116, 117, 118, 119, 120, 121, 122, 123, 124, 125, 126, 127, 128, 129, 130, 131, 132, 133, 134, 135, 136, 137, 138, 139, 140, 141, 374, 375, 376, 377, 378, 379, 380, 381, 382, 383, 384, 385, 386, 387, 388, 389, 390, 391, 392, 393, 394, 395, 396, 397, 398, 399, 400] (by decide +kernel) (by decide +kernel)) (goodIn_sub (fun _ h => List.mem_cons_of_mem _ (List.mem_append_right _ h)) (by decide +kernel))) (goodIn_sub (fun _ h => List.mem_cons_of_mem _ (List.mem_append_left _ (List.mem_append_left _ (List.mem_append_right _ h)))) (by decide +kernel))
set_option maxRecDepth 20000 in
theorem gL_act_L_publishes : GoodIn wsL_act (va_wsS RL 95 yL_publishes wsL_publishes) := goodIn_app (goodIn_of _ (by decide +kernel)) ggL_act_L_publishes
set_option maxRecDepth 20000 in
theorem ggL_act_L_buys : GoodIn wsL_act wsL_buys := goodIn_ca (goodIn_ca (goodIn_r _ [259, 5, 7, 8, 10, 260, 261, 262, 14, 263, 31, 32, 264, 265, 266, 214, 267, 213, 151, 152, 153, 154, 20, 21, 33, 155, 34, 35, 36, 37, 38, 39, 156, 157, 158, 159, 160, 161, 162, 163, 164, 165, 166, 167, 168, 169, 170, 171, 94, 17, 18, 19, 172, 173, 174, 46, 175, 55, 268, 269, 270, 271, 59, 54, 374, 375, 376, 377, 378, 379, 380, 381, 382, 383, 384, 385, 386, 387, 388, 389, 390] (by decide +kernel) (by decide +kernel)) (goodIn_sub (fun _ h => List.mem_cons_of_mem _ (List.mem_append_right _ h)) (by decide +kernel))) (goodIn_sub (fun _ h => List.mem_cons_of_mem _ (List.mem_append_left _ (List.mem_append_left _ (List.mem_append_right _ h)))) (by decide +kernel))
set_option maxRecDepth 20000 in
theorem gL_act_L_buys : GoodIn wsL_act (va_wsS RL 110 yL_buys wsL_buys) := goodIn_app (goodIn_of _ (by decide +kernel)) ggL_act_L_buys
set_option maxRecDepth 20000 in
theorem ggL_act_L_rules : GoodIn wsL_act wsL_rules := goodIn_ca (goodIn_ca (goodIn_r _ [274, 5, 7, 8, 10, 275, 276, 277, 14, 278, 31, 32, 247, 213, 264, 267, 266, 151, 152, 153, 154, 20, 21, 33, 155, 34, 35, 36, 37, 38, 39, 156, 157, 158, 159, 160, 161, 162, 163, 164, 165, 166, 167, 168, 169, 170, 171, 94, 374, 375, 376, 377, 378, 379, 380, 381, 382, 383, 384, 385, 386, 387, 388, 389, 390] (by decide +kernel) (by decide +kernel)) (goodIn_sub (fun _ h => List.mem_cons_of_mem _ (List.mem_append_right _ h)) (by decide +kernel))) (goodIn_sub (fun _ h => List.mem_cons_of_mem _ (List.mem_append_left _ (List.mem_append_left _ (List.mem_append_right _ h)))) (by decide +kernel))
set_option maxRecDepth 20000 in
theorem gL_act_L_rules : GoodIn wsL_act (va_wsS RL 113 yL_rules wsL_rules) := goodIn_app (goodIn_of _ (by decide +kernel)) ggL_act_L_rules
set_option maxRecDepth 20000 in
theorem ggL_act_L_lots : GoodIn wsL_act wsL_lots := goodIn_ca (goodIn_ca (goodIn_ca (goodIn_r _ [281, 5, 6, 7, 8, 9, 10, 282, 283, 284, 14, 285, 31, 32, 286, 287, 288, 289, 290, 17, 18, 19, 20, 21, 215, 216, 217, 22, 23, 24, 25, 26, 34, 35, 36, 37, 38, 39, 291, 292, 293, 294, 51, 52, 295, 296, 297, 298, 88, 89, 90, 91, 92, 93, 94, 95, 96, 97, 98, 99, 100, 101, 102, 103, 104, 105, 106, 107, 108, 109, 110, 111, 112, 113, 114, 115, 116, 117, 118, 119, 120, 121, 122, 123, 124, 125, 126, 127, 128, 129, 130, 131, 132, 133, 134, 135, 136, 137, 138, 139, 140, 141, 383, 384, 385, 386, 387, 401, 402, 403, 404, 388, 389, 390] (by decide +kernel) (by decide +kernel)) (goodIn_sub (fun _ h => List.mem_cons_of_mem _ (List.mem_append_right _ h)) (by decide +kernel))) (goodIn_sub (fun _ h => List.mem_cons_of_mem _ (List.mem_append_left _ (List.mem_append_left _ (List.mem_append_right _ h)))) (by decide +kernel))) (goodIn_sub (fun _ h => List.mem_cons_of_mem _ (List.mem_append_left _ (List.mem_append_right _ h))) (by decide +kernel))
set_option maxRecDepth 20000 in
theorem gL_act_L_lots : GoodIn wsL_act (va_wsS RL 118 yL_lots wsL_lots) := goodIn_app (goodIn_of _ (by decide +kernel)) ggL_act_L_lots
set_option maxRecDepth 20000 in
theorem ggL_act_L_swaps : GoodIn wsL_act wsL_swaps := goodIn_ca (goodIn_ca (goodIn_r _ [301, 5, 7, 8, 10, 302, 303, 304, 14, 305, 31, 32, 306, 307, 308, 309, 310, 20, 21, 287, 311, 34, 35, 36, 37, 38, 39, 156, 157, 158, 159, 160, 161, 162, 163, 164, 165, 166, 167, 168, 169, 170, 171, 94, 401, 402, 403, 404, 383, 384, 385, 386, 387, 388, 389, 390] (by decide +kernel) (by decide +kernel)) (goodIn_sub (fun _ h => List.mem_cons_of_mem _ (List.mem_append_right _ h)) (by decide +kernel))) (goodIn_sub (fun _ h => List.mem_cons_of_mem _ (List.mem_append_left _ (List.mem_append_left _ (List.mem_append_right _ h)))) (by decide +kernel))
set_option maxRecDepth 20000 in
theorem gL_act_L_swaps : GoodIn wsL_act (va_wsS RL 122 yL_swaps wsL_swaps) := goodIn_app (goodIn_of _ (by decide +kernel)) ggL_act_L_swaps
set_option maxRecDepth 20000 in
theorem ggL_act_L_projects : GoodIn wsL_act wsL_projects := goodIn_ca (goodIn_ca (goodIn_r _ [314, 5, 7, 8, 10, 315, 316, 317, 14, 318, 31, 32, 319, 306, 320, 321, 322, 17, 18, 19, 20, 21, 151, 152, 153, 154, 33, 155, 34, 35, 36, 37, 38, 39, 156, 157, 158, 159, 160, 161, 162, 163, 164, 165, 166, 167, 168, 169, 170, 171, 94, 307, 308, 309, 310, 287, 311, 172, 173, 174, 46, 175, 55, 268, 269, 270, 271, 59, 54, 323, 324, 325, 326, 51, 52, 327, 328, 329, 330, 88, 89, 90, 91, 92, 93, 95, 96, 97, 98, 99, 100, 101, 102, 103, 104, 105, 106, 107, 108, 109, 110, 111, 112, 113, 114, 115, 116, 117, 118, 119, 120, 121, 122, 123, 124, 125, 126, 127, 128, 129, 130, 131, 132, 133, 134, 135, 136, 137, 138, 139, 140, 141, 383, 384, 385, 386, 387, 401, 402, 403, 404, 405, 406, 407, 408, 388, 389, 390, 374, 375, 376, 377, 378, 379, 380, 381, 382] (by decide +kernel) (by decide +kernel)) (goodIn_sub (fun _ h => List.mem_cons_of_mem _ (List.mem_append_right _ h)) (by decide +kernel))) (goodIn_sub (fun _ h => List.mem_cons_of_mem _ (List.mem_append_left _ (List.mem_append_left _ (List.mem_append_right _ h)))) (by decide +kernel))
set_option maxRecDepth 20000 in
theorem gL_act_L_projects : GoodIn wsL_act (va_wsS RL 127 yL_projects wsL_projects) := goodIn_app (goodIn_of _ (by decide +kernel)) ggL_act_L_projects
set_option maxRecDepth 20000 in
theorem ggL_act_L_takes : GoodIn wsL_act wsL_takes := goodIn_ca (goodIn_ca (goodIn_r _ [333, 5, 7, 8, 10, 334, 335, 336, 14, 337, 31, 32, 306, 338, 339, 340, 341, 342, 343, 344, 20, 21, 319, 345, 34, 35, 36, 37, 38, 39, 156, 157, 158, 159, 160, 161, 162, 163, 164, 165, 166, 167, 168, 169, 170, 171, 94, 307, 308, 309, 310, 287, 311, 401, 402, 403, 404, 405, 406, 407, 408, 383, 384, 385, 386, 387, 388, 389, 390] (by decide +kernel) (by decide +kernel)) (goodIn_sub (fun _ h => List.mem_cons_of_mem _ (List.mem_append_right _ h)) (by decide +kernel))) (goodIn_sub (fun _ h => List.mem_cons_of_mem _ (List.mem_append_left _ (List.mem_append_left _ (List.mem_append_right _ h)))) (by decide +kernel))
set_option maxRecDepth 20000 in
theorem gL_act_L_takes : GoodIn wsL_act (va_wsS RL 130 yL_takes wsL_takes) := goodIn_app (goodIn_of _ (by decide +kernel)) ggL_act_L_takes
set_option maxRecDepth 20000 in
theorem ggL_act_L_knits : GoodIn wsL_act wsL_knits := goodIn_ca (goodIn_ca (goodIn_r _ [348, 5, 6, 8, 9, 349, 350, 351, 14, 352, 341, 342, 343, 344, 20, 21, 319, 345, 34, 35, 36, 37, 38, 39, 156, 157, 158, 159, 160, 161, 162, 163, 164, 165, 166, 167, 168, 169, 170, 171, 94, 22, 23, 24, 25, 26, 353, 354, 355, 322, 356, 330, 357, 327, 358, 359, 360, 361, 329, 362, 363, 364, 328, 365, 366, 367, 368, 369, 370, 371, 372, 67, 373, 86, 383, 384, 385, 386, 387, 388, 389, 390, 405, 406, 407, 408, 401, 402, 403, 404, 374, 375, 376, 377, 378, 379, 380, 381, 382, 397, 398, 399, 400] (by decide +kernel) (by decide +kernel)) (goodIn_sub (fun _ h => List.mem_cons_of_mem _ (List.mem_append_left _ (List.mem_append_left _ (List.mem_append_right _ h)))) (by decide +kernel))) (goodIn_sub (fun _ h => List.mem_cons_of_mem _ (List.mem_append_left _ (List.mem_append_right _ h))) (by decide +kernel))
set_option maxRecDepth 20000 in
theorem gL_act_L_knits : GoodIn wsL_act (va_wsS RL 133 yL_knits wsL_knits) := goodIn_app (goodIn_of _ (by decide +kernel)) ggL_act_L_knits
theorem dL_act_0 : decode cL_act 0 = .ok (.iload_n 3, 1) := by decide +kernel
theorem dL_act_1 : decode cL_act 1 = .ok (.bipush 32, 2) := by decide +kernel
theorem dL_act_3 : decode cL_act 3 = .ok (.idiv, 1) := by decide +kernel
theorem dL_act_4 : decode cL_act 4 = .ok (.istore 4, 2) := by decide +kernel
theorem dL_act_6 : decode cL_act 6 = .ok (.iload 4, 2) := by decide +kernel
theorem dL_act_8 : decode cL_act 8 = .ok (.iconst 5, 1) := by decide +kernel
theorem dL_act_9 : decode cL_act 9 = .ok (.irem, 1) := by decide +kernel
theorem dL_act_10 : decode cL_act 10 = .ok (.istore 5, 2) := by decide +kernel
theorem dL_act_12 : decode cL_act 12 = .ok (.aload_n 1, 1) := by decide +kernel
theorem dL_act_13 : decode cL_act 13 = .ok (.iconst 0, 1) := by decide +kernel
theorem dL_act_14 : decode cL_act 14 = .ok (.iaload, 1) := by decide +kernel
theorem dL_act_15 : decode cL_act 15 = .ok (.ifCond .ne 7, 3) := by decide +kernel
theorem dL_act_18 : decode cL_act 18 = .ok (.iconst 0, 1) := by decide +kernel
theorem dL_act_19 : decode cL_act 19 = .ok (.goto 11, 3) := by decide +kernel
theorem dL_act_22 : decode cL_act 22 = .ok (.iload 4, 2) := by decide +kernel
theorem dL_act_24 : decode cL_act 24 = .ok (.iconst 5, 1) := by decide +kernel
theorem dL_act_25 : decode cL_act 25 = .ok (.idiv, 1) := by decide +kernel
theorem dL_act_26 : decode cL_act 26 = .ok (.aload_n 1, 1) := by decide +kernel
theorem dL_act_27 : decode cL_act 27 = .ok (.iconst 0, 1) := by decide +kernel
theorem dL_act_28 : decode cL_act 28 = .ok (.iaload, 1) := by decide +kernel
theorem dL_act_29 : decode cL_act 29 = .ok (.irem, 1) := by decide +kernel
theorem dL_act_30 : decode cL_act 30 = .ok (.istore 6, 2) := by decide +kernel
theorem dL_act_32 : decode cL_act 32 = .ok (.aload_n 1, 1) := by decide +kernel
theorem dL_act_33 : decode cL_act 33 = .ok (.iconst 1, 1) := by decide +kernel
theorem dL_act_34 : decode cL_act 34 = .ok (.iaload, 1) := by decide +kernel
theorem dL_act_35 : decode cL_act 35 = .ok (.ifCond .ne 7, 3) := by decide +kernel
theorem dL_act_38 : decode cL_act 38 = .ok (.iconst 0, 1) := by decide +kernel
theorem dL_act_39 : decode cL_act 39 = .ok (.goto 12, 3) := by decide +kernel
theorem dL_act_42 : decode cL_act 42 = .ok (.iload 4, 2) := by decide +kernel
theorem dL_act_44 : decode cL_act 44 = .ok (.bipush 7, 2) := by decide +kernel
theorem dL_act_46 : decode cL_act 46 = .ok (.idiv, 1) := by decide +kernel
theorem dL_act_47 : decode cL_act 47 = .ok (.aload_n 1, 1) := by decide +kernel
theorem dL_act_48 : decode cL_act 48 = .ok (.iconst 1, 1) := by decide +kernel
theorem dL_act_49 : decode cL_act 49 = .ok (.iaload, 1) := by decide +kernel
theorem dL_act_50 : decode cL_act 50 = .ok (.irem, 1) := by decide +kernel
theorem dL_act_51 : decode cL_act 51 = .ok (.istore 7, 2) := by decide +kernel
theorem dL_act_53 : decode cL_act 53 = .ok (.aload_n 1, 1) := by decide +kernel
theorem dL_act_54 : decode cL_act 54 = .ok (.iconst 2, 1) := by decide +kernel
theorem dL_act_55 : decode cL_act 55 = .ok (.iaload, 1) := by decide +kernel
theorem dL_act_56 : decode cL_act 56 = .ok (.ifCond .ne 7, 3) := by decide +kernel
theorem dL_act_59 : decode cL_act 59 = .ok (.iconst 0, 1) := by decide +kernel
theorem dL_act_60 : decode cL_act 60 = .ok (.goto 9, 3) := by decide +kernel
theorem dL_act_63 : decode cL_act 63 = .ok (.iload 4, 2) := by decide +kernel
theorem dL_act_65 : decode cL_act 65 = .ok (.aload_n 1, 1) := by decide +kernel
theorem dL_act_66 : decode cL_act 66 = .ok (.iconst 2, 1) := by decide +kernel
theorem dL_act_67 : decode cL_act 67 = .ok (.iaload, 1) := by decide +kernel
theorem dL_act_68 : decode cL_act 68 = .ok (.irem, 1) := by decide +kernel
theorem dL_act_69 : decode cL_act 69 = .ok (.istore 8, 2) := by decide +kernel
theorem dL_act_71 : decode cL_act 71 = .ok (.iload_n 3, 1) := by decide +kernel
theorem dL_act_72 : decode cL_act 72 = .ok (.bipush 32, 2) := by decide +kernel
theorem dL_act_74 : decode cL_act 74 = .ok (.irem, 1) := by decide +kernel
theorem dL_act_75 : decode cL_act 75 = .ok (.tableswitch 361 0 27 #[125, 125, 125, 150, 150, 150, 150, 150, 150, 225, 242, 242, 242, 242, 249, 249, 249, 249, 258, 258, 265, 265, 265, 305, 328, 328, 328, 352], 125) := by decide +kernel
theorem dL_act_200 : decode cL_act 200 = .ok (.aload_n 0, 1) := by decide +kernel
theorem dL_act_201 : decode cL_act 201 = .ok (.iload 5, 2) := by decide +kernel
theorem dL_act_203 : decode cL_act 203 = .ok (.iconst 1, 1) := by decide +kernel
theorem dL_act_204 : decode cL_act 204 = .ok (.iload 4, 2) := by decide +kernel
theorem dL_act_206 : decode cL_act 206 = .ok (.iconst 5, 1) := by decide +kernel
theorem dL_act_207 : decode cL_act 207 = .ok (.idiv, 1) := by decide +kernel
theorem dL_act_208 : decode cL_act 208 = .ok (.iconst 3, 1) := by decide +kernel
theorem dL_act_209 : decode cL_act 209 = .ok (.irem, 1) := by decide +kernel
theorem dL_act_210 : decode cL_act 210 = .ok (.iadd, 1) := by decide +kernel
theorem dL_act_211 : decode cL_act 211 = .ok (.iload 4, 2) := by decide +kernel
theorem dL_act_213 : decode cL_act 213 = .ok (.bipush 15, 2) := by decide +kernel
theorem dL_act_215 : decode cL_act 215 = .ok (.idiv, 1) := by decide +kernel
theorem dL_act_216 : decode cL_act 216 = .ok (.iconst 3, 1) := by decide +kernel
theorem dL_act_217 : decode cL_act 217 = .ok (.irem, 1) := by decide +kernel
theorem dL_act_218 : decode cL_act 218 = .ok (.bipush 50, 2) := by decide +kernel
theorem dL_act_220 : decode cL_act 220 = .ok (.imul, 1) := by decide +kernel
theorem dL_act_221 : decode cL_act 221 = .ok (.invokestatic 81, 3) := by decide +kernel
theorem dL_act_224 : decode cL_act 224 = .ok (.ireturn, 1) := by decide +kernel
theorem dL_act_225 : decode cL_act 225 = .ok (.aload_n 0, 1) := by decide +kernel
theorem dL_act_226 : decode cL_act 226 = .ok (.iload 6, 2) := by decide +kernel
theorem dL_act_228 : decode cL_act 228 = .ok (.iload 4, 2) := by decide +kernel
theorem dL_act_230 : decode cL_act 230 = .ok (.iconst 3, 1) := by decide +kernel
theorem dL_act_231 : decode cL_act 231 = .ok (.irem, 1) := by decide +kernel
theorem dL_act_232 : decode cL_act 232 = .ok (.iload 4, 2) := by decide +kernel
theorem dL_act_234 : decode cL_act 234 = .ok (.iconst 3, 1) := by decide +kernel
theorem dL_act_235 : decode cL_act 235 = .ok (.idiv, 1) := by decide +kernel
theorem dL_act_236 : decode cL_act 236 = .ok (.iconst 2, 1) := by decide +kernel
theorem dL_act_237 : decode cL_act 237 = .ok (.irem, 1) := by decide +kernel
theorem dL_act_238 : decode cL_act 238 = .ok (.iload 4, 2) := by decide +kernel
theorem dL_act_240 : decode cL_act 240 = .ok (.iconst 3, 1) := by decide +kernel
theorem dL_act_241 : decode cL_act 241 = .ok (.irem, 1) := by decide +kernel
theorem dL_act_242 : decode cL_act 242 = .ok (.ifCond .ne 7, 3) := by decide +kernel
theorem dL_act_245 : decode cL_act 245 = .ok (.iconst 1, 1) := by decide +kernel
theorem dL_act_246 : decode cL_act 246 = .ok (.goto 4, 3) := by decide +kernel
theorem dL_act_249 : decode cL_act 249 = .ok (.iconst 0, 1) := by decide +kernel
theorem dL_act_250 : decode cL_act 250 = .ok (.iadd, 1) := by decide +kernel
theorem dL_act_251 : decode cL_act 251 = .ok (.iload 4, 2) := by decide +kernel
theorem dL_act_253 : decode cL_act 253 = .ok (.bipush 6, 2) := by decide +kernel
theorem dL_act_255 : decode cL_act 255 = .ok (.idiv, 1) := by decide +kernel
theorem dL_act_256 : decode cL_act 256 = .ok (.iconst 4, 1) := by decide +kernel
theorem dL_act_257 : decode cL_act 257 = .ok (.irem, 1) := by decide +kernel
theorem dL_act_258 : decode cL_act 258 = .ok (.ifCond .le 7, 3) := by decide +kernel
theorem dL_act_261 : decode cL_act 261 = .ok (.iconst 0, 1) := by decide +kernel
theorem dL_act_262 : decode cL_act 262 = .ok (.goto 13, 3) := by decide +kernel
theorem dL_act_265 : decode cL_act 265 = .ok (.iload 4, 2) := by decide +kernel
theorem dL_act_267 : decode cL_act 267 = .ok (.bipush 24, 2) := by decide +kernel
theorem dL_act_269 : decode cL_act 269 = .ok (.idiv, 1) := by decide +kernel
theorem dL_act_270 : decode cL_act 270 = .ok (.bipush 7, 2) := by decide +kernel
theorem dL_act_272 : decode cL_act 272 = .ok (.irem, 1) := by decide +kernel
theorem dL_act_273 : decode cL_act 273 = .ok (.iconst 3, 1) := by decide +kernel
theorem dL_act_274 : decode cL_act 274 = .ok (.isub, 1) := by decide +kernel
theorem dL_act_275 : decode cL_act 275 = .ok (.iconst 1, 1) := by decide +kernel
theorem dL_act_276 : decode cL_act 276 = .ok (.iload 4, 2) := by decide +kernel
theorem dL_act_278 : decode cL_act 278 = .ok (.bipush 11, 2) := by decide +kernel
theorem dL_act_280 : decode cL_act 280 = .ok (.idiv, 1) := by decide +kernel
theorem dL_act_281 : decode cL_act 281 = .ok (.iload 4, 2) := by decide +kernel
theorem dL_act_283 : decode cL_act 283 = .ok (.iconst 5, 1) := by decide +kernel
theorem dL_act_284 : decode cL_act 284 = .ok (.irem, 1) := by decide +kernel
theorem dL_act_285 : decode cL_act 285 = .ok (.ifCond .ne 8, 3) := by decide +kernel
theorem dL_act_288 : decode cL_act 288 = .ok (.bipush 20, 2) := by decide +kernel
theorem dL_act_290 : decode cL_act 290 = .ok (.goto 4, 3) := by decide +kernel
theorem dL_act_293 : decode cL_act 293 = .ok (.iconst 2, 1) := by decide +kernel
theorem dL_act_294 : decode cL_act 294 = .ok (.irem, 1) := by decide +kernel
theorem dL_act_295 : decode cL_act 295 = .ok (.iadd, 1) := by decide +kernel
theorem dL_act_296 : decode cL_act 296 = .ok (.invokestatic 87, 3) := by decide +kernel
theorem dL_act_299 : decode cL_act 299 = .ok (.ireturn, 1) := by decide +kernel
theorem dL_act_300 : decode cL_act 300 = .ok (.aload_n 0, 1) := by decide +kernel
theorem dL_act_301 : decode cL_act 301 = .ok (.iload 6, 2) := by decide +kernel
theorem dL_act_303 : decode cL_act 303 = .ok (.iconst 5, 1) := by decide +kernel
theorem dL_act_304 : decode cL_act 304 = .ok (.iload 4, 2) := by decide +kernel
theorem dL_act_306 : decode cL_act 306 = .ok (.bipush 11, 2) := by decide +kernel
theorem dL_act_308 : decode cL_act 308 = .ok (.idiv, 1) := by decide +kernel
theorem dL_act_309 : decode cL_act 309 = .ok (.bipush 16, 2) := by decide +kernel
theorem dL_act_311 : decode cL_act 311 = .ok (.irem, 1) := by decide +kernel
theorem dL_act_312 : decode cL_act 312 = .ok (.iadd, 1) := by decide +kernel
theorem dL_act_313 : decode cL_act 313 = .ok (.invokestatic 91, 3) := by decide +kernel
theorem dL_act_316 : decode cL_act 316 = .ok (.ireturn, 1) := by decide +kernel
theorem dL_act_317 : decode cL_act 317 = .ok (.aload_n 0, 1) := by decide +kernel
theorem dL_act_318 : decode cL_act 318 = .ok (.iload 6, 2) := by decide +kernel
theorem dL_act_320 : decode cL_act 320 = .ok (.invokestatic 95, 3) := by decide +kernel
theorem dL_act_323 : decode cL_act 323 = .ok (.ireturn, 1) := by decide +kernel
theorem dL_act_324 : decode cL_act 324 = .ok (.aload_n 0, 1) := by decide +kernel
theorem dL_act_325 : decode cL_act 325 = .ok (.iload 6, 2) := by decide +kernel
theorem dL_act_327 : decode cL_act 327 = .ok (.iload 5, 2) := by decide +kernel
theorem dL_act_329 : decode cL_act 329 = .ok (.invokestatic 110, 3) := by decide +kernel
theorem dL_act_332 : decode cL_act 332 = .ok (.ireturn, 1) := by decide +kernel
theorem dL_act_333 : decode cL_act 333 = .ok (.aload_n 0, 1) := by decide +kernel
theorem dL_act_334 : decode cL_act 334 = .ok (.iload 6, 2) := by decide +kernel
theorem dL_act_336 : decode cL_act 336 = .ok (.invokestatic 113, 3) := by decide +kernel
theorem dL_act_339 : decode cL_act 339 = .ok (.ireturn, 1) := by decide +kernel
theorem dL_act_340 : decode cL_act 340 = .ok (.aload_n 0, 1) := by decide +kernel
theorem dL_act_341 : decode cL_act 341 = .ok (.iload 5, 2) := by decide +kernel
theorem dL_act_343 : decode cL_act 343 = .ok (.iconst 5, 1) := by decide +kernel
theorem dL_act_344 : decode cL_act 344 = .ok (.iload 4, 2) := by decide +kernel
theorem dL_act_346 : decode cL_act 346 = .ok (.iconst 5, 1) := by decide +kernel
theorem dL_act_347 : decode cL_act 347 = .ok (.idiv, 1) := by decide +kernel
theorem dL_act_348 : decode cL_act 348 = .ok (.bipush 16, 2) := by decide +kernel
theorem dL_act_350 : decode cL_act 350 = .ok (.irem, 1) := by decide +kernel
theorem dL_act_351 : decode cL_act 351 = .ok (.iadd, 1) := by decide +kernel
theorem dL_act_352 : decode cL_act 352 = .ok (.iconst 1, 1) := by decide +kernel
theorem dL_act_353 : decode cL_act 353 = .ok (.iload 4, 2) := by decide +kernel
theorem dL_act_355 : decode cL_act 355 = .ok (.bipush 80, 2) := by decide +kernel
theorem dL_act_357 : decode cL_act 357 = .ok (.idiv, 1) := by decide +kernel
theorem dL_act_358 : decode cL_act 358 = .ok (.iload 4, 2) := by decide +kernel
theorem dL_act_360 : decode cL_act 360 = .ok (.iconst 3, 1) := by decide +kernel
theorem dL_act_361 : decode cL_act 361 = .ok (.irem, 1) := by decide +kernel
theorem dL_act_362 : decode cL_act 362 = .ok (.ifCond .ne 9, 3) := by decide +kernel
theorem dL_act_365 : decode cL_act 365 = .ok (.sipush 3000, 3) := by decide +kernel
theorem dL_act_368 : decode cL_act 368 = .ok (.goto 6, 3) := by decide +kernel
theorem dL_act_371 : decode cL_act 371 = .ok (.sipush 200, 3) := by decide +kernel
theorem dL_act_374 : decode cL_act 374 = .ok (.irem, 1) := by decide +kernel
theorem dL_act_375 : decode cL_act 375 = .ok (.iadd, 1) := by decide +kernel
theorem dL_act_376 : decode cL_act 376 = .ok (.invokestatic 118, 3) := by decide +kernel
theorem dL_act_379 : decode cL_act 379 = .ok (.ireturn, 1) := by decide +kernel
theorem dL_act_380 : decode cL_act 380 = .ok (.aload_n 0, 1) := by decide +kernel
theorem dL_act_381 : decode cL_act 381 = .ok (.iload 7, 2) := by decide +kernel
theorem dL_act_383 : decode cL_act 383 = .ok (.aload_n 1, 1) := by decide +kernel
theorem dL_act_384 : decode cL_act 384 = .ok (.iconst 1, 1) := by decide +kernel
theorem dL_act_385 : decode cL_act 385 = .ok (.iaload, 1) := by decide +kernel
theorem dL_act_386 : decode cL_act 386 = .ok (.ifCond .ne 7, 3) := by decide +kernel
theorem dL_act_389 : decode cL_act 389 = .ok (.iconst 0, 1) := by decide +kernel
theorem dL_act_390 : decode cL_act 390 = .ok (.goto 9, 3) := by decide +kernel
theorem dL_act_393 : decode cL_act 393 = .ok (.iload 4, 2) := by decide +kernel
theorem dL_act_395 : decode cL_act 395 = .ok (.aload_n 1, 1) := by decide +kernel
theorem dL_act_396 : decode cL_act 396 = .ok (.iconst 1, 1) := by decide +kernel
theorem dL_act_397 : decode cL_act 397 = .ok (.iaload, 1) := by decide +kernel
theorem dL_act_398 : decode cL_act 398 = .ok (.irem, 1) := by decide +kernel
theorem dL_act_399 : decode cL_act 399 = .ok (.invokestatic 122, 3) := by decide +kernel
theorem dL_act_402 : decode cL_act 402 = .ok (.ireturn, 1) := by decide +kernel
theorem dL_act_403 : decode cL_act 403 = .ok (.aload_n 0, 1) := by decide +kernel
theorem dL_act_404 : decode cL_act 404 = .ok (.aload_n 1, 1) := by decide +kernel
theorem dL_act_405 : decode cL_act 405 = .ok (.iconst 1, 1) := by decide +kernel
theorem dL_act_406 : decode cL_act 406 = .ok (.iaload, 1) := by decide +kernel
theorem dL_act_407 : decode cL_act 407 = .ok (.ifCond .ne 8, 3) := by decide +kernel
theorem dL_act_410 : decode cL_act 410 = .ok (.iload 5, 2) := by decide +kernel
theorem dL_act_412 : decode cL_act 412 = .ok (.goto 7, 3) := by decide +kernel
theorem dL_act_415 : decode cL_act 415 = .ok (.aload_n 2, 1) := by decide +kernel
theorem dL_act_416 : decode cL_act 416 = .ok (.iload 7, 2) := by decide +kernel
theorem dL_act_418 : decode cL_act 418 = .ok (.iaload, 1) := by decide +kernel
theorem dL_act_419 : decode cL_act 419 = .ok (.iload 6, 2) := by decide +kernel
theorem dL_act_421 : decode cL_act 421 = .ok (.iload 7, 2) := by decide +kernel
theorem dL_act_423 : decode cL_act 423 = .ok (.invokestatic 127, 3) := by decide +kernel
theorem dL_act_426 : decode cL_act 426 = .ok (.ireturn, 1) := by decide +kernel
theorem dL_act_427 : decode cL_act 427 = .ok (.aload_n 0, 1) := by decide +kernel
theorem dL_act_428 : decode cL_act 428 = .ok (.iload 8, 2) := by decide +kernel
theorem dL_act_430 : decode cL_act 430 = .ok (.iload 7, 2) := by decide +kernel
theorem dL_act_432 : decode cL_act 432 = .ok (.invokestatic 130, 3) := by decide +kernel
theorem dL_act_435 : decode cL_act 435 = .ok (.ireturn, 1) := by decide +kernel
theorem dL_act_436 : decode cL_act 436 = .ok (.aload_n 0, 1) := by decide +kernel
theorem dL_act_437 : decode cL_act 437 = .ok (.iload 8, 2) := by decide +kernel
theorem dL_act_439 : decode cL_act 439 = .ok (.iconst 1, 1) := by decide +kernel
theorem dL_act_440 : decode cL_act 440 = .ok (.iload 4, 2) := by decide +kernel
theorem dL_act_442 : decode cL_act 442 = .ok (.bipush 12, 2) := by decide +kernel
theorem dL_act_444 : decode cL_act 444 = .ok (.idiv, 1) := by decide +kernel
theorem dL_act_445 : decode cL_act 445 = .ok (.iload 4, 2) := by decide +kernel
theorem dL_act_447 : decode cL_act 447 = .ok (.iconst 3, 1) := by decide +kernel
theorem dL_act_448 : decode cL_act 448 = .ok (.irem, 1) := by decide +kernel
theorem dL_act_449 : decode cL_act 449 = .ok (.ifCond .ne 8, 3) := by decide +kernel
theorem dL_act_452 : decode cL_act 452 = .ok (.bipush 40, 2) := by decide +kernel
theorem dL_act_454 : decode cL_act 454 = .ok (.goto 4, 3) := by decide +kernel
theorem dL_act_457 : decode cL_act 457 = .ok (.iconst 4, 1) := by decide +kernel
theorem dL_act_458 : decode cL_act 458 = .ok (.irem, 1) := by decide +kernel
theorem dL_act_459 : decode cL_act 459 = .ok (.iadd, 1) := by decide +kernel
theorem dL_act_460 : decode cL_act 460 = .ok (.invokestatic 133, 3) := by decide +kernel
theorem dL_act_463 : decode cL_act 463 = .ok (.ireturn, 1) := by decide +kernel
set_option maxRecDepth 20000 in
theorem ggL_alike_L_money : GoodIn wsL_alike wsL_money := goodIn_ca (goodIn_r _ [4, 5, 6, 7, 8, 9, 10, 11, 12, 13, 14, 15, 16, 17, 144, 145, 146, 147, 148] (by decide +kernel) (by decide +kernel)) (goodIn_sub (fun _ h => List.mem_cons_of_mem _ (List.mem_append_right _ h)) (by decide +kernel))
set_option maxRecDepth 20000 in
theorem gL_alike_L_money : GoodIn wsL_alike (va_wsS RL 116 yL_money wsL_money) := goodIn_app (goodIn_of _ (by decide +kernel)) ggL_alike_L_money
set_option maxRecDepth 20000 in
theorem ggL_alike_L_rows : GoodIn wsL_alike wsL_rows := goodIn_ca (goodIn_r _ [20, 5, 6, 21, 22, 23, 10, 24, 25, 26, 27, 28, 29, 30, 16, 17, 31, 32, 33, 34, 35, 36, 37, 38, 39, 40, 41, 42, 43, 44, 45, 46, 47, 48, 49, 50, 51, 52, 53, 54, 55, 149, 150, 151, 152, 153, 154, 155, 156, 157, 158, 159, 160, 161, 144, 145, 146, 147, 148, 162, 163, 164] (by decide +kernel) (by decide +kernel)) (goodIn_sub (fun _ h => List.mem_cons_of_mem _ (List.mem_append_right _ h)) (by decide +kernel))
set_option maxRecDepth 20000 in
theorem gL_alike_L_rows : GoodIn wsL_alike (va_wsS RL 101 yL_rows wsL_rows) := goodIn_app (goodIn_of _ (by decide +kernel)) ggL_alike_L_rows
set_option maxRecDepth 20000 in
theorem ggL_alike_L_original : GoodIn wsL_alike wsL_original := goodIn_ca (goodIn_r _ [58, 5, 6, 59, 60, 61, 10, 62, 63, 64, 27, 28, 29, 30, 16, 17, 31, 32, 33, 34, 35, 36, 37, 38, 39, 40, 41, 42, 43, 44, 45, 46, 47, 48, 49, 50, 51, 52, 53, 54, 55, 149, 150, 151, 152, 153, 154, 155, 156, 157, 144, 145, 146, 147, 148, 162, 163, 164] (by decide +kernel) (by decide +kernel)) (goodIn_sub (fun _ h => List.mem_cons_of_mem _ (List.mem_append_right _ h)) (by decide +kernel))
set_option maxRecDepth 20000 in
theorem gL_alike_L_original : GoodIn wsL_alike (va_wsS RL 99 yL_original wsL_original) := goodIn_app (goodIn_of _ (by decide +kernel)) ggL_alike_L_original
set_option maxRecDepth 20000 in
theorem ggL_alike_L_stitch : GoodIn wsL_alike wsL_stitch := goodIn_ca (goodIn_r _ [67, 5, 6, 68, 69, 70, 10, 71, 25, 27, 28, 29, 30, 16, 17, 31, 32, 33, 34, 35, 36, 37, 38, 39, 40, 41, 42, 43, 44, 45, 46, 47, 48, 49, 50, 51, 52, 53, 54, 55, 72, 73, 74, 26, 75, 76, 77, 78, 79, 80, 149, 150, 151, 152, 153, 154, 155, 156, 157, 144, 145, 146, 147, 148, 162, 163, 164, 158, 159, 160, 161] (by decide +kernel) (by decide +kernel)) (goodIn_sub (fun _ h => List.mem_cons_of_mem _ (List.mem_append_right _ h)) (by decide +kernel))
set_option maxRecDepth 20000 in
theorem gL_alike_L_stitch : GoodIn wsL_alike (va_wsS RL 103 yL_stitch wsL_stitch) := goodIn_app (goodIn_of _ (by decide +kernel)) ggL_alike_L_stitch
set_option maxRecDepth 20000 in
theorem ggL_alike_L_byWork : GoodIn wsL_alike wsL_byWork := goodIn_ca (goodIn_r _ [83, 5, 6, 84, 85, 86, 10, 87, 88, 27, 28, 29, 30, 16, 17, 31, 32, 33, 34, 35, 36, 37, 38, 39, 40, 41, 42, 43, 44, 45, 46, 47, 48, 49, 50, 51, 52, 53, 54, 55, 72, 73, 74, 25, 26, 89, 90, 91, 92, 93, 94, 95, 96, 97, 98, 99, 100, 101, 102, 103, 104, 105, 106, 107, 108, 109, 110, 111, 112, 113, 114, 115, 149, 150, 151, 152, 153, 154, 155, 156, 157, 144, 145, 146, 147, 148, 162, 163, 164, 158, 159, 160, 161, 165, 166, 167, 168, 169, 170] (by decide +kernel) (by decide +kernel)) (goodIn_sub (fun _ h => List.mem_cons_of_mem _ (List.mem_append_right _ h)) (by decide +kernel))
set_option maxRecDepth 20000 in
theorem gL_alike_L_byWork : GoodIn wsL_alike (va_wsS RL 105 yL_byWork wsL_byWork) := goodIn_app (goodIn_of _ (by decide +kernel)) ggL_alike_L_byWork
set_option maxRecDepth 20000 in
theorem ggL_alike_L_left : GoodIn wsL_alike wsL_left := goodIn_ca (goodIn_r _ [118, 5, 6, 119, 120, 121, 10, 122, 123, 124, 125, 126, 127, 16, 17, 128, 129, 33, 34, 35, 36, 37, 38, 39, 40, 41, 42, 43, 44, 45, 46, 47, 48, 49, 50, 51, 52, 53, 54, 55, 171, 172, 173, 174, 144, 145, 146, 147, 148, 162, 163, 164] (by decide +kernel) (by decide +kernel)) (goodIn_sub (fun _ h => List.mem_cons_of_mem _ (List.mem_append_right _ h)) (by decide +kernel))
set_option maxRecDepth 20000 in
theorem gL_alike_L_left : GoodIn wsL_alike (va_wsS RL 125 yL_left wsL_left) := goodIn_app (goodIn_of _ (by decide +kernel)) ggL_alike_L_left
set_option maxRecDepth 20000 in
theorem ggL_alike_L_progress : GoodIn wsL_alike wsL_progress := goodIn_ca (goodIn_r _ [132, 5, 6, 133, 134, 135, 10, 136, 137, 138, 139, 140, 141, 16, 17, 142, 143, 33, 34, 35, 36, 37, 38, 39, 40, 41, 42, 43, 44, 45, 46, 47, 48, 49, 50, 51, 52, 53, 54, 55, 175, 176, 177, 178, 144, 145, 146, 147, 148, 162, 163, 164] (by decide +kernel) (by decide +kernel)) (goodIn_sub (fun _ h => List.mem_cons_of_mem _ (List.mem_append_right _ h)) (by decide +kernel))
set_option maxRecDepth 20000 in
theorem gL_alike_L_progress : GoodIn wsL_alike (va_wsS RL 136 yL_progress wsL_progress) := goodIn_app (goodIn_of _ (by decide +kernel)) ggL_alike_L_progress
theorem dL_alike_0 : decode cL_alike 0 = .ok (.iconst 1, 1) := by decide +kernel
theorem dL_alike_1 : decode cL_alike 1 = .ok (.istore 4, 2) := by decide +kernel
theorem dL_alike_3 : decode cL_alike 3 = .ok (.iconst 0, 1) := by decide +kernel
theorem dL_alike_4 : decode cL_alike 4 = .ok (.istore 5, 2) := by decide +kernel
theorem dL_alike_6 : decode cL_alike 6 = .ok (.iload 5, 2) := by decide +kernel
theorem dL_alike_8 : decode cL_alike 8 = .ok (.iconst 5, 1) := by decide +kernel
theorem dL_alike_9 : decode cL_alike 9 = .ok (.if_icmp .ge 36, 3) := by decide +kernel
theorem dL_alike_12 : decode cL_alike 12 = .ok (.iload 4, 2) := by decide +kernel
theorem dL_alike_14 : decode cL_alike 14 = .ok (.ifCond .eq 31, 3) := by decide +kernel
theorem dL_alike_17 : decode cL_alike 17 = .ok (.aload_n 0, 1) := by decide +kernel
theorem dL_alike_18 : decode cL_alike 18 = .ok (.iload 5, 2) := by decide +kernel
theorem dL_alike_20 : decode cL_alike 20 = .ok (.invokestatic 116, 3) := by decide +kernel
theorem dL_alike_23 : decode cL_alike 23 = .ok (.aload_n 1, 1) := by decide +kernel
theorem dL_alike_24 : decode cL_alike 24 = .ok (.iload 5, 2) := by decide +kernel
theorem dL_alike_26 : decode cL_alike 26 = .ok (.invokestatic 116, 3) := by decide +kernel
theorem dL_alike_29 : decode cL_alike 29 = .ok (.if_icmp .ne 7, 3) := by decide +kernel
theorem dL_alike_32 : decode cL_alike 32 = .ok (.iconst 1, 1) := by decide +kernel
theorem dL_alike_33 : decode cL_alike 33 = .ok (.goto 4, 3) := by decide +kernel
theorem dL_alike_36 : decode cL_alike 36 = .ok (.iconst 0, 1) := by decide +kernel
theorem dL_alike_37 : decode cL_alike 37 = .ok (.istore 4, 2) := by decide +kernel
theorem dL_alike_39 : decode cL_alike 39 = .ok (.iinc 5 1, 3) := by decide +kernel
theorem dL_alike_42 : decode cL_alike 42 = .ok (.goto (-36), 3) := by decide +kernel
theorem dL_alike_45 : decode cL_alike 45 = .ok (.iconst 0, 1) := by decide +kernel
theorem dL_alike_46 : decode cL_alike 46 = .ok (.istore 5, 2) := by decide +kernel
theorem dL_alike_48 : decode cL_alike 48 = .ok (.iload 5, 2) := by decide +kernel
theorem dL_alike_50 : decode cL_alike 50 = .ok (.aload_n 2, 1) := by decide +kernel
theorem dL_alike_51 : decode cL_alike 51 = .ok (.iconst 0, 1) := by decide +kernel
theorem dL_alike_52 : decode cL_alike 52 = .ok (.iaload, 1) := by decide +kernel
theorem dL_alike_53 : decode cL_alike 53 = .ok (.if_icmp .ge 138, 3) := by decide +kernel
theorem dL_alike_56 : decode cL_alike 56 = .ok (.iload 4, 2) := by decide +kernel
theorem dL_alike_58 : decode cL_alike 58 = .ok (.ifCond .eq 133, 3) := by decide +kernel
theorem dL_alike_61 : decode cL_alike 61 = .ok (.aload_n 0, 1) := by decide +kernel
theorem dL_alike_62 : decode cL_alike 62 = .ok (.iload 5, 2) := by decide +kernel
theorem dL_alike_64 : decode cL_alike 64 = .ok (.invokestatic 101, 3) := by decide +kernel
theorem dL_alike_67 : decode cL_alike 67 = .ok (.istore 6, 2) := by decide +kernel
theorem dL_alike_69 : decode cL_alike 69 = .ok (.iload 6, 2) := by decide +kernel
theorem dL_alike_71 : decode cL_alike 71 = .ok (.aload_n 1, 1) := by decide +kernel
theorem dL_alike_72 : decode cL_alike 72 = .ok (.iload 5, 2) := by decide +kernel
theorem dL_alike_74 : decode cL_alike 74 = .ok (.invokestatic 101, 3) := by decide +kernel
theorem dL_alike_77 : decode cL_alike 77 = .ok (.if_icmp .ne 105, 3) := by decide +kernel
theorem dL_alike_80 : decode cL_alike 80 = .ok (.aload_n 0, 1) := by decide +kernel
theorem dL_alike_81 : decode cL_alike 81 = .ok (.iload 5, 2) := by decide +kernel
theorem dL_alike_83 : decode cL_alike 83 = .ok (.invokestatic 99, 3) := by decide +kernel
theorem dL_alike_86 : decode cL_alike 86 = .ok (.aload_n 1, 1) := by decide +kernel
theorem dL_alike_87 : decode cL_alike 87 = .ok (.iload 5, 2) := by decide +kernel
theorem dL_alike_89 : decode cL_alike 89 = .ok (.invokestatic 99, 3) := by decide +kernel
theorem dL_alike_92 : decode cL_alike 92 = .ok (.if_icmp .ne 90, 3) := by decide +kernel
theorem dL_alike_95 : decode cL_alike 95 = .ok (.iload 6, 2) := by decide +kernel
theorem dL_alike_97 : decode cL_alike 97 = .ok (.ifCond .eq 81, 3) := by decide +kernel
theorem dL_alike_100 : decode cL_alike 100 = .ok (.aload_n 0, 1) := by decide +kernel
theorem dL_alike_101 : decode cL_alike 101 = .ok (.iload 5, 2) := by decide +kernel
theorem dL_alike_103 : decode cL_alike 103 = .ok (.iload_n 3, 1) := by decide +kernel
theorem dL_alike_104 : decode cL_alike 104 = .ok (.iload 6, 2) := by decide +kernel
theorem dL_alike_106 : decode cL_alike 106 = .ok (.irem, 1) := by decide +kernel
theorem dL_alike_107 : decode cL_alike 107 = .ok (.iload_n 3, 1) := by decide +kernel
theorem dL_alike_108 : decode cL_alike 108 = .ok (.bipush 40, 2) := by decide +kernel
theorem dL_alike_110 : decode cL_alike 110 = .ok (.idiv, 1) := by decide +kernel
theorem dL_alike_111 : decode cL_alike 111 = .ok (.bipush 9, 2) := by decide +kernel
theorem dL_alike_113 : decode cL_alike 113 = .ok (.irem, 1) := by decide +kernel
theorem dL_alike_114 : decode cL_alike 114 = .ok (.invokestatic 103, 3) := by decide +kernel
theorem dL_alike_117 : decode cL_alike 117 = .ok (.aload_n 1, 1) := by decide +kernel
theorem dL_alike_118 : decode cL_alike 118 = .ok (.iload 5, 2) := by decide +kernel
theorem dL_alike_120 : decode cL_alike 120 = .ok (.iload_n 3, 1) := by decide +kernel
theorem dL_alike_121 : decode cL_alike 121 = .ok (.iload 6, 2) := by decide +kernel
theorem dL_alike_123 : decode cL_alike 123 = .ok (.irem, 1) := by decide +kernel
theorem dL_alike_124 : decode cL_alike 124 = .ok (.iload_n 3, 1) := by decide +kernel
theorem dL_alike_125 : decode cL_alike 125 = .ok (.bipush 40, 2) := by decide +kernel
theorem dL_alike_127 : decode cL_alike 127 = .ok (.idiv, 1) := by decide +kernel
theorem dL_alike_128 : decode cL_alike 128 = .ok (.bipush 9, 2) := by decide +kernel
theorem dL_alike_130 : decode cL_alike 130 = .ok (.irem, 1) := by decide +kernel
theorem dL_alike_131 : decode cL_alike 131 = .ok (.invokestatic 103, 3) := by decide +kernel
theorem dL_alike_134 : decode cL_alike 134 = .ok (.if_icmp .ne 48, 3) := by decide +kernel
theorem dL_alike_137 : decode cL_alike 137 = .ok (.aload_n 0, 1) := by decide +kernel
theorem dL_alike_138 : decode cL_alike 138 = .ok (.iload 5, 2) := by decide +kernel
theorem dL_alike_140 : decode cL_alike 140 = .ok (.iload_n 3, 1) := by decide +kernel
theorem dL_alike_141 : decode cL_alike 141 = .ok (.iconst 3, 1) := by decide +kernel
theorem dL_alike_142 : decode cL_alike 142 = .ok (.idiv, 1) := by decide +kernel
theorem dL_alike_143 : decode cL_alike 143 = .ok (.iload 6, 2) := by decide +kernel
theorem dL_alike_145 : decode cL_alike 145 = .ok (.irem, 1) := by decide +kernel
theorem dL_alike_146 : decode cL_alike 146 = .ok (.iload_n 3, 1) := by decide +kernel
theorem dL_alike_147 : decode cL_alike 147 = .ok (.bipush 7, 2) := by decide +kernel
theorem dL_alike_149 : decode cL_alike 149 = .ok (.idiv, 1) := by decide +kernel
theorem dL_alike_150 : decode cL_alike 150 = .ok (.bipush 9, 2) := by decide +kernel
theorem dL_alike_152 : decode cL_alike 152 = .ok (.irem, 1) := by decide +kernel
theorem dL_alike_153 : decode cL_alike 153 = .ok (.invokestatic 105, 3) := by decide +kernel
theorem dL_alike_156 : decode cL_alike 156 = .ok (.aload_n 1, 1) := by decide +kernel
theorem dL_alike_157 : decode cL_alike 157 = .ok (.iload 5, 2) := by decide +kernel
theorem dL_alike_159 : decode cL_alike 159 = .ok (.iload_n 3, 1) := by decide +kernel
theorem dL_alike_160 : decode cL_alike 160 = .ok (.iconst 3, 1) := by decide +kernel
theorem dL_alike_161 : decode cL_alike 161 = .ok (.idiv, 1) := by decide +kernel
theorem dL_alike_162 : decode cL_alike 162 = .ok (.iload 6, 2) := by decide +kernel
theorem dL_alike_164 : decode cL_alike 164 = .ok (.irem, 1) := by decide +kernel
theorem dL_alike_165 : decode cL_alike 165 = .ok (.iload_n 3, 1) := by decide +kernel
theorem dL_alike_166 : decode cL_alike 166 = .ok (.bipush 7, 2) := by decide +kernel
theorem dL_alike_168 : decode cL_alike 168 = .ok (.idiv, 1) := by decide +kernel
theorem dL_alike_169 : decode cL_alike 169 = .ok (.bipush 9, 2) := by decide +kernel
theorem dL_alike_171 : decode cL_alike 171 = .ok (.irem, 1) := by decide +kernel
theorem dL_alike_172 : decode cL_alike 172 = .ok (.invokestatic 103, 3) := by decide +kernel
theorem dL_alike_175 : decode cL_alike 175 = .ok (.if_icmp .ne 7, 3) := by decide +kernel
theorem dL_alike_178 : decode cL_alike 178 = .ok (.iconst 1, 1) := by decide +kernel
theorem dL_alike_179 : decode cL_alike 179 = .ok (.goto 4, 3) := by decide +kernel
theorem dL_alike_182 : decode cL_alike 182 = .ok (.iconst 0, 1) := by decide +kernel
theorem dL_alike_183 : decode cL_alike 183 = .ok (.istore 4, 2) := by decide +kernel
theorem dL_alike_185 : decode cL_alike 185 = .ok (.iinc 5 1, 3) := by decide +kernel
theorem dL_alike_188 : decode cL_alike 188 = .ok (.goto (-140), 3) := by decide +kernel
theorem dL_alike_191 : decode cL_alike 191 = .ok (.iconst 0, 1) := by decide +kernel
theorem dL_alike_192 : decode cL_alike 192 = .ok (.istore 5, 2) := by decide +kernel
theorem dL_alike_194 : decode cL_alike 194 = .ok (.iload 5, 2) := by decide +kernel
theorem dL_alike_196 : decode cL_alike 196 = .ok (.aload_n 2, 1) := by decide +kernel
theorem dL_alike_197 : decode cL_alike 197 = .ok (.iconst 1, 1) := by decide +kernel
theorem dL_alike_198 : decode cL_alike 198 = .ok (.iaload, 1) := by decide +kernel
theorem dL_alike_199 : decode cL_alike 199 = .ok (.if_icmp .ge 36, 3) := by decide +kernel
theorem dL_alike_202 : decode cL_alike 202 = .ok (.iload 4, 2) := by decide +kernel
theorem dL_alike_204 : decode cL_alike 204 = .ok (.ifCond .eq 31, 3) := by decide +kernel
theorem dL_alike_207 : decode cL_alike 207 = .ok (.aload_n 0, 1) := by decide +kernel
theorem dL_alike_208 : decode cL_alike 208 = .ok (.iload 5, 2) := by decide +kernel
theorem dL_alike_210 : decode cL_alike 210 = .ok (.invokestatic 125, 3) := by decide +kernel
theorem dL_alike_213 : decode cL_alike 213 = .ok (.aload_n 1, 1) := by decide +kernel
theorem dL_alike_214 : decode cL_alike 214 = .ok (.iload 5, 2) := by decide +kernel
theorem dL_alike_216 : decode cL_alike 216 = .ok (.invokestatic 125, 3) := by decide +kernel
theorem dL_alike_219 : decode cL_alike 219 = .ok (.if_icmp .ne 7, 3) := by decide +kernel
theorem dL_alike_222 : decode cL_alike 222 = .ok (.iconst 1, 1) := by decide +kernel
theorem dL_alike_223 : decode cL_alike 223 = .ok (.goto 4, 3) := by decide +kernel
theorem dL_alike_226 : decode cL_alike 226 = .ok (.iconst 0, 1) := by decide +kernel
theorem dL_alike_227 : decode cL_alike 227 = .ok (.istore 4, 2) := by decide +kernel
theorem dL_alike_229 : decode cL_alike 229 = .ok (.iinc 5 1, 3) := by decide +kernel
theorem dL_alike_232 : decode cL_alike 232 = .ok (.goto (-38), 3) := by decide +kernel
theorem dL_alike_235 : decode cL_alike 235 = .ok (.iconst 0, 1) := by decide +kernel
theorem dL_alike_236 : decode cL_alike 236 = .ok (.istore 5, 2) := by decide +kernel
theorem dL_alike_238 : decode cL_alike 238 = .ok (.iload 5, 2) := by decide +kernel
theorem dL_alike_240 : decode cL_alike 240 = .ok (.aload_n 2, 1) := by decide +kernel
theorem dL_alike_241 : decode cL_alike 241 = .ok (.iconst 2, 1) := by decide +kernel
theorem dL_alike_242 : decode cL_alike 242 = .ok (.iaload, 1) := by decide +kernel
theorem dL_alike_243 : decode cL_alike 243 = .ok (.if_icmp .ge 36, 3) := by decide +kernel
theorem dL_alike_246 : decode cL_alike 246 = .ok (.iload 4, 2) := by decide +kernel
theorem dL_alike_248 : decode cL_alike 248 = .ok (.ifCond .eq 31, 3) := by decide +kernel
theorem dL_alike_251 : decode cL_alike 251 = .ok (.aload_n 0, 1) := by decide +kernel
theorem dL_alike_252 : decode cL_alike 252 = .ok (.iload 5, 2) := by decide +kernel
theorem dL_alike_254 : decode cL_alike 254 = .ok (.invokestatic 136, 3) := by decide +kernel
theorem dL_alike_257 : decode cL_alike 257 = .ok (.aload_n 1, 1) := by decide +kernel
theorem dL_alike_258 : decode cL_alike 258 = .ok (.iload 5, 2) := by decide +kernel
theorem dL_alike_260 : decode cL_alike 260 = .ok (.invokestatic 136, 3) := by decide +kernel
theorem dL_alike_263 : decode cL_alike 263 = .ok (.if_icmp .ne 7, 3) := by decide +kernel
theorem dL_alike_266 : decode cL_alike 266 = .ok (.iconst 1, 1) := by decide +kernel
theorem dL_alike_267 : decode cL_alike 267 = .ok (.goto 4, 3) := by decide +kernel
theorem dL_alike_270 : decode cL_alike 270 = .ok (.iconst 0, 1) := by decide +kernel
theorem dL_alike_271 : decode cL_alike 271 = .ok (.istore 4, 2) := by decide +kernel
theorem dL_alike_273 : decode cL_alike 273 = .ok (.iinc 5 1, 3) := by decide +kernel
theorem dL_alike_276 : decode cL_alike 276 = .ok (.goto (-38), 3) := by decide +kernel
theorem dL_alike_279 : decode cL_alike 279 = .ok (.iload 4, 2) := by decide +kernel
theorem dL_alike_281 : decode cL_alike 281 = .ok (.ireturn, 1) := by decide +kernel
set_option maxRecDepth 20000 in
theorem ggL_holds_L_money : GoodIn wsL_holds wsL_money := goodIn_ca (goodIn_r _ [4, 5, 6, 7, 8, 9, 10, 11, 12, 13, 14, 15, 16, 17, 153, 154, 155, 156, 157] (by decide +kernel) (by decide +kernel)) (goodIn_sub (fun _ h => List.mem_cons_of_mem _ (List.mem_append_left _ (List.mem_append_right _ h))) (by decide +kernel))
set_option maxRecDepth 20000 in
theorem gL_holds_L_money : GoodIn wsL_holds (va_wsS RL 116 yL_money wsL_money) := goodIn_app (goodIn_of _ (by decide +kernel)) ggL_holds_L_money
set_option maxRecDepth 20000 in
theorem ggL_holds_L_rows : GoodIn wsL_holds wsL_rows := goodIn_ca (goodIn_r _ [20, 5, 6, 21, 22, 23, 10, 24, 25, 26, 27, 28, 29, 30, 16, 17, 31, 32, 33, 34, 35, 36, 37, 38, 39, 40, 41, 42, 43, 44, 45, 46, 47, 48, 49, 50, 51, 52, 53, 54, 55, 158, 159, 160, 161, 162, 163, 164, 165, 166, 167, 168, 169, 170, 153, 154, 155, 156, 157, 171, 172, 173] (by decide +kernel) (by decide +kernel)) (goodIn_sub (fun _ h => List.mem_cons_of_mem _ (List.mem_append_left _ (List.mem_append_right _ h))) (by decide +kernel))
set_option maxRecDepth 20000 in
theorem gL_holds_L_rows : GoodIn wsL_holds (va_wsS RL 101 yL_rows wsL_rows) := goodIn_app (goodIn_of _ (by decide +kernel)) ggL_holds_L_rows
set_option maxRecDepth 20000 in
theorem ggL_holds_L_original : GoodIn wsL_holds wsL_original := goodIn_ca (goodIn_r _ [58, 5, 6, 59, 60, 61, 10, 62, 63, 64, 27, 28, 29, 30, 16, 17, 31, 32, 33, 34, 35, 36, 37, 38, 39, 40, 41, 42, 43, 44, 45, 46, 47, 48, 49, 50, 51, 52, 53, 54, 55, 158, 159, 160, 161, 162, 163, 164, 165, 166, 153, 154, 155, 156, 157, 171, 172, 173] (by decide +kernel) (by decide +kernel)) (goodIn_sub (fun _ h => List.mem_cons_of_mem _ (List.mem_append_left _ (List.mem_append_right _ h))) (by decide +kernel))
set_option maxRecDepth 20000 in
theorem gL_holds_L_original : GoodIn wsL_holds (va_wsS RL 99 yL_original wsL_original) := goodIn_app (goodIn_of _ (by decide +kernel)) ggL_holds_L_original
set_option maxRecDepth 20000 in
theorem ggL_holds_L_need : GoodIn wsL_holds wsL_need := goodIn_ca (goodIn_ca (goodIn_r _ [67, 5, 68, 6, 69, 70, 71, 72, 10, 73, 25, 27, 28, 29, 30, 16, 17, 31, 32, 33, 34, 35, 36, 37, 38, 39, 40, 41, 42, 43, 44, 45, 46, 47, 48, 49, 50, 51, 52, 53, 54, 55, 74, 75, 76, 77, 78, 79, 80, 81, 82, 83, 84, 85, 86, 87, 88, 158, 159, 160, 161, 162, 163, 164, 165, 166, 153, 154, 155, 156, 157, 171, 172, 173, 167, 168, 169, 170] (by decide +kernel) (by decide +kernel)) (goodIn_sub (fun _ h => List.mem_cons_of_mem _ (List.mem_append_left _ (List.mem_append_right _ h))) (by decide +kernel))) (goodIn_sub (fun _ h => List.mem_cons_of_mem _ (List.mem_append_right _ h)) (by decide +kernel))
set_option maxRecDepth 20000 in
theorem gL_holds_L_need : GoodIn wsL_holds (va_wsS RL 108 yL_need wsL_need) := goodIn_app (goodIn_of _ (by decide +kernel)) ggL_holds_L_need
set_option maxRecDepth 20000 in
theorem ggL_holds_L_stitch : GoodIn wsL_holds wsL_stitch := goodIn_ca (goodIn_r _ [91, 5, 6, 92, 93, 94, 10, 95, 25, 27, 28, 29, 30, 16, 17, 31, 32, 33, 34, 35, 36, 37, 38, 39, 40, 41, 42, 43, 44, 45, 46, 47, 48, 49, 50, 51, 52, 53, 54, 55, 96, 97, 98, 26, 99, 100, 101, 85, 102, 103, 158, 159, 160, 161, 162, 163, 164, 165, 166, 153, 154, 155, 156, 157, 171, 172, 173, 167, 168, 169, 170] (by decide +kernel) (by decide +kernel)) (goodIn_sub (fun _ h => List.mem_cons_of_mem _ (List.mem_append_left _ (List.mem_append_right _ h))) (by decide +kernel))
set_option maxRecDepth 20000 in
theorem gL_holds_L_stitch : GoodIn wsL_holds (va_wsS RL 103 yL_stitch wsL_stitch) := goodIn_app (goodIn_of _ (by decide +kernel)) ggL_holds_L_stitch
set_option maxRecDepth 20000 in
theorem ggL_holds_L_byWork : GoodIn wsL_holds wsL_byWork := goodIn_ca (goodIn_r _ [106, 5, 6, 107, 108, 109, 10, 110, 111, 27, 28, 29, 30, 16, 17, 31, 32, 33, 34, 35, 36, 37, 38, 39, 40, 41, 42, 43, 44, 45, 46, 47, 48, 49, 50, 51, 52, 53, 54, 55, 96, 97, 98, 25, 26, 112, 113, 114, 115, 116, 117, 118, 119, 120, 121, 122, 123, 124, 125, 126, 127, 128, 129, 130, 131, 132, 133, 134, 135, 136, 137, 138, 158, 159, 160, 161, 162, 163, 164, 165, 166, 153, 154, 155, 156, 157, 171, 172, 173, 167, 168, 169, 170, 174, 175, 176, 177, 178, 179] (by decide +kernel) (by decide +kernel)) (goodIn_sub (fun _ h => List.mem_cons_of_mem _ (List.mem_append_left _ (List.mem_append_right _ h))) (by decide +kernel))
set_option maxRecDepth 20000 in
theorem gL_holds_L_byWork : GoodIn wsL_holds (va_wsS RL 105 yL_byWork wsL_byWork) := goodIn_app (goodIn_of _ (by decide +kernel)) ggL_holds_L_byWork
set_option maxRecDepth 20000 in
theorem ggL_holds_L_left : GoodIn wsL_holds wsL_left := goodIn_ca (goodIn_r _ [141, 5, 6, 142, 143, 144, 10, 145, 146, 147, 148, 149, 150, 16, 17, 151, 152, 33, 34, 35, 36, 37, 38, 39, 40, 41, 42, 43, 44, 45, 46, 47, 48, 49, 50, 51, 52, 53, 54, 55, 180, 181, 182, 183, 153, 154, 155, 156, 157, 171, 172, 173] (by decide +kernel) (by decide +kernel)) (goodIn_sub (fun _ h => List.mem_cons_of_mem _ (List.mem_append_left _ (List.mem_append_right _ h))) (by decide +kernel))
set_option maxRecDepth 20000 in
theorem gL_holds_L_left : GoodIn wsL_holds (va_wsS RL 125 yL_left wsL_left) := goodIn_app (goodIn_of _ (by decide +kernel)) ggL_holds_L_left
theorem dL_holds_0 : decode cL_holds 0 = .ok (.iconst 0, 1) := by decide +kernel
theorem dL_holds_1 : decode cL_holds 1 = .ok (.istore_n 3, 1) := by decide +kernel
theorem dL_holds_2 : decode cL_holds 2 = .ok (.iconst 1, 1) := by decide +kernel
theorem dL_holds_3 : decode cL_holds 3 = .ok (.istore 4, 2) := by decide +kernel
theorem dL_holds_5 : decode cL_holds 5 = .ok (.iconst 0, 1) := by decide +kernel
theorem dL_holds_6 : decode cL_holds 6 = .ok (.istore 5, 2) := by decide +kernel
theorem dL_holds_8 : decode cL_holds 8 = .ok (.iload 5, 2) := by decide +kernel
theorem dL_holds_10 : decode cL_holds 10 = .ok (.iconst 5, 1) := by decide +kernel
theorem dL_holds_11 : decode cL_holds 11 = .ok (.if_icmp .ge 18, 3) := by decide +kernel
theorem dL_holds_14 : decode cL_holds 14 = .ok (.iload_n 3, 1) := by decide +kernel
theorem dL_holds_15 : decode cL_holds 15 = .ok (.aload_n 0, 1) := by decide +kernel
theorem dL_holds_16 : decode cL_holds 16 = .ok (.iload 5, 2) := by decide +kernel
theorem dL_holds_18 : decode cL_holds 18 = .ok (.invokestatic 116, 3) := by decide +kernel
theorem dL_holds_21 : decode cL_holds 21 = .ok (.iadd, 1) := by decide +kernel
theorem dL_holds_22 : decode cL_holds 22 = .ok (.istore_n 3, 1) := by decide +kernel
theorem dL_holds_23 : decode cL_holds 23 = .ok (.iinc 5 1, 3) := by decide +kernel
theorem dL_holds_26 : decode cL_holds 26 = .ok (.goto (-18), 3) := by decide +kernel
theorem dL_holds_29 : decode cL_holds 29 = .ok (.iconst 0, 1) := by decide +kernel
theorem dL_holds_30 : decode cL_holds 30 = .ok (.istore 5, 2) := by decide +kernel
theorem dL_holds_32 : decode cL_holds 32 = .ok (.iload 5, 2) := by decide +kernel
theorem dL_holds_34 : decode cL_holds 34 = .ok (.aload_n 1, 1) := by decide +kernel
theorem dL_holds_35 : decode cL_holds 35 = .ok (.iconst 0, 1) := by decide +kernel
theorem dL_holds_36 : decode cL_holds 36 = .ok (.iaload, 1) := by decide +kernel
theorem dL_holds_37 : decode cL_holds 37 = .ok (.if_icmp .ge 320, 3) := by decide +kernel
theorem dL_holds_40 : decode cL_holds 40 = .ok (.iload 4, 2) := by decide +kernel
theorem dL_holds_42 : decode cL_holds 42 = .ok (.ifCond .eq 315, 3) := by decide +kernel
theorem dL_holds_45 : decode cL_holds 45 = .ok (.aload_n 0, 1) := by decide +kernel
theorem dL_holds_46 : decode cL_holds 46 = .ok (.iload 5, 2) := by decide +kernel
theorem dL_holds_48 : decode cL_holds 48 = .ok (.invokestatic 101, 3) := by decide +kernel
theorem dL_holds_51 : decode cL_holds 51 = .ok (.istore 6, 2) := by decide +kernel
theorem dL_holds_53 : decode cL_holds 53 = .ok (.aload_n 0, 1) := by decide +kernel
theorem dL_holds_54 : decode cL_holds 54 = .ok (.iload 5, 2) := by decide +kernel
theorem dL_holds_56 : decode cL_holds 56 = .ok (.invokestatic 99, 3) := by decide +kernel
theorem dL_holds_59 : decode cL_holds 59 = .ok (.istore 7, 2) := by decide +kernel
theorem dL_holds_61 : decode cL_holds 61 = .ok (.iload 6, 2) := by decide +kernel
theorem dL_holds_63 : decode cL_holds 63 = .ok (.ifCond .lt 93, 3) := by decide +kernel
theorem dL_holds_66 : decode cL_holds 66 = .ok (.iload 6, 2) := by decide +kernel
theorem dL_holds_68 : decode cL_holds 68 = .ok (.bipush 40, 2) := by decide +kernel
theorem dL_holds_70 : decode cL_holds 70 = .ok (.if_icmp .gt 86, 3) := by decide +kernel
theorem dL_holds_73 : decode cL_holds 73 = .ok (.iload 7, 2) := by decide +kernel
theorem dL_holds_75 : decode cL_holds 75 = .ok (.iconst (-1), 1) := by decide +kernel
theorem dL_holds_76 : decode cL_holds 76 = .ok (.if_icmp .eq 25, 3) := by decide +kernel
theorem dL_holds_79 : decode cL_holds 79 = .ok (.aload_n 0, 1) := by decide +kernel
theorem dL_holds_80 : decode cL_holds 80 = .ok (.iload 7, 2) := by decide +kernel
theorem dL_holds_82 : decode cL_holds 82 = .ok (.invokestatic 99, 3) := by decide +kernel
theorem dL_holds_85 : decode cL_holds 85 = .ok (.iload 7, 2) := by decide +kernel
theorem dL_holds_87 : decode cL_holds 87 = .ok (.if_icmp .ne 69, 3) := by decide +kernel
theorem dL_holds_90 : decode cL_holds 90 = .ok (.aload_n 0, 1) := by decide +kernel
theorem dL_holds_91 : decode cL_holds 91 = .ok (.iload 7, 2) := by decide +kernel
theorem dL_holds_93 : decode cL_holds 93 = .ok (.invokestatic 101, 3) := by decide +kernel
theorem dL_holds_96 : decode cL_holds 96 = .ok (.iload 6, 2) := by decide +kernel
theorem dL_holds_98 : decode cL_holds 98 = .ok (.if_icmp .ne 58, 3) := by decide +kernel
theorem dL_holds_101 : decode cL_holds 101 = .ok (.aload_n 0, 1) := by decide +kernel
theorem dL_holds_102 : decode cL_holds 102 = .ok (.iload 5, 2) := by decide +kernel
theorem dL_holds_104 : decode cL_holds 104 = .ok (.bipush 20, 2) := by decide +kernel
theorem dL_holds_106 : decode cL_holds 106 = .ok (.invokestatic 108, 3) := by decide +kernel
theorem dL_holds_109 : decode cL_holds 109 = .ok (.iconst 4, 1) := by decide +kernel
theorem dL_holds_110 : decode cL_holds 110 = .ok (.aload_n 0, 1) := by decide +kernel
theorem dL_holds_111 : decode cL_holds 111 = .ok (.iload 5, 2) := by decide +kernel
theorem dL_holds_113 : decode cL_holds 113 = .ok (.iconst 5, 1) := by decide +kernel
theorem dL_holds_114 : decode cL_holds 114 = .ok (.invokestatic 108, 3) := by decide +kernel
theorem dL_holds_117 : decode cL_holds 117 = .ok (.imul, 1) := by decide +kernel
theorem dL_holds_118 : decode cL_holds 118 = .ok (.if_icmp .ne 38, 3) := by decide +kernel
theorem dL_holds_121 : decode cL_holds 121 = .ok (.aload_n 0, 1) := by decide +kernel
theorem dL_holds_122 : decode cL_holds 122 = .ok (.iload 5, 2) := by decide +kernel
theorem dL_holds_124 : decode cL_holds 124 = .ok (.iconst 5, 1) := by decide +kernel
theorem dL_holds_125 : decode cL_holds 125 = .ok (.invokestatic 108, 3) := by decide +kernel
theorem dL_holds_128 : decode cL_holds 128 = .ok (.bipush 10, 2) := by decide +kernel
theorem dL_holds_130 : decode cL_holds 130 = .ok (.iload 6, 2) := by decide +kernel
theorem dL_holds_132 : decode cL_holds 132 = .ok (.imul, 1) := by decide +kernel
theorem dL_holds_133 : decode cL_holds 133 = .ok (.if_icmp .lt 23, 3) := by decide +kernel
theorem dL_holds_136 : decode cL_holds 136 = .ok (.aload_n 0, 1) := by decide +kernel
theorem dL_holds_137 : decode cL_holds 137 = .ok (.iload 5, 2) := by decide +kernel
theorem dL_holds_139 : decode cL_holds 139 = .ok (.iconst 5, 1) := by decide +kernel
theorem dL_holds_140 : decode cL_holds 140 = .ok (.invokestatic 108, 3) := by decide +kernel
theorem dL_holds_143 : decode cL_holds 143 = .ok (.sipush 600, 3) := by decide +kernel
theorem dL_holds_146 : decode cL_holds 146 = .ok (.iload 6, 2) := by decide +kernel
theorem dL_holds_148 : decode cL_holds 148 = .ok (.imul, 1) := by decide +kernel
theorem dL_holds_149 : decode cL_holds 149 = .ok (.if_icmp .gt 7, 3) := by decide +kernel
theorem dL_holds_152 : decode cL_holds 152 = .ok (.iconst 1, 1) := by decide +kernel
theorem dL_holds_153 : decode cL_holds 153 = .ok (.goto 4, 3) := by decide +kernel
theorem dL_holds_156 : decode cL_holds 156 = .ok (.iconst 0, 1) := by decide +kernel
theorem dL_holds_157 : decode cL_holds 157 = .ok (.istore 4, 2) := by decide +kernel
theorem dL_holds_159 : decode cL_holds 159 = .ok (.iload 6, 2) := by decide +kernel
theorem dL_holds_161 : decode cL_holds 161 = .ok (.ifCond .ne 7, 3) := by decide +kernel
theorem dL_holds_164 : decode cL_holds 164 = .ok (.iconst 0, 1) := by decide +kernel
theorem dL_holds_165 : decode cL_holds 165 = .ok (.goto 7, 3) := by decide +kernel
theorem dL_holds_168 : decode cL_holds 168 = .ok (.iload_n 2, 1) := by decide +kernel
theorem dL_holds_169 : decode cL_holds 169 = .ok (.iload 6, 2) := by decide +kernel
theorem dL_holds_171 : decode cL_holds 171 = .ok (.irem, 1) := by decide +kernel
theorem dL_holds_172 : decode cL_holds 172 = .ok (.istore 8, 2) := by decide +kernel
theorem dL_holds_174 : decode cL_holds 174 = .ok (.iload 6, 2) := by decide +kernel
theorem dL_holds_176 : decode cL_holds 176 = .ok (.ifCond .ne 7, 3) := by decide +kernel
theorem dL_holds_179 : decode cL_holds 179 = .ok (.iconst 1, 1) := by decide +kernel
theorem dL_holds_180 : decode cL_holds 180 = .ok (.goto 4, 3) := by decide +kernel
theorem dL_holds_183 : decode cL_holds 183 = .ok (.iconst 0, 1) := by decide +kernel
theorem dL_holds_184 : decode cL_holds 184 = .ok (.istore 9, 2) := by decide +kernel
theorem dL_holds_186 : decode cL_holds 186 = .ok (.iconst 0, 1) := by decide +kernel
theorem dL_holds_187 : decode cL_holds 187 = .ok (.istore 10, 2) := by decide +kernel
theorem dL_holds_189 : decode cL_holds 189 = .ok (.iload 10, 2) := by decide +kernel
theorem dL_holds_191 : decode cL_holds 191 = .ok (.bipush 41, 2) := by decide +kernel
theorem dL_holds_193 : decode cL_holds 193 = .ok (.if_icmp .ge 141, 3) := by decide +kernel
theorem dL_holds_196 : decode cL_holds 196 = .ok (.iload 4, 2) := by decide +kernel
theorem dL_holds_198 : decode cL_holds 198 = .ok (.ifCond .eq 136, 3) := by decide +kernel
theorem dL_holds_201 : decode cL_holds 201 = .ok (.iload 6, 2) := by decide +kernel
theorem dL_holds_203 : decode cL_holds 203 = .ok (.ifCond .le 131, 3) := by decide +kernel
theorem dL_holds_206 : decode cL_holds 206 = .ok (.aload_n 0, 1) := by decide +kernel
theorem dL_holds_207 : decode cL_holds 207 = .ok (.iload 5, 2) := by decide +kernel
theorem dL_holds_209 : decode cL_holds 209 = .ok (.iload 8, 2) := by decide +kernel
theorem dL_holds_211 : decode cL_holds 211 = .ok (.iload 10, 2) := by decide +kernel
theorem dL_holds_213 : decode cL_holds 213 = .ok (.invokestatic 103, 3) := by decide +kernel
theorem dL_holds_216 : decode cL_holds 216 = .ok (.istore 11, 2) := by decide +kernel
theorem dL_holds_218 : decode cL_holds 218 = .ok (.iload 11, 2) := by decide +kernel
theorem dL_holds_220 : decode cL_holds 220 = .ok (.ifCond .lt 88, 3) := by decide +kernel
theorem dL_holds_223 : decode cL_holds 223 = .ok (.iload 11, 2) := by decide +kernel
theorem dL_holds_225 : decode cL_holds 225 = .ok (.iconst 2, 1) := by decide +kernel
theorem dL_holds_226 : decode cL_holds 226 = .ok (.if_icmp .gt 82, 3) := by decide +kernel
theorem dL_holds_229 : decode cL_holds 229 = .ok (.iload 10, 2) := by decide +kernel
theorem dL_holds_231 : decode cL_holds 231 = .ok (.ifCond .gt 8, 3) := by decide +kernel
theorem dL_holds_234 : decode cL_holds 234 = .ok (.iload 11, 2) := by decide +kernel
theorem dL_holds_236 : decode cL_holds 236 = .ok (.ifCond .le 72, 3) := by decide +kernel
theorem dL_holds_239 : decode cL_holds 239 = .ok (.iload 9, 2) := by decide +kernel
theorem dL_holds_241 : decode cL_holds 241 = .ok (.ifCond .eq 8, 3) := by decide +kernel
theorem dL_holds_244 : decode cL_holds 244 = .ok (.iload 11, 2) := by decide +kernel
theorem dL_holds_246 : decode cL_holds 246 = .ok (.ifCond .ne 62, 3) := by decide +kernel
theorem dL_holds_249 : decode cL_holds 249 = .ok (.iload 10, 2) := by decide +kernel
theorem dL_holds_251 : decode cL_holds 251 = .ok (.iconst 4, 1) := by decide +kernel
theorem dL_holds_252 : decode cL_holds 252 = .ok (.irem, 1) := by decide +kernel
theorem dL_holds_253 : decode cL_holds 253 = .ok (.iload_n 2, 1) := by decide +kernel
theorem dL_holds_254 : decode cL_holds 254 = .ok (.iconst 4, 1) := by decide +kernel
theorem dL_holds_255 : decode cL_holds 255 = .ok (.irem, 1) := by decide +kernel
theorem dL_holds_256 : decode cL_holds 256 = .ok (.if_icmp .ne 18, 3) := by decide +kernel
theorem dL_holds_259 : decode cL_holds 259 = .ok (.aload_n 0, 1) := by decide +kernel
theorem dL_holds_260 : decode cL_holds 260 = .ok (.iload 5, 2) := by decide +kernel
theorem dL_holds_262 : decode cL_holds 262 = .ok (.iload 8, 2) := by decide +kernel
theorem dL_holds_264 : decode cL_holds 264 = .ok (.iload 10, 2) := by decide +kernel
theorem dL_holds_266 : decode cL_holds 266 = .ok (.invokestatic 105, 3) := by decide +kernel
theorem dL_holds_269 : decode cL_holds 269 = .ok (.iload 11, 2) := by decide +kernel
theorem dL_holds_271 : decode cL_holds 271 = .ok (.if_icmp .ne 37, 3) := by decide +kernel
theorem dL_holds_274 : decode cL_holds 274 = .ok (.iload 7, 2) := by decide +kernel
theorem dL_holds_276 : decode cL_holds 276 = .ok (.ifCond .lt 28, 3) := by decide +kernel
theorem dL_holds_279 : decode cL_holds 279 = .ok (.iload 10, 2) := by decide +kernel
theorem dL_holds_281 : decode cL_holds 281 = .ok (.iconst 3, 1) := by decide +kernel
theorem dL_holds_282 : decode cL_holds 282 = .ok (.irem, 1) := by decide +kernel
theorem dL_holds_283 : decode cL_holds 283 = .ok (.iload_n 2, 1) := by decide +kernel
theorem dL_holds_284 : decode cL_holds 284 = .ok (.iconst 3, 1) := by decide +kernel
theorem dL_holds_285 : decode cL_holds 285 = .ok (.irem, 1) := by decide +kernel
theorem dL_holds_286 : decode cL_holds 286 = .ok (.if_icmp .ne 18, 3) := by decide +kernel
theorem dL_holds_289 : decode cL_holds 289 = .ok (.aload_n 0, 1) := by decide +kernel
theorem dL_holds_290 : decode cL_holds 290 = .ok (.iload 7, 2) := by decide +kernel
theorem dL_holds_292 : decode cL_holds 292 = .ok (.iload 8, 2) := by decide +kernel
theorem dL_holds_294 : decode cL_holds 294 = .ok (.iload 10, 2) := by decide +kernel
theorem dL_holds_296 : decode cL_holds 296 = .ok (.invokestatic 103, 3) := by decide +kernel
theorem dL_holds_299 : decode cL_holds 299 = .ok (.iload 11, 2) := by decide +kernel
theorem dL_holds_301 : decode cL_holds 301 = .ok (.if_icmp .ne 7, 3) := by decide +kernel
theorem dL_holds_304 : decode cL_holds 304 = .ok (.iconst 1, 1) := by decide +kernel
theorem dL_holds_305 : decode cL_holds 305 = .ok (.goto 4, 3) := by decide +kernel
theorem dL_holds_308 : decode cL_holds 308 = .ok (.iconst 0, 1) := by decide +kernel
theorem dL_holds_309 : decode cL_holds 309 = .ok (.istore 4, 2) := by decide +kernel
theorem dL_holds_311 : decode cL_holds 311 = .ok (.iload 9, 2) := by decide +kernel
theorem dL_holds_313 : decode cL_holds 313 = .ok (.ifCond .ne 8, 3) := by decide +kernel
theorem dL_holds_316 : decode cL_holds 316 = .ok (.iload 11, 2) := by decide +kernel
theorem dL_holds_318 : decode cL_holds 318 = .ok (.ifCond .ne 7, 3) := by decide +kernel
theorem dL_holds_321 : decode cL_holds 321 = .ok (.iconst 1, 1) := by decide +kernel
theorem dL_holds_322 : decode cL_holds 322 = .ok (.goto 4, 3) := by decide +kernel
theorem dL_holds_325 : decode cL_holds 325 = .ok (.iconst 0, 1) := by decide +kernel
theorem dL_holds_326 : decode cL_holds 326 = .ok (.istore 9, 2) := by decide +kernel
theorem dL_holds_328 : decode cL_holds 328 = .ok (.iinc 10 1, 3) := by decide +kernel
theorem dL_holds_331 : decode cL_holds 331 = .ok (.goto (-142), 3) := by decide +kernel
theorem dL_holds_334 : decode cL_holds 334 = .ok (.iload 4, 2) := by decide +kernel
theorem dL_holds_336 : decode cL_holds 336 = .ok (.ifCond .eq 12, 3) := by decide +kernel
theorem dL_holds_339 : decode cL_holds 339 = .ok (.iload 9, 2) := by decide +kernel
theorem dL_holds_341 : decode cL_holds 341 = .ok (.ifCond .eq 7, 3) := by decide +kernel
theorem dL_holds_344 : decode cL_holds 344 = .ok (.iconst 1, 1) := by decide +kernel
theorem dL_holds_345 : decode cL_holds 345 = .ok (.goto 4, 3) := by decide +kernel
theorem dL_holds_348 : decode cL_holds 348 = .ok (.iconst 0, 1) := by decide +kernel
theorem dL_holds_349 : decode cL_holds 349 = .ok (.istore 4, 2) := by decide +kernel
theorem dL_holds_351 : decode cL_holds 351 = .ok (.iinc 5 1, 3) := by decide +kernel
theorem dL_holds_354 : decode cL_holds 354 = .ok (.goto (-322), 3) := by decide +kernel
theorem dL_holds_357 : decode cL_holds 357 = .ok (.iconst 0, 1) := by decide +kernel
theorem dL_holds_358 : decode cL_holds 358 = .ok (.istore 5, 2) := by decide +kernel
theorem dL_holds_360 : decode cL_holds 360 = .ok (.iload 5, 2) := by decide +kernel
theorem dL_holds_362 : decode cL_holds 362 = .ok (.aload_n 1, 1) := by decide +kernel
theorem dL_holds_363 : decode cL_holds 363 = .ok (.iconst 1, 1) := by decide +kernel
theorem dL_holds_364 : decode cL_holds 364 = .ok (.iaload, 1) := by decide +kernel
theorem dL_holds_365 : decode cL_holds 365 = .ok (.if_icmp .ge 30, 3) := by decide +kernel
theorem dL_holds_368 : decode cL_holds 368 = .ok (.iload 4, 2) := by decide +kernel
theorem dL_holds_370 : decode cL_holds 370 = .ok (.ifCond .eq 25, 3) := by decide +kernel
theorem dL_holds_373 : decode cL_holds 373 = .ok (.aload_n 0, 1) := by decide +kernel
theorem dL_holds_374 : decode cL_holds 374 = .ok (.iload 5, 2) := by decide +kernel
theorem dL_holds_376 : decode cL_holds 376 = .ok (.invokestatic 125, 3) := by decide +kernel
theorem dL_holds_379 : decode cL_holds 379 = .ok (.ifCond .lt 7, 3) := by decide +kernel
theorem dL_holds_382 : decode cL_holds 382 = .ok (.iconst 1, 1) := by decide +kernel
theorem dL_holds_383 : decode cL_holds 383 = .ok (.goto 4, 3) := by decide +kernel
theorem dL_holds_386 : decode cL_holds 386 = .ok (.iconst 0, 1) := by decide +kernel
theorem dL_holds_387 : decode cL_holds 387 = .ok (.istore 4, 2) := by decide +kernel
theorem dL_holds_389 : decode cL_holds 389 = .ok (.iinc 5 1, 3) := by decide +kernel
theorem dL_holds_392 : decode cL_holds 392 = .ok (.goto (-32), 3) := by decide +kernel
theorem dL_holds_395 : decode cL_holds 395 = .ok (.iload 4, 2) := by decide +kernel
theorem dL_holds_397 : decode cL_holds 397 = .ok (.ifCond .eq 11, 3) := by decide +kernel
theorem dL_holds_400 : decode cL_holds 400 = .ok (.iload_n 3, 1) := by decide +kernel
theorem dL_holds_401 : decode cL_holds 401 = .ok (.ifCond .ne 7, 3) := by decide +kernel
theorem dL_holds_404 : decode cL_holds 404 = .ok (.iconst 1, 1) := by decide +kernel
theorem dL_holds_405 : decode cL_holds 405 = .ok (.goto 4, 3) := by decide +kernel
theorem dL_holds_408 : decode cL_holds 408 = .ok (.iconst 0, 1) := by decide +kernel
theorem dL_holds_409 : decode cL_holds 409 = .ok (.ireturn, 1) := by decide +kernel
set_option maxRecDepth 20000 in
theorem ggL_ends_L_begins : GoodIn wsL_ends wsL_begins := goodIn_ca (goodIn_ca (goodIn_ca (goodIn_r _ [5, 6, 7, 8, 9, 10, 1, 11, 12, 13, 14, 15, 16, 17, 18, 19, 20, 21, 22, 23, 24, 25, 26, 27, 28, 29, 30, 31, 32, 33, 34, 35, 36, 37, 38, 39, 40, 41, 42, 43, 44, 45, 46, 47, 48, 49, 50, 51, 52, 53, 54, 55, 56, 57, 58, 59, 60, 61, 62, 63, 64, 65, 66, 67, 68, 69, 70, 71, 72, 73, 74, 75, 76, 77, 78, 79, 80, 81, 82, 83, 84, 85, 86, 87, 88, 89, 90, 91, 92, 93, 94, 95, 96, 97, 98, 99, 100, 101, 102, 103, 104, 105, 106, 107, 108, 109, 110, 111, 112, 113, 114, 115, 116, 117, 118, 119, 120, 121, 122, 123, 124, 125, 126, 127, 128, 129, 130, 131, 132, 133, 134, 135, 136, 137, 138, 139, 140, 141, 381, 382, 383, 384, 385, 386, 387, 388, 389, 390, 391, 392, 393, 394, 395, 396, 397, 398, 399, 400, 401, 402, 403, 404, 405, 406, 407] (by decide +kernel) (by decide +kernel)) (goodIn_sub (fun _ h => List.mem_cons_of_mem _ (List.mem_append_left _ (List.mem_append_left _ (List.mem_append_right _ h)))) (by decide +kernel))) (goodIn_sub (fun _ h => List.mem_cons_of_mem _ (List.mem_append_left _ (List.mem_append_right _ h))) (by decide +kernel))) (goodIn_sub (fun _ h => List.mem_cons_of_mem _ (List.mem_append_right _ h)) (by decide +kernel))
set_option maxRecDepth 20000 in
theorem gL_ends_L_begins : GoodIn wsL_ends (va_wsS RL 81 yL_begins wsL_begins) := goodIn_app (goodIn_of _ (by decide +kernel)) ggL_ends_L_begins
set_option maxRecDepth 20000 in
theorem ggL_ends_L_lines : GoodIn wsL_ends wsL_lines := goodIn_ca (goodIn_ca (goodIn_ca (goodIn_r _ [144, 6, 7, 8, 9, 10, 1, 145, 146, 147, 14, 148, 25, 26, 31, 32, 149, 150, 151, 152, 153, 154, 20, 21, 33, 155, 34, 35, 36, 37, 38, 39, 156, 157, 158, 159, 160, 161, 162, 163, 164, 165, 166, 167, 168, 169, 170, 171, 94, 22, 23, 24, 172, 173, 174, 46, 175, 55, 176, 177, 178, 179, 64, 68, 180, 181, 182, 183, 184, 185, 186, 187, 63, 188, 78, 74, 75, 76, 77, 189, 190, 191, 67, 192, 84, 86, 87, 193, 194, 195, 196, 85, 197, 198, 199, 200, 201, 202, 109, 110, 111, 203, 136, 137, 381, 382, 383, 384, 385, 386, 387, 388, 389, 404, 405, 406, 407, 390, 391, 392, 393, 394, 395, 396, 397, 398, 399, 400, 401, 402, 403] (by decide +kernel) (by decide +kernel)) (goodIn_sub (fun _ h => List.mem_cons_of_mem _ (List.mem_append_left _ (List.mem_append_right _ h))) (by decide +kernel))) (goodIn_sub (fun _ h => List.mem_cons_of_mem _ (List.mem_append_right _ h)) (by decide +kernel))) (goodIn_sub (fun _ h => List.mem_cons_of_mem _ (List.mem_append_left _ (List.mem_append_left _ (List.mem_append_right _ h)))) (by decide +kernel))
set_option maxRecDepth 20000 in
theorem gL_ends_L_lines : GoodIn wsL_ends (va_wsS RL 87 yL_lines wsL_lines) := goodIn_app (goodIn_of _ (by decide +kernel)) ggL_ends_L_lines
set_option maxRecDepth 20000 in
theorem ggL_ends_L_publishes : GoodIn wsL_ends wsL_publishes := goodIn_ca (goodIn_ca (goodIn_r _ [206, 6, 8, 9, 1, 207, 208, 209, 14, 210, 31, 32, 211, 212, 16, 151, 152, 153, 154, 20, 21, 33, 155, 34, 35, 36, 37, 38, 39, 156, 157, 158, 159, 160, 161, 162, 163, 164, 165, 166, 167, 168, 169, 170, 171, 94, 172, 173, 174, 46, 175, 55, 213, 214, 215, 216, 64, 217, 218, 219, 220, 149, 221, 222, 223, 67, 224, 84, 85, 88, 89, 90, 91, 92, 93, 95, 96, 97, 98, 99, 100, 101, 102, 103, 104, 105, 106, 107, 108, 109, 110, 111, 112, 113, 114, 115, 116, 117, 118, 119, 120, 121, 122, 123, 124, 125, 126, 127, 128, 129, 130, 131, 132, 133, 134, 135, 136, 137, 138, 139, 140, 141, 381, 382, 383, 384, 385, 386, 387, 388, 389, 390, 391, 392, 393, 394, 395, 396, 397, 398, 399, 400, 401, 402, 403, 404, 405, 406, 407] (by decide +kernel) (by decide +kernel)) (goodIn_sub (fun _ h => List.mem_cons_of_mem _ (List.mem_append_right _ h)) (by decide +kernel))) (goodIn_sub (fun _ h => List.mem_cons_of_mem _ (List.mem_append_left _ (List.mem_append_left _ (List.mem_append_right _ h)))) (by decide +kernel))
set_option maxRecDepth 20000 in
theorem gL_ends_L_publishes : GoodIn wsL_ends (va_wsS RL 95 yL_publishes wsL_publishes) := goodIn_app (goodIn_of _ (by decide +kernel)) ggL_ends_L_publishes
set_option maxRecDepth 20000 in
theorem ggL_ends_L_original : GoodIn wsL_ends wsL_original := goodIn_ca (goodIn_r _ [227, 6, 9, 228, 229, 230, 14, 231, 211, 16, 151, 152, 153, 154, 20, 21, 33, 155, 34, 35, 36, 37, 38, 39, 156, 157, 158, 159, 160, 161, 162, 163, 164, 165, 166, 167, 168, 169, 170, 171, 94, 381, 382, 383, 384, 385, 386, 387, 388, 389, 390, 391, 392, 393, 394, 395, 396, 397] (by decide +kernel) (by decide +kernel)) (goodIn_sub (fun _ h => List.mem_cons_of_mem _ (List.mem_append_left _ (List.mem_append_left _ (List.mem_append_right _ h)))) (by decide +kernel))
set_option maxRecDepth 20000 in
theorem gL_ends_L_original : GoodIn wsL_ends (va_wsS RL 99 yL_original wsL_original) := goodIn_app (goodIn_of _ (by decide +kernel)) ggL_ends_L_original
set_option maxRecDepth 20000 in
theorem ggL_ends_L_money : GoodIn wsL_ends wsL_money := goodIn_ca (goodIn_r _ [234, 6, 9, 235, 236, 237, 14, 238, 239, 17, 18, 19, 20, 21, 390, 391, 392, 393, 394] (by decide +kernel) (by decide +kernel)) (goodIn_sub (fun _ h => List.mem_cons_of_mem _ (List.mem_append_left _ (List.mem_append_left _ (List.mem_append_right _ h)))) (by decide +kernel))
set_option maxRecDepth 20000 in
theorem gL_ends_L_money : GoodIn wsL_ends (va_wsS RL 116 yL_money wsL_money) := goodIn_app (goodIn_of _ (by decide +kernel)) ggL_ends_L_money
set_option maxRecDepth 20000 in
theorem ggL_ends_L_need : GoodIn wsL_ends wsL_need := goodIn_ca (goodIn_ca (goodIn_r _ [242, 6, 7, 9, 10, 243, 244, 245, 14, 246, 149, 151, 152, 153, 154, 20, 21, 33, 155, 34, 35, 36, 37, 38, 39, 156, 157, 158, 159, 160, 161, 162, 163, 164, 165, 166, 167, 168, 169, 170, 171, 94, 247, 248, 249, 22, 23, 24, 25, 26, 250, 251, 252, 67, 253, 84, 86, 381, 382, 383, 384, 385, 386, 387, 388, 389, 390, 391, 392, 393, 394, 395, 396, 397, 404, 405, 406, 407] (by decide +kernel) (by decide +kernel)) (goodIn_sub (fun _ h => List.mem_cons_of_mem _ (List.mem_append_left _ (List.mem_append_left _ (List.mem_append_right _ h)))) (by decide +kernel))) (goodIn_sub (fun _ h => List.mem_cons_of_mem _ (List.mem_append_left _ (List.mem_append_right _ h))) (by decide +kernel))
set_option maxRecDepth 20000 in
theorem gL_ends_L_need : GoodIn wsL_ends (va_wsS RL 108 yL_need wsL_need) := goodIn_app (goodIn_of _ (by decide +kernel)) ggL_ends_L_need
set_option maxRecDepth 20000 in
theorem ggL_ends_L_buys : GoodIn wsL_ends wsL_buys := goodIn_ca (goodIn_ca (goodIn_r _ [256, 6, 8, 9, 1, 257, 258, 259, 14, 260, 31, 32, 261, 262, 263, 264, 239, 265, 151, 152, 153, 154, 20, 21, 33, 155, 34, 35, 36, 37, 38, 39, 156, 157, 158, 159, 160, 161, 162, 163, 164, 165, 166, 167, 168, 169, 170, 171, 94, 17, 18, 19, 172, 173, 174, 46, 175, 55, 266, 267, 268, 269, 59, 54, 381, 382, 383, 384, 385, 386, 387, 388, 389, 390, 391, 392, 393, 394, 395, 396, 397] (by decide +kernel) (by decide +kernel)) (goodIn_sub (fun _ h => List.mem_cons_of_mem _ (List.mem_append_right _ h)) (by decide +kernel))) (goodIn_sub (fun _ h => List.mem_cons_of_mem _ (List.mem_append_left _ (List.mem_append_left _ (List.mem_append_right _ h)))) (by decide +kernel))
set_option maxRecDepth 20000 in
theorem gL_ends_L_buys : GoodIn wsL_ends (va_wsS RL 110 yL_buys wsL_buys) := goodIn_app (goodIn_of _ (by decide +kernel)) ggL_ends_L_buys
set_option maxRecDepth 20000 in
theorem ggL_ends_L_rules : GoodIn wsL_ends wsL_rules := goodIn_ca (goodIn_ca (goodIn_r _ [272, 6, 8, 9, 1, 273, 274, 275, 14, 276, 31, 32, 211, 265, 261, 239, 263, 151, 152, 153, 154, 20, 21, 33, 155, 34, 35, 36, 37, 38, 39, 156, 157, 158, 159, 160, 161, 162, 163, 164, 165, 166, 167, 168, 169, 170, 171, 94, 381, 382, 383, 384, 385, 386, 387, 388, 389, 390, 391, 392, 393, 394, 395, 396, 397] (by decide +kernel) (by decide +kernel)) (goodIn_sub (fun _ h => List.mem_cons_of_mem _ (List.mem_append_right _ h)) (by decide +kernel))) (goodIn_sub (fun _ h => List.mem_cons_of_mem _ (List.mem_append_left _ (List.mem_append_left _ (List.mem_append_right _ h)))) (by decide +kernel))
set_option maxRecDepth 20000 in
theorem gL_ends_L_rules : GoodIn wsL_ends (va_wsS RL 113 yL_rules wsL_rules) := goodIn_app (goodIn_of _ (by decide +kernel)) ggL_ends_L_rules
set_option maxRecDepth 20000 in
theorem ggL_ends_L_lots : GoodIn wsL_ends wsL_lots := goodIn_ca (goodIn_ca (goodIn_ca (goodIn_r _ [279, 6, 7, 8, 9, 10, 1, 280, 281, 282, 14, 283, 31, 32, 284, 285, 286, 287, 288, 17, 18, 19, 20, 21, 247, 248, 249, 22, 23, 24, 25, 26, 34, 35, 36, 37, 38, 39, 289, 290, 291, 292, 51, 52, 293, 294, 295, 296, 88, 89, 90, 91, 92, 93, 94, 95, 96, 97, 98, 99, 100, 101, 102, 103, 104, 105, 106, 107, 108, 109, 110, 111, 112, 113, 114, 115, 116, 117, 118, 119, 120, 121, 122, 123, 124, 125, 126, 127, 128, 129, 130, 131, 132, 133, 134, 135, 136, 137, 138, 139, 140, 141, 390, 391, 392, 393, 394, 408, 409, 410, 411, 395, 396, 397] (by decide +kernel) (by decide +kernel)) (goodIn_sub (fun _ h => List.mem_cons_of_mem _ (List.mem_append_right _ h)) (by decide +kernel))) (goodIn_sub (fun _ h => List.mem_cons_of_mem _ (List.mem_append_left _ (List.mem_append_left _ (List.mem_append_right _ h)))) (by decide +kernel))) (goodIn_sub (fun _ h => List.mem_cons_of_mem _ (List.mem_append_left _ (List.mem_append_right _ h))) (by decide +kernel))
set_option maxRecDepth 20000 in
theorem gL_ends_L_lots : GoodIn wsL_ends (va_wsS RL 118 yL_lots wsL_lots) := goodIn_app (goodIn_of _ (by decide +kernel)) ggL_ends_L_lots
set_option maxRecDepth 20000 in
theorem ggL_ends_L_projects : GoodIn wsL_ends wsL_projects := goodIn_ca (goodIn_ca (goodIn_r _ [299, 6, 8, 9, 1, 300, 301, 302, 14, 303, 31, 32, 304, 305, 306, 307, 308, 17, 18, 19, 20, 21, 151, 152, 153, 154, 33, 155, 34, 35, 36, 37, 38, 39, 156, 157, 158, 159, 160, 161, 162, 163, 164, 165, 166, 167, 168, 169, 170, 171, 94, 309, 310, 311, 312, 285, 313, 172, 173, 174, 46, 175, 55, 266, 267, 268, 269, 59, 54, 314, 315, 316, 317, 51, 52, 318, 319, 320, 321, 88, 89, 90, 91, 92, 93, 95, 96, 97, 98, 99, 100, 101, 102, 103, 104, 105, 106, 107, 108, 109, 110, 111, 112, 113, 114, 115, 116, 117, 118, 119, 120, 121, 122, 123, 124, 125, 126, 127, 128, 129, 130, 131, 132, 133, 134, 135, 136, 137, 138, 139, 140, 141, 390, 391, 392, 393, 394, 408, 409, 410, 411, 412, 413, 414, 415, 395, 396, 397, 381, 382, 383, 384, 385, 386, 387, 388, 389] (by decide +kernel) (by decide +kernel)) (goodIn_sub (fun _ h => List.mem_cons_of_mem _ (List.mem_append_right _ h)) (by decide +kernel))) (goodIn_sub (fun _ h => List.mem_cons_of_mem _ (List.mem_append_left _ (List.mem_append_left _ (List.mem_append_right _ h)))) (by decide +kernel))
set_option maxRecDepth 20000 in
theorem gL_ends_L_projects : GoodIn wsL_ends (va_wsS RL 127 yL_projects wsL_projects) := goodIn_app (goodIn_of _ (by decide +kernel)) ggL_ends_L_projects
set_option maxRecDepth 20000 in
theorem ggL_ends_L_left : GoodIn wsL_ends wsL_left := goodIn_ca (goodIn_r _ [324, 6, 9, 325, 326, 327, 14, 328, 329, 309, 310, 311, 312, 20, 21, 285, 313, 34, 35, 36, 37, 38, 39, 156, 157, 158, 159, 160, 161, 162, 163, 164, 165, 166, 167, 168, 169, 170, 171, 94, 408, 409, 410, 411, 390, 391, 392, 393, 394, 395, 396, 397] (by decide +kernel) (by decide +kernel)) (goodIn_sub (fun _ h => List.mem_cons_of_mem _ (List.mem_append_left _ (List.mem_append_left _ (List.mem_append_right _ h)))) (by decide +kernel))
set_option maxRecDepth 20000 in
theorem gL_ends_L_left : GoodIn wsL_ends (va_wsS RL 125 yL_left wsL_left) := goodIn_app (goodIn_of _ (by decide +kernel)) ggL_ends_L_left
set_option maxRecDepth 20000 in
theorem ggL_ends_L_knits : GoodIn wsL_ends wsL_knits := goodIn_ca (goodIn_ca (goodIn_r _ [332, 6, 7, 9, 10, 333, 334, 335, 14, 336, 337, 338, 339, 340, 20, 21, 304, 341, 34, 35, 36, 37, 38, 39, 156, 157, 158, 159, 160, 161, 162, 163, 164, 165, 166, 167, 168, 169, 170, 171, 94, 22, 23, 24, 25, 26, 342, 343, 344, 308, 345, 321, 346, 318, 347, 348, 349, 350, 320, 351, 352, 353, 319, 354, 355, 356, 357, 358, 359, 360, 361, 67, 362, 86, 390, 391, 392, 393, 394, 395, 396, 397, 412, 413, 414, 415, 408, 409, 410, 411, 381, 382, 383, 384, 385, 386, 387, 388, 389, 404, 405, 406, 407] (by decide +kernel) (by decide +kernel)) (goodIn_sub (fun _ h => List.mem_cons_of_mem _ (List.mem_append_left _ (List.mem_append_left _ (List.mem_append_right _ h)))) (by decide +kernel))) (goodIn_sub (fun _ h => List.mem_cons_of_mem _ (List.mem_append_left _ (List.mem_append_right _ h))) (by decide +kernel))
set_option maxRecDepth 20000 in
theorem gL_ends_L_knits : GoodIn wsL_ends (va_wsS RL 133 yL_knits wsL_knits) := goodIn_app (goodIn_of _ (by decide +kernel)) ggL_ends_L_knits
set_option maxRecDepth 20000 in
theorem ggL_ends_L_progress : GoodIn wsL_ends wsL_progress := goodIn_ca (goodIn_r _ [365, 6, 9, 366, 367, 368, 14, 369, 370, 337, 338, 339, 340, 20, 21, 304, 341, 34, 35, 36, 37, 38, 39, 156, 157, 158, 159, 160, 161, 162, 163, 164, 165, 166, 167, 168, 169, 170, 171, 94, 412, 413, 414, 415, 390, 391, 392, 393, 394, 395, 396, 397] (by decide +kernel) (by decide +kernel)) (goodIn_sub (fun _ h => List.mem_cons_of_mem _ (List.mem_append_left _ (List.mem_append_left _ (List.mem_append_right _ h)))) (by decide +kernel))
set_option maxRecDepth 20000 in
theorem gL_ends_L_progress : GoodIn wsL_ends (va_wsS RL 136 yL_progress wsL_progress) := goodIn_app (goodIn_of _ (by decide +kernel)) ggL_ends_L_progress
set_option maxRecDepth 20000 in
theorem ggL_ends_L_takes : GoodIn wsL_ends wsL_takes := goodIn_ca (goodIn_ca (goodIn_r _ [373, 6, 8, 9, 1, 374, 375, 376, 14, 377, 31, 32, 305, 378, 379, 380, 337, 338, 339, 340, 20, 21, 304, 341, 34, 35, 36, 37, 38, 39, 156, 157, 158, 159, 160, 161, 162, 163, 164, 165, 166, 167, 168, 169, 170, 171, 94, 309, 310, 311, 312, 285, 313, 408, 409, 410, 411, 412, 413, 414, 415, 390, 391, 392, 393, 394, 395, 396, 397] (by decide +kernel) (by decide +kernel)) (goodIn_sub (fun _ h => List.mem_cons_of_mem _ (List.mem_append_right _ h)) (by decide +kernel))) (goodIn_sub (fun _ h => List.mem_cons_of_mem _ (List.mem_append_left _ (List.mem_append_left _ (List.mem_append_right _ h)))) (by decide +kernel))
set_option maxRecDepth 20000 in
theorem gL_ends_L_takes : GoodIn wsL_ends (va_wsS RL 130 yL_takes wsL_takes) := goodIn_app (goodIn_of _ (by decide +kernel)) ggL_ends_L_takes
theorem dL_ends_0 : decode cL_ends 0 = .ok (.aload_n 1, 1) := by decide +kernel
theorem dL_ends_1 : decode cL_ends 1 = .ok (.iconst 0, 1) := by decide +kernel
theorem dL_ends_2 : decode cL_ends 2 = .ok (.iaload, 1) := by decide +kernel
theorem dL_ends_3 : decode cL_ends 3 = .ok (.bipush 14, 2) := by decide +kernel
theorem dL_ends_5 : decode cL_ends 5 = .ok (.if_icmp .gt 19, 3) := by decide +kernel
theorem dL_ends_8 : decode cL_ends 8 = .ok (.aload_n 1, 1) := by decide +kernel
theorem dL_ends_9 : decode cL_ends 9 = .ok (.iconst 1, 1) := by decide +kernel
theorem dL_ends_10 : decode cL_ends 10 = .ok (.iaload, 1) := by decide +kernel
theorem dL_ends_11 : decode cL_ends 11 = .ok (.bipush 19, 2) := by decide +kernel
theorem dL_ends_13 : decode cL_ends 13 = .ok (.if_icmp .gt 11, 3) := by decide +kernel
theorem dL_ends_16 : decode cL_ends 16 = .ok (.aload_n 1, 1) := by decide +kernel
theorem dL_ends_17 : decode cL_ends 17 = .ok (.iconst 2, 1) := by decide +kernel
theorem dL_ends_18 : decode cL_ends 18 = .ok (.iaload, 1) := by decide +kernel
theorem dL_ends_19 : decode cL_ends 19 = .ok (.bipush 11, 2) := by decide +kernel
theorem dL_ends_21 : decode cL_ends 21 = .ok (.if_icmp .le 5, 3) := by decide +kernel
theorem dL_ends_24 : decode cL_ends 24 = .ok (.iconst 1, 1) := by decide +kernel
theorem dL_ends_25 : decode cL_ends 25 = .ok (.ireturn, 1) := by decide +kernel
theorem dL_ends_26 : decode cL_ends 26 = .ok (.aload_n 1, 1) := by decide +kernel
theorem dL_ends_27 : decode cL_ends 27 = .ok (.iconst 0, 1) := by decide +kernel
theorem dL_ends_28 : decode cL_ends 28 = .ok (.iaload, 1) := by decide +kernel
theorem dL_ends_29 : decode cL_ends 29 = .ok (.istore_n 3, 1) := by decide +kernel
theorem dL_ends_30 : decode cL_ends 30 = .ok (.iconst 1, 1) := by decide +kernel
theorem dL_ends_31 : decode cL_ends 31 = .ok (.iload_n 2, 1) := by decide +kernel
theorem dL_ends_32 : decode cL_ends 32 = .ok (.bipush 20, 2) := by decide +kernel
theorem dL_ends_34 : decode cL_ends 34 = .ok (.irem, 1) := by decide +kernel
theorem dL_ends_35 : decode cL_ends 35 = .ok (.iadd, 1) := by decide +kernel
theorem dL_ends_36 : decode cL_ends 36 = .ok (.istore 4, 2) := by decide +kernel
theorem dL_ends_38 : decode cL_ends 38 = .ok (.iload_n 2, 1) := by decide +kernel
theorem dL_ends_39 : decode cL_ends 39 = .ok (.bipush 20, 2) := by decide +kernel
theorem dL_ends_41 : decode cL_ends 41 = .ok (.idiv, 1) := by decide +kernel
theorem dL_ends_42 : decode cL_ends 42 = .ok (.iconst 3, 1) := by decide +kernel
theorem dL_ends_43 : decode cL_ends 43 = .ok (.irem, 1) := by decide +kernel
theorem dL_ends_44 : decode cL_ends 44 = .ok (.istore 5, 2) := by decide +kernel
theorem dL_ends_46 : decode cL_ends 46 = .ok (.iconst 1, 1) := by decide +kernel
theorem dL_ends_47 : decode cL_ends 47 = .ok (.iload_n 2, 1) := by decide +kernel
theorem dL_ends_48 : decode cL_ends 48 = .ok (.bipush 60, 2) := by decide +kernel
theorem dL_ends_50 : decode cL_ends 50 = .ok (.idiv, 1) := by decide +kernel
theorem dL_ends_51 : decode cL_ends 51 = .ok (.bipush 12, 2) := by decide +kernel
theorem dL_ends_53 : decode cL_ends 53 = .ok (.irem, 1) := by decide +kernel
theorem dL_ends_54 : decode cL_ends 54 = .ok (.iadd, 1) := by decide +kernel
theorem dL_ends_55 : decode cL_ends 55 = .ok (.istore 6, 2) := by decide +kernel
theorem dL_ends_57 : decode cL_ends 57 = .ok (.aload_n 0, 1) := by decide +kernel
theorem dL_ends_58 : decode cL_ends 58 = .ok (.iconst 1, 1) := by decide +kernel
theorem dL_ends_59 : decode cL_ends 59 = .ok (.iload 4, 2) := by decide +kernel
theorem dL_ends_61 : decode cL_ends 61 = .ok (.bipush 40, 2) := by decide +kernel
theorem dL_ends_63 : decode cL_ends 63 = .ok (.invokestatic 81, 3) := by decide +kernel
theorem dL_ends_66 : decode cL_ends 66 = .ok (.iload_n 3, 1) := by decide +kernel
theorem dL_ends_67 : decode cL_ends 67 = .ok (.if_icmp .ne 22, 3) := by decide +kernel
theorem dL_ends_70 : decode cL_ends 70 = .ok (.aload_n 0, 1) := by decide +kernel
theorem dL_ends_71 : decode cL_ends 71 = .ok (.iconst 2, 1) := by decide +kernel
theorem dL_ends_72 : decode cL_ends 72 = .ok (.iload 4, 2) := by decide +kernel
theorem dL_ends_74 : decode cL_ends 74 = .ok (.bipush 60, 2) := by decide +kernel
theorem dL_ends_76 : decode cL_ends 76 = .ok (.invokestatic 81, 3) := by decide +kernel
theorem dL_ends_79 : decode cL_ends 79 = .ok (.iload_n 3, 1) := by decide +kernel
theorem dL_ends_80 : decode cL_ends 80 = .ok (.iconst 1, 1) := by decide +kernel
theorem dL_ends_81 : decode cL_ends 81 = .ok (.iadd, 1) := by decide +kernel
theorem dL_ends_82 : decode cL_ends 82 = .ok (.if_icmp .ne 7, 3) := by decide +kernel
theorem dL_ends_85 : decode cL_ends 85 = .ok (.iconst 1, 1) := by decide +kernel
theorem dL_ends_86 : decode cL_ends 86 = .ok (.goto 4, 3) := by decide +kernel
theorem dL_ends_89 : decode cL_ends 89 = .ok (.iconst 0, 1) := by decide +kernel
theorem dL_ends_90 : decode cL_ends 90 = .ok (.istore 7, 2) := by decide +kernel
theorem dL_ends_92 : decode cL_ends 92 = .ok (.iload_n 3, 1) := by decide +kernel
theorem dL_ends_93 : decode cL_ends 93 = .ok (.istore 8, 2) := by decide +kernel
theorem dL_ends_95 : decode cL_ends 95 = .ok (.iload 8, 2) := by decide +kernel
theorem dL_ends_97 : decode cL_ends 97 = .ok (.iload_n 3, 1) := by decide +kernel
theorem dL_ends_98 : decode cL_ends 98 = .ok (.iconst 2, 1) := by decide +kernel
theorem dL_ends_99 : decode cL_ends 99 = .ok (.iadd, 1) := by decide +kernel
theorem dL_ends_100 : decode cL_ends 100 = .ok (.if_icmp .ge 56, 3) := by decide +kernel
theorem dL_ends_103 : decode cL_ends 103 = .ok (.iload 7, 2) := by decide +kernel
theorem dL_ends_105 : decode cL_ends 105 = .ok (.ifCond .eq 51, 3) := by decide +kernel
theorem dL_ends_108 : decode cL_ends 108 = .ok (.aload_n 0, 1) := by decide +kernel
theorem dL_ends_109 : decode cL_ends 109 = .ok (.iload 8, 2) := by decide +kernel
theorem dL_ends_111 : decode cL_ends 111 = .ok (.iconst 2, 1) := by decide +kernel
theorem dL_ends_112 : decode cL_ends 112 = .ok (.iload 5, 2) := by decide +kernel
theorem dL_ends_114 : decode cL_ends 114 = .ok (.iconst 1, 1) := by decide +kernel
theorem dL_ends_115 : decode cL_ends 115 = .ok (.iload 6, 2) := by decide +kernel
theorem dL_ends_117 : decode cL_ends 117 = .ok (.invokestatic 87, 3) := by decide +kernel
theorem dL_ends_120 : decode cL_ends 120 = .ok (.iload 6, 2) := by decide +kernel
theorem dL_ends_122 : decode cL_ends 122 = .ok (.if_icmp .ne 25, 3) := by decide +kernel
theorem dL_ends_125 : decode cL_ends 125 = .ok (.aload_n 0, 1) := by decide +kernel
theorem dL_ends_126 : decode cL_ends 126 = .ok (.iload 8, 2) := by decide +kernel
theorem dL_ends_128 : decode cL_ends 128 = .ok (.iconst 1, 1) := by decide +kernel
theorem dL_ends_129 : decode cL_ends 129 = .ok (.iconst 1, 1) := by decide +kernel
theorem dL_ends_130 : decode cL_ends 130 = .ok (.iconst (-1), 1) := by decide +kernel
theorem dL_ends_131 : decode cL_ends 131 = .ok (.iload 6, 2) := by decide +kernel
theorem dL_ends_133 : decode cL_ends 133 = .ok (.invokestatic 87, 3) := by decide +kernel
theorem dL_ends_136 : decode cL_ends 136 = .ok (.iconst 2, 1) := by decide +kernel
theorem dL_ends_137 : decode cL_ends 137 = .ok (.iload 6, 2) := by decide +kernel
theorem dL_ends_139 : decode cL_ends 139 = .ok (.imul, 1) := by decide +kernel
theorem dL_ends_140 : decode cL_ends 140 = .ok (.if_icmp .ne 7, 3) := by decide +kernel
theorem dL_ends_143 : decode cL_ends 143 = .ok (.iconst 1, 1) := by decide +kernel
theorem dL_ends_144 : decode cL_ends 144 = .ok (.goto 4, 3) := by decide +kernel
theorem dL_ends_147 : decode cL_ends 147 = .ok (.iconst 0, 1) := by decide +kernel
theorem dL_ends_148 : decode cL_ends 148 = .ok (.istore 7, 2) := by decide +kernel
theorem dL_ends_150 : decode cL_ends 150 = .ok (.iinc 8 1, 3) := by decide +kernel
theorem dL_ends_153 : decode cL_ends 153 = .ok (.goto (-58), 3) := by decide +kernel
theorem dL_ends_156 : decode cL_ends 156 = .ok (.aload_n 0, 1) := by decide +kernel
theorem dL_ends_157 : decode cL_ends 157 = .ok (.iload_n 3, 1) := by decide +kernel
theorem dL_ends_158 : decode cL_ends 158 = .ok (.invokestatic 95, 3) := by decide +kernel
theorem dL_ends_161 : decode cL_ends 161 = .ok (.istore 8, 2) := by decide +kernel
theorem dL_ends_163 : decode cL_ends 163 = .ok (.iload 7, 2) := by decide +kernel
theorem dL_ends_165 : decode cL_ends 165 = .ok (.ifCond .eq 42, 3) := by decide +kernel
theorem dL_ends_168 : decode cL_ends 168 = .ok (.iload 8, 2) := by decide +kernel
theorem dL_ends_170 : decode cL_ends 170 = .ok (.ifCond .lt 37, 3) := by decide +kernel
theorem dL_ends_173 : decode cL_ends 173 = .ok (.iload 8, 2) := by decide +kernel
theorem dL_ends_175 : decode cL_ends 175 = .ok (.iload_n 3, 1) := by decide +kernel
theorem dL_ends_176 : decode cL_ends 176 = .ok (.if_icmp .gt 31, 3) := by decide +kernel
theorem dL_ends_179 : decode cL_ends 179 = .ok (.aload_n 0, 1) := by decide +kernel
theorem dL_ends_180 : decode cL_ends 180 = .ok (.iload_n 3, 1) := by decide +kernel
theorem dL_ends_181 : decode cL_ends 181 = .ok (.iconst 1, 1) := by decide +kernel
theorem dL_ends_182 : decode cL_ends 182 = .ok (.iadd, 1) := by decide +kernel
theorem dL_ends_183 : decode cL_ends 183 = .ok (.invokestatic 95, 3) := by decide +kernel
theorem dL_ends_186 : decode cL_ends 186 = .ok (.iload 8, 2) := by decide +kernel
theorem dL_ends_188 : decode cL_ends 188 = .ok (.if_icmp .ne 19, 3) := by decide +kernel
theorem dL_ends_191 : decode cL_ends 191 = .ok (.aload_n 0, 1) := by decide +kernel
theorem dL_ends_192 : decode cL_ends 192 = .ok (.iload_n 3, 1) := by decide +kernel
theorem dL_ends_193 : decode cL_ends 193 = .ok (.iconst 1, 1) := by decide +kernel
theorem dL_ends_194 : decode cL_ends 194 = .ok (.iadd, 1) := by decide +kernel
theorem dL_ends_195 : decode cL_ends 195 = .ok (.invokestatic 99, 3) := by decide +kernel
theorem dL_ends_198 : decode cL_ends 198 = .ok (.iload 8, 2) := by decide +kernel
theorem dL_ends_200 : decode cL_ends 200 = .ok (.if_icmp .ne 7, 3) := by decide +kernel
theorem dL_ends_203 : decode cL_ends 203 = .ok (.iconst 1, 1) := by decide +kernel
theorem dL_ends_204 : decode cL_ends 204 = .ok (.goto 4, 3) := by decide +kernel
theorem dL_ends_207 : decode cL_ends 207 = .ok (.iconst 0, 1) := by decide +kernel
theorem dL_ends_208 : decode cL_ends 208 = .ok (.istore 7, 2) := by decide +kernel
theorem dL_ends_210 : decode cL_ends 210 = .ok (.aload_n 0, 1) := by decide +kernel
theorem dL_ends_211 : decode cL_ends 211 = .ok (.iconst 2, 1) := by decide +kernel
theorem dL_ends_212 : decode cL_ends 212 = .ok (.invokestatic 116, 3) := by decide +kernel
theorem dL_ends_215 : decode cL_ends 215 = .ok (.istore 9, 2) := by decide +kernel
theorem dL_ends_217 : decode cL_ends 217 = .ok (.aload_n 0, 1) := by decide +kernel
theorem dL_ends_218 : decode cL_ends 218 = .ok (.iload_n 3, 1) := by decide +kernel
theorem dL_ends_219 : decode cL_ends 219 = .ok (.iconst 5, 1) := by decide +kernel
theorem dL_ends_220 : decode cL_ends 220 = .ok (.invokestatic 108, 3) := by decide +kernel
theorem dL_ends_223 : decode cL_ends 223 = .ok (.istore 10, 2) := by decide +kernel
theorem dL_ends_225 : decode cL_ends 225 = .ok (.iload 7, 2) := by decide +kernel
theorem dL_ends_227 : decode cL_ends 227 = .ok (.ifCond .eq 36, 3) := by decide +kernel
theorem dL_ends_230 : decode cL_ends 230 = .ok (.aload_n 0, 1) := by decide +kernel
theorem dL_ends_231 : decode cL_ends 231 = .ok (.iload_n 3, 1) := by decide +kernel
theorem dL_ends_232 : decode cL_ends 232 = .ok (.iconst 1, 1) := by decide +kernel
theorem dL_ends_233 : decode cL_ends 233 = .ok (.iadd, 1) := by decide +kernel
theorem dL_ends_234 : decode cL_ends 234 = .ok (.iconst 3, 1) := by decide +kernel
theorem dL_ends_235 : decode cL_ends 235 = .ok (.invokestatic 110, 3) := by decide +kernel
theorem dL_ends_238 : decode cL_ends 238 = .ok (.iload 9, 2) := by decide +kernel
theorem dL_ends_240 : decode cL_ends 240 = .ok (.bipush 60, 2) := by decide +kernel
theorem dL_ends_242 : decode cL_ends 242 = .ok (.iadd, 1) := by decide +kernel
theorem dL_ends_243 : decode cL_ends 243 = .ok (.if_icmp .ne 20, 3) := by decide +kernel
theorem dL_ends_246 : decode cL_ends 246 = .ok (.aload_n 0, 1) := by decide +kernel
theorem dL_ends_247 : decode cL_ends 247 = .ok (.iload_n 3, 1) := by decide +kernel
theorem dL_ends_248 : decode cL_ends 248 = .ok (.iconst 1, 1) := by decide +kernel
theorem dL_ends_249 : decode cL_ends 249 = .ok (.iadd, 1) := by decide +kernel
theorem dL_ends_250 : decode cL_ends 250 = .ok (.iconst 3, 1) := by decide +kernel
theorem dL_ends_251 : decode cL_ends 251 = .ok (.invokestatic 110, 3) := by decide +kernel
theorem dL_ends_254 : decode cL_ends 254 = .ok (.ldc 21, 2) := by decide +kernel
theorem dL_ends_256 : decode cL_ends 256 = .ok (.if_icmp .ne 7, 3) := by decide +kernel
theorem dL_ends_259 : decode cL_ends 259 = .ok (.iconst 1, 1) := by decide +kernel
theorem dL_ends_260 : decode cL_ends 260 = .ok (.goto 4, 3) := by decide +kernel
theorem dL_ends_263 : decode cL_ends 263 = .ok (.iconst 0, 1) := by decide +kernel
theorem dL_ends_264 : decode cL_ends 264 = .ok (.istore 7, 2) := by decide +kernel
theorem dL_ends_266 : decode cL_ends 266 = .ok (.aload_n 0, 1) := by decide +kernel
theorem dL_ends_267 : decode cL_ends 267 = .ok (.iload_n 3, 1) := by decide +kernel
theorem dL_ends_268 : decode cL_ends 268 = .ok (.iconst 1, 1) := by decide +kernel
theorem dL_ends_269 : decode cL_ends 269 = .ok (.iadd, 1) := by decide +kernel
theorem dL_ends_270 : decode cL_ends 270 = .ok (.invokestatic 113, 3) := by decide +kernel
theorem dL_ends_273 : decode cL_ends 273 = .ok (.istore 11, 2) := by decide +kernel
theorem dL_ends_275 : decode cL_ends 275 = .ok (.iload 7, 2) := by decide +kernel
theorem dL_ends_277 : decode cL_ends 277 = .ok (.ifCond .eq 84, 3) := by decide +kernel
theorem dL_ends_280 : decode cL_ends 280 = .ok (.iload 11, 2) := by decide +kernel
theorem dL_ends_282 : decode cL_ends 282 = .ok (.bipush 60, 2) := by decide +kernel
theorem dL_ends_284 : decode cL_ends 284 = .ok (.if_icmp .eq 16, 3) := by decide +kernel
theorem dL_ends_287 : decode cL_ends 287 = .ok (.iload 11, 2) := by decide +kernel
theorem dL_ends_289 : decode cL_ends 289 = .ok (.ldc 21, 2) := by decide +kernel
theorem dL_ends_291 : decode cL_ends 291 = .ok (.if_icmp .ne 70, 3) := by decide +kernel
theorem dL_ends_294 : decode cL_ends 294 = .ok (.iload 8, 2) := by decide +kernel
theorem dL_ends_296 : decode cL_ends 296 = .ok (.iload_n 3, 1) := by decide +kernel
theorem dL_ends_297 : decode cL_ends 297 = .ok (.if_icmp .ge 64, 3) := by decide +kernel
theorem dL_ends_300 : decode cL_ends 300 = .ok (.aload_n 0, 1) := by decide +kernel
theorem dL_ends_301 : decode cL_ends 301 = .ok (.iconst 2, 1) := by decide +kernel
theorem dL_ends_302 : decode cL_ends 302 = .ok (.invokestatic 116, 3) := by decide +kernel
theorem dL_ends_305 : decode cL_ends 305 = .ok (.iload 11, 2) := by decide +kernel
theorem dL_ends_307 : decode cL_ends 307 = .ok (.bipush 60, 2) := by decide +kernel
theorem dL_ends_309 : decode cL_ends 309 = .ok (.if_icmp .ne 8, 3) := by decide +kernel
theorem dL_ends_312 : decode cL_ends 312 = .ok (.iload 9, 2) := by decide +kernel
theorem dL_ends_314 : decode cL_ends 314 = .ok (.goto 8, 3) := by decide +kernel
theorem dL_ends_317 : decode cL_ends 317 = .ok (.iload 9, 2) := by decide +kernel
theorem dL_ends_319 : decode cL_ends 319 = .ok (.bipush 60, 2) := by decide +kernel
theorem dL_ends_321 : decode cL_ends 321 = .ok (.iadd, 1) := by decide +kernel
theorem dL_ends_322 : decode cL_ends 322 = .ok (.if_icmp .ne 39, 3) := by decide +kernel
theorem dL_ends_325 : decode cL_ends 325 = .ok (.iload 11, 2) := by decide +kernel
theorem dL_ends_327 : decode cL_ends 327 = .ok (.bipush 60, 2) := by decide +kernel
theorem dL_ends_329 : decode cL_ends 329 = .ok (.if_icmp .ne 28, 3) := by decide +kernel
theorem dL_ends_332 : decode cL_ends 332 = .ok (.aload_n 0, 1) := by decide +kernel
theorem dL_ends_333 : decode cL_ends 333 = .ok (.iload_n 3, 1) := by decide +kernel
theorem dL_ends_334 : decode cL_ends 334 = .ok (.iconst 1, 1) := by decide +kernel
theorem dL_ends_335 : decode cL_ends 335 = .ok (.iadd, 1) := by decide +kernel
theorem dL_ends_336 : decode cL_ends 336 = .ok (.iconst 4, 1) := by decide +kernel
theorem dL_ends_337 : decode cL_ends 337 = .ok (.invokestatic 110, 3) := by decide +kernel
theorem dL_ends_340 : decode cL_ends 340 = .ok (.ldc 21, 2) := by decide +kernel
theorem dL_ends_342 : decode cL_ends 342 = .ok (.if_icmp .ne 19, 3) := by decide +kernel
theorem dL_ends_345 : decode cL_ends 345 = .ok (.aload_n 0, 1) := by decide +kernel
theorem dL_ends_346 : decode cL_ends 346 = .ok (.iload_n 3, 1) := by decide +kernel
theorem dL_ends_347 : decode cL_ends 347 = .ok (.iconst 1, 1) := by decide +kernel
theorem dL_ends_348 : decode cL_ends 348 = .ok (.iadd, 1) := by decide +kernel
theorem dL_ends_349 : decode cL_ends 349 = .ok (.invokestatic 113, 3) := by decide +kernel
theorem dL_ends_352 : decode cL_ends 352 = .ok (.ldc 21, 2) := by decide +kernel
theorem dL_ends_354 : decode cL_ends 354 = .ok (.if_icmp .ne 7, 3) := by decide +kernel
theorem dL_ends_357 : decode cL_ends 357 = .ok (.iconst 1, 1) := by decide +kernel
theorem dL_ends_358 : decode cL_ends 358 = .ok (.goto 4, 3) := by decide +kernel
theorem dL_ends_361 : decode cL_ends 361 = .ok (.iconst 0, 1) := by decide +kernel
theorem dL_ends_362 : decode cL_ends 362 = .ok (.istore 7, 2) := by decide +kernel
theorem dL_ends_364 : decode cL_ends 364 = .ok (.aload_n 1, 1) := by decide +kernel
theorem dL_ends_365 : decode cL_ends 365 = .ok (.iconst 1, 1) := by decide +kernel
theorem dL_ends_366 : decode cL_ends 366 = .ok (.iaload, 1) := by decide +kernel
theorem dL_ends_367 : decode cL_ends 367 = .ok (.istore 12, 2) := by decide +kernel
theorem dL_ends_369 : decode cL_ends 369 = .ok (.aload_n 1, 1) := by decide +kernel
theorem dL_ends_370 : decode cL_ends 370 = .ok (.iconst 2, 1) := by decide +kernel
theorem dL_ends_371 : decode cL_ends 371 = .ok (.iaload, 1) := by decide +kernel
theorem dL_ends_372 : decode cL_ends 372 = .ok (.istore 13, 2) := by decide +kernel
theorem dL_ends_374 : decode cL_ends 374 = .ok (.iload 7, 2) := by decide +kernel
theorem dL_ends_376 : decode cL_ends 376 = .ok (.ifCond .eq 46, 3) := by decide +kernel
theorem dL_ends_379 : decode cL_ends 379 = .ok (.aload_n 0, 1) := by decide +kernel
theorem dL_ends_380 : decode cL_ends 380 = .ok (.iconst 1, 1) := by decide +kernel
theorem dL_ends_381 : decode cL_ends 381 = .ok (.iconst 5, 1) := by decide +kernel
theorem dL_ends_382 : decode cL_ends 382 = .ok (.iload 10, 2) := by decide +kernel
theorem dL_ends_384 : decode cL_ends 384 = .ok (.invokestatic 118, 3) := by decide +kernel
theorem dL_ends_387 : decode cL_ends 387 = .ok (.iload 12, 2) := by decide +kernel
theorem dL_ends_389 : decode cL_ends 389 = .ok (.if_icmp .ne 33, 3) := by decide +kernel
theorem dL_ends_392 : decode cL_ends 392 = .ok (.aload_n 0, 1) := by decide +kernel
theorem dL_ends_393 : decode cL_ends 393 = .ok (.iconst 3, 1) := by decide +kernel
theorem dL_ends_394 : decode cL_ends 394 = .ok (.iload_n 3, 1) := by decide +kernel
theorem dL_ends_395 : decode cL_ends 395 = .ok (.iload 12, 2) := by decide +kernel
theorem dL_ends_397 : decode cL_ends 397 = .ok (.invokestatic 127, 3) := by decide +kernel
theorem dL_ends_400 : decode cL_ends 400 = .ok (.ldc 21, 2) := by decide +kernel
theorem dL_ends_402 : decode cL_ends 402 = .ok (.if_icmp .ne 20, 3) := by decide +kernel
theorem dL_ends_405 : decode cL_ends 405 = .ok (.aload_n 0, 1) := by decide +kernel
theorem dL_ends_406 : decode cL_ends 406 = .ok (.iconst 1, 1) := by decide +kernel
theorem dL_ends_407 : decode cL_ends 407 = .ok (.iload_n 3, 1) := by decide +kernel
theorem dL_ends_408 : decode cL_ends 408 = .ok (.iload 12, 2) := by decide +kernel
theorem dL_ends_410 : decode cL_ends 410 = .ok (.invokestatic 127, 3) := by decide +kernel
theorem dL_ends_413 : decode cL_ends 413 = .ok (.iload 13, 2) := by decide +kernel
theorem dL_ends_415 : decode cL_ends 415 = .ok (.if_icmp .ne 7, 3) := by decide +kernel
theorem dL_ends_418 : decode cL_ends 418 = .ok (.iconst 1, 1) := by decide +kernel
theorem dL_ends_419 : decode cL_ends 419 = .ok (.goto 4, 3) := by decide +kernel
theorem dL_ends_422 : decode cL_ends 422 = .ok (.iconst 0, 1) := by decide +kernel
theorem dL_ends_423 : decode cL_ends 423 = .ok (.istore 7, 2) := by decide +kernel
theorem dL_ends_425 : decode cL_ends 425 = .ok (.iconst 0, 1) := by decide +kernel
theorem dL_ends_426 : decode cL_ends 426 = .ok (.istore 14, 2) := by decide +kernel
theorem dL_ends_428 : decode cL_ends 428 = .ok (.iconst 0, 1) := by decide +kernel
theorem dL_ends_429 : decode cL_ends 429 = .ok (.istore 15, 2) := by decide +kernel
theorem dL_ends_431 : decode cL_ends 431 = .ok (.iload 15, 2) := by decide +kernel
theorem dL_ends_433 : decode cL_ends 433 = .ok (.iconst 2, 1) := by decide +kernel
theorem dL_ends_434 : decode cL_ends 434 = .ok (.iload 6, 2) := by decide +kernel
theorem dL_ends_436 : decode cL_ends 436 = .ok (.imul, 1) := by decide +kernel
theorem dL_ends_437 : decode cL_ends 437 = .ok (.if_icmp .ge 98, 3) := by decide +kernel
theorem dL_ends_440 : decode cL_ends 440 = .ok (.iload 7, 2) := by decide +kernel
theorem dL_ends_442 : decode cL_ends 442 = .ok (.ifCond .eq 93, 3) := by decide +kernel
theorem dL_ends_445 : decode cL_ends 445 = .ok (.aload_n 0, 1) := by decide +kernel
theorem dL_ends_446 : decode cL_ends 446 = .ok (.iload 12, 2) := by decide +kernel
theorem dL_ends_448 : decode cL_ends 448 = .ok (.invokestatic 125, 3) := by decide +kernel
theorem dL_ends_451 : decode cL_ends 451 = .ok (.istore 16, 2) := by decide +kernel
theorem dL_ends_453 : decode cL_ends 453 = .ok (.aload_n 0, 1) := by decide +kernel
theorem dL_ends_454 : decode cL_ends 454 = .ok (.iload 13, 2) := by decide +kernel
theorem dL_ends_456 : decode cL_ends 456 = .ok (.iconst 1, 1) := by decide +kernel
theorem dL_ends_457 : decode cL_ends 457 = .ok (.invokestatic 133, 3) := by decide +kernel
theorem dL_ends_460 : decode cL_ends 460 = .ok (.iconst 1, 1) := by decide +kernel
theorem dL_ends_461 : decode cL_ends 461 = .ok (.if_icmp .ne 20, 3) := by decide +kernel
theorem dL_ends_464 : decode cL_ends 464 = .ok (.aload_n 0, 1) := by decide +kernel
theorem dL_ends_465 : decode cL_ends 465 = .ok (.iload 13, 2) := by decide +kernel
theorem dL_ends_467 : decode cL_ends 467 = .ok (.invokestatic 136, 3) := by decide +kernel
theorem dL_ends_470 : decode cL_ends 470 = .ok (.iload 15, 2) := by decide +kernel
theorem dL_ends_472 : decode cL_ends 472 = .ok (.iconst 1, 1) := by decide +kernel
theorem dL_ends_473 : decode cL_ends 473 = .ok (.iadd, 1) := by decide +kernel
theorem dL_ends_474 : decode cL_ends 474 = .ok (.if_icmp .ne 7, 3) := by decide +kernel
theorem dL_ends_477 : decode cL_ends 477 = .ok (.iconst 1, 1) := by decide +kernel
theorem dL_ends_478 : decode cL_ends 478 = .ok (.goto 4, 3) := by decide +kernel
theorem dL_ends_481 : decode cL_ends 481 = .ok (.iconst 0, 1) := by decide +kernel
theorem dL_ends_482 : decode cL_ends 482 = .ok (.istore 7, 2) := by decide +kernel
theorem dL_ends_484 : decode cL_ends 484 = .ok (.iload 16, 2) := by decide +kernel
theorem dL_ends_486 : decode cL_ends 486 = .ok (.aload_n 0, 1) := by decide +kernel
theorem dL_ends_487 : decode cL_ends 487 = .ok (.iload 12, 2) := by decide +kernel
theorem dL_ends_489 : decode cL_ends 489 = .ok (.invokestatic 125, 3) := by decide +kernel
theorem dL_ends_492 : decode cL_ends 492 = .ok (.isub, 1) := by decide +kernel
theorem dL_ends_493 : decode cL_ends 493 = .ok (.istore 17, 2) := by decide +kernel
theorem dL_ends_495 : decode cL_ends 495 = .ok (.iload 14, 2) := by decide +kernel
theorem dL_ends_497 : decode cL_ends 497 = .ok (.iload 17, 2) := by decide +kernel
theorem dL_ends_499 : decode cL_ends 499 = .ok (.iadd, 1) := by decide +kernel
theorem dL_ends_500 : decode cL_ends 500 = .ok (.istore 14, 2) := by decide +kernel
theorem dL_ends_502 : decode cL_ends 502 = .ok (.iload 7, 2) := by decide +kernel
theorem dL_ends_504 : decode cL_ends 504 = .ok (.ifCond .eq 22, 3) := by decide +kernel
theorem dL_ends_507 : decode cL_ends 507 = .ok (.iload 17, 2) := by decide +kernel
theorem dL_ends_509 : decode cL_ends 509 = .ok (.bipush 10, 2) := by decide +kernel
theorem dL_ends_511 : decode cL_ends 511 = .ok (.if_icmp .lt 15, 3) := by decide +kernel
theorem dL_ends_514 : decode cL_ends 514 = .ok (.iload 17, 2) := by decide +kernel
theorem dL_ends_516 : decode cL_ends 516 = .ok (.sipush 600, 3) := by decide +kernel
theorem dL_ends_519 : decode cL_ends 519 = .ok (.if_icmp .gt 7, 3) := by decide +kernel
theorem dL_ends_522 : decode cL_ends 522 = .ok (.iconst 1, 1) := by decide +kernel
theorem dL_ends_523 : decode cL_ends 523 = .ok (.goto 4, 3) := by decide +kernel
theorem dL_ends_526 : decode cL_ends 526 = .ok (.iconst 0, 1) := by decide +kernel
theorem dL_ends_527 : decode cL_ends 527 = .ok (.istore 7, 2) := by decide +kernel
theorem dL_ends_529 : decode cL_ends 529 = .ok (.iinc 15 1, 3) := by decide +kernel
theorem dL_ends_532 : decode cL_ends 532 = .ok (.goto (-101), 3) := by decide +kernel
theorem dL_ends_535 : decode cL_ends 535 = .ok (.iload 7, 2) := by decide +kernel
theorem dL_ends_537 : decode cL_ends 537 = .ok (.ifCond .eq 47, 3) := by decide +kernel
theorem dL_ends_540 : decode cL_ends 540 = .ok (.iload 14, 2) := by decide +kernel
theorem dL_ends_542 : decode cL_ends 542 = .ok (.iload 10, 2) := by decide +kernel
theorem dL_ends_544 : decode cL_ends 544 = .ok (.if_icmp .ne 40, 3) := by decide +kernel
theorem dL_ends_547 : decode cL_ends 547 = .ok (.aload_n 0, 1) := by decide +kernel
theorem dL_ends_548 : decode cL_ends 548 = .ok (.iload 12, 2) := by decide +kernel
theorem dL_ends_550 : decode cL_ends 550 = .ok (.invokestatic 125, 3) := by decide +kernel
theorem dL_ends_553 : decode cL_ends 553 = .ok (.ifCond .ne 31, 3) := by decide +kernel
theorem dL_ends_556 : decode cL_ends 556 = .ok (.aload_n 0, 1) := by decide +kernel
theorem dL_ends_557 : decode cL_ends 557 = .ok (.iload 13, 2) := by decide +kernel
theorem dL_ends_559 : decode cL_ends 559 = .ok (.bipush 40, 2) := by decide +kernel
theorem dL_ends_561 : decode cL_ends 561 = .ok (.invokestatic 133, 3) := by decide +kernel
theorem dL_ends_564 : decode cL_ends 564 = .ok (.ifCond .ne 20, 3) := by decide +kernel
theorem dL_ends_567 : decode cL_ends 567 = .ok (.aload_n 0, 1) := by decide +kernel
theorem dL_ends_568 : decode cL_ends 568 = .ok (.iload 13, 2) := by decide +kernel
theorem dL_ends_570 : decode cL_ends 570 = .ok (.iload 12, 2) := by decide +kernel
theorem dL_ends_572 : decode cL_ends 572 = .ok (.invokestatic 130, 3) := by decide +kernel
theorem dL_ends_575 : decode cL_ends 575 = .ok (.iload 12, 2) := by decide +kernel
theorem dL_ends_577 : decode cL_ends 577 = .ok (.if_icmp .ne 7, 3) := by decide +kernel
theorem dL_ends_580 : decode cL_ends 580 = .ok (.iconst 1, 1) := by decide +kernel
theorem dL_ends_581 : decode cL_ends 581 = .ok (.goto 4, 3) := by decide +kernel
theorem dL_ends_584 : decode cL_ends 584 = .ok (.iconst 0, 1) := by decide +kernel
theorem dL_ends_585 : decode cL_ends 585 = .ok (.ireturn, 1) := by decide +kernel
set_option maxRecDepth 20000 in
theorem ggL_law_X5_init : GoodIn wsL_law wsX5_init := goodIn_r _ [6, 7, 8, 9, 10, 11, 12, 13, 14, 15, 16, 3, 17, 18, 19, 20, 21, 22, 23, 24, 25, 26, 27, 28, 29, 30, 31, 32, 497, 498, 499, 492, 493, 494, 495, 496] (by decide +kernel) (by decide +kernel)
set_option maxRecDepth 20000 in
theorem gL_law_X5_init : GoodIn wsL_law (wsX5_init) := ggL_law_X5_init
set_option maxRecDepth 20000 in
theorem ggL_law_L_drawn : GoodIn wsL_law wsL_drawn := goodIn_r _ [36, 37, 38] (by decide +kernel) (by decide +kernel)
set_option maxRecDepth 20000 in
theorem gL_law_L_drawn : GoodIn wsL_law (va_wsS RL 139 yL_drawn wsL_drawn) := goodIn_app (goodIn_of _ (by decide +kernel)) ggL_law_L_drawn
set_option maxRecDepth 20000 in
theorem ggL_law_L_act : GoodIn wsL_law wsL_act := goodIn_ca (goodIn_ca (goodIn_ca (goodIn_r _ [41, 42, 43, 35, 44, 45, 46, 47, 48, 49, 50, 51, 52, 53, 2, 54, 55, 56, 57, 58, 59, 60, 61, 62, 63, 64, 65, 66, 67, 68, 69, 70, 71, 13, 72, 73, 74, 12, 75, 76, 77, 78, 79, 80, 81, 82, 83, 84, 85, 86, 87, 8, 9, 88, 89, 90, 91, 92, 93, 94, 95, 96, 97, 98, 99, 100, 101, 102, 103, 104, 105, 106, 107, 3, 108, 109, 110, 111, 112, 113, 114, 115, 116, 117, 118, 119, 120, 121, 122, 123, 124, 125, 126, 127, 22, 128, 129, 130, 131, 132, 133, 134, 135, 136, 137, 138, 139, 21, 140, 141, 142, 143, 144, 145, 146, 147, 148, 149, 150, 151, 152, 153, 154, 155, 156, 157, 158, 159, 160, 161, 162, 163, 164, 165, 166, 167, 168, 169, 170, 171, 172, 173, 174, 175, 176, 177, 178, 179, 180, 181, 182, 183, 184, 185, 186, 187, 188, 189, 190, 191, 192, 193, 194, 195, 196, 197, 198, 199, 200, 201, 202, 203, 204, 205, 206, 207, 208, 209, 210, 211, 212, 213, 214, 215, 216, 217, 218, 219, 220, 221, 222, 223, 224, 225, 226, 227, 228, 229, 230, 231, 232, 233, 234, 235, 236, 237, 238, 239, 240, 241, 242, 243, 244, 245, 246, 247, 248, 249, 250, 251, 252, 253, 254, 255, 256, 257, 258, 259, 260, 261, 262, 263, 264, 265, 266, 267, 268, 269, 270, 271, 272, 273, 274, 275, 276, 277, 278, 279, 14, 280, 281, 282, 283, 284, 285, 286, 287, 288, 289, 290, 291, 292, 293, 294, 295, 296, 297, 17, 298, 299, 300, 301, 302, 303, 304, 305, 306, 307, 308, 309, 310, 311, 312, 313, 314, 315, 316, 15, 317, 318, 319, 320, 321, 322, 323, 324, 325, 326, 327, 328, 329, 330, 331, 332, 333, 334, 335, 336, 337, 338, 339, 340, 341, 342, 343, 344, 345, 346, 347, 16, 348, 349, 350, 351, 352, 353, 354, 355, 356, 357, 358, 359, 360, 361, 362, 363, 364, 365, 366, 367, 368, 369, 370, 371, 372, 373, 374, 375, 376, 377, 378, 379, 380, 381, 382, 383, 384, 385, 386, 387, 388, 389, 390, 391, 392, 393, 394, 395, 396, 397, 398, 399, 400, 401, 500, 501, 502, 503, 504, 505, 506, 507, 508, 492, 493, 494, 495, 496, 497, 498, 499, 509, 510, 511, 512, 513, 514, 515, 516, 517, 518, 519, 520, 521, 522, 523, 524, 525, 526] (by decide +kernel) (by decide +kernel)) (goodIn_sub (fun _ h => List.mem_append_left _ (List.mem_append_left _ (List.mem_append_right _ h))) (by decide +kernel))) (goodIn_sub (fun _ h => List.mem_append_left _ (List.mem_append_right _ h)) (by decide +kernel))) (goodIn_sub (fun _ h => List.mem_append_right _ h) (by decide +kernel))
set_option maxRecDepth 20000 in
theorem gL_law_L_act : GoodIn wsL_law (va_wsS RL 143 yL_act wsL_act) := goodIn_app (goodIn_of _ (by decide +kernel)) ggL_law_L_act
set_option maxRecDepth 20000 in
theorem ggL_law_L_refuses : GoodIn wsL_law wsL_refuses := goodIn_ca (goodIn_ca (goodIn_ca (goodIn_r _ [404, 48, 49, 405, 50, 42, 43, 35, 44, 45, 46, 47, 51, 52, 53, 2, 54, 55, 56, 57, 58, 59, 60, 61, 62, 63, 64, 65, 66, 67, 68, 69, 70, 71, 13, 72, 73, 74, 12, 75, 76, 77, 78, 79, 80, 81, 82, 83, 84, 85, 86, 87, 8, 9, 88, 89, 90, 91, 92, 93, 94, 95, 96, 97, 98, 99, 100, 101, 102, 103, 104, 105, 106, 107, 3, 108, 109, 110, 111, 112, 113, 114, 115, 116, 117, 118, 119, 120, 121, 122, 123, 124, 125, 126, 127, 22, 128, 129, 130, 131, 132, 133, 134, 135, 136, 137, 138, 139, 21, 140, 141, 142, 143, 144, 145, 146, 147, 148, 149, 150, 151, 152, 153, 154, 155, 156, 157, 158, 159, 160, 161, 162, 163, 164, 165, 166, 167, 168, 169, 170, 171, 172, 173, 174, 175, 176, 177, 178, 179, 180, 181, 182, 183, 184, 185, 186, 187, 188, 189, 190, 191, 192, 193, 194, 195, 196, 197, 198, 199, 200, 201, 202, 203, 204, 205, 206, 207, 208, 209, 210, 211, 212, 213, 214, 215, 216, 217, 218, 219, 220, 221, 222, 223, 224, 225, 226, 227, 228, 229, 230, 231, 232, 233, 234, 235, 236, 237, 238, 239, 240, 241, 242, 243, 244, 245, 246, 247, 248, 249, 250, 251, 252, 253, 254, 255, 256, 257, 258, 259, 260, 261, 262, 263, 264, 265, 266, 267, 268, 269, 270, 271, 272, 273, 274, 275, 276, 277, 278, 279, 14, 280, 281, 282, 283, 284, 285, 286, 287, 406, 407, 408, 409, 410, 411, 412, 413, 414, 415, 416, 417, 418, 419, 420, 421, 422, 423, 424, 425, 426, 427, 428, 429, 430, 431, 432, 433, 434, 435, 436, 437, 438, 439, 440, 441, 442, 443, 444, 445, 446, 447, 448, 449, 450, 451, 452, 453, 454, 455, 456, 457, 458, 459, 288, 289, 290, 291, 292, 293, 294, 295, 296, 297, 17, 298, 299, 300, 301, 302, 303, 304, 305, 306, 307, 308, 460, 461, 462, 463, 464, 465, 466, 309, 310, 311, 312, 313, 314, 315, 316, 15, 317, 318, 319, 320, 321, 322, 323, 324, 325, 326, 327, 328, 329, 330, 331, 332, 333, 334, 335, 336, 337, 338, 339, 340, 467, 468, 469, 470, 471, 472, 473, 474, 341, 342, 343, 344, 345, 346, 347, 16, 348, 349, 350, 351, 352, 353, 354, 355, 356, 357, 358, 359, 360, 361, 362, 363, 364, 365, 366, 367, 368, 369, 370, 371, 372, 373, 374, 375, 376, 377, 378, 379, 380, 381, 382, 383, 384, 385, 386, 387, 388, 389, 390, 391, 392, 393, 394, 395, 396, 397, 398, 399, 400, 401, 475, 476, 477, 478, 479, 480, 481, 482, 500, 501, 502, 503, 504, 505, 506, 507, 508, 492, 493, 494, 495, 496, 497, 498, 499, 509, 510, 511, 512, 513, 514, 515, 516, 517, 518, 519, 520, 521, 522, 523, 524, 525, 526] (by decide +kernel) (by decide +kernel)) (goodIn_sub (fun _ h => List.mem_append_left _ (List.mem_append_left _ (List.mem_append_right _ h))) (by decide +kernel))) (goodIn_sub (fun _ h => List.mem_append_left _ (List.mem_append_right _ h)) (by decide +kernel))) (goodIn_sub (fun _ h => List.mem_append_right _ h) (by decide +kernel))
set_option maxRecDepth 20000 in
theorem gL_law_L_refuses : GoodIn wsL_law (va_wsS RL 147 yL_refuses wsL_refuses) := goodIn_app (goodIn_of _ (by decide +kernel)) ggL_law_L_refuses
set_option maxRecDepth 20000 in
theorem ggL_law_L_alike : GoodIn wsL_law wsL_alike := goodIn_ca (goodIn_r _ [485, 460, 461, 35, 462, 45, 48, 463, 464, 465, 2, 466, 17, 56, 57, 58, 59, 60, 413, 414, 415, 416, 417, 418, 419, 181, 182, 183, 184, 185, 186, 13, 187, 72, 73, 74, 12, 75, 76, 188, 189, 190, 191, 192, 193, 194, 195, 196, 197, 198, 199, 200, 201, 202, 203, 22, 406, 407, 408, 409, 410, 411, 412, 279, 55, 420, 421, 422, 423, 424, 425, 426, 427, 428, 429, 430, 431, 432, 102, 433, 119, 434, 435, 436, 437, 438, 439, 440, 243, 441, 442, 443, 98, 444, 113, 112, 111, 110, 445, 446, 447, 448, 108, 109, 229, 230, 231, 232, 233, 234, 141, 142, 143, 235, 168, 169, 467, 468, 469, 470, 471, 472, 473, 474, 336, 337, 338, 339, 15, 340, 475, 476, 477, 478, 479, 480, 481, 482, 369, 370, 371, 372, 16, 373, 492, 493, 494, 495, 496, 500, 501, 502, 503, 504, 505, 506, 507, 508, 515, 516, 517, 518, 497, 498, 499, 509, 510, 511, 512, 513, 514, 519, 520, 521, 522, 523, 524, 525, 526] (by decide +kernel) (by decide +kernel)) (goodIn_sub (fun _ h => List.mem_append_left _ (List.mem_append_left _ (List.mem_append_right _ h))) (by decide +kernel))
set_option maxRecDepth 20000 in
theorem gL_law_L_alike : GoodIn wsL_law (va_wsS RL 151 yL_alike wsL_alike) := goodIn_app (goodIn_of _ (by decide +kernel)) ggL_law_L_alike
set_option maxRecDepth 20000 in
theorem ggL_law_L_holds : GoodIn wsL_law wsL_holds := goodIn_ca (goodIn_ca (goodIn_r _ [488, 460, 461, 35, 462, 45, 48, 463, 464, 465, 2, 466, 17, 56, 57, 58, 59, 60, 413, 414, 415, 416, 417, 418, 419, 181, 182, 183, 184, 185, 186, 13, 187, 72, 73, 74, 12, 75, 76, 188, 189, 190, 191, 192, 193, 194, 195, 196, 197, 198, 199, 200, 201, 202, 203, 22, 406, 407, 408, 409, 410, 411, 412, 279, 55, 449, 450, 451, 46, 49, 452, 453, 454, 455, 247, 248, 249, 61, 62, 63, 64, 65, 456, 457, 458, 102, 459, 118, 120, 420, 421, 422, 423, 424, 425, 426, 427, 428, 429, 430, 431, 432, 433, 119, 434, 435, 436, 437, 438, 439, 440, 243, 441, 442, 443, 98, 444, 113, 112, 111, 110, 445, 446, 447, 448, 108, 109, 229, 230, 231, 232, 233, 234, 141, 142, 143, 235, 168, 169, 467, 468, 469, 470, 471, 472, 473, 474, 336, 337, 338, 339, 15, 340, 492, 493, 494, 495, 496, 500, 501, 502, 503, 504, 505, 506, 507, 508, 515, 516, 517, 518, 497, 498, 499, 509, 510, 511, 512, 513, 514, 519, 520, 521, 522] (by decide +kernel) (by decide +kernel)) (goodIn_sub (fun _ h => List.mem_append_left _ (List.mem_append_left _ (List.mem_append_right _ h))) (by decide +kernel))) (goodIn_sub (fun _ h => List.mem_append_left _ (List.mem_append_right _ h)) (by decide +kernel))
set_option maxRecDepth 20000 in
theorem gL_law_L_holds : GoodIn wsL_law (va_wsS RL 155 yL_holds wsL_holds) := goodIn_app (goodIn_of _ (by decide +kernel)) ggL_law_L_holds
set_option maxRecDepth 20000 in
theorem ggL_law_L_ends : GoodIn wsL_law wsL_ends := goodIn_ca (goodIn_ca (goodIn_ca (goodIn_r _ [491, 50, 42, 43, 35, 44, 45, 46, 47, 48, 49, 51, 52, 53, 2, 54, 55, 56, 57, 58, 59, 60, 61, 62, 63, 64, 65, 66, 67, 68, 69, 70, 71, 13, 72, 73, 74, 12, 75, 76, 77, 78, 79, 80, 81, 82, 83, 84, 85, 86, 87, 8, 9, 88, 89, 90, 91, 92, 93, 94, 95, 96, 97, 98, 99, 100, 101, 102, 103, 104, 105, 106, 107, 3, 108, 109, 110, 111, 112, 113, 114, 115, 116, 117, 118, 119, 120, 121, 122, 123, 124, 125, 126, 127, 22, 128, 129, 130, 131, 132, 133, 134, 135, 136, 137, 138, 139, 21, 140, 141, 142, 143, 144, 145, 146, 147, 148, 149, 150, 151, 152, 153, 154, 155, 156, 157, 158, 159, 160, 161, 162, 163, 164, 165, 166, 167, 168, 169, 170, 171, 172, 173, 174, 175, 176, 177, 178, 179, 180, 181, 182, 183, 184, 185, 186, 187, 188, 189, 190, 191, 192, 193, 194, 195, 196, 197, 198, 199, 200, 201, 202, 203, 204, 205, 206, 207, 208, 209, 210, 211, 212, 213, 214, 215, 216, 217, 218, 219, 220, 221, 222, 223, 224, 225, 226, 227, 228, 229, 230, 231, 232, 233, 234, 235, 272, 273, 274, 275, 276, 277, 278, 279, 14, 250, 251, 252, 253, 280, 281, 282, 283, 284, 285, 286, 287, 406, 407, 408, 409, 410, 411, 412, 460, 461, 462, 463, 464, 465, 466, 17, 449, 450, 451, 452, 453, 454, 455, 247, 248, 249, 456, 457, 458, 459, 288, 289, 290, 291, 292, 293, 294, 295, 296, 297, 246, 245, 298, 299, 300, 301, 302, 303, 304, 305, 306, 307, 308, 309, 310, 311, 312, 313, 314, 315, 316, 15, 317, 318, 319, 320, 321, 322, 323, 324, 325, 326, 327, 341, 342, 343, 344, 345, 346, 347, 16, 335, 348, 349, 350, 336, 337, 338, 339, 340, 351, 352, 353, 354, 355, 356, 357, 358, 467, 468, 469, 470, 471, 472, 473, 474, 374, 375, 376, 377, 378, 379, 380, 369, 370, 371, 372, 373, 381, 382, 383, 384, 385, 386, 387, 388, 389, 390, 391, 392, 393, 394, 395, 396, 397, 398, 399, 400, 401, 475, 476, 477, 478, 479, 480, 481, 482, 359, 360, 361, 362, 363, 364, 365, 366, 367, 368, 500, 501, 502, 503, 504, 505, 506, 507, 508, 492, 493, 494, 495, 496, 497, 498, 499, 509, 510, 511, 512, 513, 514, 515, 516, 517, 518, 519, 520, 521, 522, 523, 524, 525, 526] (by decide +kernel) (by decide +kernel)) (goodIn_sub (fun _ h => List.mem_append_left _ (List.mem_append_left _ (List.mem_append_right _ h))) (by decide +kernel))) (goodIn_sub (fun _ h => List.mem_append_left _ (List.mem_append_right _ h)) (by decide +kernel))) (goodIn_sub (fun _ h => List.mem_append_right _ h) (by decide +kernel))
set_option maxRecDepth 20000 in
theorem gL_law_L_ends : GoodIn wsL_law (va_wsS RL 158 yL_ends wsL_ends) := goodIn_app (goodIn_of _ (by decide +kernel)) ggL_law_L_ends
theorem dL_law_0 : decode cL_law 0 = .ok (.new 8, 3) := by decide +kernel
theorem dL_law_3 : decode cL_law 3 = .ok (.dup, 1) := by decide +kernel
theorem dL_law_4 : decode cL_law 4 = .ok (.invokespecial 138, 3) := by decide +kernel
theorem dL_law_7 : decode cL_law 7 = .ok (.astore_n 1, 1) := by decide +kernel
theorem dL_law_8 : decode cL_law 8 = .ok (.new 8, 3) := by decide +kernel
theorem dL_law_11 : decode cL_law 11 = .ok (.dup, 1) := by decide +kernel
theorem dL_law_12 : decode cL_law 12 = .ok (.invokespecial 138, 3) := by decide +kernel
theorem dL_law_15 : decode cL_law 15 = .ok (.astore_n 2, 1) := by decide +kernel
theorem dL_law_16 : decode cL_law 16 = .ok (.iconst 3, 1) := by decide +kernel
theorem dL_law_17 : decode cL_law 17 = .ok (.newarray .int, 2) := by decide +kernel
theorem dL_law_19 : decode cL_law 19 = .ok (.astore_n 3, 1) := by decide +kernel
theorem dL_law_20 : decode cL_law 20 = .ok (.bipush 20, 2) := by decide +kernel
theorem dL_law_22 : decode cL_law 22 = .ok (.newarray .int, 2) := by decide +kernel
theorem dL_law_24 : decode cL_law 24 = .ok (.astore 4, 2) := by decide +kernel
theorem dL_law_26 : decode cL_law 26 = .ok (.bipush 24, 2) := by decide +kernel
theorem dL_law_28 : decode cL_law 28 = .ok (.aload_n 0, 1) := by decide +kernel
theorem dL_law_29 : decode cL_law 29 = .ok (.iconst 0, 1) := by decide +kernel
theorem dL_law_30 : decode cL_law 30 = .ok (.invokestatic 139, 3) := by decide +kernel
theorem dL_law_33 : decode cL_law 33 = .ok (.bipush 27, 2) := by decide +kernel
theorem dL_law_35 : decode cL_law 35 = .ok (.irem, 1) := by decide +kernel
theorem dL_law_36 : decode cL_law 36 = .ok (.iadd, 1) := by decide +kernel
theorem dL_law_37 : decode cL_law 37 = .ok (.istore 5, 2) := by decide +kernel
theorem dL_law_39 : decode cL_law 39 = .ok (.iconst 1, 1) := by decide +kernel
theorem dL_law_40 : decode cL_law 40 = .ok (.istore 6, 2) := by decide +kernel
theorem dL_law_42 : decode cL_law 42 = .ok (.iconst 0, 1) := by decide +kernel
theorem dL_law_43 : decode cL_law 43 = .ok (.istore 7, 2) := by decide +kernel
theorem dL_law_45 : decode cL_law 45 = .ok (.iload 7, 2) := by decide +kernel
theorem dL_law_47 : decode cL_law 47 = .ok (.iload 5, 2) := by decide +kernel
theorem dL_law_49 : decode cL_law 49 = .ok (.if_icmp .ge 429, 3) := by decide +kernel
theorem dL_law_52 : decode cL_law 52 = .ok (.iload 6, 2) := by decide +kernel
theorem dL_law_54 : decode cL_law 54 = .ok (.ifCond .eq 424, 3) := by decide +kernel
theorem dL_law_57 : decode cL_law 57 = .ok (.aload_n 0, 1) := by decide +kernel
theorem dL_law_58 : decode cL_law 58 = .ok (.iconst 1, 1) := by decide +kernel
theorem dL_law_59 : decode cL_law 59 = .ok (.iload 7, 2) := by decide +kernel
theorem dL_law_61 : decode cL_law 61 = .ok (.iadd, 1) := by decide +kernel
theorem dL_law_62 : decode cL_law 62 = .ok (.invokestatic 139, 3) := by decide +kernel
theorem dL_law_65 : decode cL_law 65 = .ok (.istore 8, 2) := by decide +kernel
theorem dL_law_67 : decode cL_law 67 = .ok (.iload 7, 2) := by decide +kernel
theorem dL_law_69 : decode cL_law 69 = .ok (.iconst 4, 1) := by decide +kernel
theorem dL_law_70 : decode cL_law 70 = .ok (.if_icmp .ge 14, 3) := by decide +kernel
theorem dL_law_73 : decode cL_law 73 = .ok (.iload 8, 2) := by decide +kernel
theorem dL_law_75 : decode cL_law 75 = .ok (.bipush 32, 2) := by decide +kernel
theorem dL_law_77 : decode cL_law 77 = .ok (.idiv, 1) := by decide +kernel
theorem dL_law_78 : decode cL_law 78 = .ok (.bipush 32, 2) := by decide +kernel
theorem dL_law_80 : decode cL_law 80 = .ok (.imul, 1) := by decide +kernel
theorem dL_law_81 : decode cL_law 81 = .ok (.goto 67, 3) := by decide +kernel
theorem dL_law_84 : decode cL_law 84 = .ok (.iload 7, 2) := by decide +kernel
theorem dL_law_86 : decode cL_law 86 = .ok (.bipush 10, 2) := by decide +kernel
theorem dL_law_88 : decode cL_law 88 = .ok (.if_icmp .ge 16, 3) := by decide +kernel
theorem dL_law_91 : decode cL_law 91 = .ok (.iload 8, 2) := by decide +kernel
theorem dL_law_93 : decode cL_law 93 = .ok (.bipush 32, 2) := by decide +kernel
theorem dL_law_95 : decode cL_law 95 = .ok (.idiv, 1) := by decide +kernel
theorem dL_law_96 : decode cL_law 96 = .ok (.bipush 32, 2) := by decide +kernel
theorem dL_law_98 : decode cL_law 98 = .ok (.imul, 1) := by decide +kernel
theorem dL_law_99 : decode cL_law 99 = .ok (.iconst 3, 1) := by decide +kernel
theorem dL_law_100 : decode cL_law 100 = .ok (.iadd, 1) := by decide +kernel
theorem dL_law_101 : decode cL_law 101 = .ok (.goto 47, 3) := by decide +kernel
theorem dL_law_104 : decode cL_law 104 = .ok (.iload 7, 2) := by decide +kernel
theorem dL_law_106 : decode cL_law 106 = .ok (.bipush 13, 2) := by decide +kernel
theorem dL_law_108 : decode cL_law 108 = .ok (.if_icmp .ge 17, 3) := by decide +kernel
theorem dL_law_111 : decode cL_law 111 = .ok (.iload 8, 2) := by decide +kernel
theorem dL_law_113 : decode cL_law 113 = .ok (.bipush 32, 2) := by decide +kernel
theorem dL_law_115 : decode cL_law 115 = .ok (.idiv, 1) := by decide +kernel
theorem dL_law_116 : decode cL_law 116 = .ok (.bipush 32, 2) := by decide +kernel
theorem dL_law_118 : decode cL_law 118 = .ok (.imul, 1) := by decide +kernel
theorem dL_law_119 : decode cL_law 119 = .ok (.bipush 10, 2) := by decide +kernel
theorem dL_law_121 : decode cL_law 121 = .ok (.iadd, 1) := by decide +kernel
theorem dL_law_122 : decode cL_law 122 = .ok (.goto 26, 3) := by decide +kernel
theorem dL_law_125 : decode cL_law 125 = .ok (.iload 7, 2) := by decide +kernel
theorem dL_law_127 : decode cL_law 127 = .ok (.bipush 15, 2) := by decide +kernel
theorem dL_law_129 : decode cL_law 129 = .ok (.if_icmp .ge 17, 3) := by decide +kernel
theorem dL_law_132 : decode cL_law 132 = .ok (.iload 8, 2) := by decide +kernel
theorem dL_law_134 : decode cL_law 134 = .ok (.bipush 32, 2) := by decide +kernel
theorem dL_law_136 : decode cL_law 136 = .ok (.idiv, 1) := by decide +kernel
theorem dL_law_137 : decode cL_law 137 = .ok (.bipush 32, 2) := by decide +kernel
theorem dL_law_139 : decode cL_law 139 = .ok (.imul, 1) := by decide +kernel
theorem dL_law_140 : decode cL_law 140 = .ok (.bipush 20, 2) := by decide +kernel
theorem dL_law_142 : decode cL_law 142 = .ok (.iadd, 1) := by decide +kernel
theorem dL_law_143 : decode cL_law 143 = .ok (.goto 5, 3) := by decide +kernel
theorem dL_law_146 : decode cL_law 146 = .ok (.iload 8, 2) := by decide +kernel
theorem dL_law_148 : decode cL_law 148 = .ok (.istore 8, 2) := by decide +kernel
theorem dL_law_150 : decode cL_law 150 = .ok (.iload 8, 2) := by decide +kernel
theorem dL_law_152 : decode cL_law 152 = .ok (.bipush 32, 2) := by decide +kernel
theorem dL_law_154 : decode cL_law 154 = .ok (.irem, 1) := by decide +kernel
theorem dL_law_155 : decode cL_law 155 = .ok (.istore 9, 2) := by decide +kernel
theorem dL_law_157 : decode cL_law 157 = .ok (.iload 8, 2) := by decide +kernel
theorem dL_law_159 : decode cL_law 159 = .ok (.bipush 32, 2) := by decide +kernel
theorem dL_law_161 : decode cL_law 161 = .ok (.idiv, 1) := by decide +kernel
theorem dL_law_162 : decode cL_law 162 = .ok (.istore 10, 2) := by decide +kernel
theorem dL_law_164 : decode cL_law 164 = .ok (.aload_n 1, 1) := by decide +kernel
theorem dL_law_165 : decode cL_law 165 = .ok (.aload_n 3, 1) := by decide +kernel
theorem dL_law_166 : decode cL_law 166 = .ok (.aload 4, 2) := by decide +kernel
theorem dL_law_168 : decode cL_law 168 = .ok (.iload 8, 2) := by decide +kernel
theorem dL_law_170 : decode cL_law 170 = .ok (.invokestatic 143, 3) := by decide +kernel
theorem dL_law_173 : decode cL_law 173 = .ok (.istore 11, 2) := by decide +kernel
theorem dL_law_175 : decode cL_law 175 = .ok (.aload_n 2, 1) := by decide +kernel
theorem dL_law_176 : decode cL_law 176 = .ok (.aload_n 3, 1) := by decide +kernel
theorem dL_law_177 : decode cL_law 177 = .ok (.iload 8, 2) := by decide +kernel
theorem dL_law_179 : decode cL_law 179 = .ok (.sipush 9973, 3) := by decide +kernel
theorem dL_law_182 : decode cL_law 182 = .ok (.irem, 1) := by decide +kernel
theorem dL_law_183 : decode cL_law 183 = .ok (.invokestatic 147, 3) := by decide +kernel
theorem dL_law_186 : decode cL_law 186 = .ok (.ifCond .eq 21, 3) := by decide +kernel
theorem dL_law_189 : decode cL_law 189 = .ok (.aload_n 2, 1) := by decide +kernel
theorem dL_law_190 : decode cL_law 190 = .ok (.aload_n 3, 1) := by decide +kernel
theorem dL_law_191 : decode cL_law 191 = .ok (.aload 4, 2) := by decide +kernel
theorem dL_law_193 : decode cL_law 193 = .ok (.iload 8, 2) := by decide +kernel
theorem dL_law_195 : decode cL_law 195 = .ok (.invokestatic 143, 3) := by decide +kernel
theorem dL_law_198 : decode cL_law 198 = .ok (.iload 11, 2) := by decide +kernel
theorem dL_law_200 : decode cL_law 200 = .ok (.if_icmp .ne 7, 3) := by decide +kernel
theorem dL_law_203 : decode cL_law 203 = .ok (.iconst 1, 1) := by decide +kernel
theorem dL_law_204 : decode cL_law 204 = .ok (.goto 4, 3) := by decide +kernel
theorem dL_law_207 : decode cL_law 207 = .ok (.iconst 0, 1) := by decide +kernel
theorem dL_law_208 : decode cL_law 208 = .ok (.istore 6, 2) := by decide +kernel
theorem dL_law_210 : decode cL_law 210 = .ok (.iload 9, 2) := by decide +kernel
theorem dL_law_212 : decode cL_law 212 = .ok (.bipush 19, 2) := by decide +kernel
theorem dL_law_214 : decode cL_law 214 = .ok (.if_icmp .le 25, 3) := by decide +kernel
theorem dL_law_217 : decode cL_law 217 = .ok (.iload 9, 2) := by decide +kernel
theorem dL_law_219 : decode cL_law 219 = .ok (.bipush 23, 2) := by decide +kernel
theorem dL_law_221 : decode cL_law 221 = .ok (.if_icmp .ge 18, 3) := by decide +kernel
theorem dL_law_224 : decode cL_law 224 = .ok (.iload 11, 2) := by decide +kernel
theorem dL_law_226 : decode cL_law 226 = .ok (.ifCond .lt 13, 3) := by decide +kernel
theorem dL_law_229 : decode cL_law 229 = .ok (.aload 4, 2) := by decide +kernel
theorem dL_law_231 : decode cL_law 231 = .ok (.aload_n 3, 1) := by decide +kernel
theorem dL_law_232 : decode cL_law 232 = .ok (.iconst 1, 1) := by decide +kernel
theorem dL_law_233 : decode cL_law 233 = .ok (.iaload, 1) := by decide +kernel
theorem dL_law_234 : decode cL_law 234 = .ok (.iload 10, 2) := by decide +kernel
theorem dL_law_236 : decode cL_law 236 = .ok (.iconst 5, 1) := by decide +kernel
theorem dL_law_237 : decode cL_law 237 = .ok (.irem, 1) := by decide +kernel
theorem dL_law_238 : decode cL_law 238 = .ok (.iastore, 1) := by decide +kernel
theorem dL_law_239 : decode cL_law 239 = .ok (.iload 9, 2) := by decide +kernel
theorem dL_law_241 : decode cL_law 241 = .ok (.bipush 23, 2) := by decide +kernel
theorem dL_law_243 : decode cL_law 243 = .ok (.if_icmp .ne 73, 3) := by decide +kernel
theorem dL_law_246 : decode cL_law 246 = .ok (.iload 11, 2) := by decide +kernel
theorem dL_law_248 : decode cL_law 248 = .ok (.ifCond .lt 68, 3) := by decide +kernel
theorem dL_law_251 : decode cL_law 251 = .ok (.iload 10, 2) := by decide +kernel
theorem dL_law_253 : decode cL_law 253 = .ok (.bipush 7, 2) := by decide +kernel
theorem dL_law_255 : decode cL_law 255 = .ok (.idiv, 1) := by decide +kernel
theorem dL_law_256 : decode cL_law 256 = .ok (.aload_n 3, 1) := by decide +kernel
theorem dL_law_257 : decode cL_law 257 = .ok (.iconst 1, 1) := by decide +kernel
theorem dL_law_258 : decode cL_law 258 = .ok (.iaload, 1) := by decide +kernel
theorem dL_law_259 : decode cL_law 259 = .ok (.irem, 1) := by decide +kernel
theorem dL_law_260 : decode cL_law 260 = .ok (.istore 12, 2) := by decide +kernel
theorem dL_law_262 : decode cL_law 262 = .ok (.iload 10, 2) := by decide +kernel
theorem dL_law_264 : decode cL_law 264 = .ok (.aload_n 3, 1) := by decide +kernel
theorem dL_law_265 : decode cL_law 265 = .ok (.iconst 1, 1) := by decide +kernel
theorem dL_law_266 : decode cL_law 266 = .ok (.iaload, 1) := by decide +kernel
theorem dL_law_267 : decode cL_law 267 = .ok (.irem, 1) := by decide +kernel
theorem dL_law_268 : decode cL_law 268 = .ok (.istore 13, 2) := by decide +kernel
theorem dL_law_270 : decode cL_law 270 = .ok (.aload 4, 2) := by decide +kernel
theorem dL_law_272 : decode cL_law 272 = .ok (.iload 12, 2) := by decide +kernel
theorem dL_law_274 : decode cL_law 274 = .ok (.iaload, 1) := by decide +kernel
theorem dL_law_275 : decode cL_law 275 = .ok (.istore 14, 2) := by decide +kernel
theorem dL_law_277 : decode cL_law 277 = .ok (.aload 4, 2) := by decide +kernel
theorem dL_law_279 : decode cL_law 279 = .ok (.iload 12, 2) := by decide +kernel
theorem dL_law_281 : decode cL_law 281 = .ok (.aload 4, 2) := by decide +kernel
theorem dL_law_283 : decode cL_law 283 = .ok (.iload 13, 2) := by decide +kernel
theorem dL_law_285 : decode cL_law 285 = .ok (.iaload, 1) := by decide +kernel
theorem dL_law_286 : decode cL_law 286 = .ok (.iastore, 1) := by decide +kernel
theorem dL_law_287 : decode cL_law 287 = .ok (.aload 4, 2) := by decide +kernel
theorem dL_law_289 : decode cL_law 289 = .ok (.iload 13, 2) := by decide +kernel
theorem dL_law_291 : decode cL_law 291 = .ok (.iload 14, 2) := by decide +kernel
theorem dL_law_293 : decode cL_law 293 = .ok (.iastore, 1) := by decide +kernel
theorem dL_law_294 : decode cL_law 294 = .ok (.iload 6, 2) := by decide +kernel
theorem dL_law_296 : decode cL_law 296 = .ok (.ifCond .eq 17, 3) := by decide +kernel
theorem dL_law_299 : decode cL_law 299 = .ok (.aload 4, 2) := by decide +kernel
theorem dL_law_301 : decode cL_law 301 = .ok (.iload 12, 2) := by decide +kernel
theorem dL_law_303 : decode cL_law 303 = .ok (.iaload, 1) := by decide +kernel
theorem dL_law_304 : decode cL_law 304 = .ok (.iload 11, 2) := by decide +kernel
theorem dL_law_306 : decode cL_law 306 = .ok (.if_icmp .ne 7, 3) := by decide +kernel
theorem dL_law_309 : decode cL_law 309 = .ok (.iconst 1, 1) := by decide +kernel
theorem dL_law_310 : decode cL_law 310 = .ok (.goto 4, 3) := by decide +kernel
theorem dL_law_313 : decode cL_law 313 = .ok (.iconst 0, 1) := by decide +kernel
theorem dL_law_314 : decode cL_law 314 = .ok (.istore 6, 2) := by decide +kernel
theorem dL_law_316 : decode cL_law 316 = .ok (.aload_n 3, 1) := by decide +kernel
theorem dL_law_317 : decode cL_law 317 = .ok (.iconst 0, 1) := by decide +kernel
theorem dL_law_318 : decode cL_law 318 = .ok (.dup2, 1) := by decide +kernel
theorem dL_law_319 : decode cL_law 319 = .ok (.iaload, 1) := by decide +kernel
theorem dL_law_320 : decode cL_law 320 = .ok (.iload 9, 2) := by decide +kernel
theorem dL_law_322 : decode cL_law 322 = .ok (.iconst 3, 1) := by decide +kernel
theorem dL_law_323 : decode cL_law 323 = .ok (.if_icmp .lt 10, 3) := by decide +kernel
theorem dL_law_326 : decode cL_law 326 = .ok (.iload 9, 2) := by decide +kernel
theorem dL_law_328 : decode cL_law 328 = .ok (.bipush 9, 2) := by decide +kernel
theorem dL_law_330 : decode cL_law 330 = .ok (.if_icmp .ne 12, 3) := by decide +kernel
theorem dL_law_333 : decode cL_law 333 = .ok (.iload 11, 2) := by decide +kernel
theorem dL_law_335 : decode cL_law 335 = .ok (.ifCond .lt 7, 3) := by decide +kernel
theorem dL_law_338 : decode cL_law 338 = .ok (.iconst 1, 1) := by decide +kernel
theorem dL_law_339 : decode cL_law 339 = .ok (.goto 4, 3) := by decide +kernel
theorem dL_law_342 : decode cL_law 342 = .ok (.iconst 0, 1) := by decide +kernel
theorem dL_law_343 : decode cL_law 343 = .ok (.iadd, 1) := by decide +kernel
theorem dL_law_344 : decode cL_law 344 = .ok (.iastore, 1) := by decide +kernel
theorem dL_law_345 : decode cL_law 345 = .ok (.aload_n 3, 1) := by decide +kernel
theorem dL_law_346 : decode cL_law 346 = .ok (.iconst 1, 1) := by decide +kernel
theorem dL_law_347 : decode cL_law 347 = .ok (.dup2, 1) := by decide +kernel
theorem dL_law_348 : decode cL_law 348 = .ok (.iaload, 1) := by decide +kernel
theorem dL_law_349 : decode cL_law 349 = .ok (.iload 9, 2) := by decide +kernel
theorem dL_law_351 : decode cL_law 351 = .ok (.bipush 19, 2) := by decide +kernel
theorem dL_law_353 : decode cL_law 353 = .ok (.if_icmp .le 19, 3) := by decide +kernel
theorem dL_law_356 : decode cL_law 356 = .ok (.iload 9, 2) := by decide +kernel
theorem dL_law_358 : decode cL_law 358 = .ok (.bipush 23, 2) := by decide +kernel
theorem dL_law_360 : decode cL_law 360 = .ok (.if_icmp .ge 12, 3) := by decide +kernel
theorem dL_law_363 : decode cL_law 363 = .ok (.iload 11, 2) := by decide +kernel
theorem dL_law_365 : decode cL_law 365 = .ok (.ifCond .lt 7, 3) := by decide +kernel
theorem dL_law_368 : decode cL_law 368 = .ok (.iconst 1, 1) := by decide +kernel
theorem dL_law_369 : decode cL_law 369 = .ok (.goto 4, 3) := by decide +kernel
theorem dL_law_372 : decode cL_law 372 = .ok (.iconst 0, 1) := by decide +kernel
theorem dL_law_373 : decode cL_law 373 = .ok (.iadd, 1) := by decide +kernel
theorem dL_law_374 : decode cL_law 374 = .ok (.iastore, 1) := by decide +kernel
theorem dL_law_375 : decode cL_law 375 = .ok (.aload_n 3, 1) := by decide +kernel
theorem dL_law_376 : decode cL_law 376 = .ok (.iconst 2, 1) := by decide +kernel
theorem dL_law_377 : decode cL_law 377 = .ok (.dup2, 1) := by decide +kernel
theorem dL_law_378 : decode cL_law 378 = .ok (.iaload, 1) := by decide +kernel
theorem dL_law_379 : decode cL_law 379 = .ok (.iload 9, 2) := by decide +kernel
theorem dL_law_381 : decode cL_law 381 = .ok (.bipush 23, 2) := by decide +kernel
theorem dL_law_383 : decode cL_law 383 = .ok (.if_icmp .le 19, 3) := by decide +kernel
theorem dL_law_386 : decode cL_law 386 = .ok (.iload 9, 2) := by decide +kernel
theorem dL_law_388 : decode cL_law 388 = .ok (.bipush 27, 2) := by decide +kernel
theorem dL_law_390 : decode cL_law 390 = .ok (.if_icmp .ge 12, 3) := by decide +kernel
theorem dL_law_393 : decode cL_law 393 = .ok (.iload 11, 2) := by decide +kernel
theorem dL_law_395 : decode cL_law 395 = .ok (.ifCond .lt 7, 3) := by decide +kernel
theorem dL_law_398 : decode cL_law 398 = .ok (.iconst 1, 1) := by decide +kernel
theorem dL_law_399 : decode cL_law 399 = .ok (.goto 4, 3) := by decide +kernel
theorem dL_law_402 : decode cL_law 402 = .ok (.iconst 0, 1) := by decide +kernel
theorem dL_law_403 : decode cL_law 403 = .ok (.iadd, 1) := by decide +kernel
theorem dL_law_404 : decode cL_law 404 = .ok (.iastore, 1) := by decide +kernel
theorem dL_law_405 : decode cL_law 405 = .ok (.iload 6, 2) := by decide +kernel
theorem dL_law_407 : decode cL_law 407 = .ok (.ifCond .eq 62, 3) := by decide +kernel
theorem dL_law_410 : decode cL_law 410 = .ok (.iload 7, 2) := by decide +kernel
theorem dL_law_412 : decode cL_law 412 = .ok (.iconst 3, 1) := by decide +kernel
theorem dL_law_413 : decode cL_law 413 = .ok (.irem, 1) := by decide +kernel
theorem dL_law_414 : decode cL_law 414 = .ok (.ifCond .gt 17, 3) := by decide +kernel
theorem dL_law_417 : decode cL_law 417 = .ok (.aload_n 2, 1) := by decide +kernel
theorem dL_law_418 : decode cL_law 418 = .ok (.aload_n 3, 1) := by decide +kernel
theorem dL_law_419 : decode cL_law 419 = .ok (.iload 8, 2) := by decide +kernel
theorem dL_law_421 : decode cL_law 421 = .ok (.sipush 499, 3) := by decide +kernel
theorem dL_law_424 : decode cL_law 424 = .ok (.irem, 1) := by decide +kernel
theorem dL_law_425 : decode cL_law 425 = .ok (.invokestatic 147, 3) := by decide +kernel
theorem dL_law_428 : decode cL_law 428 = .ok (.ifCond .eq 41, 3) := by decide +kernel
theorem dL_law_431 : decode cL_law 431 = .ok (.aload_n 1, 1) := by decide +kernel
theorem dL_law_432 : decode cL_law 432 = .ok (.aload_n 2, 1) := by decide +kernel
theorem dL_law_433 : decode cL_law 433 = .ok (.aload_n 3, 1) := by decide +kernel
theorem dL_law_434 : decode cL_law 434 = .ok (.iload 8, 2) := by decide +kernel
theorem dL_law_436 : decode cL_law 436 = .ok (.iconst 3, 1) := by decide +kernel
theorem dL_law_437 : decode cL_law 437 = .ok (.idiv, 1) := by decide +kernel
theorem dL_law_438 : decode cL_law 438 = .ok (.invokestatic 151, 3) := by decide +kernel
theorem dL_law_441 : decode cL_law 441 = .ok (.ifCond .eq 28, 3) := by decide +kernel
theorem dL_law_444 : decode cL_law 444 = .ok (.iload 7, 2) := by decide +kernel
theorem dL_law_446 : decode cL_law 446 = .ok (.bipush 6, 2) := by decide +kernel
theorem dL_law_448 : decode cL_law 448 = .ok (.irem, 1) := by decide +kernel
theorem dL_law_449 : decode cL_law 449 = .ok (.ifCond .gt 16, 3) := by decide +kernel
theorem dL_law_452 : decode cL_law 452 = .ok (.aload_n 2, 1) := by decide +kernel
theorem dL_law_453 : decode cL_law 453 = .ok (.aload_n 3, 1) := by decide +kernel
theorem dL_law_454 : decode cL_law 454 = .ok (.iload 8, 2) := by decide +kernel
theorem dL_law_456 : decode cL_law 456 = .ok (.bipush 7, 2) := by decide +kernel
theorem dL_law_458 : decode cL_law 458 = .ok (.idiv, 1) := by decide +kernel
theorem dL_law_459 : decode cL_law 459 = .ok (.invokestatic 155, 3) := by decide +kernel
theorem dL_law_462 : decode cL_law 462 = .ok (.ifCond .eq 7, 3) := by decide +kernel
theorem dL_law_465 : decode cL_law 465 = .ok (.iconst 1, 1) := by decide +kernel
theorem dL_law_466 : decode cL_law 466 = .ok (.goto 4, 3) := by decide +kernel
theorem dL_law_469 : decode cL_law 469 = .ok (.iconst 0, 1) := by decide +kernel
theorem dL_law_470 : decode cL_law 470 = .ok (.istore 6, 2) := by decide +kernel
theorem dL_law_472 : decode cL_law 472 = .ok (.iinc 7 1, 3) := by decide +kernel
theorem dL_law_475 : decode cL_law 475 = .ok (.goto (-430), 3) := by decide +kernel
theorem dL_law_478 : decode cL_law 478 = .ok (.iload 6, 2) := by decide +kernel
theorem dL_law_480 : decode cL_law 480 = .ok (.ifCond .eq 55, 3) := by decide +kernel
theorem dL_law_483 : decode cL_law 483 = .ok (.aload_n 1, 1) := by decide +kernel
theorem dL_law_484 : decode cL_law 484 = .ok (.aload_n 3, 1) := by decide +kernel
theorem dL_law_485 : decode cL_law 485 = .ok (.aload_n 0, 1) := by decide +kernel
theorem dL_law_486 : decode cL_law 486 = .ok (.iconst 0, 1) := by decide +kernel
theorem dL_law_487 : decode cL_law 487 = .ok (.invokestatic 139, 3) := by decide +kernel
theorem dL_law_490 : decode cL_law 490 = .ok (.bipush 27, 2) := by decide +kernel
theorem dL_law_492 : decode cL_law 492 = .ok (.idiv, 1) := by decide +kernel
theorem dL_law_493 : decode cL_law 493 = .ok (.invokestatic 155, 3) := by decide +kernel
theorem dL_law_496 : decode cL_law 496 = .ok (.ifCond .eq 39, 3) := by decide +kernel
theorem dL_law_499 : decode cL_law 499 = .ok (.aload_n 1, 1) := by decide +kernel
theorem dL_law_500 : decode cL_law 500 = .ok (.aload_n 3, 1) := by decide +kernel
theorem dL_law_501 : decode cL_law 501 = .ok (.aload_n 0, 1) := by decide +kernel
theorem dL_law_502 : decode cL_law 502 = .ok (.iconst 0, 1) := by decide +kernel
theorem dL_law_503 : decode cL_law 503 = .ok (.invokestatic 139, 3) := by decide +kernel
theorem dL_law_506 : decode cL_law 506 = .ok (.bipush 29, 2) := by decide +kernel
theorem dL_law_508 : decode cL_law 508 = .ok (.idiv, 1) := by decide +kernel
theorem dL_law_509 : decode cL_law 509 = .ok (.invokestatic 158, 3) := by decide +kernel
theorem dL_law_512 : decode cL_law 512 = .ok (.ifCond .eq 23, 3) := by decide +kernel
theorem dL_law_515 : decode cL_law 515 = .ok (.aload_n 2, 1) := by decide +kernel
theorem dL_law_516 : decode cL_law 516 = .ok (.aload_n 3, 1) := by decide +kernel
theorem dL_law_517 : decode cL_law 517 = .ok (.aload_n 0, 1) := by decide +kernel
theorem dL_law_518 : decode cL_law 518 = .ok (.iconst 0, 1) := by decide +kernel
theorem dL_law_519 : decode cL_law 519 = .ok (.invokestatic 139, 3) := by decide +kernel
theorem dL_law_522 : decode cL_law 522 = .ok (.bipush 31, 2) := by decide +kernel
theorem dL_law_524 : decode cL_law 524 = .ok (.idiv, 1) := by decide +kernel
theorem dL_law_525 : decode cL_law 525 = .ok (.invokestatic 158, 3) := by decide +kernel
theorem dL_law_528 : decode cL_law 528 = .ok (.ifCond .eq 7, 3) := by decide +kernel
theorem dL_law_531 : decode cL_law 531 = .ok (.iconst 1, 1) := by decide +kernel
theorem dL_law_532 : decode cL_law 532 = .ok (.goto 4, 3) := by decide +kernel
theorem dL_law_535 : decode cL_law 535 = .ok (.iconst 0, 1) := by decide +kernel
theorem dL_law_536 : decode cL_law 536 = .ok (.ireturn, 1) := by decide +kernel
