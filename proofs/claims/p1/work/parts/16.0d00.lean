theorem dX11_thrown_0 : decode cX11_thrown 0 = .ok (.aload_n 0, 1) := by decide +kernel
theorem dX11_thrown_1 : decode cX11_thrown 1 = .ok (.getfield 111, 3) := by decide +kernel
theorem dX11_thrown_4 : decode cX11_thrown 4 = .ok (.ireturn, 1) := by decide +kernel
set_option maxRecDepth 20000 in
theorem ggL_tree_X10_tree : GoodIn wsL_tree wsX10_tree := goodIn_ca (goodIn_r _ [6, 7, 8, 9, 10, 11, 12, 13, 14, 5, 15, 16, 17, 18, 19, 20, 21, 22, 23, 24, 25, 26, 27, 28, 29, 30, 31, 32, 33, 34, 35, 36, 37, 38, 39, 40, 41, 42, 43, 44, 45, 46, 47, 48, 49, 50, 51, 52, 53, 54, 55, 56, 57, 58, 59, 60, 61, 62, 63, 64, 65, 66, 67, 68, 69, 70, 71, 72, 73, 74, 75, 76, 77, 78, 79, 80, 81, 82, 83, 84, 85, 86, 87, 88, 89, 90, 91, 92, 93, 94, 95, 96, 97, 98, 99, 100, 101, 102, 103, 104, 105, 106, 107, 108, 109, 110, 111, 112, 113, 114, 115, 116, 117, 118, 119, 120, 121, 122, 123, 124, 125, 126, 127, 128, 129, 130, 131, 132, 133, 134, 135, 136, 137, 138, 139, 140, 141, 142, 143, 144, 145, 146, 147, 148, 149, 150, 151, 152, 153, 154, 155, 156, 157, 158, 159, 160, 161, 162, 163, 164, 165, 166, 167, 168, 169, 170, 171, 172, 173, 174, 175, 176, 177, 178, 179, 180, 181, 182, 183, 184, 185, 186, 187, 188, 189, 190, 191, 192, 193, 194, 195, 196, 197, 198, 199] (by decide +kernel) (by decide +kernel)) (goodIn_sub (fun _ h => List.mem_cons_of_mem _ (List.mem_append_right _ h)) (by decide +kernel))
set_option maxRecDepth 20000 in
theorem gL_tree_X10_tree : GoodIn wsL_tree (wsV RL 7 RX10 yX10_tree wsX10_tree) := goodIn_app (goodIn_of _ (by decide +kernel)) ggL_tree_X10_tree
theorem dL_tree_0 : decode cL_tree 0 = .ok (.aload_n 2, 1) := by decide +kernel
theorem dL_tree_1 : decode cL_tree 1 = .ok (.iconst 0, 1) := by decide +kernel
theorem dL_tree_2 : decode cL_tree 2 = .ok (.aload_n 0, 1) := by decide +kernel
theorem dL_tree_3 : decode cL_tree 3 = .ok (.iload_n 1, 1) := by decide +kernel
theorem dL_tree_4 : decode cL_tree 4 = .ok (.invokevirtual 7, 3) := by decide +kernel
theorem dL_tree_7 : decode cL_tree 7 = .ok (.i2l, 1) := by decide +kernel
theorem dL_tree_8 : decode cL_tree 8 = .ok (.lastore, 1) := by decide +kernel
theorem dL_tree_9 : decode cL_tree 9 = .ok (.goto 6, 3) := by decide +kernel
theorem dL_tree_12 : decode cL_tree 12 = .ok (.astore_n 3, 1) := by decide +kernel
theorem dL_tree_13 : decode cL_tree 13 = .ok (.iconst 1, 1) := by decide +kernel
theorem dL_tree_14 : decode cL_tree 14 = .ok (.ireturn, 1) := by decide +kernel
theorem dL_tree_15 : decode cL_tree 15 = .ok (.iconst 0, 1) := by decide +kernel
theorem dL_tree_16 : decode cL_tree 16 = .ok (.ireturn, 1) := by decide +kernel
set_option maxRecDepth 20000 in
theorem ggL_path_X10_path : GoodIn wsL_path wsX10_path := goodIn_ca (goodIn_ca (goodIn_r _ [7, 8, 9, 10, 11, 12, 13, 14, 15, 16, 17, 18, 19, 20, 21, 6, 22, 23, 24, 25, 26, 27, 28, 29, 30, 31, 32, 33, 34, 35, 36, 37, 38, 39, 40, 41, 42, 43, 44, 45, 46, 47, 48, 49, 50, 51, 52, 53, 54, 55, 56, 57, 58, 59, 60, 61, 62, 63, 64, 65, 66, 67, 68, 69, 70, 71, 72, 73, 74, 75, 76, 77, 78, 79, 80, 81, 82, 83, 84, 85, 86, 87, 88, 89, 90, 91, 92, 93, 94, 95, 96, 97, 98, 99, 100, 101, 102, 103, 104, 105, 106, 107, 108, 109, 110, 111, 112, 113, 114, 115, 116, 117, 118, 119, 120, 121, 122, 123, 124, 125, 126, 127, 128, 129, 130, 131, 132, 133, 134, 135, 136, 137, 138, 139, 140, 141, 142, 143, 144, 145, 146, 147, 148, 149, 150, 151, 152, 153, 154, 155, 156, 157, 158, 159, 160, 161, 162, 163, 164, 165, 166, 167, 168, 169, 170, 171, 172, 173, 174, 175, 176, 177, 178, 179, 180, 181, 182, 183, 184, 185, 186, 187, 188, 189, 190, 191, 192, 193, 194, 195, 196, 197, 198, 199, 200, 201, 202, 203, 204, 205, 206, 207, 208, 209, 210, 211, 212, 213, 214, 215, 216, 217, 218, 219, 220, 221, 222, 223, 224, 225, 226, 227, 228, 229, 230, 231, 232, 233, 234, 235, 236, 237] (by decide +kernel) (by decide +kernel)) (goodIn_sub (fun _ h => List.mem_cons_of_mem _ (List.mem_append_left _ (List.mem_append_right _ h))) (by decide +kernel))) (goodIn_sub (fun _ h => List.mem_cons_of_mem _ (List.mem_append_right _ h)) (by decide +kernel))
set_option maxRecDepth 20000 in
theorem gL_path_X10_path : GoodIn wsL_path (wsV RL 15 RX10 yX10_path wsX10_path) := goodIn_app (goodIn_of _ (by decide +kernel)) ggL_path_X10_path
theorem dL_path_0 : decode cL_path 0 = .ok (.aload_n 3, 1) := by decide +kernel
theorem dL_path_1 : decode cL_path 1 = .ok (.iconst 0, 1) := by decide +kernel
theorem dL_path_2 : decode cL_path 2 = .ok (.aload_n 0, 1) := by decide +kernel
theorem dL_path_3 : decode cL_path 3 = .ok (.iload_n 1, 1) := by decide +kernel
theorem dL_path_4 : decode cL_path 4 = .ok (.iload_n 2, 1) := by decide +kernel
theorem dL_path_5 : decode cL_path 5 = .ok (.invokevirtual 15, 3) := by decide +kernel
theorem dL_path_8 : decode cL_path 8 = .ok (.i2l, 1) := by decide +kernel
theorem dL_path_9 : decode cL_path 9 = .ok (.lastore, 1) := by decide +kernel
theorem dL_path_10 : decode cL_path 10 = .ok (.goto 11, 3) := by decide +kernel
theorem dL_path_13 : decode cL_path 13 = .ok (.astore 4, 2) := by decide +kernel
theorem dL_path_15 : decode cL_path 15 = .ok (.iconst 1, 1) := by decide +kernel
theorem dL_path_16 : decode cL_path 16 = .ok (.ireturn, 1) := by decide +kernel
theorem dL_path_17 : decode cL_path 17 = .ok (.astore 4, 2) := by decide +kernel
theorem dL_path_19 : decode cL_path 19 = .ok (.iconst 2, 1) := by decide +kernel
theorem dL_path_20 : decode cL_path 20 = .ok (.ireturn, 1) := by decide +kernel
theorem dL_path_21 : decode cL_path 21 = .ok (.iconst 0, 1) := by decide +kernel
theorem dL_path_22 : decode cL_path 22 = .ok (.ireturn, 1) := by decide +kernel
set_option maxRecDepth 20000 in
theorem ggL_count_X10_count : GoodIn wsL_count wsX10_count := goodIn_ca (goodIn_r _ [6, 7, 8, 9, 10, 11, 12, 13, 14, 15, 16, 17, 18, 19, 20, 21, 22, 23, 24, 25, 26, 27, 28, 29, 30, 31, 32, 33, 5, 34, 35, 36, 37, 38, 39, 40, 41, 42, 43, 44, 45, 46, 47, 48, 49, 50, 51, 52, 53, 54, 55, 56, 57, 58, 59, 60, 61, 62, 63, 64, 65, 66, 67, 68, 69, 70, 71, 72, 73, 74, 75, 76, 77, 78, 79, 80, 81, 82, 83, 84, 85, 86, 87, 88, 89, 90, 91, 92, 93, 94, 95, 96, 97, 98, 99, 100, 101, 102, 103, 104, 105, 106, 107, 108, 109, 110, 111, 112, 113, 114, 115, 116, 117, 118, 119, 120, 121, 122, 123, 124, 125, 126, 127, 128, 129, 130, 131, 132, 133, 134, 135, 136, 137, 138, 139, 140, 141, 142, 143, 144, 145, 146, 147, 148, 149, 150, 151, 152, 153, 154, 155, 156, 157, 158, 159, 160, 161, 162, 163, 164, 165, 166, 167, 168, 169, 170, 171, 172, 173, 174, 175, 176, 177, 178, 179, 180, 181, 182, 183, 184, 185, 186, 187, 188, 189, 190, 191, 192, 193, 194, 195, 196, 197, 198, 199, 200, 201, 202, 203, 204, 205, 206, 207, 208, 209, 210, 211, 212, 213, 214, 215, 216, 217, 218, 219, 220, 221, 222, 223, 224, 225, 226, 227, 228, 229, 230, 231, 232, 233, 234, 235, 236, 237, 238, 239, 240, 241, 242, 243, 244, 245, 246, 247, 248, 249, 250, 251, 252, 253] (by decide +kernel) (by decide +kernel)) (goodIn_sub (fun _ h => List.mem_cons_of_mem _ (List.mem_append_right _ h)) (by decide +kernel))
set_option maxRecDepth 20000 in
theorem gL_count_X10_count : GoodIn wsL_count (wsV RL 21 RX10 yX10_count wsX10_count) := goodIn_app (goodIn_of _ (by decide +kernel)) ggL_count_X10_count
theorem dL_count_0 : decode cL_count 0 = .ok (.aload_n 2, 1) := by decide +kernel
theorem dL_count_1 : decode cL_count 1 = .ok (.iconst 0, 1) := by decide +kernel
theorem dL_count_2 : decode cL_count 2 = .ok (.aload_n 0, 1) := by decide +kernel
theorem dL_count_3 : decode cL_count 3 = .ok (.iload_n 1, 1) := by decide +kernel
theorem dL_count_4 : decode cL_count 4 = .ok (.invokevirtual 21, 3) := by decide +kernel
theorem dL_count_7 : decode cL_count 7 = .ok (.i2l, 1) := by decide +kernel
theorem dL_count_8 : decode cL_count 8 = .ok (.lastore, 1) := by decide +kernel
theorem dL_count_9 : decode cL_count 9 = .ok (.goto 6, 3) := by decide +kernel
theorem dL_count_12 : decode cL_count 12 = .ok (.astore_n 3, 1) := by decide +kernel
theorem dL_count_13 : decode cL_count 13 = .ok (.iconst 1, 1) := by decide +kernel
theorem dL_count_14 : decode cL_count 14 = .ok (.ireturn, 1) := by decide +kernel
theorem dL_count_15 : decode cL_count 15 = .ok (.iconst 0, 1) := by decide +kernel
theorem dL_count_16 : decode cL_count 16 = .ok (.ireturn, 1) := by decide +kernel
set_option maxRecDepth 20000 in
theorem ggL_thing_X10_thing : GoodIn wsL_thing wsX10_thing := goodIn_ca (goodIn_r _ [6, 7, 8, 9, 10, 11, 12, 5, 13, 14, 15, 16, 17, 18, 19, 20, 21, 22, 23, 24, 25, 26, 27, 28, 29, 30, 31, 32, 33, 34, 35, 36, 37, 38, 39, 40, 41, 42, 43, 44, 45, 46, 47, 48, 49, 50, 51, 52, 53, 54, 55, 56, 57, 58, 59, 60, 61, 62, 63, 64, 65, 66, 67, 68, 69, 70, 71, 72, 73, 74, 75, 76, 77, 78, 79, 80, 81, 82, 83, 84, 85, 86, 87, 88, 89, 90, 91, 92, 93, 94, 95, 96, 97, 98, 99, 100, 101, 102, 103, 104, 105, 106, 107, 108, 109, 110, 111, 112, 113, 114, 115, 116, 117, 118, 119, 120, 121, 122, 123, 124, 125, 126, 127, 128, 129, 130, 131, 132, 133, 134, 135, 136, 137, 138, 139, 140, 141, 142, 143, 144, 145, 146, 147, 148, 149, 150, 151, 152, 153, 154, 155, 156, 157, 158, 159, 160, 161, 162, 163, 164, 165, 166, 167, 168, 169, 170, 171, 172, 173, 174, 175, 176, 177, 178, 179, 180, 181, 182, 183, 184, 185, 186, 187, 188, 189, 190, 191, 192, 193, 194, 195, 196, 197, 198, 199, 200, 201] (by decide +kernel) (by decide +kernel)) (goodIn_sub (fun _ h => List.mem_cons_of_mem _ (List.mem_append_right _ h)) (by decide +kernel))
set_option maxRecDepth 20000 in
theorem gL_thing_X10_thing : GoodIn wsL_thing (wsV RL 24 RX10 yX10_thing wsX10_thing) := goodIn_app (goodIn_of _ (by decide +kernel)) ggL_thing_X10_thing
theorem dL_thing_0 : decode cL_thing 0 = .ok (.aload_n 3, 1) := by decide +kernel
theorem dL_thing_1 : decode cL_thing 1 = .ok (.iconst 0, 1) := by decide +kernel
theorem dL_thing_2 : decode cL_thing 2 = .ok (.aload_n 0, 1) := by decide +kernel
theorem dL_thing_3 : decode cL_thing 3 = .ok (.iload_n 1, 1) := by decide +kernel
theorem dL_thing_4 : decode cL_thing 4 = .ok (.iload_n 2, 1) := by decide +kernel
theorem dL_thing_5 : decode cL_thing 5 = .ok (.invokevirtual 24, 3) := by decide +kernel
theorem dL_thing_8 : decode cL_thing 8 = .ok (.i2l, 1) := by decide +kernel
theorem dL_thing_9 : decode cL_thing 9 = .ok (.lastore, 1) := by decide +kernel
theorem dL_thing_10 : decode cL_thing 10 = .ok (.goto 7, 3) := by decide +kernel
theorem dL_thing_13 : decode cL_thing 13 = .ok (.astore 4, 2) := by decide +kernel
theorem dL_thing_15 : decode cL_thing 15 = .ok (.iconst 1, 1) := by decide +kernel
theorem dL_thing_16 : decode cL_thing 16 = .ok (.ireturn, 1) := by decide +kernel
theorem dL_thing_17 : decode cL_thing 17 = .ok (.iconst 0, 1) := by decide +kernel
theorem dL_thing_18 : decode cL_thing 18 = .ok (.ireturn, 1) := by decide +kernel
set_option maxRecDepth 20000 in
theorem ggL_within_X10_within : GoodIn wsL_within wsX10_within := goodIn_ca (goodIn_r _ [6, 7, 8, 9, 10, 11, 12, 5, 13, 14, 15, 16, 17, 18, 19, 20, 21, 22, 23, 24, 25, 26, 27, 28, 29, 30, 31, 32, 33, 34, 35, 36, 37, 38, 39, 40, 41, 42, 43, 44, 45, 46, 47, 48, 49, 50, 51, 52, 53, 54, 55] (by decide +kernel) (by decide +kernel)) (goodIn_sub (fun _ h => List.mem_cons_of_mem _ (List.mem_append_right _ h)) (by decide +kernel))
set_option maxRecDepth 20000 in
theorem gL_within_X10_within : GoodIn wsL_within (wsV RL 27 RX10 yX10_within wsX10_within) := goodIn_app (goodIn_of _ (by decide +kernel)) ggL_within_X10_within
theorem dL_within_0 : decode cL_within 0 = .ok (.aload_n 3, 1) := by decide +kernel
theorem dL_within_1 : decode cL_within 1 = .ok (.iconst 0, 1) := by decide +kernel
theorem dL_within_2 : decode cL_within 2 = .ok (.aload_n 0, 1) := by decide +kernel
theorem dL_within_3 : decode cL_within 3 = .ok (.iload_n 1, 1) := by decide +kernel
theorem dL_within_4 : decode cL_within 4 = .ok (.iload_n 2, 1) := by decide +kernel
theorem dL_within_5 : decode cL_within 5 = .ok (.invokevirtual 27, 3) := by decide +kernel
theorem dL_within_8 : decode cL_within 8 = .ok (.i2l, 1) := by decide +kernel
theorem dL_within_9 : decode cL_within 9 = .ok (.lastore, 1) := by decide +kernel
theorem dL_within_10 : decode cL_within 10 = .ok (.goto 7, 3) := by decide +kernel
theorem dL_within_13 : decode cL_within 13 = .ok (.astore 4, 2) := by decide +kernel
theorem dL_within_15 : decode cL_within 15 = .ok (.iconst 1, 1) := by decide +kernel
theorem dL_within_16 : decode cL_within 16 = .ok (.ireturn, 1) := by decide +kernel
theorem dL_within_17 : decode cL_within 17 = .ok (.iconst 0, 1) := by decide +kernel
theorem dL_within_18 : decode cL_within 18 = .ok (.ireturn, 1) := by decide +kernel
set_option maxRecDepth 20000 in
theorem ggL_told_X10_told : GoodIn wsL_told wsX10_told := goodIn_ca (goodIn_r _ [6, 7, 8, 9, 10, 11, 5, 12, 13, 14, 15, 16, 17, 18, 19, 20, 21, 22, 23, 24, 25, 26, 27, 28, 29, 30, 31, 32, 33, 34, 35, 36, 37, 38, 39, 40, 41, 42, 43, 44, 45, 46, 47, 48, 49, 50, 51, 52, 53, 54, 55, 56, 57, 58, 59, 60, 61, 62, 63, 64, 65, 66, 67, 68, 69, 70, 71, 72, 73, 74, 75, 76, 77, 78, 79, 80, 81, 82, 83, 84, 85, 86, 87, 88, 89, 90, 91, 92, 93, 94, 95, 96, 97, 98, 99, 100, 101, 102, 103, 104, 105, 106, 107, 108, 109, 110, 111, 112, 113, 114, 115, 116, 117, 118, 119, 120, 121, 122, 123, 124, 125, 126, 127, 128, 129, 130, 131, 132, 133, 134, 135, 136] (by decide +kernel) (by decide +kernel)) (goodIn_sub (fun _ h => List.mem_cons_of_mem _ (List.mem_append_right _ h)) (by decide +kernel))
set_option maxRecDepth 20000 in
theorem gL_told_X10_told : GoodIn wsL_told (wsV RL 30 RX10 yX10_told wsX10_told) := goodIn_app (goodIn_of _ (by decide +kernel)) ggL_told_X10_told
theorem dL_told_0 : decode cL_told 0 = .ok (.aload 4, 2) := by decide +kernel
theorem dL_told_2 : decode cL_told 2 = .ok (.iconst 0, 1) := by decide +kernel
theorem dL_told_3 : decode cL_told 3 = .ok (.aload_n 0, 1) := by decide +kernel
theorem dL_told_4 : decode cL_told 4 = .ok (.iload_n 1, 1) := by decide +kernel
theorem dL_told_5 : decode cL_told 5 = .ok (.iload_n 2, 1) := by decide +kernel
theorem dL_told_6 : decode cL_told 6 = .ok (.iload_n 3, 1) := by decide +kernel
theorem dL_told_7 : decode cL_told 7 = .ok (.invokevirtual 30, 3) := by decide +kernel
theorem dL_told_10 : decode cL_told 10 = .ok (.i2l, 1) := by decide +kernel
theorem dL_told_11 : decode cL_told 11 = .ok (.lastore, 1) := by decide +kernel
theorem dL_told_12 : decode cL_told 12 = .ok (.goto 7, 3) := by decide +kernel
theorem dL_told_15 : decode cL_told 15 = .ok (.astore 5, 2) := by decide +kernel
theorem dL_told_17 : decode cL_told 17 = .ok (.iconst 1, 1) := by decide +kernel
theorem dL_told_18 : decode cL_told 18 = .ok (.ireturn, 1) := by decide +kernel
theorem dL_told_19 : decode cL_told 19 = .ok (.iconst 0, 1) := by decide +kernel
theorem dL_told_20 : decode cL_told 20 = .ok (.ireturn, 1) := by decide +kernel
set_option maxRecDepth 20000 in
theorem ggL_alike_X10_alike : GoodIn wsL_alike wsX10_alike := goodIn_ca (goodIn_r _ [6, 7, 8, 9, 10, 5, 11, 12, 13, 14, 15, 16, 17, 18, 19, 20, 21, 22, 23, 24, 25, 26, 27, 28, 29, 30, 31, 32, 33, 34, 35, 36, 37, 38, 39, 40, 41, 42, 43, 44, 45, 46, 47, 48, 49, 50, 51, 52, 53, 54, 55, 56, 57, 58, 59, 60, 61, 62, 63, 64, 65, 66, 67, 68, 69, 70, 71, 72, 73, 74, 75, 76, 77, 78, 79, 80, 81, 82, 83, 84, 85, 86] (by decide +kernel) (by decide +kernel)) (goodIn_sub (fun _ h => List.mem_cons_of_mem _ (List.mem_append_right _ h)) (by decide +kernel))
set_option maxRecDepth 20000 in
theorem gL_alike_X10_alike : GoodIn wsL_alike (wsV RL 34 RX10 yX10_alike wsX10_alike) := goodIn_app (goodIn_of _ (by decide +kernel)) ggL_alike_X10_alike
theorem dL_alike_0 : decode cL_alike 0 = .ok (.aload_n 3, 1) := by decide +kernel
theorem dL_alike_1 : decode cL_alike 1 = .ok (.iconst 0, 1) := by decide +kernel
theorem dL_alike_2 : decode cL_alike 2 = .ok (.aload_n 0, 1) := by decide +kernel
theorem dL_alike_3 : decode cL_alike 3 = .ok (.iload_n 1, 1) := by decide +kernel
theorem dL_alike_4 : decode cL_alike 4 = .ok (.iload_n 2, 1) := by decide +kernel
theorem dL_alike_5 : decode cL_alike 5 = .ok (.invokevirtual 34, 3) := by decide +kernel
theorem dL_alike_8 : decode cL_alike 8 = .ok (.i2l, 1) := by decide +kernel
theorem dL_alike_9 : decode cL_alike 9 = .ok (.lastore, 1) := by decide +kernel
theorem dL_alike_10 : decode cL_alike 10 = .ok (.goto 7, 3) := by decide +kernel
theorem dL_alike_13 : decode cL_alike 13 = .ok (.astore 4, 2) := by decide +kernel
theorem dL_alike_15 : decode cL_alike 15 = .ok (.iconst 1, 1) := by decide +kernel
theorem dL_alike_16 : decode cL_alike 16 = .ok (.ireturn, 1) := by decide +kernel
theorem dL_alike_17 : decode cL_alike 17 = .ok (.iconst 0, 1) := by decide +kernel
theorem dL_alike_18 : decode cL_alike 18 = .ok (.ireturn, 1) := by decide +kernel
set_option maxRecDepth 20000 in
theorem ggL_answer_X10_answer : GoodIn wsL_answer wsX10_answer := goodIn_ca (goodIn_r _ [6, 7, 8, 9, 10, 11, 12, 5, 13, 14, 15, 16, 17, 18, 19, 20, 21, 22, 23, 24, 25, 26, 27, 28, 29, 30, 31, 32, 33, 34, 35, 36, 37, 38, 39, 40, 41, 42, 43, 44, 45, 46, 47, 48, 49, 50, 51, 52, 53, 54, 55, 56, 57, 58, 59, 60, 61, 62, 63, 64, 65, 66, 67, 68, 69, 70, 71, 72, 73, 74, 75, 76, 77, 78, 79, 80, 81, 82, 83, 84, 85, 86, 87, 88, 89, 90, 91, 92, 93, 94, 95, 96, 97, 98, 99, 100, 101, 102, 103, 104, 105, 106, 107, 108, 109, 110, 111, 112, 113, 114, 115, 116, 117, 118, 119, 120, 121, 122, 123, 124, 125, 126, 127, 128, 129, 130, 131, 132, 133, 134, 135, 136, 137, 138, 139, 140, 141, 142, 143, 144, 145, 146, 147, 148, 149, 150, 151, 152] (by decide +kernel) (by decide +kernel)) (goodIn_sub (fun _ h => List.mem_cons_of_mem _ (List.mem_append_right _ h)) (by decide +kernel))
set_option maxRecDepth 20000 in
theorem gL_answer_X10_answer : GoodIn wsL_answer (wsV RL 37 RX10 yX10_answer wsX10_answer) := goodIn_app (goodIn_of _ (by decide +kernel)) ggL_answer_X10_answer
theorem dL_answer_0 : decode cL_answer 0 = .ok (.aload_n 3, 1) := by decide +kernel
theorem dL_answer_1 : decode cL_answer 1 = .ok (.iconst 0, 1) := by decide +kernel
theorem dL_answer_2 : decode cL_answer 2 = .ok (.aload_n 0, 1) := by decide +kernel
theorem dL_answer_3 : decode cL_answer 3 = .ok (.iload_n 1, 1) := by decide +kernel
theorem dL_answer_4 : decode cL_answer 4 = .ok (.iload_n 2, 1) := by decide +kernel
theorem dL_answer_5 : decode cL_answer 5 = .ok (.invokevirtual 37, 3) := by decide +kernel
theorem dL_answer_8 : decode cL_answer 8 = .ok (.i2l, 1) := by decide +kernel
theorem dL_answer_9 : decode cL_answer 9 = .ok (.lastore, 1) := by decide +kernel
theorem dL_answer_10 : decode cL_answer 10 = .ok (.goto 7, 3) := by decide +kernel
theorem dL_answer_13 : decode cL_answer 13 = .ok (.astore 4, 2) := by decide +kernel
theorem dL_answer_15 : decode cL_answer 15 = .ok (.iconst 1, 1) := by decide +kernel
theorem dL_answer_16 : decode cL_answer 16 = .ok (.ireturn, 1) := by decide +kernel
theorem dL_answer_17 : decode cL_answer 17 = .ok (.iconst 0, 1) := by decide +kernel
theorem dL_answer_18 : decode cL_answer 18 = .ok (.ireturn, 1) := by decide +kernel
set_option maxRecDepth 20000 in
theorem ggL_steps_X10_steps : GoodIn wsL_steps wsX10_steps := goodIn_ca (goodIn_r _ [6, 7, 8, 9, 10, 11, 12, 5, 13, 14, 15, 16, 17, 18, 19, 20, 21, 22, 23, 24, 25, 26, 27, 28, 29, 30, 31, 32, 33, 34, 35, 36, 37, 38, 39, 40, 41, 42, 43, 44, 45, 46, 47, 48, 49, 50, 51, 52, 53, 54, 55, 56, 57, 58, 59, 60, 61, 62, 63, 64, 65, 66, 67, 68, 69, 70, 71, 72, 73, 74, 75, 76, 77, 78, 79, 80, 81, 82, 83, 84, 85, 86, 87, 88, 89, 90, 91, 92, 93, 94, 95, 96, 97, 98, 99, 100, 101, 102, 103, 104, 105, 106, 107, 108, 109, 110, 111, 112, 113, 114, 115, 116, 117, 118, 119, 120, 121, 122, 123, 124, 125, 126, 127, 128, 129, 130, 131, 132, 133, 134, 135, 136, 137, 138, 139, 140, 141, 142, 143, 144, 145] (by decide +kernel) (by decide +kernel)) (goodIn_sub (fun _ h => List.mem_cons_of_mem _ (List.mem_append_right _ h)) (by decide +kernel))
set_option maxRecDepth 20000 in
theorem gL_steps_X10_steps : GoodIn wsL_steps (wsV RL 40 RX10 yX10_steps wsX10_steps) := goodIn_app (goodIn_of _ (by decide +kernel)) ggL_steps_X10_steps
theorem dL_steps_0 : decode cL_steps 0 = .ok (.aload_n 3, 1) := by decide +kernel
theorem dL_steps_1 : decode cL_steps 1 = .ok (.iconst 0, 1) := by decide +kernel
theorem dL_steps_2 : decode cL_steps 2 = .ok (.aload_n 0, 1) := by decide +kernel
theorem dL_steps_3 : decode cL_steps 3 = .ok (.iload_n 1, 1) := by decide +kernel
theorem dL_steps_4 : decode cL_steps 4 = .ok (.iload_n 2, 1) := by decide +kernel
theorem dL_steps_5 : decode cL_steps 5 = .ok (.invokevirtual 40, 3) := by decide +kernel
theorem dL_steps_8 : decode cL_steps 8 = .ok (.i2l, 1) := by decide +kernel
theorem dL_steps_9 : decode cL_steps 9 = .ok (.lastore, 1) := by decide +kernel
theorem dL_steps_10 : decode cL_steps 10 = .ok (.goto 7, 3) := by decide +kernel
theorem dL_steps_13 : decode cL_steps 13 = .ok (.astore 4, 2) := by decide +kernel
theorem dL_steps_15 : decode cL_steps 15 = .ok (.iconst 1, 1) := by decide +kernel
theorem dL_steps_16 : decode cL_steps 16 = .ok (.ireturn, 1) := by decide +kernel
theorem dL_steps_17 : decode cL_steps 17 = .ok (.iconst 0, 1) := by decide +kernel
theorem dL_steps_18 : decode cL_steps 18 = .ok (.ireturn, 1) := by decide +kernel
set_option maxRecDepth 20000 in
theorem ggL_row_X10_row : GoodIn wsL_row wsX10_row := goodIn_ca (goodIn_r _ [6, 7, 8, 9, 10, 11, 12, 13, 14, 15, 16, 17, 18, 19, 20, 21, 22, 23, 24, 25, 26, 27, 28, 29, 30, 31, 32, 33, 34, 35, 36, 37, 38, 39, 40, 41, 42, 43, 44, 45, 46, 47, 48, 49, 50, 51, 52, 53, 54, 55, 56, 57, 58, 59, 60, 61, 62, 63, 64, 65, 66, 67, 68, 69, 70, 71, 72, 73, 74, 75, 76, 77, 78, 79, 80, 81, 82] (by decide +kernel) (by decide +kernel)) (goodIn_sub (fun _ h => List.mem_cons_of_mem _ (List.mem_append_right _ h)) (by decide +kernel))
set_option maxRecDepth 20000 in
theorem gL_row_X10_row : GoodIn wsL_row (wsV RL 43 RX10 yX10_row wsX10_row) := goodIn_app (goodIn_of _ (by decide +kernel)) ggL_row_X10_row
theorem dL_row_0 : decode cL_row 0 = .ok (.aload_n 3, 1) := by decide +kernel
theorem dL_row_1 : decode cL_row 1 = .ok (.iconst 0, 1) := by decide +kernel
theorem dL_row_2 : decode cL_row 2 = .ok (.aload_n 0, 1) := by decide +kernel
theorem dL_row_3 : decode cL_row 3 = .ok (.iload_n 1, 1) := by decide +kernel
theorem dL_row_4 : decode cL_row 4 = .ok (.iload_n 2, 1) := by decide +kernel
theorem dL_row_5 : decode cL_row 5 = .ok (.invokevirtual 43, 3) := by decide +kernel
theorem dL_row_8 : decode cL_row 8 = .ok (.i2l, 1) := by decide +kernel
theorem dL_row_9 : decode cL_row 9 = .ok (.lastore, 1) := by decide +kernel
theorem dL_row_10 : decode cL_row 10 = .ok (.goto 7, 3) := by decide +kernel
theorem dL_row_13 : decode cL_row 13 = .ok (.astore 4, 2) := by decide +kernel
theorem dL_row_15 : decode cL_row 15 = .ok (.iconst 1, 1) := by decide +kernel
theorem dL_row_16 : decode cL_row 16 = .ok (.ireturn, 1) := by decide +kernel
theorem dL_row_17 : decode cL_row 17 = .ok (.iconst 0, 1) := by decide +kernel
theorem dL_row_18 : decode cL_row 18 = .ok (.ireturn, 1) := by decide +kernel
set_option maxRecDepth 20000 in
theorem ggL_rowText_X10_rowText : GoodIn wsL_rowText wsX10_rowText := goodIn_ca (goodIn_r _ [6, 7, 8, 9, 10, 11, 12, 13, 14, 15, 16, 17, 18, 19, 20, 21, 22, 23, 24, 25, 26, 27, 28, 29, 30, 31, 32, 33, 34, 35, 36, 37, 38, 39, 40, 41, 42, 43, 44, 45, 46, 47, 48, 49, 50, 51, 52, 53, 54, 55, 56, 57, 58, 59, 60, 61, 62, 63, 64, 65, 66, 67, 68, 69, 70, 71, 72, 73, 74, 75, 76, 77, 78, 79, 80, 81, 82, 83, 84, 85, 86, 87, 88, 89, 90, 91, 92, 93, 94, 95, 96, 97, 98, 99, 100, 101, 102, 103, 104, 105, 106, 107, 108, 109, 110, 111, 112, 113, 114, 5, 115, 116, 117, 118, 119, 120, 121, 122, 123, 124, 125, 126, 127, 128, 129, 130, 131, 132, 133, 134, 135, 136, 137, 138, 139, 140, 141, 142, 143, 144, 145, 146, 147, 148, 149] (by decide +kernel) (by decide +kernel)) (goodIn_sub (fun _ h => List.mem_cons_of_mem _ (List.mem_append_right _ h)) (by decide +kernel))
set_option maxRecDepth 20000 in
theorem gL_rowText_X10_rowText : GoodIn wsL_rowText (wsV RL 46 RX10 yX10_rowText wsX10_rowText) := goodIn_app (goodIn_of _ (by decide +kernel)) ggL_rowText_X10_rowText
theorem dL_rowText_0 : decode cL_rowText 0 = .ok (.aload_n 3, 1) := by decide +kernel
theorem dL_rowText_1 : decode cL_rowText 1 = .ok (.iconst 0, 1) := by decide +kernel
theorem dL_rowText_2 : decode cL_rowText 2 = .ok (.aload_n 0, 1) := by decide +kernel
theorem dL_rowText_3 : decode cL_rowText 3 = .ok (.iload_n 1, 1) := by decide +kernel
theorem dL_rowText_4 : decode cL_rowText 4 = .ok (.iload_n 2, 1) := by decide +kernel
theorem dL_rowText_5 : decode cL_rowText 5 = .ok (.invokevirtual 46, 3) := by decide +kernel
theorem dL_rowText_8 : decode cL_rowText 8 = .ok (.i2l, 1) := by decide +kernel
theorem dL_rowText_9 : decode cL_rowText 9 = .ok (.lastore, 1) := by decide +kernel
theorem dL_rowText_10 : decode cL_rowText 10 = .ok (.goto 7, 3) := by decide +kernel
theorem dL_rowText_13 : decode cL_rowText 13 = .ok (.astore 4, 2) := by decide +kernel
theorem dL_rowText_15 : decode cL_rowText 15 = .ok (.iconst 1, 1) := by decide +kernel
theorem dL_rowText_16 : decode cL_rowText 16 = .ok (.ireturn, 1) := by decide +kernel
theorem dL_rowText_17 : decode cL_rowText 17 = .ok (.iconst 0, 1) := by decide +kernel
theorem dL_rowText_18 : decode cL_rowText 18 = .ok (.ireturn, 1) := by decide +kernel
set_option maxRecDepth 20000 in
theorem ggL_put_X10_put : GoodIn wsL_put wsX10_put := goodIn_ca (goodIn_r _ [6, 7, 8, 9, 10, 11, 12, 13, 14, 5, 15, 16, 17, 18, 19, 20, 21, 22, 23, 24, 25, 26, 27, 28, 29, 30, 31, 32, 33, 34, 35, 36, 37, 38, 39, 40, 41, 42, 43, 44, 45, 46, 47, 48, 49, 50, 51, 52, 53, 54, 55, 56, 57, 58, 59, 60, 61, 62, 63, 64, 65, 66, 67, 68, 69, 70, 71, 72, 73, 74, 75, 76, 77, 78, 79, 80, 81, 82, 83, 84, 85, 86, 87, 88, 89, 90, 91, 92, 93, 94, 95, 96, 97, 98, 99, 100, 101, 102, 103, 104, 105, 106, 107, 108, 109, 110, 111, 112, 113, 114, 115, 116, 117, 118, 119, 120, 121, 122, 123, 124, 125, 126, 127, 128, 129, 130, 131, 132, 133, 134, 135, 136, 137, 138, 139, 140, 141, 142, 143, 144, 145, 146, 147, 148, 149, 150, 151, 152, 153, 154, 155, 156, 157, 158, 159, 160, 161, 162, 163, 164, 165, 166, 167, 168, 169, 170, 171, 172, 173, 174, 175, 176, 177, 178, 179, 180, 181, 182, 183, 184, 185, 186, 187, 188, 189, 190, 191, 192, 193, 194, 195, 196, 197, 198, 199, 200, 201, 202, 203, 204, 205, 206, 207, 208, 209, 210, 211, 212, 213, 214, 215, 216, 217, 218, 219, 220, 221, 222, 223, 224, 225, 226, 227, 228, 229, 230, 231, 232, 233, 234, 235, 236, 237, 238, 239, 240, 241, 242, 243, 244, 245, 246, 247, 248, 249, 250, 251, 252, 253, 254, 255, 256, 257, 258, 259, 260, 261, 262, 263, 264, 265, 266, 267, 268, 269, 270, 271, 272, 273, 274, 275, 276, 277, 278, 279, 280, 281, 282, 283, 284, 285, 286, 287, 288, 289, 290, 291, 292, 293, 294, 295, 296, 297, 298, 299, 300, 301, 302, 303, 304, 305, 306, 307, 308, 309, 310, 311, 312, 313, 314, 315, 316, 317, 318, 319, 320, 321, 322, 323, 324, 325, 326, 327, 328, 329, 330, 331, 332, 333, 334, 335, 336, 337, 338, 339, 340, 341, 342, 343, 344, 345, 346, 347, 348, 349, 350, 351, 352, 353, 354, 355, 356, 357, 358, 359, 360, 361, 362, 363, 364, 365, 366, 367, 368, 369, 370, 371, 372, 373, 374, 375, 376, 377, 378, 379, 380, 381, 382, 383] (by decide +kernel) (by decide +kernel)) (goodIn_sub (fun _ h => List.mem_cons_of_mem _ (List.mem_append_right _ h)) (by decide +kernel))
set_option maxRecDepth 20000 in
theorem gL_put_X10_put : GoodIn wsL_put (wsV RL 49 RX10 yX10_put wsX10_put) := goodIn_app (goodIn_of _ (by decide +kernel)) ggL_put_X10_put
theorem dL_put_0 : decode cL_put 0 = .ok (.aload_n 3, 1) := by decide +kernel
theorem dL_put_1 : decode cL_put 1 = .ok (.iconst 0, 1) := by decide +kernel
theorem dL_put_2 : decode cL_put 2 = .ok (.aload_n 0, 1) := by decide +kernel
theorem dL_put_3 : decode cL_put 3 = .ok (.iload_n 1, 1) := by decide +kernel
theorem dL_put_4 : decode cL_put 4 = .ok (.iload_n 2, 1) := by decide +kernel
theorem dL_put_5 : decode cL_put 5 = .ok (.invokevirtual 49, 3) := by decide +kernel
theorem dL_put_8 : decode cL_put 8 = .ok (.i2l, 1) := by decide +kernel
theorem dL_put_9 : decode cL_put 9 = .ok (.lastore, 1) := by decide +kernel
theorem dL_put_10 : decode cL_put 10 = .ok (.goto 7, 3) := by decide +kernel
theorem dL_put_13 : decode cL_put 13 = .ok (.astore 4, 2) := by decide +kernel
theorem dL_put_15 : decode cL_put 15 = .ok (.iconst 1, 1) := by decide +kernel
theorem dL_put_16 : decode cL_put 16 = .ok (.ireturn, 1) := by decide +kernel
theorem dL_put_17 : decode cL_put 17 = .ok (.iconst 0, 1) := by decide +kernel
theorem dL_put_18 : decode cL_put 18 = .ok (.ireturn, 1) := by decide +kernel
set_option maxRecDepth 20000 in
theorem ggL_append_X10_append : GoodIn wsL_append wsX10_append := goodIn_ca (goodIn_r _ [6, 7, 8, 9, 10, 11, 12, 13, 14, 5, 15, 16, 17, 18, 19, 20, 21, 22, 23, 24, 25, 26, 27, 28, 29, 30, 31, 32, 33, 34, 35, 36, 37, 38, 39, 40, 41, 42, 43, 44, 45, 46, 47, 48, 49, 50, 51, 52, 53, 54, 55, 56, 57, 58, 59, 60, 61, 62, 63, 64, 65, 66, 67, 68, 69, 70, 71, 72, 73, 74, 75, 76, 77, 78, 79, 80, 81, 82, 83, 84, 85, 86, 87, 88, 89, 90, 91, 92, 93, 94, 95, 96, 97, 98, 99, 100, 101, 102, 103, 104, 105, 106, 107, 108, 109, 110, 111, 112, 113, 114, 115, 116, 117, 118, 119, 120, 121, 122, 123, 124, 125, 126, 127, 128, 129, 130, 131, 132, 133, 134, 135, 136, 137, 138, 139, 140, 141, 142, 143, 144, 145, 146, 147, 148, 149, 150, 151, 152, 153, 154, 155, 156, 157, 158, 159, 160, 161, 162, 163, 164, 165, 166, 167, 168, 169, 170, 171, 172, 173, 174, 175, 176, 177, 178, 179, 180, 181, 182, 183, 184, 185, 186, 187, 188, 189, 190, 191, 192, 193, 194, 195, 196, 197, 198, 199, 200, 201, 202, 203, 204, 205, 206, 207, 208, 209, 210, 211, 212, 213, 214, 215, 216, 217, 218, 219, 220, 221, 222, 223, 224, 225, 226, 227, 228, 229, 230, 231, 232, 233, 234, 235, 236, 237, 238, 239, 240, 241, 242, 243, 244, 245, 246, 247, 248, 249, 250, 251, 252, 253, 254, 255, 256, 257, 258, 259, 260, 261, 262, 263, 264, 265, 266, 267, 268, 269, 270, 271, 272, 273, 274, 275, 276, 277, 278, 279, 280, 281, 282, 283, 284, 285, 286, 287, 288, 289, 290, 291, 292, 293, 294, 295, 296, 297, 298, 299, 300, 301, 302, 303, 304, 305, 306, 307, 308, 309, 310, 311, 312, 313, 314, 315, 316, 317, 318, 319, 320, 321, 322, 323, 324, 325, 326, 327, 328, 329, 330, 331, 332, 333, 334, 335, 336, 337, 338, 339, 340, 341, 342, 343, 344, 345, 346, 347, 348, 349, 350, 351, 352, 353, 354, 355, 356, 357, 358, 359, 360, 361, 362, 363, 364, 365, 366, 367, 368, 369, 370, 371] (by decide +kernel) (by decide +kernel)) (goodIn_sub (fun _ h => List.mem_cons_of_mem _ (List.mem_append_right _ h)) (by decide +kernel))
set_option maxRecDepth 20000 in
theorem gL_append_X10_append : GoodIn wsL_append (wsV RL 52 RX10 yX10_append wsX10_append) := goodIn_app (goodIn_of _ (by decide +kernel)) ggL_append_X10_append
theorem dL_append_0 : decode cL_append 0 = .ok (.aload_n 3, 1) := by decide +kernel
theorem dL_append_1 : decode cL_append 1 = .ok (.iconst 0, 1) := by decide +kernel
theorem dL_append_2 : decode cL_append 2 = .ok (.aload_n 0, 1) := by decide +kernel
theorem dL_append_3 : decode cL_append 3 = .ok (.iload_n 1, 1) := by decide +kernel
theorem dL_append_4 : decode cL_append 4 = .ok (.iload_n 2, 1) := by decide +kernel
theorem dL_append_5 : decode cL_append 5 = .ok (.invokevirtual 52, 3) := by decide +kernel
theorem dL_append_8 : decode cL_append 8 = .ok (.i2l, 1) := by decide +kernel
theorem dL_append_9 : decode cL_append 9 = .ok (.lastore, 1) := by decide +kernel
theorem dL_append_10 : decode cL_append 10 = .ok (.goto 7, 3) := by decide +kernel
theorem dL_append_13 : decode cL_append 13 = .ok (.astore 4, 2) := by decide +kernel
theorem dL_append_15 : decode cL_append 15 = .ok (.iconst 1, 1) := by decide +kernel
theorem dL_append_16 : decode cL_append 16 = .ok (.ireturn, 1) := by decide +kernel
theorem dL_append_17 : decode cL_append 17 = .ok (.iconst 0, 1) := by decide +kernel
theorem dL_append_18 : decode cL_append 18 = .ok (.ireturn, 1) := by decide +kernel
set_option maxRecDepth 20000 in
theorem ggL_key_X10_key : GoodIn wsL_key wsX10_key := goodIn_ca (goodIn_r _ [6, 7, 8, 9, 10, 11, 12, 13, 14, 5, 15, 16, 17, 18, 19, 20, 21, 22, 23, 24, 25, 26, 27, 28, 29, 30, 31, 32, 33, 34, 35, 36, 37, 38, 39, 40, 41, 42, 43, 44, 45, 46, 47, 48, 49, 50, 51, 52, 53, 54, 55, 56, 57, 58, 59, 60, 61, 62, 63, 64, 65, 66, 67, 68, 69, 70, 71, 72, 73, 74, 75, 76, 77, 78, 79, 80, 81, 82, 83, 84, 85, 86, 87, 88, 89, 90, 91, 92, 93, 94, 95, 96, 97, 98, 99, 100, 101, 102, 103, 104, 105, 106, 107, 108, 109, 110, 111, 112, 113, 114, 115, 116, 117, 118, 119, 120, 121, 122, 123, 124, 125, 126, 127, 128, 129, 130, 131, 132, 133, 134, 135, 136, 137, 138, 139, 140, 141, 142, 143, 144, 145, 146, 147, 148, 149, 150, 151, 152, 153, 154, 155, 156, 157, 158, 159, 160, 161, 162, 163, 164, 165, 166, 167, 168, 169, 170, 171, 172, 173, 174, 175, 176, 177, 178, 179, 180, 181, 182, 183, 184, 185, 186, 187, 188, 189, 190, 191, 192, 193, 194, 195, 196, 197, 198, 199, 200, 201, 202, 203, 204, 205, 206, 207, 208, 209, 210, 211, 212, 213, 214, 215, 216, 217, 218, 219, 220, 221, 222, 223, 224, 225, 226, 227, 228, 229, 230, 231, 232, 233, 234, 235, 236, 237, 238, 239, 240, 241, 242, 243, 244, 245, 246, 247, 248, 249, 250, 251, 252, 253, 254, 255, 256, 257, 258, 259, 260, 261, 262, 263, 264, 265, 266, 267, 268, 269, 270, 271, 272, 273, 274, 275, 276, 277, 278, 279, 280, 281, 282, 283, 284, 285, 286, 287, 288, 289, 290, 291, 292, 293, 294, 295, 296, 297, 298, 299, 300, 301, 302, 303, 304, 305, 306, 307, 308, 309, 310, 311, 312, 313, 314, 315, 316, 317, 318, 319, 320, 321, 322, 323, 324, 325, 326, 327, 328, 329, 330, 331, 332, 333, 334, 335, 336, 337, 338, 339, 340, 341, 342, 343, 344, 345, 346, 347, 348, 349, 350, 351, 352, 353, 354, 355, 356, 357, 358, 359, 360, 361, 362, 363, 364, 365, 366, 367, 368, 369, 370, 371, 372, 373, 374, 375, 376, 377, 378, 379, 380, 381, 382, 383, 384, 385, 386, 387, 388, 389, 390, 391, 392, 393, 394, 395, 396, 397, 398, 399, 400, 401, 402, 403] (by decide +kernel) (by decide +kernel)) (goodIn_sub (fun _ h => List.mem_cons_of_mem _ (List.mem_append_right _ h)) (by decide +kernel))
set_option maxRecDepth 20000 in
theorem gL_key_X10_key : GoodIn wsL_key (wsV RL 55 RX10 yX10_key wsX10_key) := goodIn_app (goodIn_of _ (by decide +kernel)) ggL_key_X10_key
theorem dL_key_0 : decode cL_key 0 = .ok (.aload 4, 2) := by decide +kernel
theorem dL_key_2 : decode cL_key 2 = .ok (.iconst 0, 1) := by decide +kernel
theorem dL_key_3 : decode cL_key 3 = .ok (.aload_n 0, 1) := by decide +kernel
theorem dL_key_4 : decode cL_key 4 = .ok (.iload_n 1, 1) := by decide +kernel
theorem dL_key_5 : decode cL_key 5 = .ok (.iload_n 2, 1) := by decide +kernel
theorem dL_key_6 : decode cL_key 6 = .ok (.iload_n 3, 1) := by decide +kernel
theorem dL_key_7 : decode cL_key 7 = .ok (.invokevirtual 55, 3) := by decide +kernel
theorem dL_key_10 : decode cL_key 10 = .ok (.i2l, 1) := by decide +kernel
theorem dL_key_11 : decode cL_key 11 = .ok (.lastore, 1) := by decide +kernel
theorem dL_key_12 : decode cL_key 12 = .ok (.goto 7, 3) := by decide +kernel
theorem dL_key_15 : decode cL_key 15 = .ok (.astore 5, 2) := by decide +kernel
theorem dL_key_17 : decode cL_key 17 = .ok (.iconst 1, 1) := by decide +kernel
theorem dL_key_18 : decode cL_key 18 = .ok (.ireturn, 1) := by decide +kernel
theorem dL_key_19 : decode cL_key 19 = .ok (.iconst 0, 1) := by decide +kernel
theorem dL_key_20 : decode cL_key 20 = .ok (.ireturn, 1) := by decide +kernel
set_option maxRecDepth 20000 in
theorem ggL_years_X10_years : GoodIn wsL_years wsX10_years := goodIn_ca (goodIn_ca (goodIn_r _ [7, 8, 9, 10, 11, 12, 13, 14, 15, 16, 17, 18, 19, 20, 21, 22, 6, 23, 24, 25, 26, 27, 28, 29, 30, 31, 32, 33, 34, 35, 36, 37, 38, 39, 40, 41, 42, 43, 44, 45, 46, 47, 48, 49, 50, 51, 52, 53, 54, 55, 56, 57, 58, 59, 60, 61, 62, 63, 64, 65, 66, 67, 68, 69, 70, 71, 72, 73, 74, 75, 76, 77, 78, 79, 80, 81, 82, 83, 84, 85, 86, 87, 88, 89, 90, 91, 92, 93, 94, 95, 96, 97, 98, 99, 100, 101, 102, 103, 104, 105, 106, 107, 108, 109, 110, 111, 112, 113, 114, 115, 116, 117, 118, 119, 120, 121, 122, 123, 124, 125, 126, 127, 128, 129, 130, 131, 132, 133, 134, 135, 136, 137, 138, 139, 140, 141, 142, 143, 144, 145, 146, 147, 148, 149, 150, 151, 152, 153, 154, 155, 156, 157, 158, 159, 160, 161, 162, 163, 164, 165, 166, 167, 168, 169, 170, 171, 172, 173, 174, 175, 176, 177, 178, 179, 180, 181, 182, 183, 184, 185, 186, 187, 188, 189, 190, 191, 192, 193, 194, 195, 196, 197, 198, 199, 200, 201, 202, 203, 204, 205, 206, 207, 208, 209, 210, 211, 212, 213, 214, 215, 216, 217, 218, 219, 220, 221, 222, 223, 224, 225, 226, 227, 228, 229, 230, 231, 232, 233, 234, 235, 236, 237, 238, 239, 240, 241, 242, 243, 244, 245, 246, 247, 248, 249, 250, 251, 252, 253, 254, 255, 256, 257, 258, 259, 260, 261, 262, 263, 264, 265, 266, 267, 268, 269, 270, 271, 272, 273, 274, 275, 276, 277, 278, 279, 280, 281, 282, 283, 284, 285, 286, 287, 288, 289, 290, 291, 292, 293, 294, 295, 296, 297, 298, 299, 300, 301, 302, 303, 304, 305, 306, 307, 308, 309, 310, 311, 312, 313, 314, 315, 316, 317, 318, 319, 320, 321, 322, 323] (by decide +kernel) (by decide +kernel)) (goodIn_sub (fun _ h => List.mem_cons_of_mem _ (List.mem_append_left _ (List.mem_append_right _ h))) (by decide +kernel))) (goodIn_sub (fun _ h => List.mem_cons_of_mem _ (List.mem_append_right _ h)) (by decide +kernel))
set_option maxRecDepth 20000 in
theorem gL_years_X10_years : GoodIn wsL_years (wsV RL 59 RX10 yX10_years wsX10_years) := goodIn_app (goodIn_of _ (by decide +kernel)) ggL_years_X10_years
theorem dL_years_0 : decode cL_years 0 = .ok (.aload 4, 2) := by decide +kernel
theorem dL_years_2 : decode cL_years 2 = .ok (.iconst 0, 1) := by decide +kernel
theorem dL_years_3 : decode cL_years 3 = .ok (.aload_n 0, 1) := by decide +kernel
theorem dL_years_4 : decode cL_years 4 = .ok (.iload_n 1, 1) := by decide +kernel
theorem dL_years_5 : decode cL_years 5 = .ok (.iload_n 2, 1) := by decide +kernel
theorem dL_years_6 : decode cL_years 6 = .ok (.iload_n 3, 1) := by decide +kernel
theorem dL_years_7 : decode cL_years 7 = .ok (.invokevirtual 59, 3) := by decide +kernel
theorem dL_years_10 : decode cL_years 10 = .ok (.i2l, 1) := by decide +kernel
theorem dL_years_11 : decode cL_years 11 = .ok (.lastore, 1) := by decide +kernel
theorem dL_years_12 : decode cL_years 12 = .ok (.goto 11, 3) := by decide +kernel
theorem dL_years_15 : decode cL_years 15 = .ok (.astore 5, 2) := by decide +kernel
theorem dL_years_17 : decode cL_years 17 = .ok (.iconst 1, 1) := by decide +kernel
theorem dL_years_18 : decode cL_years 18 = .ok (.ireturn, 1) := by decide +kernel
theorem dL_years_19 : decode cL_years 19 = .ok (.astore 5, 2) := by decide +kernel
theorem dL_years_21 : decode cL_years 21 = .ok (.iconst 2, 1) := by decide +kernel
theorem dL_years_22 : decode cL_years 22 = .ok (.ireturn, 1) := by decide +kernel
theorem dL_years_23 : decode cL_years 23 = .ok (.iconst 0, 1) := by decide +kernel
theorem dL_years_24 : decode cL_years 24 = .ok (.ireturn, 1) := by decide +kernel
