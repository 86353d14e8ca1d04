set_option maxRecDepth 20000 in
theorem ggL_steps_X10_steps : GoodIn wsL_steps wsX10_steps := goodIn_ca (goodIn_r _ [6, 7, 8, 9, 10, 11, 12, 5, 13, 14, 15, 16, 17, 18, 19, 20, 21, 22, 23, 24, 25, 26, 27, 28, 29, 30, 31, 32, 33, 34, 35, 36, 37, 38, 39, 40, 41, 42, 43, 44, 45, 46, 47, 48, 49, 50, 51, 52, 53, 54, 55, 56, 57, 58, 59, 60, 61, 62, 63, 64, 65, 66, 67, 68, 69, 70, 71, 72, 73, 74, 75, 76, 77, 78, 79, 80, 81, 82, 83, 84, 85, 86, 87, 88, 89, 90, 91, 92, 93, 94, 95, 96, 97, 98, 99, 100, 101, 102, 103, 104, 105, 106, 107, 108, 109, 110, 111, 112, 113, 114, 115, 116, 117, 118, 119, 120, 121, 122, 123, 124, 125, 126, 127, 128, 129, 130, 131, 132, 133, 134, 135, 136, 137, 138, 139, 140, 141, 142, 143, 144, 145] (by decide +kernel) (by decide +kernel)) (goodIn_sub (fun _ h => List.mem_cons_of_mem _ (List.mem_append_right _ h)) (by decide +kernel))
set_option maxRecDepth 20000 in
theorem gL_steps_X10_steps : GoodIn wsL_steps (wsV RL 40 RX10 yX10_steps wsX10_steps) := goodIn_app (goodIn_of _ (by decide +kernel)) ggL_steps_X10_steps
theorem dL_steps_0 : decode cL_steps 0 = .ok (.aload_n 3, 1) := by decide +kernel
theorem dL_steps_1 : decode cL_steps 1 = .ok (.iconst 0, 1) := by decide +kernel
theorem dL_steps_2 : decode cL_steps 2 = .ok (.aload_n 0, 1) := by decide +kernel
theorem dL_steps_3 : decode cL_steps 3 = .ok (.iload_n 1, 1) := by decide +kernel
theorem dL_steps_4 : decode cL_steps 4 = .ok (.iload_n 2, 1) := by decide +kernel
theorem dL_steps_5 : decode cL_steps 5 = .ok (.invokevirtual 40, 3) := by decide +kernel
theorem dL_steps_8 : decode cL_steps 8 = .ok (.i2l, 1) := by decide +kernel
theorem dL_steps_9 : decode cL_steps 9 = .ok (.lastore, 1) := by decide +kernel
theorem dL_steps_10 : decode cL_steps 10 = .ok (.goto 7, 3) := by decide +kernel
theorem dL_steps_13 : decode cL_steps 13 = .ok (.astore 4, 2) := by decide +kernel
theorem dL_steps_15 : decode cL_steps 15 = .ok (.iconst 1, 1) := by decide +kernel
theorem dL_steps_16 : decode cL_steps 16 = .ok (.ireturn, 1) := by decide +kernel
theorem dL_steps_17 : decode cL_steps 17 = .ok (.iconst 0, 1) := by decide +kernel
theorem dL_steps_18 : decode cL_steps 18 = .ok (.ireturn, 1) := by decide +kernel
set_option maxRecDepth 20000 in
theorem ggL_row_X10_row : GoodIn wsL_row wsX10_row := goodIn_ca (goodIn_r _ [6, 7, 8, 9, 10, 11, 12, 13, 14, 15, 16, 17, 18, 19, 20, 21, 22, 23, 24, 25, 26, 27, 28, 29, 30, 31, 32, 33, 34, 35, 36, 37, 38, 39, 40, 41, 42, 43, 44, 45, 46, 47, 48, 49, 50, 51, 52, 53, 54, 55, 56, 57, 58, 59, 60, 61, 62, 63, 64, 65, 66, 67, 68, 69, 70, 71, 72, 73, 74, 75, 76, 77, 78, 79, 80, 81, 82] (by decide +kernel) (by decide +kernel)) (goodIn_sub (fun _ h => List.mem_cons_of_mem _ (List.mem_append_right _ h)) (by decide +kernel))
set_option maxRecDepth 20000 in
theorem gL_row_X10_row : GoodIn wsL_row (wsV RL 43 RX10 yX10_row wsX10_row) := goodIn_app (goodIn_of _ (by decide +kernel)) ggL_row_X10_row
theorem dL_row_0 : decode cL_row 0 = .ok (.aload_n 3, 1) := by decide +kernel
theorem dL_row_1 : decode cL_row 1 = .ok (.iconst 0, 1) := by decide +kernel
theorem dL_row_2 : decode cL_row 2 = .ok (.aload_n 0, 1) := by decide +kernel
theorem dL_row_3 : decode cL_row 3 = .ok (.iload_n 1, 1) := by decide +kernel
theorem dL_row_4 : decode cL_row 4 = .ok (.iload_n 2, 1) := by decide +kernel
theorem dL_row_5 : decode cL_row 5 = .ok (.invokevirtual 43, 3) := by decide +kernel
theorem dL_row_8 : decode cL_row 8 = .ok (.i2l, 1) := by decide +kernel
theorem dL_row_9 : decode cL_row 9 = .ok (.lastore, 1) := by decide +kernel
theorem dL_row_10 : decode cL_row 10 = .ok (.goto 7, 3) := by decide +kernel
theorem dL_row_13 : decode cL_row 13 = .ok (.astore 4, 2) := by decide +kernel
theorem dL_row_15 : decode cL_row 15 = .ok (.iconst 1, 1) := by decide +kernel
theorem dL_row_16 : decode cL_row 16 = .ok (.ireturn, 1) := by decide +kernel
theorem dL_row_17 : decode cL_row 17 = .ok (.iconst 0, 1) := by decide +kernel
theorem dL_row_18 : decode cL_row 18 = .ok (.ireturn, 1) := by decide +kernel
set_option maxRecDepth 20000 in
theorem ggL_rowText_X10_rowText : GoodIn wsL_rowText wsX10_rowText := goodIn_ca (goodIn_r _ [6, 7, 8, 9, 10, 11, 12, 13, 14, 15, 16, 17, 18, 19, 20, 21, 22, 23, 24, 25, 26, 27, 28, 29, 30, 31, 32, 33, 34, 35, 36, 37, 38, 39, 40, 41, 42, 43, 44, 45, 46, 47, 48, 49, 50, 51, 52, 53, 54, 55, 56, 57, 58, 59, 60, 61, 62, 63, 64, 65, 66, 67, 68, 69, 70, 71, 72, 73, 74, 75, 76, 77, 78, 79, 80, 81, 82, 83, 84, 85, 86, 87, 88, 89, 90, 91, 92, 93, 94, 95, 96, 97, 98, 99, 100, 101, 102, 103, 104, 105, 106, 107, 108, 109, 110, 111, 112, 113, 114, 5, 115, 116, 117, 118, 119, 120, 121, 122, 123, 124, 125, 126, 127, 128, 129, 130, 131, 132, 133, 134, 135, 136, 137, 138, 139, 140, 141, 142, 143, 144, 145, 146, 147, 148, 149] (by decide +kernel) (by decide +kernel)) (goodIn_sub (fun _ h => List.mem_cons_of_mem _ (List.mem_append_right _ h)) (by decide +kernel))
set_option maxRecDepth 20000 in
theorem gL_rowText_X10_rowText : GoodIn wsL_rowText (wsV RL 46 RX10 yX10_rowText wsX10_rowText) := goodIn_app (goodIn_of _ (by decide +kernel)) ggL_rowText_X10_rowText
theorem dL_rowText_0 : decode cL_rowText 0 = .ok (.aload_n 3, 1) := by decide +kernel
theorem dL_rowText_1 : decode cL_rowText 1 = .ok (.iconst 0, 1) := by decide +kernel
theorem dL_rowText_2 : decode cL_rowText 2 = .ok (.aload_n 0, 1) := by decide +kernel
theorem dL_rowText_3 : decode cL_rowText 3 = .ok (.iload_n 1, 1) := by decide +kernel
theorem dL_rowText_4 : decode cL_rowText 4 = .ok (.iload_n 2, 1) := by decide +kernel
theorem dL_rowText_5 : decode cL_rowText 5 = .ok (.invokevirtual 46, 3) := by decide +kernel
theorem dL_rowText_8 : decode cL_rowText 8 = .ok (.i2l, 1) := by decide +kernel
theorem dL_rowText_9 : decode cL_rowText 9 = .ok (.lastore, 1) := by decide +kernel
theorem dL_rowText_10 : decode cL_rowText 10 = .ok (.goto 7, 3) := by decide +kernel
theorem dL_rowText_13 : decode cL_rowText 13 = .ok (.astore 4, 2) := by decide +kernel
theorem dL_rowText_15 : decode cL_rowText 15 = .ok (.iconst 1, 1) := by decide +kernel
theorem dL_rowText_16 : decode cL_rowText 16 = .ok (.ireturn, 1) := by decide +kernel
theorem dL_rowText_17 : decode cL_rowText 17 = .ok (.iconst 0, 1) := by decide +kernel
theorem dL_rowText_18 : decode cL_rowText 18 = .ok (.ireturn, 1) := by decide +kernel
