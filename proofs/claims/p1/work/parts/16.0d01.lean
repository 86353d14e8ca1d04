set_option maxRecDepth 20000 in
theorem gL_told_X10_told : GoodIn wsL_told (wsV RL 30 RX10 yX10_told wsX10_told) := goodIn_app (goodIn_of _ (by decide +kernel)) ggL_told_X10_told
theorem dL_told_0 : decode cL_told 0 = .ok (.aload 4, 2) := by decide +kernel
theorem dL_told_2 : decode cL_told 2 = .ok (.iconst 0, 1) := by decide +kernel
theorem dL_told_3 : decode cL_told 3 = .ok (.aload_n 0, 1) := by decide +kernel
theorem dL_told_4 : decode cL_told 4 = .ok (.iload_n 1, 1) := by decide +kernel
theorem dL_told_5 : decode cL_told 5 = .ok (.iload_n 2, 1) := by decide +kernel
theorem dL_told_6 : decode cL_told 6 = .ok (.iload_n 3, 1) := by decide +kernel
theorem dL_told_7 : decode cL_told 7 = .ok (.invokevirtual 30, 3) := by decide +kernel
theorem dL_told_10 : decode cL_told 10 = .ok (.i2l, 1) := by decide +kernel
theorem dL_told_11 : decode cL_told 11 = .ok (.lastore, 1) := by decide +kernel
theorem dL_told_12 : decode cL_told 12 = .ok (.goto 7, 3) := by decide +kernel
theorem dL_told_15 : decode cL_told 15 = .ok (.astore 5, 2) := by decide +kernel
theorem dL_told_17 : decode cL_told 17 = .ok (.iconst 1, 1) := by decide +kernel
theorem dL_told_18 : decode cL_told 18 = .ok (.ireturn, 1) := by decide +kernel
theorem dL_told_19 : decode cL_told 19 = .ok (.iconst 0, 1) := by decide +kernel
theorem dL_told_20 : decode cL_told 20 = .ok (.ireturn, 1) := by decide +kernel
set_option maxRecDepth 20000 in
theorem ggL_alike_X10_alike : GoodIn wsL_alike wsX10_alike := goodIn_ca (goodIn_r _ [6, 7, 8, 9, 10, 5, 11, 12, 13, 14, 15, 16, 17, 18, 19, 20, 21, 22, 23, 24, 25, 26, 27, 28, 29, 30, 31, 32, 33, 34, 35, 36, 37, 38, 39, 40, 41, 42, 43, 44, 45, 46, 47, 48, 49, 50, 51, 52, 53, 54, 55, 56, 57, 58, 59, 60, 61, 62, 63, 64, 65, 66, 67, 68, 69, 70, 71, 72, 73, 74, 75, 76, 77, 78, 79, 80, 81, 82, 83, 84, 85, 86] (by decide +kernel) (by decide +kernel)) (goodIn_sub (fun _ h => List.mem_cons_of_mem _ (List.mem_append_right _ h)) (by decide +kernel))
set_option maxRecDepth 20000 in
theorem gL_alike_X10_alike : GoodIn wsL_alike (wsV RL 34 RX10 yX10_alike wsX10_alike) := goodIn_app (goodIn_of _ (by decide +kernel)) ggL_alike_X10_alike
theorem dL_alike_0 : decode cL_alike 0 = .ok (.aload_n 3, 1) := by decide +kernel
theorem dL_alike_1 : decode cL_alike 1 = .ok (.iconst 0, 1) := by decide +kernel
theorem dL_alike_2 : decode cL_alike 2 = .ok (.aload_n 0, 1) := by decide +kernel
theorem dL_alike_3 : decode cL_alike 3 = .ok (.iload_n 1, 1) := by decide +kernel
theorem dL_alike_4 : decode cL_alike 4 = .ok (.iload_n 2, 1) := by decide +kernel
theorem dL_alike_5 : decode cL_alike 5 = .ok (.invokevirtual 34, 3) := by decide +kernel
theorem dL_alike_8 : decode cL_alike 8 = .ok (.i2l, 1) := by decide +kernel
theorem dL_alike_9 : decode cL_alike 9 = .ok (.lastore, 1) := by decide +kernel
theorem dL_alike_10 : decode cL_alike 10 = .ok (.goto 7, 3) := by decide +kernel
theorem dL_alike_13 : decode cL_alike 13 = .ok (.astore 4, 2) := by decide +kernel
theorem dL_alike_15 : decode cL_alike 15 = .ok (.iconst 1, 1) := by decide +kernel
theorem dL_alike_16 : decode cL_alike 16 = .ok (.ireturn, 1) := by decide +kernel
theorem dL_alike_17 : decode cL_alike 17 = .ok (.iconst 0, 1) := by decide +kernel
theorem dL_alike_18 : decode cL_alike 18 = .ok (.ireturn, 1) := by decide +kernel
set_option maxRecDepth 20000 in
theorem ggL_answer_X10_answer : GoodIn wsL_answer wsX10_answer := goodIn_ca (goodIn_r _ [6, 7, 8, 9, 10, 11, 12, 5, 13, 14, 15, 16, 17, 18, 19, 20, 21, 22, 23, 24, 25, 26, 27, 28, 29, 30, 31, 32, 33, 34, 35, 36, 37, 38, 39, 40, 41, 42, 43, 44, 45, 46, 47, 48, 49, 50, 51, 52, 53, 54, 55, 56, 57, 58, 59, 60, 61, 62, 63, 64, 65, 66, 67, 68, 69, 70, 71, 72, 73, 74, 75, 76, 77, 78, 79, 80, 81, 82, 83, 84, 85, 86, 87, 88, 89, 90, 91, 92, 93, 94, 95, 96, 97, 98, 99, 100, 101, 102, 103, 104, 105, 106, 107, 108, 109, 110, 111, 112, 113, 114, 115, 116, 117, 118, 119, 120, 121, 122, 123, 124, 125, 126, 127, 128, 129, 130, 131, 132, 133, 134, 135, 136, 137, 138, 139, 140, 141, 142, 143, 144, 145, 146, 147, 148, 149, 150, 151, 152] (by decide +kernel) (by decide +kernel)) (goodIn_sub (fun _ h => List.mem_cons_of_mem _ (List.mem_append_right _ h)) (by decide +kernel))
set_option maxRecDepth 20000 in
theorem gL_answer_X10_answer : GoodIn wsL_answer (wsV RL 37 RX10 yX10_answer wsX10_answer) := goodIn_app (goodIn_of _ (by decide +kernel)) ggL_answer_X10_answer
theorem dL_answer_0 : decode cL_answer 0 = .ok (.aload_n 3, 1) := by decide +kernel
theorem dL_answer_1 : decode cL_answer 1 = .ok (.iconst 0, 1) := by decide +kernel
theorem dL_answer_2 : decode cL_answer 2 = .ok (.aload_n 0, 1) := by decide +kernel
theorem dL_answer_3 : decode cL_answer 3 = .ok (.iload_n 1, 1) := by decide +kernel
theorem dL_answer_4 : decode cL_answer 4 = .ok (.iload_n 2, 1) := by decide +kernel
theorem dL_answer_5 : decode cL_answer 5 = .ok (.invokevirtual 37, 3) := by decide +kernel
theorem dL_answer_8 : decode cL_answer 8 = .ok (.i2l, 1) := by decide +kernel
theorem dL_answer_9 : decode cL_answer 9 = .ok (.lastore, 1) := by decide +kernel
theorem dL_answer_10 : decode cL_answer 10 = .ok (.goto 7, 3) := by decide +kernel
theorem dL_answer_13 : decode cL_answer 13 = .ok (.astore 4, 2) := by decide +kernel
theorem dL_answer_15 : decode cL_answer 15 = .ok (.iconst 1, 1) := by decide +kernel
theorem dL_answer_16 : decode cL_answer 16 = .ok (.ireturn, 1) := by decide +kernel
theorem dL_answer_17 : decode cL_answer 17 = .ok (.iconst 0, 1) := by decide +kernel
theorem dL_answer_18 : decode cL_answer 18 = .ok (.ireturn, 1) := by decide +kernel
set_option maxRecDepth 20000 in
theorem ggL_steps_X10_steps : GoodIn wsL_steps wsX10_steps := goodIn_ca (goodIn_r _ [6, 7, 8, 9, 10, 11, 12, 5, 13, 14, 15, 16, 17, 18, 19, 20, 21, 22, 23, 24, 25, 26, 27, 28, 29, 30, 31, 32, 33, 34, 35, 36, 37, 38, 39, 40, 41, 42, 43, 44, 45, 46, 47, 48, 49, 50, 51, 52, 53, 54, 55, 56, 57, 58, 59, 60, 61, 62, 63, 64, 65, 66, 67, 68, 69, 70, 71, 72, 73, 74, 75, 76, 77, 78, 79, 80, 81, 82, 83, 84, 85, 86, 87, 88, 89, 90, 91, 92, 93, 94, 95, 96, 97, 98, 99, 100, 101, 102, 103, 104, 105, 106, 107, 108, 109, 110, 111, 112, 113, 114, 115, 116, 117, 118, 119, 120, 121, 122, 123, 124, 125, 126, 127, 128, 129, 130, 131, 132, 133, 134, 135, 136, 137, 138, 139, 140, 141, 142, 143, 144, 145] (by decide +kernel) (by decide +kernel)) (goodIn_sub (fun _ h => List.mem_cons_of_mem _ (List.mem_append_right _ h)) (by decide +kernel))
set_option maxRecDepth 20000 in
theorem gL_steps_X10_steps : GoodIn wsL_steps (wsV RL 40 RX10 yX10_steps wsX10_steps) := goodIn_app (goodIn_of _ (by decide +kernel)) ggL_steps_X10_steps
theorem dL_steps_0 : decode cL_steps 0 = .ok (.aload_n 3, 1) := by decide +kernel
theorem dL_steps_1 : decode cL_steps 1 = .ok (.iconst 0, 1) := by decide +kernel
theorem dL_steps_2 : decode cL_steps 2 = .ok (.aload_n 0, 1) := by decide +kernel
theorem dL_steps_3 : decode cL_steps 3 = .ok (.iload_n 1, 1) := by decide +kernel
theorem dL_steps_4 : decode cL_steps 4 = .ok (.iload_n 2, 1) := by decide +kernel
theorem dL_steps_5 : decode cL_steps 5 = .ok (.invokevirtual 40, 3) := by decide +kernel
theorem dL_steps_8 : decode cL_steps 8 = .ok (.i2l, 1) := by decide +kernel
theorem dL_steps_9 : decode cL_steps 9 = .ok (.lastore, 1) := by decide +kernel
theorem dL_steps_10 : decode cL_steps 10 = .ok (.goto 7, 3) := by decide +kernel
theorem dL_steps_13 : decode cL_steps 13 = .ok (.astore 4, 2) := by decide +kernel
theorem dL_steps_15 : decode cL_steps 15 = .ok (.iconst 1, 1) := by decide +kernel
theorem dL_steps_16 : decode cL_steps 16 = .ok (.ireturn, 1) := by decide +kernel
theorem dL_steps_17 : decode cL_steps 17 = .ok (.iconst 0, 1) := by decide +kernel
theorem dL_steps_18 : decode cL_steps 18 = .ok (.ireturn, 1) := by decide +kernel
set_option maxRecDepth 20000 in
theorem ggL_row_X10_row : GoodIn wsL_row wsX10_row := goodIn_ca (goodIn_r _ [6, 7, 8, 9, 10, 11, 12, 13, 14, 15, 16, 17, 18, 19, 20, 21, 22, 23, 24, 25, 26, 27, 28, 29, 30, 31, 32, 33, 34, 35, 36, 37, 38, 39, 40, 41, 42, 43, 44, 45, 46, 47, 48, 49, 50, 51, 52, 53, 54, 55, 56, 57, 58, 59, 60, 61, 62, 63, 64, 65, 66, 67, 68, 69, 70, 71, 72, 73, 74, 75, 76, 77, 78, 79, 80, 81, 82] (by decide +kernel) (by decide +kernel)) (goodIn_sub (fun _ h => List.mem_cons_of_mem _ (List.mem_append_right _ h)) (by decide +kernel))
set_option maxRecDepth 20000 in
theorem gL_row_X10_row : GoodIn wsL_row (wsV RL 43 RX10 yX10_row wsX10_row) := goodIn_app (goodIn_of _ (by decide +kernel)) ggL_row_X10_row
theorem dL_row_0 : decode cL_row 0 = .ok (.aload_n 3, 1) := by decide +kernel
theorem dL_row_1 : decode cL_row 1 = .ok (.iconst 0, 1) := by decide +kernel
theorem dL_row_2 : decode cL_row 2 = .ok (.aload_n 0, 1) := by decide +kernel
theorem dL_row_3 : decode cL_row 3 = .ok (.iload_n 1, 1) := by decide +kernel
theorem dL_row_4 : decode cL_row 4 = .ok (.iload_n 2, 1) := by decide +kernel
theorem dL_row_5 : decode cL_row 5 = .ok (.invokevirtual 43, 3) := by decide +kernel
theorem dL_row_8 : decode cL_row 8 = .ok (.i2l, 1) := by decide +kernel
theorem dL_row_9 : decode cL_row 9 = .ok (.lastore, 1) := by decide +kernel
theorem dL_row_10 : decode cL_row 10 = .ok (.goto 7, 3) := by decide +kernel
theorem dL_row_13 : decode cL_row 13 = .ok (.astore 4, 2) := by decide +kernel
theorem dL_row_15 : decode cL_row 15 = .ok (.iconst 1, 1) := by decide +kernel
theorem dL_row_16 : decode cL_row 16 = .ok (.ireturn, 1) := by decide +kernel
theorem dL_row_17 : decode cL_row 17 = .ok (.iconst 0, 1) := by decide +kernel
theorem dL_row_18 : decode cL_row 18 = .ok (.ireturn, 1) := by decide +kernel
set_option maxRecDepth 20000 in
theorem ggL_rowText_X10_rowText : GoodIn wsL_rowText wsX10_rowText := goodIn_ca (goodIn_r _ [6, 7, 8, 9, 10, 11, 12, 13, 14, 15, 16, 17, 18, 19, 20, 21, 22, 23, 24, 25, 26, 27, 28, 29, 30, 31, 32, 33, 34, 35, 36, 37, 38, 39, 40, 41, 42, 43, 44, 45, 46, 47, 48, 49, 50, 51, 52, 53, 54, 55, 56, 57, 58, 59, 60, 61, 62, 63, 64, 65, 66, 67, 68, 69, 70, 71, 72, 73, 74, 75, 76, 77, 78, 79, 80, 81, 82, 83, 84, 85, 86, 87, 88, 89, 90, 91, 92, 93, 94, 95, 96, 97, 98, 99, 100, 101, 102, 103, 104, 105, 106, 107, 108, 109, 110, 111, 112, 113, 114, 5, 115, 116, 117, 118, 119, 120, 121, 122, 123, 124, 125, 126, 127, 128, 129, 130, 131, 132, 133, 134, 135, 136, 137, 138, 139, 140, 141, 142, 143, 144, 145, 146, 147, 148, 149] (by decide +kernel) (by decide +kernel)) (goodIn_sub (fun _ h => List.mem_cons_of_mem _ (List.mem_append_right _ h)) (by decide +kernel))
set_option maxRecDepth 20000 in
theorem gL_rowText_X10_rowText : GoodIn wsL_rowText (wsV RL 46 RX10 yX10_rowText wsX10_rowText) := goodIn_app (goodIn_of _ (by decide +kernel)) ggL_rowText_X10_rowText
theorem dL_rowText_0 : decode cL_rowText 0 = .ok (.aload_n 3, 1) := by decide +kernel
theorem dL_rowText_1 : decode cL_rowText 1 = .ok (.iconst 0, 1) := by decide +kernel
theorem dL_rowText_2 : decode cL_rowText 2 = .ok (.aload_n 0, 1) := by decide +kernel
theorem dL_rowText_3 : decode cL_rowText 3 = .ok (.iload_n 1, 1) := by decide +kernel
theorem dL_rowText_4 : decode cL_rowText 4 = .ok (.iload_n 2, 1) := by decide +kernel
theorem dL_rowText_5 : decode cL_rowText 5 = .ok (.invokevirtual 46, 3) := by decide +kernel
theorem dL_rowText_8 : decode cL_rowText 8 = .ok (.i2l, 1) := by decide +kernel
theorem dL_rowText_9 : decode cL_rowText 9 = .ok (.lastore, 1) := by decide +kernel
theorem dL_rowText_10 : decode cL_rowText 10 = .ok (.goto 7, 3) := by decide +kernel
theorem dL_rowText_13 : decode cL_rowText 13 = .ok (.astore 4, 2) := by decide +kernel
theorem dL_rowText_15 : decode cL_rowText 15 = .ok (.iconst 1, 1) := by decide +kernel
theorem dL_rowText_16 : decode cL_rowText 16 = .ok (.ireturn, 1) := by decide +kernel
theorem dL_rowText_17 : decode cL_rowText 17 = .ok (.iconst 0, 1) := by decide +kernel
theorem dL_rowText_18 : decode cL_rowText 18 = .ok (.ireturn, 1) := by decide +kernel
set_option maxRecDepth 20000 in
theorem ggL_put_X10_put : GoodIn wsL_put wsX10_put := goodIn_ca (goodIn_r _ [6, 7, 8, 9, 10, 11, 12, 13, 14, 5, 15, 16, 17, 18, 19, 20, 21, 22, 23, 24, 25, 26, 27, 28, 29, 30, 31, 32, 33, 34, 35, 36, 37, 38, 39, 40, 41, 42, 43, 44, 45, 46, 47, 48, 49, 50, 51, 52, 53, 54, 55, 56, 57, 58, 59, 60, 61, 62, 63, 64, 65, 66, 67, 68, 69, 70, 71, 72, 73, 74, 75, 76, 77, 78, 79, 80, 81, 82, 83, 84, 85, 86, 87, 88, 89, 90, 91, 92, 93, 94, 95, 96, 97, 98, 99, 100, 101, 102, 103, 104, 105, 106, 107, 108, 109, 110, 111, 112, 113, 114, 115, 116, 117, 118, 119, 120, 121, 122, 123, 124, 125, 126, 127, 128, 129, 130, 131, 132, 133, 134, 135, 136, 137, 138, 139, 140, 141, 142, 143, 144, 145, 146, 147, 148, 149, 150, 151, 152, 153, 154, 155, 156, 157, 158, 159, 160, 161, 162, 163, 164, 165, 166, 167, 168, 169, 170, 171, 172, 173, 174, 175, 176, 177, 178, 179, 180, 181, 182, 183, 184, 185, 186, 187, 188, 189, 190, 191, 192, 193, 194, 195, 196, 197, 198, 199, 200, 201, 202, 203, 204, 205, 206, 207, 208, 209, 210, 211, 212, 213, 214, 215, 216, 217, 218, 219, 220, 221, 222, 223, 224, 225, 226, 227, 228, 229, 230, 231, 232, 233, 234, 235, 236, 237, 238, 239, 240, 241, 242, 243, 244, 245, 246, 247, 248, 249, 250, 251, 252, 253, 254, 255, 256, 257, 258, 259, 260, 261, 262, 263, 264, 265, 266, 267, 268, 269, 270, 271, 272, 273, 274, 275, 276, 277, 278, 279, 280, 281, 282, 283, 284, 285, 286, 287, 288, 289, 290, 291, 292, 293, 294, 295, 296, 297, 298, 299, 300, 301, 302, 303, 304, 305, 306, 307, 308, 309, 310, 311, 312, 313, 314, 315, 316, 317, 318, 319, 320, 321, 322, 323, 324, 325, 326, 327, 328, 329, 330, 331, 332, 333, 334, 335, 336, 337, 338, 339, 340, 341, 342, 343, 344, 345, 346, 347, 348, 349, 350, 351, 352, 353, 354, 355, 356, 357, 358, 359, 360, 361, 362, 363, 364, 365, 366, 367, 368, 369, 370, 371, 372, 373, 374, 375, 376, 377, 378, 379, 380, 381, 382, 383] (by decide +kernel) (by decide +kernel)) (goodIn_sub (fun _ h => List.mem_cons_of_mem _ (List.mem_append_right _ h)) (by decide +kernel))
