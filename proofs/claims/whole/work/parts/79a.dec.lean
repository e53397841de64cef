set_option maxRecDepth 20000 in
theorem ggL_append_X7_append : GoodIn wsL_append wsX7_append := goodIn_ca (goodIn_r _ [6, 7, 8, 9, 10, 11, 12, 13, 14, 15, 16, 17, 18, 19, 20, 21, 22, 23, 24, 25, 26, 27, 28, 29, 30] (by decide +kernel) (by decide +kernel)) (goodIn_sub (fun _ h => List.mem_cons_of_mem _ (List.mem_append_right _ h)) (by decide +kernel))
set_option maxRecDepth 20000 in
theorem gL_append_X7_append : GoodIn wsL_append (wsV RL 7 RX7 yX7_append wsX7_append) := goodIn_app (goodIn_of _ (by decide +kernel)) ggL_append_X7_append
theorem dL_append_0 : decode cL_append 0 = .ok (.aload 6, 2) := by decide +kernel
theorem dL_append_2 : decode cL_append 2 = .ok (.iconst 0, 1) := by decide +kernel
theorem dL_append_3 : decode cL_append 3 = .ok (.aload_n 0, 1) := by decide +kernel
theorem dL_append_4 : decode cL_append 4 = .ok (.iload_n 1, 1) := by decide +kernel
theorem dL_append_5 : decode cL_append 5 = .ok (.iload_n 2, 1) := by decide +kernel
theorem dL_append_6 : decode cL_append 6 = .ok (.iload_n 3, 1) := by decide +kernel
theorem dL_append_7 : decode cL_append 7 = .ok (.iload 4, 2) := by decide +kernel
theorem dL_append_9 : decode cL_append 9 = .ok (.iload 5, 2) := by decide +kernel
theorem dL_append_11 : decode cL_append 11 = .ok (.invokevirtual 7, 3) := by decide +kernel
theorem dL_append_14 : decode cL_append 14 = .ok (.i2l, 1) := by decide +kernel
theorem dL_append_15 : decode cL_append 15 = .ok (.lastore, 1) := by decide +kernel
theorem dL_append_16 : decode cL_append 16 = .ok (.goto 7, 3) := by decide +kernel
theorem dL_append_19 : decode cL_append 19 = .ok (.astore 7, 2) := by decide +kernel
theorem dL_append_21 : decode cL_append 21 = .ok (.iconst 1, 1) := by decide +kernel
theorem dL_append_22 : decode cL_append 22 = .ok (.ireturn, 1) := by decide +kernel
theorem dL_append_23 : decode cL_append 23 = .ok (.iconst 0, 1) := by decide +kernel
theorem dL_append_24 : decode cL_append 24 = .ok (.ireturn, 1) := by decide +kernel
set_option maxRecDepth 20000 in
theorem ggL_load_X7_load : GoodIn wsL_load wsX7_load := goodIn_ca (goodIn_r _ [6, 7, 8, 9, 10, 11, 12, 13, 14, 15, 16, 5, 17, 18, 19, 20, 21, 22, 23, 24, 25, 26, 27, 28, 29, 30, 31, 32, 33, 34, 35, 36, 37, 38, 39, 40, 41, 42, 43, 44, 45, 46, 47, 48, 49, 50, 51, 52, 53, 54, 55, 56, 57, 58, 59, 60, 61, 62, 63, 64, 65, 66, 67, 68, 69, 70, 71, 72, 73, 74, 75, 76, 77, 78, 79, 80, 81, 82, 83, 84, 85, 86, 87, 88, 89, 90, 91, 92, 93, 94, 95, 96, 97, 98, 99, 100, 101, 102, 103, 104, 105, 106, 107, 108, 109, 110, 111, 112, 113, 114, 115, 116, 117, 118, 119, 120, 121, 122, 123, 124, 125, 126, 127, 128, 129, 130, 131, 132, 133, 134, 135, 136, 137, 138, 139, 140, 141, 142, 143, 144, 145, 146, 147, 148, 149, 150, 151, 152, 153, 154, 155, 156, 157, 158, 159, 160, 161, 162, 163, 164, 165, 166, 167, 168, 169, 170, 171, 172, 173, 174, 175, 176, 177, 178, 179, 180, 181, 182, 183, 184, 185, 186, 187, 188, 189, 190, 191, 192, 193, 194, 195, 196, 197, 198, 199, 200, 201, 202, 203, 204, 205, 206, 207, 208, 209, 210, 211, 212, 213, 214, 215, 216, 217, 218, 219, 220, 221, 222, 223, 224, 225, 226, 227, 228, 229, 230, 231, 232, 233, 234, 235, 236, 237, 238, 239, 240, 241, 242, 243, 244, 245, 246, 247, 248, 249, 250, 251, 252, 253, 254, 255, 256, 257, 258, 259, 260, 261, 262, 263, 264, 265, 266, 267, 268, 269, 270, 271, 272, 273, 274, 275, 276, 277, 278, 279, 280, 281, 282, 283, 284, 285, 286, 287, 288, 289, 290, 291, 292, 293, 294, 295, 296, 297, 298, 299, 300, 301, 302, 303, 304, 305, 306, 307, 308, 309, 310, 311, 312, 313, 314, 315, 316, 317, 318, 319, 320, 321, 322, 323, 324, 325, 326, 327, 328] (by decide +kernel) (by decide +kernel)) (goodIn_sub (fun _ h => List.mem_cons_of_mem _ (List.mem_append_right _ h)) (by decide +kernel))
set_option maxRecDepth 20000 in
theorem gL_load_X7_load : GoodIn wsL_load (wsV RL 15 RX7 yX7_load wsX7_load) := goodIn_app (goodIn_of _ (by decide +kernel)) ggL_load_X7_load
theorem dL_load_0 : decode cL_load 0 = .ok (.aload_n 2, 1) := by decide +kernel
theorem dL_load_1 : decode cL_load 1 = .ok (.iconst 0, 1) := by decide +kernel
theorem dL_load_2 : decode cL_load 2 = .ok (.aload_n 0, 1) := by decide +kernel
theorem dL_load_3 : decode cL_load 3 = .ok (.iload_n 1, 1) := by decide +kernel
theorem dL_load_4 : decode cL_load 4 = .ok (.invokevirtual 15, 3) := by decide +kernel
theorem dL_load_7 : decode cL_load 7 = .ok (.i2l, 1) := by decide +kernel
theorem dL_load_8 : decode cL_load 8 = .ok (.lastore, 1) := by decide +kernel
theorem dL_load_9 : decode cL_load 9 = .ok (.goto 6, 3) := by decide +kernel
theorem dL_load_12 : decode cL_load 12 = .ok (.astore_n 3, 1) := by decide +kernel
theorem dL_load_13 : decode cL_load 13 = .ok (.iconst 1, 1) := by decide +kernel
theorem dL_load_14 : decode cL_load 14 = .ok (.ireturn, 1) := by decide +kernel
theorem dL_load_15 : decode cL_load 15 = .ok (.iconst 0, 1) := by decide +kernel
theorem dL_load_16 : decode cL_load 16 = .ok (.ireturn, 1) := by decide +kernel
set_option maxRecDepth 20000 in
theorem ggL_count_X7_count : GoodIn wsL_count wsX7_count := goodIn_ca (goodIn_r _ [6, 7, 8, 9, 10, 11, 12, 13, 14, 15, 16, 17, 18, 19, 20, 21, 22, 23, 24, 25, 26, 27, 28, 29, 30, 31, 32, 33, 34, 35, 36, 37, 38, 39, 40, 41, 42, 43, 44, 45, 46, 47, 48, 49, 50, 51, 52, 53, 54, 55, 56, 57, 58, 59, 60, 61, 62, 63, 64, 65, 66, 67, 68, 69, 70, 71, 72, 73, 74, 75, 76, 77, 78, 79, 80, 81, 82, 83, 84, 85, 86, 87, 88, 89, 90, 91, 92, 93, 94, 95, 96, 97, 98, 99, 100, 101, 102, 103, 104, 105, 106] (by decide +kernel) (by decide +kernel)) (goodIn_sub (fun _ h => List.mem_cons_of_mem _ (List.mem_append_right _ h)) (by decide +kernel))
set_option maxRecDepth 20000 in
theorem gL_count_X7_count : GoodIn wsL_count (wsV RL 21 RX7 yX7_count wsX7_count) := goodIn_app (goodIn_of _ (by decide +kernel)) ggL_count_X7_count
theorem dL_count_0 : decode cL_count 0 = .ok (.aload_n 2, 1) := by decide +kernel
theorem dL_count_1 : decode cL_count 1 = .ok (.iconst 0, 1) := by decide +kernel
theorem dL_count_2 : decode cL_count 2 = .ok (.aload_n 0, 1) := by decide +kernel
theorem dL_count_3 : decode cL_count 3 = .ok (.iload_n 1, 1) := by decide +kernel
theorem dL_count_4 : decode cL_count 4 = .ok (.invokevirtual 21, 3) := by decide +kernel
theorem dL_count_7 : decode cL_count 7 = .ok (.i2l, 1) := by decide +kernel
theorem dL_count_8 : decode cL_count 8 = .ok (.lastore, 1) := by decide +kernel
theorem dL_count_9 : decode cL_count 9 = .ok (.goto 6, 3) := by decide +kernel
theorem dL_count_12 : decode cL_count 12 = .ok (.astore_n 3, 1) := by decide +kernel
theorem dL_count_13 : decode cL_count 13 = .ok (.iconst 1, 1) := by decide +kernel
theorem dL_count_14 : decode cL_count 14 = .ok (.ireturn, 1) := by decide +kernel
theorem dL_count_15 : decode cL_count 15 = .ok (.iconst 0, 1) := by decide +kernel
theorem dL_count_16 : decode cL_count 16 = .ok (.ireturn, 1) := by decide +kernel
set_option maxRecDepth 20000 in
theorem ggL_folder_X7_folder : GoodIn wsL_folder wsX7_folder := goodIn_ca (goodIn_ca (goodIn_r _ [7, 8, 9, 10, 11, 12, 13, 14, 15, 6, 16, 17, 18, 19, 20, 21, 22, 23, 24, 25, 26, 27, 28, 29, 30, 31, 32, 33, 34, 35, 36, 37, 38, 39, 40, 41, 42, 43, 44, 45, 46, 47, 48, 49, 50, 51, 52, 53, 54, 55, 56, 57, 58, 59, 60, 61, 62, 63, 64, 65, 66, 67, 68, 69, 70, 71, 72, 73, 74, 75, 76, 77, 78, 79, 80, 81, 82, 83, 84, 85, 86, 87, 88, 89, 90, 91, 92, 93, 94, 95, 96, 97, 98, 99, 100, 101, 102, 103, 104, 105, 106, 107, 108, 109, 110, 111, 112, 113, 114, 115, 116, 117, 118] (by decide +kernel) (by decide +kernel)) (goodIn_sub (fun _ h => List.mem_cons_of_mem _ (List.mem_append_left _ (List.mem_append_right _ h))) (by decide +kernel))) (goodIn_sub (fun _ h => List.mem_cons_of_mem _ (List.mem_append_right _ h)) (by decide +kernel))
set_option maxRecDepth 20000 in
theorem gL_folder_X7_folder : GoodIn wsL_folder (wsV RL 24 RX7 yX7_folder wsX7_folder) := goodIn_app (goodIn_of _ (by decide +kernel)) ggL_folder_X7_folder
theorem dL_folder_0 : decode cL_folder 0 = .ok (.aload_n 3, 1) := by decide +kernel
theorem dL_folder_1 : decode cL_folder 1 = .ok (.iconst 0, 1) := by decide +kernel
theorem dL_folder_2 : decode cL_folder 2 = .ok (.aload_n 0, 1) := by decide +kernel
theorem dL_folder_3 : decode cL_folder 3 = .ok (.iload_n 1, 1) := by decide +kernel
theorem dL_folder_4 : decode cL_folder 4 = .ok (.iload_n 2, 1) := by decide +kernel
theorem dL_folder_5 : decode cL_folder 5 = .ok (.invokevirtual 24, 3) := by decide +kernel
theorem dL_folder_8 : decode cL_folder 8 = .ok (.i2l, 1) := by decide +kernel
theorem dL_folder_9 : decode cL_folder 9 = .ok (.lastore, 1) := by decide +kernel
theorem dL_folder_10 : decode cL_folder 10 = .ok (.goto 11, 3) := by decide +kernel
theorem dL_folder_13 : decode cL_folder 13 = .ok (.astore 4, 2) := by decide +kernel
theorem dL_folder_15 : decode cL_folder 15 = .ok (.iconst 1, 1) := by decide +kernel
theorem dL_folder_16 : decode cL_folder 16 = .ok (.ireturn, 1) := by decide +kernel
theorem dL_folder_17 : decode cL_folder 17 = .ok (.astore 4, 2) := by decide +kernel
theorem dL_folder_19 : decode cL_folder 19 = .ok (.iconst 2, 1) := by decide +kernel
theorem dL_folder_20 : decode cL_folder 20 = .ok (.ireturn, 1) := by decide +kernel
theorem dL_folder_21 : decode cL_folder 21 = .ok (.iconst 0, 1) := by decide +kernel
theorem dL_folder_22 : decode cL_folder 22 = .ok (.ireturn, 1) := by decide +kernel
set_option maxRecDepth 20000 in
theorem ggL_walked_X7_walked : GoodIn wsL_walked wsX7_walked := goodIn_ca (goodIn_r _ [6, 7, 8, 9, 10, 11, 5, 12, 13, 14, 15, 16, 17, 18, 19, 20, 21, 22, 23, 24, 25, 26, 27, 28, 29, 30, 31, 32, 33, 34, 35, 36, 37, 38, 39, 40, 41, 42, 43, 44, 45, 46, 47, 48, 49, 50, 51] (by decide +kernel) (by decide +kernel)) (goodIn_sub (fun _ h => List.mem_cons_of_mem _ (List.mem_append_right _ h)) (by decide +kernel))
set_option maxRecDepth 20000 in
theorem gL_walked_X7_walked : GoodIn wsL_walked (wsV RL 30 RX7 yX7_walked wsX7_walked) := goodIn_app (goodIn_of _ (by decide +kernel)) ggL_walked_X7_walked
theorem dL_walked_0 : decode cL_walked 0 = .ok (.aload_n 2, 1) := by decide +kernel
theorem dL_walked_1 : decode cL_walked 1 = .ok (.iconst 0, 1) := by decide +kernel
theorem dL_walked_2 : decode cL_walked 2 = .ok (.aload_n 0, 1) := by decide +kernel
theorem dL_walked_3 : decode cL_walked 3 = .ok (.iload_n 1, 1) := by decide +kernel
theorem dL_walked_4 : decode cL_walked 4 = .ok (.invokevirtual 30, 3) := by decide +kernel
theorem dL_walked_7 : decode cL_walked 7 = .ok (.i2l, 1) := by decide +kernel
theorem dL_walked_8 : decode cL_walked 8 = .ok (.lastore, 1) := by decide +kernel
theorem dL_walked_9 : decode cL_walked 9 = .ok (.goto 6, 3) := by decide +kernel
theorem dL_walked_12 : decode cL_walked 12 = .ok (.astore_n 3, 1) := by decide +kernel
theorem dL_walked_13 : decode cL_walked 13 = .ok (.iconst 1, 1) := by decide +kernel
theorem dL_walked_14 : decode cL_walked 14 = .ok (.ireturn, 1) := by decide +kernel
theorem dL_walked_15 : decode cL_walked 15 = .ok (.iconst 0, 1) := by decide +kernel
theorem dL_walked_16 : decode cL_walked 16 = .ok (.ireturn, 1) := by decide +kernel
set_option maxRecDepth 20000 in
theorem ggL_heaviest_X7_heaviest : GoodIn wsL_heaviest wsX7_heaviest := goodIn_ca (goodIn_ca (goodIn_r _ [7, 8, 9, 10, 11, 12, 13, 6, 14, 15, 16, 17, 18, 19, 20, 21, 22, 23, 24, 25, 26, 27, 28, 29, 30, 31, 32, 33, 34, 35, 36, 37, 38, 39, 40, 41, 42, 43, 44, 45, 46, 47, 48, 49, 50, 51, 52, 53, 54, 55, 56, 57, 58, 59, 60, 61, 62, 63, 64, 65, 66, 67, 68, 69, 70, 71, 72, 73, 74, 75, 76, 77, 78, 79, 80, 81, 82, 83, 84, 85, 86, 87] (by decide +kernel) (by decide +kernel)) (goodIn_sub (fun _ h => List.mem_cons_of_mem _ (List.mem_append_left _ (List.mem_append_right _ h))) (by decide +kernel))) (goodIn_sub (fun _ h => List.mem_cons_of_mem _ (List.mem_append_right _ h)) (by decide +kernel))
set_option maxRecDepth 20000 in
theorem gL_heaviest_X7_heaviest : GoodIn wsL_heaviest (wsV RL 33 RX7 yX7_heaviest wsX7_heaviest) := goodIn_app (goodIn_of _ (by decide +kernel)) ggL_heaviest_X7_heaviest
theorem dL_heaviest_0 : decode cL_heaviest 0 = .ok (.aload_n 2, 1) := by decide +kernel
theorem dL_heaviest_1 : decode cL_heaviest 1 = .ok (.iconst 0, 1) := by decide +kernel
theorem dL_heaviest_2 : decode cL_heaviest 2 = .ok (.aload_n 0, 1) := by decide +kernel
theorem dL_heaviest_3 : decode cL_heaviest 3 = .ok (.iload_n 1, 1) := by decide +kernel
theorem dL_heaviest_4 : decode cL_heaviest 4 = .ok (.invokevirtual 33, 3) := by decide +kernel
theorem dL_heaviest_7 : decode cL_heaviest 7 = .ok (.i2l, 1) := by decide +kernel
theorem dL_heaviest_8 : decode cL_heaviest 8 = .ok (.lastore, 1) := by decide +kernel
theorem dL_heaviest_9 : decode cL_heaviest 9 = .ok (.goto 9, 3) := by decide +kernel
theorem dL_heaviest_12 : decode cL_heaviest 12 = .ok (.astore_n 3, 1) := by decide +kernel
theorem dL_heaviest_13 : decode cL_heaviest 13 = .ok (.iconst 1, 1) := by decide +kernel
theorem dL_heaviest_14 : decode cL_heaviest 14 = .ok (.ireturn, 1) := by decide +kernel
theorem dL_heaviest_15 : decode cL_heaviest 15 = .ok (.astore_n 3, 1) := by decide +kernel
theorem dL_heaviest_16 : decode cL_heaviest 16 = .ok (.iconst 2, 1) := by decide +kernel
theorem dL_heaviest_17 : decode cL_heaviest 17 = .ok (.ireturn, 1) := by decide +kernel
theorem dL_heaviest_18 : decode cL_heaviest 18 = .ok (.iconst 0, 1) := by decide +kernel
theorem dL_heaviest_19 : decode cL_heaviest 19 = .ok (.ireturn, 1) := by decide +kernel
set_option maxRecDepth 20000 in
theorem ggL_addFolder_X7_addFolder : GoodIn wsL_addFolder wsX7_addFolder := goodIn_ca (goodIn_ca (goodIn_ca (goodIn_r _ [8, 9, 10, 11, 12, 13, 14, 15, 16, 17, 18, 7, 19, 20, 21, 22, 23, 24, 25, 26, 27, 28, 29, 30, 31, 32, 33, 34, 35, 36, 37, 38, 39, 40, 41, 42, 43, 44, 45, 46, 47, 48, 49, 50, 51, 52, 53, 54, 55, 56, 57, 58, 59, 60, 61, 62, 63, 64, 65, 66, 67, 68, 69, 70, 71, 72, 73, 74, 75, 76, 77, 78, 79, 80, 81, 82, 83, 84, 85, 86, 87, 88, 89, 90, 91, 92, 93, 94, 95, 96, 97, 98, 99, 100, 101, 102, 103, 104, 105, 106, 107, 108, 109, 110, 111, 112, 113, 114, 115, 116, 117, 118, 119, 120, 121, 122, 123, 124, 125, 126, 127, 128, 129, 130, 131, 132, 133, 134, 135, 136, 137, 138, 139, 140, 141, 142, 143, 144, 145, 146, 147, 148, 149, 150, 151, 152, 153, 154, 155, 156, 157, 158, 159, 160, 161, 162, 163, 164, 165, 166, 167, 168, 169, 170, 171, 172, 173, 174, 175, 176, 177, 178] (by decide +kernel) (by decide +kernel)) (goodIn_sub (fun _ h => List.mem_cons_of_mem _ (List.mem_append_left _ (List.mem_append_left _ (List.mem_append_right _ h)))) (by decide +kernel))) (goodIn_sub (fun _ h => List.mem_cons_of_mem _ (List.mem_append_left _ (List.mem_append_right _ h))) (by decide +kernel))) (goodIn_sub (fun _ h => List.mem_cons_of_mem _ (List.mem_append_right _ h)) (by decide +kernel))
set_option maxRecDepth 20000 in
theorem gL_addFolder_X7_addFolder : GoodIn wsL_addFolder (wsV RL 38 RX7 yX7_addFolder wsX7_addFolder) := goodIn_app (goodIn_of _ (by decide +kernel)) ggL_addFolder_X7_addFolder
theorem dL_addFolder_0 : decode cL_addFolder 0 = .ok (.aload 4, 2) := by decide +kernel
theorem dL_addFolder_2 : decode cL_addFolder 2 = .ok (.iconst 0, 1) := by decide +kernel
theorem dL_addFolder_3 : decode cL_addFolder 3 = .ok (.aload_n 0, 1) := by decide +kernel
theorem dL_addFolder_4 : decode cL_addFolder 4 = .ok (.iload_n 1, 1) := by decide +kernel
theorem dL_addFolder_5 : decode cL_addFolder 5 = .ok (.lload_n 2, 1) := by decide +kernel
theorem dL_addFolder_6 : decode cL_addFolder 6 = .ok (.invokevirtual 38, 3) := by decide +kernel
theorem dL_addFolder_9 : decode cL_addFolder 9 = .ok (.i2l, 1) := by decide +kernel
theorem dL_addFolder_10 : decode cL_addFolder 10 = .ok (.lastore, 1) := by decide +kernel
theorem dL_addFolder_11 : decode cL_addFolder 11 = .ok (.goto 15, 3) := by decide +kernel
theorem dL_addFolder_14 : decode cL_addFolder 14 = .ok (.astore 5, 2) := by decide +kernel
theorem dL_addFolder_16 : decode cL_addFolder 16 = .ok (.iconst 1, 1) := by decide +kernel
theorem dL_addFolder_17 : decode cL_addFolder 17 = .ok (.ireturn, 1) := by decide +kernel
theorem dL_addFolder_18 : decode cL_addFolder 18 = .ok (.astore 5, 2) := by decide +kernel
theorem dL_addFolder_20 : decode cL_addFolder 20 = .ok (.iconst 2, 1) := by decide +kernel
theorem dL_addFolder_21 : decode cL_addFolder 21 = .ok (.ireturn, 1) := by decide +kernel
theorem dL_addFolder_22 : decode cL_addFolder 22 = .ok (.astore 5, 2) := by decide +kernel
theorem dL_addFolder_24 : decode cL_addFolder 24 = .ok (.iconst 3, 1) := by decide +kernel
theorem dL_addFolder_25 : decode cL_addFolder 25 = .ok (.ireturn, 1) := by decide +kernel
theorem dL_addFolder_26 : decode cL_addFolder 26 = .ok (.iconst 0, 1) := by decide +kernel
theorem dL_addFolder_27 : decode cL_addFolder 27 = .ok (.ireturn, 1) := by decide +kernel
set_option maxRecDepth 20000 in
theorem ggL_removeFolder_X7_removeFolder : GoodIn wsL_removeFolder wsX7_removeFolder := goodIn_ca (goodIn_ca (goodIn_r _ [7, 8, 9, 10, 11, 12, 13, 14, 15, 16, 6, 17, 18, 19, 20, 21, 22, 23, 24, 25, 26, 27, 28, 29, 30, 31, 32, 33, 34, 35, 36, 37, 38, 39, 40, 41, 42, 43, 44, 45, 46, 47, 48, 49, 50, 51, 52, 53, 54, 55, 56, 57, 58, 59, 60, 61, 62, 63, 64, 65, 66, 67, 68, 69, 70, 71, 72, 73, 74, 75, 76, 77, 78, 79, 80, 81, 82, 83, 84, 85, 86, 87, 88, 89, 90, 91, 92, 93, 94, 95, 96, 97, 98, 99, 100, 101, 102, 103, 104, 105, 106, 107, 108, 109, 110, 111, 112, 113, 114, 115, 116, 117, 118, 119, 120, 121, 122, 123, 124, 125, 126, 127, 128, 129, 130, 131, 132, 133, 134, 135, 136, 137, 138, 139, 140, 141, 142, 143, 144, 145, 146, 147, 148, 149, 150, 151, 152, 153, 154, 155, 156, 157, 158, 159, 160, 161, 162, 163, 164, 165, 166, 167, 168, 169, 170, 171, 172, 173, 174, 175] (by decide +kernel) (by decide +kernel)) (goodIn_sub (fun _ h => List.mem_cons_of_mem _ (List.mem_append_left _ (List.mem_append_right _ h))) (by decide +kernel))) (goodIn_sub (fun _ h => List.mem_cons_of_mem _ (List.mem_append_right _ h)) (by decide +kernel))
set_option maxRecDepth 20000 in
theorem gL_removeFolder_X7_removeFolder : GoodIn wsL_removeFolder (wsV RL 42 RX7 yX7_removeFolder wsX7_removeFolder) := goodIn_app (goodIn_of _ (by decide +kernel)) ggL_removeFolder_X7_removeFolder
theorem dL_removeFolder_0 : decode cL_removeFolder 0 = .ok (.aload_n 2, 1) := by decide +kernel
theorem dL_removeFolder_1 : decode cL_removeFolder 1 = .ok (.iconst 0, 1) := by decide +kernel
theorem dL_removeFolder_2 : decode cL_removeFolder 2 = .ok (.aload_n 0, 1) := by decide +kernel
theorem dL_removeFolder_3 : decode cL_removeFolder 3 = .ok (.iload_n 1, 1) := by decide +kernel
theorem dL_removeFolder_4 : decode cL_removeFolder 4 = .ok (.invokevirtual 42, 3) := by decide +kernel
theorem dL_removeFolder_7 : decode cL_removeFolder 7 = .ok (.i2l, 1) := by decide +kernel
theorem dL_removeFolder_8 : decode cL_removeFolder 8 = .ok (.lastore, 1) := by decide +kernel
theorem dL_removeFolder_9 : decode cL_removeFolder 9 = .ok (.goto 9, 3) := by decide +kernel
theorem dL_removeFolder_12 : decode cL_removeFolder 12 = .ok (.astore_n 3, 1) := by decide +kernel
theorem dL_removeFolder_13 : decode cL_removeFolder 13 = .ok (.iconst 1, 1) := by decide +kernel
theorem dL_removeFolder_14 : decode cL_removeFolder 14 = .ok (.ireturn, 1) := by decide +kernel
theorem dL_removeFolder_15 : decode cL_removeFolder 15 = .ok (.astore_n 3, 1) := by decide +kernel
theorem dL_removeFolder_16 : decode cL_removeFolder 16 = .ok (.iconst 2, 1) := by decide +kernel
theorem dL_removeFolder_17 : decode cL_removeFolder 17 = .ok (.ireturn, 1) := by decide +kernel
theorem dL_removeFolder_18 : decode cL_removeFolder 18 = .ok (.iconst 0, 1) := by decide +kernel
theorem dL_removeFolder_19 : decode cL_removeFolder 19 = .ok (.ireturn, 1) := by decide +kernel
set_option maxRecDepth 20000 in
theorem ggL_tagReason_X7_tagReason : GoodIn wsL_tagReason wsX7_tagReason := goodIn_ca (goodIn_ca (goodIn_r _ [7, 8, 9, 10, 11, 12, 6, 13, 14, 15, 16, 17, 18, 19, 20, 21, 22, 23, 24, 25, 26, 27, 28, 29, 30, 31, 32, 33, 34, 35, 36, 37, 38, 39, 40, 41, 42, 43, 44, 45, 46, 47, 48, 49, 50, 51, 52, 53, 54, 55, 56, 57, 58, 59, 60, 61, 62, 63, 64, 65, 66, 67, 68, 69, 70, 71, 72, 73, 74, 75, 76, 77, 78, 79, 80, 81, 82, 83, 84, 85, 86, 87, 88, 89, 90, 91, 92, 93, 94, 95, 96, 97, 98, 99, 100, 101, 102, 103, 104, 105, 106, 107, 108, 109, 110, 111, 112, 113, 114, 115, 116, 117, 118, 119, 120, 121, 122, 123, 124, 125, 126, 127, 128, 129, 130, 131, 132, 133, 134, 135, 136, 137, 138, 139, 140, 141, 142, 143, 144, 145, 146, 147, 148, 149, 150, 151, 152, 153, 154, 155, 156, 157, 158, 159, 160, 161, 162, 163, 164, 165, 166, 167] (by decide +kernel) (by decide +kernel)) (goodIn_sub (fun _ h => List.mem_cons_of_mem _ (List.mem_append_left _ (List.mem_append_right _ h))) (by decide +kernel))) (goodIn_sub (fun _ h => List.mem_cons_of_mem _ (List.mem_append_right _ h)) (by decide +kernel))
set_option maxRecDepth 20000 in
theorem gL_tagReason_X7_tagReason : GoodIn wsL_tagReason (wsV RL 45 RX7 yX7_tagReason wsX7_tagReason) := goodIn_app (goodIn_of _ (by decide +kernel)) ggL_tagReason_X7_tagReason
theorem dL_tagReason_0 : decode cL_tagReason 0 = .ok (.aload_n 3, 1) := by decide +kernel
theorem dL_tagReason_1 : decode cL_tagReason 1 = .ok (.iconst 0, 1) := by decide +kernel
theorem dL_tagReason_2 : decode cL_tagReason 2 = .ok (.aload_n 0, 1) := by decide +kernel
theorem dL_tagReason_3 : decode cL_tagReason 3 = .ok (.iload_n 1, 1) := by decide +kernel
theorem dL_tagReason_4 : decode cL_tagReason 4 = .ok (.iload_n 2, 1) := by decide +kernel
theorem dL_tagReason_5 : decode cL_tagReason 5 = .ok (.invokevirtual 45, 3) := by decide +kernel
theorem dL_tagReason_8 : decode cL_tagReason 8 = .ok (.i2l, 1) := by decide +kernel
theorem dL_tagReason_9 : decode cL_tagReason 9 = .ok (.lastore, 1) := by decide +kernel
theorem dL_tagReason_10 : decode cL_tagReason 10 = .ok (.goto 11, 3) := by decide +kernel
theorem dL_tagReason_13 : decode cL_tagReason 13 = .ok (.astore 4, 2) := by decide +kernel
theorem dL_tagReason_15 : decode cL_tagReason 15 = .ok (.iconst 1, 1) := by decide +kernel
theorem dL_tagReason_16 : decode cL_tagReason 16 = .ok (.ireturn, 1) := by decide +kernel
theorem dL_tagReason_17 : decode cL_tagReason 17 = .ok (.astore 4, 2) := by decide +kernel
theorem dL_tagReason_19 : decode cL_tagReason 19 = .ok (.iconst 2, 1) := by decide +kernel
theorem dL_tagReason_20 : decode cL_tagReason 20 = .ok (.ireturn, 1) := by decide +kernel
theorem dL_tagReason_21 : decode cL_tagReason 21 = .ok (.iconst 0, 1) := by decide +kernel
theorem dL_tagReason_22 : decode cL_tagReason 22 = .ok (.ireturn, 1) := by decide +kernel
set_option maxRecDepth 20000 in
theorem ggL_tag_X7_tag : GoodIn wsL_tag wsX7_tag := goodIn_ca (goodIn_ca (goodIn_ca (goodIn_r _ [8, 9, 10, 11, 12, 13, 7, 14, 15, 16, 17, 18, 19, 20, 21, 22, 23, 24, 25, 26, 27, 28, 29, 30, 31, 32, 33, 34, 35, 36, 37, 38, 39, 40, 41, 42, 43, 44, 45, 46, 47, 48, 49, 50, 51, 52, 53, 54, 55, 56, 57, 58, 59, 60, 61, 62, 63, 64, 65, 66, 67, 68, 69, 70, 71, 72, 73, 74, 75, 76, 77, 78, 79, 80, 81, 82, 83, 84, 85, 86, 87, 88, 89, 90, 91, 92, 93, 94, 95, 96, 97, 98, 99, 100, 101, 102, 103, 104, 105, 106, 107, 108, 109, 110, 111, 112, 113, 114, 115, 116, 117, 118, 119, 120, 121, 122, 123, 124, 125, 126, 127, 128, 129, 130, 131, 132, 133, 134, 135, 136, 137, 138, 139, 140, 141, 142, 143, 144, 145, 146, 147, 148, 149, 150, 151, 152, 153, 154, 155, 156, 157, 158, 159, 160, 161, 162, 163, 164, 165, 166, 167, 168, 169, 170, 171, 172, 173, 174, 175, 176, 177, 178, 179, 180, 181, 182, 183, 184, 185, 186, 187, 188, 189, 190, 191, 192, 193, 194, 195, 196, 197, 198, 199, 200, 201, 202, 203, 204, 205, 206, 207, 208, 209, 210, 211, 212, 213, 214, 215, 216, 217, 218, 219, 220, 221, 222, 223, 224, 225, 226, 227, 228, 229, 230, 231, 232, 233, 234, 235, 236, 237, 238, 239, 240, 241, 242, 243, 244, 245, 246, 247, 248, 249, 250, 251, 252, 253, 254] (by decide +kernel) (by decide +kernel)) (goodIn_sub (fun _ h => List.mem_cons_of_mem _ (List.mem_append_left _ (List.mem_append_left _ (List.mem_append_right _ h)))) (by decide +kernel))) (goodIn_sub (fun _ h => List.mem_cons_of_mem _ (List.mem_append_left _ (List.mem_append_right _ h))) (by decide +kernel))) (goodIn_sub (fun _ h => List.mem_cons_of_mem _ (List.mem_append_right _ h)) (by decide +kernel))
set_option maxRecDepth 20000 in
theorem gL_tag_X7_tag : GoodIn wsL_tag (wsV RL 48 RX7 yX7_tag wsX7_tag) := goodIn_app (goodIn_of _ (by decide +kernel)) ggL_tag_X7_tag
theorem dL_tag_0 : decode cL_tag 0 = .ok (.aload_n 3, 1) := by decide +kernel
theorem dL_tag_1 : decode cL_tag 1 = .ok (.iconst 0, 1) := by decide +kernel
theorem dL_tag_2 : decode cL_tag 2 = .ok (.aload_n 0, 1) := by decide +kernel
theorem dL_tag_3 : decode cL_tag 3 = .ok (.iload_n 1, 1) := by decide +kernel
theorem dL_tag_4 : decode cL_tag 4 = .ok (.iload_n 2, 1) := by decide +kernel
theorem dL_tag_5 : decode cL_tag 5 = .ok (.invokevirtual 48, 3) := by decide +kernel
theorem dL_tag_8 : decode cL_tag 8 = .ok (.i2l, 1) := by decide +kernel
theorem dL_tag_9 : decode cL_tag 9 = .ok (.lastore, 1) := by decide +kernel
theorem dL_tag_10 : decode cL_tag 10 = .ok (.goto 15, 3) := by decide +kernel
theorem dL_tag_13 : decode cL_tag 13 = .ok (.astore 4, 2) := by decide +kernel
theorem dL_tag_15 : decode cL_tag 15 = .ok (.iconst 1, 1) := by decide +kernel
theorem dL_tag_16 : decode cL_tag 16 = .ok (.ireturn, 1) := by decide +kernel
theorem dL_tag_17 : decode cL_tag 17 = .ok (.astore 4, 2) := by decide +kernel
theorem dL_tag_19 : decode cL_tag 19 = .ok (.iconst 2, 1) := by decide +kernel
theorem dL_tag_20 : decode cL_tag 20 = .ok (.ireturn, 1) := by decide +kernel
theorem dL_tag_21 : decode cL_tag 21 = .ok (.astore 4, 2) := by decide +kernel
theorem dL_tag_23 : decode cL_tag 23 = .ok (.iconst 3, 1) := by decide +kernel
theorem dL_tag_24 : decode cL_tag 24 = .ok (.ireturn, 1) := by decide +kernel
theorem dL_tag_25 : decode cL_tag 25 = .ok (.iconst 0, 1) := by decide +kernel
theorem dL_tag_26 : decode cL_tag 26 = .ok (.ireturn, 1) := by decide +kernel
set_option maxRecDepth 20000 in
theorem ggL_moveReason_X7_moveReason : GoodIn wsL_moveReason wsX7_moveReason := goodIn_ca (goodIn_r _ [6, 7, 8, 9, 10, 11, 5, 12, 13, 14, 15, 16, 17, 18, 19, 20, 21, 22, 23, 24, 25, 26, 27, 28, 29, 30, 31, 32, 33, 34, 35, 36, 37, 38, 39, 40, 41, 42, 43, 44, 45, 46, 47, 48, 49, 50, 51, 52, 53, 54, 55, 56, 57, 58, 59, 60, 61, 62, 63, 64, 65, 66, 67, 68, 69, 70, 71, 72, 73, 74, 75, 76, 77, 78, 79, 80, 81, 82, 83, 84, 85, 86, 87, 88, 89, 90, 91, 92, 93, 94, 95, 96, 97, 98, 99, 100, 101, 102, 103, 104, 105, 106, 107, 108, 109, 110, 111, 112, 113, 114, 115, 116, 117, 118, 119, 120, 121, 122, 123, 124, 125, 126, 127, 128, 129, 130, 131, 132, 133, 134, 135, 136, 137, 138, 139, 140, 141, 142, 143, 144, 145, 146, 147, 148, 149, 150, 151, 152, 153, 154, 155, 156, 157, 158, 159, 160, 161, 162, 163, 164, 165] (by decide +kernel) (by decide +kernel)) (goodIn_sub (fun _ h => List.mem_cons_of_mem _ (List.mem_append_right _ h)) (by decide +kernel))
set_option maxRecDepth 20000 in
theorem gL_moveReason_X7_moveReason : GoodIn wsL_moveReason (wsV RL 51 RX7 yX7_moveReason wsX7_moveReason) := goodIn_app (goodIn_of _ (by decide +kernel)) ggL_moveReason_X7_moveReason
theorem dL_moveReason_0 : decode cL_moveReason 0 = .ok (.aload_n 3, 1) := by decide +kernel
theorem dL_moveReason_1 : decode cL_moveReason 1 = .ok (.iconst 0, 1) := by decide +kernel
theorem dL_moveReason_2 : decode cL_moveReason 2 = .ok (.aload_n 0, 1) := by decide +kernel
theorem dL_moveReason_3 : decode cL_moveReason 3 = .ok (.iload_n 1, 1) := by decide +kernel
theorem dL_moveReason_4 : decode cL_moveReason 4 = .ok (.iload_n 2, 1) := by decide +kernel
theorem dL_moveReason_5 : decode cL_moveReason 5 = .ok (.invokevirtual 51, 3) := by decide +kernel
theorem dL_moveReason_8 : decode cL_moveReason 8 = .ok (.i2l, 1) := by decide +kernel
theorem dL_moveReason_9 : decode cL_moveReason 9 = .ok (.lastore, 1) := by decide +kernel
theorem dL_moveReason_10 : decode cL_moveReason 10 = .ok (.goto 7, 3) := by decide +kernel
theorem dL_moveReason_13 : decode cL_moveReason 13 = .ok (.astore 4, 2) := by decide +kernel
theorem dL_moveReason_15 : decode cL_moveReason 15 = .ok (.iconst 1, 1) := by decide +kernel
theorem dL_moveReason_16 : decode cL_moveReason 16 = .ok (.ireturn, 1) := by decide +kernel
theorem dL_moveReason_17 : decode cL_moveReason 17 = .ok (.iconst 0, 1) := by decide +kernel
theorem dL_moveReason_18 : decode cL_moveReason 18 = .ok (.ireturn, 1) := by decide +kernel
set_option maxRecDepth 20000 in
theorem ggL_moveFolder_X7_moveFolder : GoodIn wsL_moveFolder wsX7_moveFolder := goodIn_ca (goodIn_ca (goodIn_r _ [7, 8, 9, 10, 11, 12, 6, 13, 14, 15, 16, 17, 18, 19, 20, 21, 22, 23, 24, 25, 26, 27, 28, 29, 30, 31, 32, 33, 34, 35, 36, 37, 38, 39, 40, 41, 42, 43, 44, 45, 46, 47, 48, 49, 50, 51, 52, 53, 54, 55, 56, 57, 58, 59, 60, 61, 62, 63, 64, 65, 66, 67, 68, 69, 70, 71, 72, 73, 74, 75, 76, 77, 78, 79, 80, 81, 82, 83, 84, 85, 86, 87, 88, 89, 90, 91, 92, 93, 94, 95, 96, 97, 98, 99, 100, 101, 102, 103, 104, 105, 106, 107, 108, 109, 110, 111, 112, 113, 114, 115, 116, 117, 118, 119, 120, 121, 122, 123, 124, 125, 126, 127, 128, 129, 130, 131, 132, 133, 134, 135, 136, 137, 138, 139, 140, 141, 142, 143, 144, 145, 146, 147, 148, 149, 150, 151, 152, 153, 154, 155, 156, 157, 158, 159, 160, 161, 162, 163, 164, 165, 166, 167, 168, 169, 170, 171, 172, 173, 174, 175, 176, 177, 178, 179, 180, 181, 182, 183, 184, 185, 186, 187, 188, 189, 190, 191, 192, 193, 194, 195, 196, 197, 198, 199, 200, 201, 202, 203, 204, 205, 206, 207, 208, 209, 210, 211, 212, 213, 214, 215, 216, 217, 218, 219, 220, 221, 222, 223, 224, 225, 226, 227, 228, 229, 230, 231, 232, 233, 234, 235, 236, 237, 238, 239, 240, 241, 242, 243, 244, 245, 246, 247, 248, 249, 250, 251, 252] (by decide +kernel) (by decide +kernel)) (goodIn_sub (fun _ h => List.mem_cons_of_mem _ (List.mem_append_left _ (List.mem_append_right _ h))) (by decide +kernel))) (goodIn_sub (fun _ h => List.mem_cons_of_mem _ (List.mem_append_right _ h)) (by decide +kernel))
set_option maxRecDepth 20000 in
theorem gL_moveFolder_X7_moveFolder : GoodIn wsL_moveFolder (wsV RL 54 RX7 yX7_moveFolder wsX7_moveFolder) := goodIn_app (goodIn_of _ (by decide +kernel)) ggL_moveFolder_X7_moveFolder
theorem dL_moveFolder_0 : decode cL_moveFolder 0 = .ok (.aload_n 3, 1) := by decide +kernel
theorem dL_moveFolder_1 : decode cL_moveFolder 1 = .ok (.iconst 0, 1) := by decide +kernel
theorem dL_moveFolder_2 : decode cL_moveFolder 2 = .ok (.aload_n 0, 1) := by decide +kernel
theorem dL_moveFolder_3 : decode cL_moveFolder 3 = .ok (.iload_n 1, 1) := by decide +kernel
theorem dL_moveFolder_4 : decode cL_moveFolder 4 = .ok (.iload_n 2, 1) := by decide +kernel
theorem dL_moveFolder_5 : decode cL_moveFolder 5 = .ok (.invokevirtual 54, 3) := by decide +kernel
theorem dL_moveFolder_8 : decode cL_moveFolder 8 = .ok (.i2l, 1) := by decide +kernel
theorem dL_moveFolder_9 : decode cL_moveFolder 9 = .ok (.lastore, 1) := by decide +kernel
theorem dL_moveFolder_10 : decode cL_moveFolder 10 = .ok (.goto 11, 3) := by decide +kernel
theorem dL_moveFolder_13 : decode cL_moveFolder 13 = .ok (.astore 4, 2) := by decide +kernel
theorem dL_moveFolder_15 : decode cL_moveFolder 15 = .ok (.iconst 1, 1) := by decide +kernel
theorem dL_moveFolder_16 : decode cL_moveFolder 16 = .ok (.ireturn, 1) := by decide +kernel
theorem dL_moveFolder_17 : decode cL_moveFolder 17 = .ok (.astore 4, 2) := by decide +kernel
theorem dL_moveFolder_19 : decode cL_moveFolder 19 = .ok (.iconst 2, 1) := by decide +kernel
theorem dL_moveFolder_20 : decode cL_moveFolder 20 = .ok (.ireturn, 1) := by decide +kernel
theorem dL_moveFolder_21 : decode cL_moveFolder 21 = .ok (.iconst 0, 1) := by decide +kernel
theorem dL_moveFolder_22 : decode cL_moveFolder 22 = .ok (.ireturn, 1) := by decide +kernel
set_option maxRecDepth 20000 in
theorem ggL_file_X7_file : GoodIn wsL_file wsX7_file := goodIn_ca (goodIn_ca (goodIn_r _ [7, 8, 9, 10, 11, 12, 13, 14, 6, 15, 16, 17, 18, 19, 20, 21, 22, 23, 24, 25, 26, 27, 28, 29, 30, 31, 32, 33, 34, 35, 36, 37, 38, 39, 40, 41, 42, 43, 44, 45, 46, 47, 48, 49, 50, 51, 52, 53, 54, 55, 56, 57, 58, 59, 60, 61, 62, 63, 64, 65, 66, 67, 68, 69, 70, 71, 72, 73, 74, 75, 76, 77, 78, 79, 80, 81, 82] (by decide +kernel) (by decide +kernel)) (goodIn_sub (fun _ h => List.mem_cons_of_mem _ (List.mem_append_left _ (List.mem_append_right _ h))) (by decide +kernel))) (goodIn_sub (fun _ h => List.mem_cons_of_mem _ (List.mem_append_right _ h)) (by decide +kernel))
set_option maxRecDepth 20000 in
theorem gL_file_X7_file : GoodIn wsL_file (wsV RL 57 RX7 yX7_file wsX7_file) := goodIn_app (goodIn_of _ (by decide +kernel)) ggL_file_X7_file
theorem dL_file_0 : decode cL_file 0 = .ok (.aload_n 3, 1) := by decide +kernel
theorem dL_file_1 : decode cL_file 1 = .ok (.iconst 0, 1) := by decide +kernel
theorem dL_file_2 : decode cL_file 2 = .ok (.aload_n 0, 1) := by decide +kernel
theorem dL_file_3 : decode cL_file 3 = .ok (.iload_n 1, 1) := by decide +kernel
theorem dL_file_4 : decode cL_file 4 = .ok (.iload_n 2, 1) := by decide +kernel
theorem dL_file_5 : decode cL_file 5 = .ok (.invokevirtual 57, 3) := by decide +kernel
theorem dL_file_8 : decode cL_file 8 = .ok (.i2l, 1) := by decide +kernel
theorem dL_file_9 : decode cL_file 9 = .ok (.lastore, 1) := by decide +kernel
theorem dL_file_10 : decode cL_file 10 = .ok (.goto 11, 3) := by decide +kernel
theorem dL_file_13 : decode cL_file 13 = .ok (.astore 4, 2) := by decide +kernel
theorem dL_file_15 : decode cL_file 15 = .ok (.iconst 1, 1) := by decide +kernel
theorem dL_file_16 : decode cL_file 16 = .ok (.ireturn, 1) := by decide +kernel
theorem dL_file_17 : decode cL_file 17 = .ok (.astore 4, 2) := by decide +kernel
theorem dL_file_19 : decode cL_file 19 = .ok (.iconst 2, 1) := by decide +kernel
theorem dL_file_20 : decode cL_file 20 = .ok (.ireturn, 1) := by decide +kernel
theorem dL_file_21 : decode cL_file 21 = .ok (.iconst 0, 1) := by decide +kernel
theorem dL_file_22 : decode cL_file 22 = .ok (.ireturn, 1) := by decide +kernel
set_option maxRecDepth 20000 in
theorem ggL_writeReason_X7_writeReason : GoodIn wsL_writeReason wsX7_writeReason := goodIn_ca (goodIn_ca (goodIn_r _ [7, 8, 9, 10, 11, 12, 6, 13, 14, 15, 16, 17, 18, 19, 20, 21, 22, 23, 24, 25, 26, 27, 28, 29, 30, 31, 32, 33, 34, 35, 36, 37, 38, 39, 40, 41, 42, 43, 44, 45, 46, 47, 48, 49, 50, 51, 52, 53, 54, 55, 56, 57, 58, 59, 60, 61, 62, 63, 64, 65, 66, 67, 68, 69, 70, 71, 72, 73, 74, 75, 76, 77, 78, 79, 80, 81, 82, 83, 84, 85, 86, 87, 88, 89, 90, 91, 92, 93, 94, 95, 96, 97, 98, 99, 100, 101, 102, 103, 104, 105, 106, 107, 108, 109, 110, 111, 112, 113, 114, 115, 116, 117, 118, 119, 120, 121, 122, 123, 124] (by decide +kernel) (by decide +kernel)) (goodIn_sub (fun _ h => List.mem_cons_of_mem _ (List.mem_append_left _ (List.mem_append_right _ h))) (by decide +kernel))) (goodIn_sub (fun _ h => List.mem_cons_of_mem _ (List.mem_append_right _ h)) (by decide +kernel))
set_option maxRecDepth 20000 in
theorem gL_writeReason_X7_writeReason : GoodIn wsL_writeReason (wsV RL 60 RX7 yX7_writeReason wsX7_writeReason) := goodIn_app (goodIn_of _ (by decide +kernel)) ggL_writeReason_X7_writeReason
theorem dL_writeReason_0 : decode cL_writeReason 0 = .ok (.aload_n 3, 1) := by decide +kernel
theorem dL_writeReason_1 : decode cL_writeReason 1 = .ok (.iconst 0, 1) := by decide +kernel
theorem dL_writeReason_2 : decode cL_writeReason 2 = .ok (.aload_n 0, 1) := by decide +kernel
theorem dL_writeReason_3 : decode cL_writeReason 3 = .ok (.iload_n 1, 1) := by decide +kernel
theorem dL_writeReason_4 : decode cL_writeReason 4 = .ok (.iload_n 2, 1) := by decide +kernel
theorem dL_writeReason_5 : decode cL_writeReason 5 = .ok (.invokevirtual 60, 3) := by decide +kernel
theorem dL_writeReason_8 : decode cL_writeReason 8 = .ok (.i2l, 1) := by decide +kernel
theorem dL_writeReason_9 : decode cL_writeReason 9 = .ok (.lastore, 1) := by decide +kernel
theorem dL_writeReason_10 : decode cL_writeReason 10 = .ok (.goto 11, 3) := by decide +kernel
theorem dL_writeReason_13 : decode cL_writeReason 13 = .ok (.astore 4, 2) := by decide +kernel
theorem dL_writeReason_15 : decode cL_writeReason 15 = .ok (.iconst 1, 1) := by decide +kernel
theorem dL_writeReason_16 : decode cL_writeReason 16 = .ok (.ireturn, 1) := by decide +kernel
theorem dL_writeReason_17 : decode cL_writeReason 17 = .ok (.astore 4, 2) := by decide +kernel
theorem dL_writeReason_19 : decode cL_writeReason 19 = .ok (.iconst 2, 1) := by decide +kernel
theorem dL_writeReason_20 : decode cL_writeReason 20 = .ok (.ireturn, 1) := by decide +kernel
theorem dL_writeReason_21 : decode cL_writeReason 21 = .ok (.iconst 0, 1) := by decide +kernel
theorem dL_writeReason_22 : decode cL_writeReason 22 = .ok (.ireturn, 1) := by decide +kernel
set_option maxRecDepth 20000 in
theorem ggL_write_X7_write : GoodIn wsL_write wsX7_write := goodIn_ca (goodIn_ca (goodIn_ca (goodIn_r _ [8, 9, 10, 11, 12, 13, 14, 15, 16, 17, 18, 7, 19, 20, 21, 22, 23, 24, 25, 26, 27, 28, 29, 30, 31, 32, 33, 34, 35, 36, 37, 38, 39, 40, 41, 42, 43, 44, 45, 46, 47, 48, 49, 50, 51, 52, 53, 54, 55, 56, 57, 58, 59, 60, 61, 62, 63, 64, 65, 66, 67, 68, 69, 70, 71, 72, 73, 74, 75, 76, 77, 78, 79, 80, 81, 82, 83, 84, 85, 86, 87, 88, 89, 90, 91, 92, 93, 94, 95, 96, 97, 98, 99, 100, 101, 102, 103, 104, 105, 106, 107, 108, 109, 110, 111, 112, 113, 114, 115, 116, 117, 118, 119, 120, 121, 122, 123, 124, 125, 126, 127, 128, 129, 130, 131, 132, 133, 134, 135, 136, 137, 138, 139, 140, 141, 142, 143, 144, 145, 146, 147, 148, 149, 150, 151, 152, 153, 154, 155, 156, 157, 158, 159, 160, 161, 162, 163, 164, 165, 166, 167, 168, 169, 170, 171, 172, 173, 174, 175, 176, 177, 178, 179, 180, 181, 182, 183, 184, 185, 186, 187, 188, 189, 190, 191, 192, 193, 194, 195, 196, 197, 198, 199, 200, 201, 202, 203, 204, 205, 206, 207, 208, 209, 210, 211, 212, 213, 214, 215, 216, 217, 218, 219, 220] (by decide +kernel) (by decide +kernel)) (goodIn_sub (fun _ h => List.mem_cons_of_mem _ (List.mem_append_left _ (List.mem_append_left _ (List.mem_append_right _ h)))) (by decide +kernel))) (goodIn_sub (fun _ h => List.mem_cons_of_mem _ (List.mem_append_left _ (List.mem_append_right _ h))) (by decide +kernel))) (goodIn_sub (fun _ h => List.mem_cons_of_mem _ (List.mem_append_right _ h)) (by decide +kernel))
set_option maxRecDepth 20000 in
theorem gL_write_X7_write : GoodIn wsL_write (wsV RL 63 RX7 yX7_write wsX7_write) := goodIn_app (goodIn_of _ (by decide +kernel)) ggL_write_X7_write
theorem dL_write_0 : decode cL_write 0 = .ok (.aload_n 3, 1) := by decide +kernel
theorem dL_write_1 : decode cL_write 1 = .ok (.iconst 0, 1) := by decide +kernel
theorem dL_write_2 : decode cL_write 2 = .ok (.aload_n 0, 1) := by decide +kernel
theorem dL_write_3 : decode cL_write 3 = .ok (.iload_n 1, 1) := by decide +kernel
theorem dL_write_4 : decode cL_write 4 = .ok (.iload_n 2, 1) := by decide +kernel
theorem dL_write_5 : decode cL_write 5 = .ok (.invokevirtual 63, 3) := by decide +kernel
theorem dL_write_8 : decode cL_write 8 = .ok (.i2l, 1) := by decide +kernel
theorem dL_write_9 : decode cL_write 9 = .ok (.lastore, 1) := by decide +kernel
theorem dL_write_10 : decode cL_write 10 = .ok (.goto 15, 3) := by decide +kernel
theorem dL_write_13 : decode cL_write 13 = .ok (.astore 4, 2) := by decide +kernel
theorem dL_write_15 : decode cL_write 15 = .ok (.iconst 1, 1) := by decide +kernel
theorem dL_write_16 : decode cL_write 16 = .ok (.ireturn, 1) := by decide +kernel
theorem dL_write_17 : decode cL_write 17 = .ok (.astore 4, 2) := by decide +kernel
theorem dL_write_19 : decode cL_write 19 = .ok (.iconst 2, 1) := by decide +kernel
theorem dL_write_20 : decode cL_write 20 = .ok (.ireturn, 1) := by decide +kernel
theorem dL_write_21 : decode cL_write 21 = .ok (.astore 4, 2) := by decide +kernel
theorem dL_write_23 : decode cL_write 23 = .ok (.iconst 3, 1) := by decide +kernel
theorem dL_write_24 : decode cL_write 24 = .ok (.ireturn, 1) := by decide +kernel
theorem dL_write_25 : decode cL_write 25 = .ok (.iconst 0, 1) := by decide +kernel
theorem dL_write_26 : decode cL_write 26 = .ok (.ireturn, 1) := by decide +kernel
set_option maxRecDepth 20000 in
theorem ggL_room_X7_room : GoodIn wsL_room wsX7_room := goodIn_ca (goodIn_r _ [6, 7, 8, 9, 10, 11, 5, 12, 13, 14, 15, 16, 17, 18, 19, 20, 21, 22, 23, 24, 25, 26, 27, 28, 29, 30, 31, 32, 33, 34, 35, 36, 37, 38, 39, 40, 41, 42, 43, 44, 45, 46, 47, 48, 49, 50, 51, 52, 53, 54, 55, 56, 57, 58, 59, 60, 61, 62, 63, 64, 65, 66, 67, 68, 69, 70, 71, 72, 73, 74, 75, 76, 77, 78, 79, 80, 81, 82, 83, 84, 85, 86, 87, 88, 89, 90, 91, 92, 93, 94, 95, 96, 97, 98, 99, 100, 101, 102, 103, 104, 105, 106, 107, 108, 109, 110, 111, 112, 113, 114, 115, 116, 117, 118, 119, 120, 121, 122, 123, 124, 125] (by decide +kernel) (by decide +kernel)) (goodIn_sub (fun _ h => List.mem_cons_of_mem _ (List.mem_append_right _ h)) (by decide +kernel))
set_option maxRecDepth 20000 in
theorem gL_room_X7_room : GoodIn wsL_room (wsV RL 66 RX7 yX7_room wsX7_room) := goodIn_app (goodIn_of _ (by decide +kernel)) ggL_room_X7_room
theorem dL_room_0 : decode cL_room 0 = .ok (.aload_n 2, 1) := by decide +kernel
theorem dL_room_1 : decode cL_room 1 = .ok (.iconst 0, 1) := by decide +kernel
theorem dL_room_2 : decode cL_room 2 = .ok (.aload_n 0, 1) := by decide +kernel
theorem dL_room_3 : decode cL_room 3 = .ok (.iload_n 1, 1) := by decide +kernel
theorem dL_room_4 : decode cL_room 4 = .ok (.invokevirtual 66, 3) := by decide +kernel
theorem dL_room_7 : decode cL_room 7 = .ok (.i2l, 1) := by decide +kernel
theorem dL_room_8 : decode cL_room 8 = .ok (.lastore, 1) := by decide +kernel
theorem dL_room_9 : decode cL_room 9 = .ok (.goto 6, 3) := by decide +kernel
theorem dL_room_12 : decode cL_room 12 = .ok (.astore_n 3, 1) := by decide +kernel
theorem dL_room_13 : decode cL_room 13 = .ok (.iconst 1, 1) := by decide +kernel
theorem dL_room_14 : decode cL_room 14 = .ok (.ireturn, 1) := by decide +kernel
theorem dL_room_15 : decode cL_room 15 = .ok (.iconst 0, 1) := by decide +kernel
theorem dL_room_16 : decode cL_room 16 = .ok (.ireturn, 1) := by decide +kernel
set_option maxRecDepth 20000 in
theorem ggL_resize_X7_resize : GoodIn wsL_resize wsX7_resize := goodIn_ca (goodIn_ca (goodIn_ca (goodIn_r _ [8, 9, 10, 11, 12, 13, 14, 7, 15, 16, 17, 18, 19, 20, 21, 22, 23, 24, 25, 26, 27, 28, 29, 30, 31, 32, 33, 34, 35, 36, 37, 38, 39, 40, 41, 42, 43, 44, 45, 46, 47, 48, 49, 50, 51, 52, 53, 54, 55, 56, 57, 58, 59, 60, 61, 62, 63, 64, 65, 66, 67, 68, 69, 70, 71, 72, 73, 74, 75, 76, 77, 78, 79, 80, 81, 82, 83, 84, 85, 86, 87, 88, 89, 90, 91, 92, 93, 94, 95, 96, 97, 98, 99, 100, 101, 102, 103, 104, 105, 106, 107, 108, 109, 110, 111, 112, 113, 114, 115, 116, 117, 118, 119, 120, 121, 122, 123, 124, 125, 126, 127, 128, 129, 130, 131, 132, 133, 134, 135, 136, 137, 138, 139, 140, 141, 142, 143, 144, 145, 146, 147, 148, 149, 150, 151, 152, 153, 154, 155, 156, 157, 158, 159, 160, 161, 162, 163, 164, 165, 166, 167, 168, 169, 170, 171, 172, 173, 174, 175, 176, 177, 178, 179, 180, 181, 182, 183, 184, 185, 186, 187, 188, 189, 190, 191, 192, 193, 194, 195, 196, 197, 198, 199, 200, 201, 202, 203, 204, 205, 206, 207, 208, 209, 210, 211, 212, 213, 214, 215, 216, 217, 218, 219, 220, 221, 222, 223, 224, 225] (by decide +kernel) (by decide +kernel)) (goodIn_sub (fun _ h => List.mem_cons_of_mem _ (List.mem_append_left _ (List.mem_append_left _ (List.mem_append_right _ h)))) (by decide +kernel))) (goodIn_sub (fun _ h => List.mem_cons_of_mem _ (List.mem_append_left _ (List.mem_append_right _ h))) (by decide +kernel))) (goodIn_sub (fun _ h => List.mem_cons_of_mem _ (List.mem_append_right _ h)) (by decide +kernel))
set_option maxRecDepth 20000 in
theorem gL_resize_X7_resize : GoodIn wsL_resize (wsV RL 69 RX7 yX7_resize wsX7_resize) := goodIn_app (goodIn_of _ (by decide +kernel)) ggL_resize_X7_resize
theorem dL_resize_0 : decode cL_resize 0 = .ok (.aload_n 3, 1) := by decide +kernel
theorem dL_resize_1 : decode cL_resize 1 = .ok (.iconst 0, 1) := by decide +kernel
theorem dL_resize_2 : decode cL_resize 2 = .ok (.aload_n 0, 1) := by decide +kernel
theorem dL_resize_3 : decode cL_resize 3 = .ok (.iload_n 1, 1) := by decide +kernel
theorem dL_resize_4 : decode cL_resize 4 = .ok (.iload_n 2, 1) := by decide +kernel
theorem dL_resize_5 : decode cL_resize 5 = .ok (.invokevirtual 69, 3) := by decide +kernel
theorem dL_resize_8 : decode cL_resize 8 = .ok (.i2l, 1) := by decide +kernel
theorem dL_resize_9 : decode cL_resize 9 = .ok (.lastore, 1) := by decide +kernel
theorem dL_resize_10 : decode cL_resize 10 = .ok (.goto 15, 3) := by decide +kernel
theorem dL_resize_13 : decode cL_resize 13 = .ok (.astore 4, 2) := by decide +kernel
theorem dL_resize_15 : decode cL_resize 15 = .ok (.iconst 1, 1) := by decide +kernel
theorem dL_resize_16 : decode cL_resize 16 = .ok (.ireturn, 1) := by decide +kernel
theorem dL_resize_17 : decode cL_resize 17 = .ok (.astore 4, 2) := by decide +kernel
theorem dL_resize_19 : decode cL_resize 19 = .ok (.iconst 2, 1) := by decide +kernel
theorem dL_resize_20 : decode cL_resize 20 = .ok (.ireturn, 1) := by decide +kernel
theorem dL_resize_21 : decode cL_resize 21 = .ok (.astore 4, 2) := by decide +kernel
theorem dL_resize_23 : decode cL_resize 23 = .ok (.iconst 3, 1) := by decide +kernel
theorem dL_resize_24 : decode cL_resize 24 = .ok (.ireturn, 1) := by decide +kernel
theorem dL_resize_25 : decode cL_resize 25 = .ok (.iconst 0, 1) := by decide +kernel
theorem dL_resize_26 : decode cL_resize 26 = .ok (.ireturn, 1) := by decide +kernel
set_option maxRecDepth 20000 in
theorem ggL_delete_X7_delete : GoodIn wsL_delete wsX7_delete := goodIn_ca (goodIn_r _ [6, 7, 8, 9, 10, 11, 12, 13, 5, 14, 15, 16, 17, 18, 19, 20, 21, 22, 23, 24, 25, 26, 27, 28, 29, 30, 31, 32, 33, 34, 35, 36, 37, 38, 39, 40, 41, 42, 43, 44, 45, 46, 47, 48, 49, 50, 51, 52, 53, 54, 55, 56, 57, 58, 59, 60, 61, 62, 63, 64, 65, 66, 67, 68, 69, 70, 71, 72, 73, 74, 75, 76, 77, 78, 79, 80, 81, 82, 83, 84, 85, 86, 87, 88, 89, 90, 91, 92, 93, 94, 95, 96, 97, 98, 99, 100, 101, 102, 103, 104, 105, 106, 107, 108, 109, 110, 111, 112, 113, 114, 115, 116, 117, 118, 119, 120, 121, 122, 123, 124, 125, 126, 127, 128, 129, 130, 131, 132, 133, 134, 135, 136, 137, 138, 139, 140, 141, 142, 143, 144, 145, 146, 147, 148, 149, 150, 151, 152, 153, 154, 155, 156, 157, 158, 159, 160, 161, 162, 163, 164, 165, 166, 167, 168, 169, 170, 171, 172, 173, 174, 175, 176, 177, 178, 179, 180, 181, 182, 183, 184, 185, 186, 187, 188, 189, 190, 191, 192, 193, 194, 195, 196, 197, 198, 199, 200, 201, 202] (by decide +kernel) (by decide +kernel)) (goodIn_sub (fun _ h => List.mem_cons_of_mem _ (List.mem_append_right _ h)) (by decide +kernel))
set_option maxRecDepth 20000 in
theorem gL_delete_X7_delete : GoodIn wsL_delete (wsV RL 72 RX7 yX7_delete wsX7_delete) := goodIn_app (goodIn_of _ (by decide +kernel)) ggL_delete_X7_delete
theorem dL_delete_0 : decode cL_delete 0 = .ok (.aload_n 2, 1) := by decide +kernel
theorem dL_delete_1 : decode cL_delete 1 = .ok (.iconst 0, 1) := by decide +kernel
theorem dL_delete_2 : decode cL_delete 2 = .ok (.aload_n 0, 1) := by decide +kernel
theorem dL_delete_3 : decode cL_delete 3 = .ok (.iload_n 1, 1) := by decide +kernel
theorem dL_delete_4 : decode cL_delete 4 = .ok (.invokevirtual 72, 3) := by decide +kernel
theorem dL_delete_7 : decode cL_delete 7 = .ok (.i2l, 1) := by decide +kernel
theorem dL_delete_8 : decode cL_delete 8 = .ok (.lastore, 1) := by decide +kernel
theorem dL_delete_9 : decode cL_delete 9 = .ok (.goto 6, 3) := by decide +kernel
theorem dL_delete_12 : decode cL_delete 12 = .ok (.astore_n 3, 1) := by decide +kernel
theorem dL_delete_13 : decode cL_delete 13 = .ok (.iconst 1, 1) := by decide +kernel
theorem dL_delete_14 : decode cL_delete 14 = .ok (.ireturn, 1) := by decide +kernel
theorem dL_delete_15 : decode cL_delete 15 = .ok (.iconst 0, 1) := by decide +kernel
theorem dL_delete_16 : decode cL_delete 16 = .ok (.ireturn, 1) := by decide +kernel
set_option maxRecDepth 20000 in
theorem ggL_moveFile_X7_moveFile : GoodIn wsL_moveFile wsX7_moveFile := goodIn_ca (goodIn_ca (goodIn_r _ [7, 8, 9, 10, 11, 12, 13, 14, 6, 15, 16, 17, 18, 19, 20, 21, 22, 23, 24, 25, 26, 27, 28, 29, 30, 31, 32, 33, 34, 35, 36, 37, 38, 39, 40, 41, 42, 43, 44, 45, 46, 47, 48, 49, 50, 51, 52, 53, 54, 55, 56, 57, 58, 59, 60, 61, 62, 63, 64, 65, 66, 67, 68, 69, 70, 71, 72, 73, 74, 75, 76, 77, 78, 79, 80, 81, 82, 83, 84, 85, 86, 87, 88, 89, 90, 91, 92, 93, 94, 95, 96, 97, 98, 99, 100, 101, 102, 103, 104, 105, 106, 107, 108, 109, 110, 111, 112, 113, 114, 115, 116, 117, 118, 119, 120, 121, 122, 123, 124, 125, 126, 127, 128, 129, 130, 131, 132, 133, 134, 135, 136, 137, 138, 139, 140, 141, 142, 143, 144, 145, 146, 147, 148, 149, 150, 151, 152, 153, 154, 155, 156, 157, 158, 159, 160, 161, 162, 163, 164, 165, 166, 167, 168, 169, 170, 171, 172, 173, 174, 175, 176, 177, 178, 179, 180, 181, 182, 183, 184, 185, 186, 187, 188, 189, 190, 191, 192, 193, 194, 195, 196, 197, 198, 199, 200, 201, 202, 203, 204, 205, 206, 207, 208, 209, 210, 211, 212, 213, 214, 215, 216, 217, 218, 219, 220, 221, 222, 223, 224, 225, 226, 227, 228, 229, 230] (by decide +kernel) (by decide +kernel)) (goodIn_sub (fun _ h => List.mem_cons_of_mem _ (List.mem_append_left _ (List.mem_append_right _ h))) (by decide +kernel))) (goodIn_sub (fun _ h => List.mem_cons_of_mem _ (List.mem_append_right _ h)) (by decide +kernel))
set_option maxRecDepth 20000 in
theorem gL_moveFile_X7_moveFile : GoodIn wsL_moveFile (wsV RL 75 RX7 yX7_moveFile wsX7_moveFile) := goodIn_app (goodIn_of _ (by decide +kernel)) ggL_moveFile_X7_moveFile
theorem dL_moveFile_0 : decode cL_moveFile 0 = .ok (.aload_n 3, 1) := by decide +kernel
theorem dL_moveFile_1 : decode cL_moveFile 1 = .ok (.iconst 0, 1) := by decide +kernel
theorem dL_moveFile_2 : decode cL_moveFile 2 = .ok (.aload_n 0, 1) := by decide +kernel
theorem dL_moveFile_3 : decode cL_moveFile 3 = .ok (.iload_n 1, 1) := by decide +kernel
theorem dL_moveFile_4 : decode cL_moveFile 4 = .ok (.iload_n 2, 1) := by decide +kernel
theorem dL_moveFile_5 : decode cL_moveFile 5 = .ok (.invokevirtual 75, 3) := by decide +kernel
theorem dL_moveFile_8 : decode cL_moveFile 8 = .ok (.i2l, 1) := by decide +kernel
theorem dL_moveFile_9 : decode cL_moveFile 9 = .ok (.lastore, 1) := by decide +kernel
theorem dL_moveFile_10 : decode cL_moveFile 10 = .ok (.goto 11, 3) := by decide +kernel
theorem dL_moveFile_13 : decode cL_moveFile 13 = .ok (.astore 4, 2) := by decide +kernel
theorem dL_moveFile_15 : decode cL_moveFile 15 = .ok (.iconst 1, 1) := by decide +kernel
theorem dL_moveFile_16 : decode cL_moveFile 16 = .ok (.ireturn, 1) := by decide +kernel
theorem dL_moveFile_17 : decode cL_moveFile 17 = .ok (.astore 4, 2) := by decide +kernel
theorem dL_moveFile_19 : decode cL_moveFile 19 = .ok (.iconst 2, 1) := by decide +kernel
theorem dL_moveFile_20 : decode cL_moveFile 20 = .ok (.ireturn, 1) := by decide +kernel
theorem dL_moveFile_21 : decode cL_moveFile 21 = .ok (.iconst 0, 1) := by decide +kernel
theorem dL_moveFile_22 : decode cL_moveFile 22 = .ok (.ireturn, 1) := by decide +kernel
set_option maxRecDepth 20000 in
theorem ggL_greatest_X7_greatest : GoodIn wsL_greatest wsX7_greatest := goodIn_ca (goodIn_ca (goodIn_r _ [7, 8, 9, 10, 11, 12, 6, 13, 14, 15, 16, 17, 18, 19, 20, 21, 22, 23, 24, 25, 26, 27, 28, 29, 30, 31, 32, 33, 34, 35, 36, 37, 38, 39, 40, 41, 42, 43, 44, 45, 46, 47, 48, 49, 50, 51, 52, 53, 54, 55, 56, 57, 58, 59, 60, 61, 62, 63, 64, 65, 66, 67, 68, 69, 70, 71, 72, 73, 74, 75, 76, 77, 78, 79, 80, 81, 82, 83, 84, 85, 86] (by decide +kernel) (by decide +kernel)) (goodIn_sub (fun _ h => List.mem_cons_of_mem _ (List.mem_append_left _ (List.mem_append_right _ h))) (by decide +kernel))) (goodIn_sub (fun _ h => List.mem_cons_of_mem _ (List.mem_append_right _ h)) (by decide +kernel))
set_option maxRecDepth 20000 in
theorem gL_greatest_X7_greatest : GoodIn wsL_greatest (wsV RL 78 RX7 yX7_greatest wsX7_greatest) := goodIn_app (goodIn_of _ (by decide +kernel)) ggL_greatest_X7_greatest
theorem dL_greatest_0 : decode cL_greatest 0 = .ok (.aload_n 2, 1) := by decide +kernel
theorem dL_greatest_1 : decode cL_greatest 1 = .ok (.iconst 0, 1) := by decide +kernel
theorem dL_greatest_2 : decode cL_greatest 2 = .ok (.aload_n 0, 1) := by decide +kernel
theorem dL_greatest_3 : decode cL_greatest 3 = .ok (.iload_n 1, 1) := by decide +kernel
theorem dL_greatest_4 : decode cL_greatest 4 = .ok (.invokevirtual 78, 3) := by decide +kernel
theorem dL_greatest_7 : decode cL_greatest 7 = .ok (.i2l, 1) := by decide +kernel
theorem dL_greatest_8 : decode cL_greatest 8 = .ok (.lastore, 1) := by decide +kernel
theorem dL_greatest_9 : decode cL_greatest 9 = .ok (.goto 9, 3) := by decide +kernel
theorem dL_greatest_12 : decode cL_greatest 12 = .ok (.astore_n 3, 1) := by decide +kernel
theorem dL_greatest_13 : decode cL_greatest 13 = .ok (.iconst 1, 1) := by decide +kernel
theorem dL_greatest_14 : decode cL_greatest 14 = .ok (.ireturn, 1) := by decide +kernel
theorem dL_greatest_15 : decode cL_greatest 15 = .ok (.astore_n 3, 1) := by decide +kernel
theorem dL_greatest_16 : decode cL_greatest 16 = .ok (.iconst 2, 1) := by decide +kernel
theorem dL_greatest_17 : decode cL_greatest 17 = .ok (.ireturn, 1) := by decide +kernel
theorem dL_greatest_18 : decode cL_greatest 18 = .ok (.iconst 0, 1) := by decide +kernel
theorem dL_greatest_19 : decode cL_greatest 19 = .ok (.ireturn, 1) := by decide +kernel
set_option maxRecDepth 20000 in
theorem ggL_used_X7_used : GoodIn wsL_used wsX7_used := goodIn_ca (goodIn_r _ [6, 7, 8, 9, 10, 5, 11, 12, 13, 14, 15, 16, 17, 18, 19, 20, 21, 22, 23, 24, 25, 26, 27, 28, 29, 30, 31, 32, 33, 34, 35, 36, 37, 38, 39, 40, 41, 42, 43, 44, 45] (by decide +kernel) (by decide +kernel)) (goodIn_sub (fun _ h => List.mem_cons_of_mem _ (List.mem_append_right _ h)) (by decide +kernel))
set_option maxRecDepth 20000 in
theorem gL_used_X7_used : GoodIn wsL_used (wsV RL 81 RX7 yX7_used wsX7_used) := goodIn_app (goodIn_of _ (by decide +kernel)) ggL_used_X7_used
theorem dL_used_0 : decode cL_used 0 = .ok (.aload_n 3, 1) := by decide +kernel
theorem dL_used_1 : decode cL_used 1 = .ok (.iconst 0, 1) := by decide +kernel
theorem dL_used_2 : decode cL_used 2 = .ok (.aload_n 0, 1) := by decide +kernel
theorem dL_used_3 : decode cL_used 3 = .ok (.iload_n 1, 1) := by decide +kernel
theorem dL_used_4 : decode cL_used 4 = .ok (.iload_n 2, 1) := by decide +kernel
theorem dL_used_5 : decode cL_used 5 = .ok (.invokevirtual 81, 3) := by decide +kernel
theorem dL_used_8 : decode cL_used 8 = .ok (.i2l, 1) := by decide +kernel
theorem dL_used_9 : decode cL_used 9 = .ok (.lastore, 1) := by decide +kernel
theorem dL_used_10 : decode cL_used 10 = .ok (.goto 7, 3) := by decide +kernel
theorem dL_used_13 : decode cL_used 13 = .ok (.astore 4, 2) := by decide +kernel
theorem dL_used_15 : decode cL_used 15 = .ok (.iconst 1, 1) := by decide +kernel
theorem dL_used_16 : decode cL_used 16 = .ok (.ireturn, 1) := by decide +kernel
theorem dL_used_17 : decode cL_used 17 = .ok (.iconst 0, 1) := by decide +kernel
theorem dL_used_18 : decode cL_used 18 = .ok (.ireturn, 1) := by decide +kernel
set_option maxRecDepth 20000 in
theorem ggL_counted_X7_counted : GoodIn wsL_counted wsX7_counted := goodIn_ca (goodIn_r _ [6, 7, 8, 9, 5, 10, 11, 12, 13, 14, 15, 16, 17, 18, 19, 20, 21, 22, 23, 24, 25, 26, 27, 28, 29, 30, 31, 32, 33, 34, 35, 36, 37, 38, 39, 40, 41, 42, 43, 44, 45, 46, 47, 48, 49, 50, 51, 52, 53, 54, 55, 56, 57, 58, 59, 60, 61, 62, 63, 64, 65, 66, 67, 68, 69, 70, 71, 72, 73, 74, 75, 76, 77, 78, 79, 80, 81, 82, 83, 84, 85, 86, 87, 88, 89, 90] (by decide +kernel) (by decide +kernel)) (goodIn_sub (fun _ h => List.mem_cons_of_mem _ (List.mem_append_right _ h)) (by decide +kernel))
set_option maxRecDepth 20000 in
theorem gL_counted_X7_counted : GoodIn wsL_counted (wsV RL 84 RX7 yX7_counted wsX7_counted) := goodIn_app (goodIn_of _ (by decide +kernel)) ggL_counted_X7_counted
theorem dL_counted_0 : decode cL_counted 0 = .ok (.aload_n 3, 1) := by decide +kernel
theorem dL_counted_1 : decode cL_counted 1 = .ok (.iconst 0, 1) := by decide +kernel
theorem dL_counted_2 : decode cL_counted 2 = .ok (.aload_n 0, 1) := by decide +kernel
theorem dL_counted_3 : decode cL_counted 3 = .ok (.iload_n 1, 1) := by decide +kernel
theorem dL_counted_4 : decode cL_counted 4 = .ok (.iload_n 2, 1) := by decide +kernel
theorem dL_counted_5 : decode cL_counted 5 = .ok (.invokevirtual 84, 3) := by decide +kernel
theorem dL_counted_8 : decode cL_counted 8 = .ok (.i2l, 1) := by decide +kernel
theorem dL_counted_9 : decode cL_counted 9 = .ok (.lastore, 1) := by decide +kernel
theorem dL_counted_10 : decode cL_counted 10 = .ok (.goto 7, 3) := by decide +kernel
theorem dL_counted_13 : decode cL_counted 13 = .ok (.astore 4, 2) := by decide +kernel
theorem dL_counted_15 : decode cL_counted 15 = .ok (.iconst 1, 1) := by decide +kernel
theorem dL_counted_16 : decode cL_counted 16 = .ok (.ireturn, 1) := by decide +kernel
theorem dL_counted_17 : decode cL_counted 17 = .ok (.iconst 0, 1) := by decide +kernel
theorem dL_counted_18 : decode cL_counted 18 = .ok (.ireturn, 1) := by decide +kernel
set_option maxRecDepth 20000 in
theorem ggL_limit_X7_limit : GoodIn wsL_limit wsX7_limit := goodIn_ca (goodIn_r _ [6, 7, 8, 9, 5, 10, 11, 12, 13, 14, 15, 16, 17, 18, 19, 20, 21, 22, 23, 24, 25, 26, 27, 28, 29, 30, 31, 32, 33, 34, 35, 36, 37, 38, 39, 40, 41, 42, 43, 44, 45, 46, 47, 48, 49, 50, 51, 52, 53, 54, 55, 56, 57, 58, 59, 60, 61, 62, 63, 64, 65, 66, 67, 68, 69] (by decide +kernel) (by decide +kernel)) (goodIn_sub (fun _ h => List.mem_cons_of_mem _ (List.mem_append_right _ h)) (by decide +kernel))
set_option maxRecDepth 20000 in
theorem gL_limit_X7_limit : GoodIn wsL_limit (wsV RL 87 RX7 yX7_limit wsX7_limit) := goodIn_app (goodIn_of _ (by decide +kernel)) ggL_limit_X7_limit
theorem dL_limit_0 : decode cL_limit 0 = .ok (.aload 4, 2) := by decide +kernel
theorem dL_limit_2 : decode cL_limit 2 = .ok (.iconst 0, 1) := by decide +kernel
theorem dL_limit_3 : decode cL_limit 3 = .ok (.aload_n 0, 1) := by decide +kernel
theorem dL_limit_4 : decode cL_limit 4 = .ok (.iload_n 1, 1) := by decide +kernel
theorem dL_limit_5 : decode cL_limit 5 = .ok (.iload_n 2, 1) := by decide +kernel
theorem dL_limit_6 : decode cL_limit 6 = .ok (.iload_n 3, 1) := by decide +kernel
theorem dL_limit_7 : decode cL_limit 7 = .ok (.invokevirtual 87, 3) := by decide +kernel
theorem dL_limit_10 : decode cL_limit 10 = .ok (.i2l, 1) := by decide +kernel
theorem dL_limit_11 : decode cL_limit 11 = .ok (.lastore, 1) := by decide +kernel
theorem dL_limit_12 : decode cL_limit 12 = .ok (.goto 7, 3) := by decide +kernel
theorem dL_limit_15 : decode cL_limit 15 = .ok (.astore 5, 2) := by decide +kernel
theorem dL_limit_17 : decode cL_limit 17 = .ok (.iconst 1, 1) := by decide +kernel
theorem dL_limit_18 : decode cL_limit 18 = .ok (.ireturn, 1) := by decide +kernel
theorem dL_limit_19 : decode cL_limit 19 = .ok (.iconst 0, 1) := by decide +kernel
theorem dL_limit_20 : decode cL_limit 20 = .ok (.ireturn, 1) := by decide +kernel
set_option maxRecDepth 20000 in
theorem ggL_setLimit_X7_setLimit : GoodIn wsL_setLimit wsX7_setLimit := goodIn_ca (goodIn_ca (goodIn_r _ [7, 8, 9, 10, 11, 12, 13, 14, 15, 16, 17, 6, 18, 19, 20, 21, 22, 23, 24, 25, 26, 27, 28, 29, 30, 31, 32, 33, 34, 35, 36, 37, 38, 39, 40, 41, 42, 43, 44, 45, 46, 47, 48, 49, 50, 51, 52, 53, 54, 55, 56, 57, 58, 59, 60, 61, 62, 63, 64, 65, 66, 67, 68, 69, 70, 71, 72, 73, 74, 75, 76, 77, 78, 79, 80, 81, 82, 83, 84, 85, 86, 87, 88, 89, 90, 91, 92, 93, 94, 95, 96, 97, 98, 99, 100, 101, 102, 103, 104, 105, 106, 107, 108, 109, 110, 111, 112, 113, 114, 115, 116, 117, 118, 119, 120, 121, 122, 123, 124, 125, 126, 127, 128, 129, 130, 131, 132, 133, 134, 135, 136, 137, 138, 139, 140, 141, 142, 143, 144, 145, 146, 147, 148, 149, 150, 151, 152, 153, 154, 155, 156, 157, 158, 159, 160, 161, 162, 163, 164, 165, 166, 167, 168, 169, 170, 171, 172, 173, 174, 175, 176, 177, 178, 179, 180, 181, 182, 183, 184, 185] (by decide +kernel) (by decide +kernel)) (goodIn_sub (fun _ h => List.mem_cons_of_mem _ (List.mem_append_left _ (List.mem_append_right _ h))) (by decide +kernel))) (goodIn_sub (fun _ h => List.mem_cons_of_mem _ (List.mem_append_right _ h)) (by decide +kernel))
set_option maxRecDepth 20000 in
theorem gL_setLimit_X7_setLimit : GoodIn wsL_setLimit (wsV RL 91 RX7 yX7_setLimit wsX7_setLimit) := goodIn_app (goodIn_of _ (by decide +kernel)) ggL_setLimit_X7_setLimit
theorem dL_setLimit_0 : decode cL_setLimit 0 = .ok (.aload 5, 2) := by decide +kernel
theorem dL_setLimit_2 : decode cL_setLimit 2 = .ok (.iconst 0, 1) := by decide +kernel
theorem dL_setLimit_3 : decode cL_setLimit 3 = .ok (.aload_n 0, 1) := by decide +kernel
theorem dL_setLimit_4 : decode cL_setLimit 4 = .ok (.iload_n 1, 1) := by decide +kernel
theorem dL_setLimit_5 : decode cL_setLimit 5 = .ok (.iload_n 2, 1) := by decide +kernel
theorem dL_setLimit_6 : decode cL_setLimit 6 = .ok (.iload_n 3, 1) := by decide +kernel
theorem dL_setLimit_7 : decode cL_setLimit 7 = .ok (.iload 4, 2) := by decide +kernel
theorem dL_setLimit_9 : decode cL_setLimit 9 = .ok (.invokevirtual 91, 3) := by decide +kernel
theorem dL_setLimit_12 : decode cL_setLimit 12 = .ok (.i2l, 1) := by decide +kernel
theorem dL_setLimit_13 : decode cL_setLimit 13 = .ok (.lastore, 1) := by decide +kernel
theorem dL_setLimit_14 : decode cL_setLimit 14 = .ok (.goto 11, 3) := by decide +kernel
theorem dL_setLimit_17 : decode cL_setLimit 17 = .ok (.astore 6, 2) := by decide +kernel
theorem dL_setLimit_19 : decode cL_setLimit 19 = .ok (.iconst 1, 1) := by decide +kernel
theorem dL_setLimit_20 : decode cL_setLimit 20 = .ok (.ireturn, 1) := by decide +kernel
theorem dL_setLimit_21 : decode cL_setLimit 21 = .ok (.astore 6, 2) := by decide +kernel
theorem dL_setLimit_23 : decode cL_setLimit 23 = .ok (.iconst 2, 1) := by decide +kernel
theorem dL_setLimit_24 : decode cL_setLimit 24 = .ok (.ireturn, 1) := by decide +kernel
theorem dL_setLimit_25 : decode cL_setLimit 25 = .ok (.iconst 0, 1) := by decide +kernel
theorem dL_setLimit_26 : decode cL_setLimit 26 = .ok (.ireturn, 1) := by decide +kernel
set_option maxRecDepth 20000 in
theorem ggL_state_X7_state : GoodIn wsL_state wsX7_state := goodIn_ca (goodIn_r _ [6, 7, 8, 9, 5, 10, 11, 12, 13, 14, 15, 16, 17, 18, 19, 20, 21, 22, 23, 24, 25, 26, 27, 28, 29, 30, 31, 32, 33, 34, 35, 36, 37, 38, 39, 40, 41, 42, 43, 44, 45, 46, 47, 48, 49, 50, 51, 52, 53, 54, 55, 56, 57, 58, 59, 60, 61, 62, 63, 64, 65, 66, 67, 68, 69, 70, 71, 72, 73, 74, 75, 76, 77, 78, 79, 80, 81, 82, 83, 84, 85, 86, 87, 88, 89, 90, 91, 92, 93, 94, 95, 96, 97, 98, 99, 100, 101, 102] (by decide +kernel) (by decide +kernel)) (goodIn_sub (fun _ h => List.mem_cons_of_mem _ (List.mem_append_right _ h)) (by decide +kernel))
set_option maxRecDepth 20000 in
theorem gL_state_X7_state : GoodIn wsL_state (wsV RL 95 RX7 yX7_state wsX7_state) := goodIn_app (goodIn_of _ (by decide +kernel)) ggL_state_X7_state
theorem dL_state_0 : decode cL_state 0 = .ok (.aload_n 3, 1) := by decide +kernel
theorem dL_state_1 : decode cL_state 1 = .ok (.iconst 0, 1) := by decide +kernel
theorem dL_state_2 : decode cL_state 2 = .ok (.aload_n 0, 1) := by decide +kernel
theorem dL_state_3 : decode cL_state 3 = .ok (.iload_n 1, 1) := by decide +kernel
theorem dL_state_4 : decode cL_state 4 = .ok (.iload_n 2, 1) := by decide +kernel
theorem dL_state_5 : decode cL_state 5 = .ok (.invokevirtual 95, 3) := by decide +kernel
theorem dL_state_8 : decode cL_state 8 = .ok (.i2l, 1) := by decide +kernel
theorem dL_state_9 : decode cL_state 9 = .ok (.lastore, 1) := by decide +kernel
theorem dL_state_10 : decode cL_state 10 = .ok (.goto 7, 3) := by decide +kernel
theorem dL_state_13 : decode cL_state 13 = .ok (.astore 4, 2) := by decide +kernel
theorem dL_state_15 : decode cL_state 15 = .ok (.iconst 1, 1) := by decide +kernel
theorem dL_state_16 : decode cL_state 16 = .ok (.ireturn, 1) := by decide +kernel
theorem dL_state_17 : decode cL_state 17 = .ok (.iconst 0, 1) := by decide +kernel
theorem dL_state_18 : decode cL_state 18 = .ok (.ireturn, 1) := by decide +kernel
set_option maxRecDepth 20000 in
theorem ggL_graceLeft_X7_graceLeft : GoodIn wsL_graceLeft wsX7_graceLeft := goodIn_ca (goodIn_r _ [6, 7, 8, 9, 10, 11, 12, 13, 14, 5, 15, 16, 17, 18, 19, 20, 21, 22, 23, 24, 25, 26, 27, 28, 29, 30, 31, 32, 33, 34, 35, 36, 37, 38, 39, 40, 41, 42, 43, 44, 45, 46, 47, 48, 49, 50, 51, 52, 53, 54, 55] (by decide +kernel) (by decide +kernel)) (goodIn_sub (fun _ h => List.mem_cons_of_mem _ (List.mem_append_right _ h)) (by decide +kernel))
set_option maxRecDepth 20000 in
theorem gL_graceLeft_X7_graceLeft : GoodIn wsL_graceLeft (wsV RL 98 RX7 yX7_graceLeft wsX7_graceLeft) := goodIn_app (goodIn_of _ (by decide +kernel)) ggL_graceLeft_X7_graceLeft
theorem dL_graceLeft_0 : decode cL_graceLeft 0 = .ok (.aload_n 3, 1) := by decide +kernel
theorem dL_graceLeft_1 : decode cL_graceLeft 1 = .ok (.iconst 0, 1) := by decide +kernel
theorem dL_graceLeft_2 : decode cL_graceLeft 2 = .ok (.aload_n 0, 1) := by decide +kernel
theorem dL_graceLeft_3 : decode cL_graceLeft 3 = .ok (.iload_n 1, 1) := by decide +kernel
theorem dL_graceLeft_4 : decode cL_graceLeft 4 = .ok (.iload_n 2, 1) := by decide +kernel
theorem dL_graceLeft_5 : decode cL_graceLeft 5 = .ok (.invokevirtual 98, 3) := by decide +kernel
theorem dL_graceLeft_8 : decode cL_graceLeft 8 = .ok (.i2l, 1) := by decide +kernel
theorem dL_graceLeft_9 : decode cL_graceLeft 9 = .ok (.lastore, 1) := by decide +kernel
theorem dL_graceLeft_10 : decode cL_graceLeft 10 = .ok (.goto 7, 3) := by decide +kernel
theorem dL_graceLeft_13 : decode cL_graceLeft 13 = .ok (.astore 4, 2) := by decide +kernel
theorem dL_graceLeft_15 : decode cL_graceLeft 15 = .ok (.iconst 1, 1) := by decide +kernel
theorem dL_graceLeft_16 : decode cL_graceLeft 16 = .ok (.ireturn, 1) := by decide +kernel
theorem dL_graceLeft_17 : decode cL_graceLeft 17 = .ok (.iconst 0, 1) := by decide +kernel
theorem dL_graceLeft_18 : decode cL_graceLeft 18 = .ok (.ireturn, 1) := by decide +kernel
set_option maxRecDepth 20000 in
theorem ggL_setGrace_X7_setGrace : GoodIn wsL_setGrace wsX7_setGrace := goodIn_ca (goodIn_r _ [6, 7, 8, 9, 10, 5, 11, 12, 13, 14, 15, 16, 17, 18, 19, 20, 21, 22, 23, 24, 25, 26, 27, 28, 29, 30, 31, 32, 33, 34, 35, 36, 37, 38, 39, 40, 41, 42, 43, 44, 45, 46, 47, 48, 49, 50, 51, 52, 53, 54, 55, 56, 57, 58, 59, 60, 61, 62, 63, 64, 65, 66, 67, 68, 69, 70, 71, 72, 73, 74, 75, 76, 77, 78, 79, 80, 81, 82, 83, 84, 85, 86, 87, 88, 89, 90, 91, 92, 93, 94, 95, 96, 97, 98, 99, 100, 101, 102, 103, 104, 105, 106, 107, 108, 109, 110, 111, 112, 113, 114, 115, 116, 117, 118, 119, 120, 121, 122, 123, 124, 125, 126, 127, 128, 129, 130, 131, 132, 133, 134, 135, 136, 137, 138, 139, 140, 141, 142, 143, 144, 145, 146, 147, 148] (by decide +kernel) (by decide +kernel)) (goodIn_sub (fun _ h => List.mem_cons_of_mem _ (List.mem_append_right _ h)) (by decide +kernel))
set_option maxRecDepth 20000 in
theorem gL_setGrace_X7_setGrace : GoodIn wsL_setGrace (wsV RL 101 RX7 yX7_setGrace wsX7_setGrace) := goodIn_app (goodIn_of _ (by decide +kernel)) ggL_setGrace_X7_setGrace
theorem dL_setGrace_0 : decode cL_setGrace 0 = .ok (.aload_n 2, 1) := by decide +kernel
theorem dL_setGrace_1 : decode cL_setGrace 1 = .ok (.iconst 0, 1) := by decide +kernel
theorem dL_setGrace_2 : decode cL_setGrace 2 = .ok (.aload_n 0, 1) := by decide +kernel
theorem dL_setGrace_3 : decode cL_setGrace 3 = .ok (.iload_n 1, 1) := by decide +kernel
theorem dL_setGrace_4 : decode cL_setGrace 4 = .ok (.invokevirtual 101, 3) := by decide +kernel
theorem dL_setGrace_7 : decode cL_setGrace 7 = .ok (.i2l, 1) := by decide +kernel
theorem dL_setGrace_8 : decode cL_setGrace 8 = .ok (.lastore, 1) := by decide +kernel
theorem dL_setGrace_9 : decode cL_setGrace 9 = .ok (.goto 6, 3) := by decide +kernel
theorem dL_setGrace_12 : decode cL_setGrace 12 = .ok (.astore_n 3, 1) := by decide +kernel
theorem dL_setGrace_13 : decode cL_setGrace 13 = .ok (.iconst 1, 1) := by decide +kernel
theorem dL_setGrace_14 : decode cL_setGrace 14 = .ok (.ireturn, 1) := by decide +kernel
theorem dL_setGrace_15 : decode cL_setGrace 15 = .ok (.iconst 0, 1) := by decide +kernel
theorem dL_setGrace_16 : decode cL_setGrace 16 = .ok (.ireturn, 1) := by decide +kernel
set_option maxRecDepth 20000 in
theorem ggL_tick_X7_tick : GoodIn wsL_tick wsX7_tick := goodIn_ca (goodIn_ca (goodIn_r _ [7, 8, 9, 10, 11, 12, 13, 14, 6, 15, 16, 17, 18, 19, 20, 21, 22, 23, 24, 25, 26, 27, 28, 29, 30, 31, 32, 33, 34, 35, 36, 37, 38, 39, 40, 41, 42, 43, 44, 45, 46, 47, 48, 49, 50, 51, 52, 53, 54, 55, 56, 57, 58, 59, 60, 61, 62, 63, 64, 65, 66, 67, 68, 69, 70, 71, 72, 73, 74, 75, 76, 77, 78, 79, 80, 81, 82, 83, 84, 85, 86, 87, 88, 89, 90, 91, 92, 93, 94, 95, 96, 97, 98, 99, 100, 101, 102, 103, 104, 105, 106, 107, 108, 109, 110, 111, 112, 113, 114, 115, 116, 117, 118, 119, 120, 121, 122, 123, 124, 125, 126, 127, 128, 129, 130, 131, 132, 133, 134, 135, 136, 137, 138, 139, 140, 141, 142, 143, 144, 145, 146, 147, 148, 149, 150, 151, 152, 153, 154, 155, 156, 157, 158, 159, 160, 161, 162, 163, 164, 165, 166, 167, 168] (by decide +kernel) (by decide +kernel)) (goodIn_sub (fun _ h => List.mem_cons_of_mem _ (List.mem_append_left _ (List.mem_append_right _ h))) (by decide +kernel))) (goodIn_sub (fun _ h => List.mem_cons_of_mem _ (List.mem_append_right _ h)) (by decide +kernel))
set_option maxRecDepth 20000 in
theorem gL_tick_X7_tick : GoodIn wsL_tick (wsV RL 104 RX7 yX7_tick wsX7_tick) := goodIn_app (goodIn_of _ (by decide +kernel)) ggL_tick_X7_tick
theorem dL_tick_0 : decode cL_tick 0 = .ok (.aload_n 2, 1) := by decide +kernel
theorem dL_tick_1 : decode cL_tick 1 = .ok (.iconst 0, 1) := by decide +kernel
theorem dL_tick_2 : decode cL_tick 2 = .ok (.aload_n 0, 1) := by decide +kernel
theorem dL_tick_3 : decode cL_tick 3 = .ok (.iload_n 1, 1) := by decide +kernel
theorem dL_tick_4 : decode cL_tick 4 = .ok (.invokevirtual 104, 3) := by decide +kernel
theorem dL_tick_7 : decode cL_tick 7 = .ok (.i2l, 1) := by decide +kernel
theorem dL_tick_8 : decode cL_tick 8 = .ok (.lastore, 1) := by decide +kernel
theorem dL_tick_9 : decode cL_tick 9 = .ok (.goto 9, 3) := by decide +kernel
theorem dL_tick_12 : decode cL_tick 12 = .ok (.astore_n 3, 1) := by decide +kernel
theorem dL_tick_13 : decode cL_tick 13 = .ok (.iconst 1, 1) := by decide +kernel
theorem dL_tick_14 : decode cL_tick 14 = .ok (.ireturn, 1) := by decide +kernel
theorem dL_tick_15 : decode cL_tick 15 = .ok (.astore_n 3, 1) := by decide +kernel
theorem dL_tick_16 : decode cL_tick 16 = .ok (.iconst 2, 1) := by decide +kernel
theorem dL_tick_17 : decode cL_tick 17 = .ok (.ireturn, 1) := by decide +kernel
theorem dL_tick_18 : decode cL_tick 18 = .ok (.iconst 0, 1) := by decide +kernel
theorem dL_tick_19 : decode cL_tick 19 = .ok (.ireturn, 1) := by decide +kernel
set_option maxRecDepth 20000 in
theorem ggL_share_X7_share : GoodIn wsL_share wsX7_share := goodIn_ca (goodIn_ca (goodIn_r _ [7, 8, 9, 10, 11, 12, 13, 6, 14, 15, 16, 17, 18, 19, 20, 21, 22, 23, 24, 25, 26, 27, 28, 29, 30, 31, 32, 33, 34, 35, 36, 37, 38, 39, 40, 41, 42, 43, 44, 45, 46, 47, 48, 49, 50, 51, 52, 53, 54, 55, 56, 57, 58, 59, 60, 61, 62, 63, 64, 65, 66, 67, 68, 69, 70, 71, 72, 73, 74, 75, 76, 77, 78, 79] (by decide +kernel) (by decide +kernel)) (goodIn_sub (fun _ h => List.mem_cons_of_mem _ (List.mem_append_left _ (List.mem_append_right _ h))) (by decide +kernel))) (goodIn_sub (fun _ h => List.mem_cons_of_mem _ (List.mem_append_right _ h)) (by decide +kernel))
set_option maxRecDepth 20000 in
theorem gL_share_X7_share : GoodIn wsL_share (wsV RL 107 RX7 yX7_share wsX7_share) := goodIn_app (goodIn_of _ (by decide +kernel)) ggL_share_X7_share
theorem dL_share_0 : decode cL_share 0 = .ok (.aload_n 3, 1) := by decide +kernel
theorem dL_share_1 : decode cL_share 1 = .ok (.iconst 0, 1) := by decide +kernel
theorem dL_share_2 : decode cL_share 2 = .ok (.aload_n 0, 1) := by decide +kernel
theorem dL_share_3 : decode cL_share 3 = .ok (.iload_n 1, 1) := by decide +kernel
theorem dL_share_4 : decode cL_share 4 = .ok (.iload_n 2, 1) := by decide +kernel
theorem dL_share_5 : decode cL_share 5 = .ok (.invokevirtual 107, 3) := by decide +kernel
theorem dL_share_8 : decode cL_share 8 = .ok (.f2d, 1) := by decide +kernel
theorem dL_share_9 : decode cL_share 9 = .ok (.dastore, 1) := by decide +kernel
theorem dL_share_10 : decode cL_share 10 = .ok (.goto 11, 3) := by decide +kernel
theorem dL_share_13 : decode cL_share 13 = .ok (.astore 4, 2) := by decide +kernel
theorem dL_share_15 : decode cL_share 15 = .ok (.iconst 1, 1) := by decide +kernel
theorem dL_share_16 : decode cL_share 16 = .ok (.ireturn, 1) := by decide +kernel
theorem dL_share_17 : decode cL_share 17 = .ok (.astore 4, 2) := by decide +kernel
theorem dL_share_19 : decode cL_share 19 = .ok (.iconst 2, 1) := by decide +kernel
theorem dL_share_20 : decode cL_share 20 = .ok (.ireturn, 1) := by decide +kernel
theorem dL_share_21 : decode cL_share 21 = .ok (.iconst 0, 1) := by decide +kernel
theorem dL_share_22 : decode cL_share 22 = .ok (.ireturn, 1) := by decide +kernel
set_option maxRecDepth 20000 in
theorem ggL_gift_X7_gift : GoodIn wsL_gift wsX7_gift := goodIn_ca (goodIn_ca (goodIn_r _ [7, 8, 9, 10, 11, 12, 13, 14, 15, 16, 17, 6, 18, 19, 20, 21, 22, 23, 24, 25, 26, 27, 28, 29, 30, 31, 32, 33, 34, 35, 36, 37, 38, 39, 40, 41, 42, 43, 44, 45, 46, 47, 48, 49, 50, 51, 52, 53, 54, 55, 56, 57, 58, 59, 60, 61, 62, 63, 64, 65, 66, 67, 68, 69, 70, 71, 72, 73, 74, 75, 76, 77, 78, 79, 80, 81, 82, 83, 84, 85, 86, 87, 88, 89, 90, 91, 92, 93, 94, 95, 96, 97, 98, 99, 100, 101, 102, 103, 104, 105, 106, 107, 108, 109, 110, 111, 112, 113, 114, 115, 116, 117, 118, 119, 120, 121, 122, 123, 124, 125, 126, 127, 128, 129, 130, 131, 132, 133, 134, 135, 136, 137, 138, 139, 140, 141, 142, 143, 144, 145, 146, 147, 148, 149, 150, 151, 152, 153, 154, 155, 156, 157, 158, 159, 160, 161, 162, 163, 164, 165, 166, 167, 168, 169] (by decide +kernel) (by decide +kernel)) (goodIn_sub (fun _ h => List.mem_cons_of_mem _ (List.mem_append_left _ (List.mem_append_right _ h))) (by decide +kernel))) (goodIn_sub (fun _ h => List.mem_cons_of_mem _ (List.mem_append_right _ h)) (by decide +kernel))
set_option maxRecDepth 20000 in
theorem gL_gift_X7_gift : GoodIn wsL_gift (wsV RL 111 RX7 yX7_gift wsX7_gift) := goodIn_app (goodIn_of _ (by decide +kernel)) ggL_gift_X7_gift
theorem dL_gift_0 : decode cL_gift 0 = .ok (.aload 5, 2) := by decide +kernel
theorem dL_gift_2 : decode cL_gift 2 = .ok (.iconst 0, 1) := by decide +kernel
theorem dL_gift_3 : decode cL_gift 3 = .ok (.aload_n 0, 1) := by decide +kernel
theorem dL_gift_4 : decode cL_gift 4 = .ok (.iload_n 1, 1) := by decide +kernel
theorem dL_gift_5 : decode cL_gift 5 = .ok (.iload_n 2, 1) := by decide +kernel
theorem dL_gift_6 : decode cL_gift 6 = .ok (.iload_n 3, 1) := by decide +kernel
theorem dL_gift_7 : decode cL_gift 7 = .ok (.iload 4, 2) := by decide +kernel
theorem dL_gift_9 : decode cL_gift 9 = .ok (.invokevirtual 111, 3) := by decide +kernel
theorem dL_gift_12 : decode cL_gift 12 = .ok (.i2l, 1) := by decide +kernel
theorem dL_gift_13 : decode cL_gift 13 = .ok (.lastore, 1) := by decide +kernel
theorem dL_gift_14 : decode cL_gift 14 = .ok (.goto 11, 3) := by decide +kernel
theorem dL_gift_17 : decode cL_gift 17 = .ok (.astore 6, 2) := by decide +kernel
theorem dL_gift_19 : decode cL_gift 19 = .ok (.iconst 1, 1) := by decide +kernel
theorem dL_gift_20 : decode cL_gift 20 = .ok (.ireturn, 1) := by decide +kernel
theorem dL_gift_21 : decode cL_gift 21 = .ok (.astore 6, 2) := by decide +kernel
theorem dL_gift_23 : decode cL_gift 23 = .ok (.iconst 2, 1) := by decide +kernel
theorem dL_gift_24 : decode cL_gift 24 = .ok (.ireturn, 1) := by decide +kernel
theorem dL_gift_25 : decode cL_gift 25 = .ok (.iconst 0, 1) := by decide +kernel
theorem dL_gift_26 : decode cL_gift 26 = .ok (.ireturn, 1) := by decide +kernel
set_option maxRecDepth 20000 in
theorem ggL_giftOf_X7_giftOf : GoodIn wsL_giftOf wsX7_giftOf := goodIn_ca (goodIn_ca (goodIn_r _ [7, 8, 9, 10, 11, 12, 13, 14, 6, 15, 16, 17, 18, 19, 20, 21, 22, 23, 24, 25, 26, 27, 28, 29, 30, 31, 32, 33, 34, 35, 36, 37, 38, 39, 40, 41, 42, 43, 44, 45, 46, 47, 48, 49, 50, 51, 52, 53, 54, 55, 56, 57, 58, 59, 60, 61, 62] (by decide +kernel) (by decide +kernel)) (goodIn_sub (fun _ h => List.mem_cons_of_mem _ (List.mem_append_left _ (List.mem_append_right _ h))) (by decide +kernel))) (goodIn_sub (fun _ h => List.mem_cons_of_mem _ (List.mem_append_right _ h)) (by decide +kernel))
set_option maxRecDepth 20000 in
theorem gL_giftOf_X7_giftOf : GoodIn wsL_giftOf (wsV RL 114 RX7 yX7_giftOf wsX7_giftOf) := goodIn_app (goodIn_of _ (by decide +kernel)) ggL_giftOf_X7_giftOf
theorem dL_giftOf_0 : decode cL_giftOf 0 = .ok (.aload_n 3, 1) := by decide +kernel
theorem dL_giftOf_1 : decode cL_giftOf 1 = .ok (.iconst 0, 1) := by decide +kernel
theorem dL_giftOf_2 : decode cL_giftOf 2 = .ok (.aload_n 0, 1) := by decide +kernel
theorem dL_giftOf_3 : decode cL_giftOf 3 = .ok (.iload_n 1, 1) := by decide +kernel
theorem dL_giftOf_4 : decode cL_giftOf 4 = .ok (.iload_n 2, 1) := by decide +kernel
theorem dL_giftOf_5 : decode cL_giftOf 5 = .ok (.invokevirtual 114, 3) := by decide +kernel
theorem dL_giftOf_8 : decode cL_giftOf 8 = .ok (.i2l, 1) := by decide +kernel
theorem dL_giftOf_9 : decode cL_giftOf 9 = .ok (.lastore, 1) := by decide +kernel
theorem dL_giftOf_10 : decode cL_giftOf 10 = .ok (.goto 11, 3) := by decide +kernel
theorem dL_giftOf_13 : decode cL_giftOf 13 = .ok (.astore 4, 2) := by decide +kernel
theorem dL_giftOf_15 : decode cL_giftOf 15 = .ok (.iconst 1, 1) := by decide +kernel
theorem dL_giftOf_16 : decode cL_giftOf 16 = .ok (.ireturn, 1) := by decide +kernel
theorem dL_giftOf_17 : decode cL_giftOf 17 = .ok (.astore 4, 2) := by decide +kernel
theorem dL_giftOf_19 : decode cL_giftOf 19 = .ok (.iconst 2, 1) := by decide +kernel
theorem dL_giftOf_20 : decode cL_giftOf 20 = .ok (.ireturn, 1) := by decide +kernel
theorem dL_giftOf_21 : decode cL_giftOf 21 = .ok (.iconst 0, 1) := by decide +kernel
theorem dL_giftOf_22 : decode cL_giftOf 22 = .ok (.ireturn, 1) := by decide +kernel
set_option maxRecDepth 20000 in
theorem ggL_endGift_X7_endGift : GoodIn wsL_endGift wsX7_endGift := goodIn_ca (goodIn_r _ [6, 7, 8, 9, 10, 11, 12, 5, 13, 14, 15, 16, 17, 18, 19, 20, 21, 22, 23, 24, 25, 26, 27, 28, 29, 30, 31, 32, 33, 34, 35, 36, 37, 38, 39, 40, 41, 42, 43, 44, 45, 46, 47, 48, 49, 50, 51, 52, 53, 54, 55, 56, 57, 58, 59, 60, 61, 62, 63, 64, 65, 66, 67, 68, 69, 70, 71, 72, 73, 74, 75, 76, 77, 78, 79, 80, 81, 82, 83, 84, 85, 86, 87, 88, 89, 90, 91, 92, 93, 94, 95, 96, 97, 98, 99, 100, 101, 102, 103, 104, 105, 106, 107, 108, 109, 110, 111, 112, 113, 114, 115, 116, 117, 118, 119, 120, 121, 122, 123, 124, 125, 126, 127, 128, 129, 130, 131, 132, 133, 134, 135, 136, 137, 138, 139, 140, 141, 142, 143, 144, 145, 146, 147, 148, 149, 150, 151, 152, 153, 154, 155, 156, 157, 158, 159] (by decide +kernel) (by decide +kernel)) (goodIn_sub (fun _ h => List.mem_cons_of_mem _ (List.mem_append_right _ h)) (by decide +kernel))
set_option maxRecDepth 20000 in
theorem gL_endGift_X7_endGift : GoodIn wsL_endGift (wsV RL 117 RX7 yX7_endGift wsX7_endGift) := goodIn_app (goodIn_of _ (by decide +kernel)) ggL_endGift_X7_endGift
theorem dL_endGift_0 : decode cL_endGift 0 = .ok (.aload_n 2, 1) := by decide +kernel
theorem dL_endGift_1 : decode cL_endGift 1 = .ok (.iconst 0, 1) := by decide +kernel
theorem dL_endGift_2 : decode cL_endGift 2 = .ok (.aload_n 0, 1) := by decide +kernel
theorem dL_endGift_3 : decode cL_endGift 3 = .ok (.iload_n 1, 1) := by decide +kernel
theorem dL_endGift_4 : decode cL_endGift 4 = .ok (.invokevirtual 117, 3) := by decide +kernel
theorem dL_endGift_7 : decode cL_endGift 7 = .ok (.i2l, 1) := by decide +kernel
theorem dL_endGift_8 : decode cL_endGift 8 = .ok (.lastore, 1) := by decide +kernel
theorem dL_endGift_9 : decode cL_endGift 9 = .ok (.goto 6, 3) := by decide +kernel
theorem dL_endGift_12 : decode cL_endGift 12 = .ok (.astore_n 3, 1) := by decide +kernel
theorem dL_endGift_13 : decode cL_endGift 13 = .ok (.iconst 1, 1) := by decide +kernel
theorem dL_endGift_14 : decode cL_endGift 14 = .ok (.ireturn, 1) := by decide +kernel
theorem dL_endGift_15 : decode cL_endGift 15 = .ok (.iconst 0, 1) := by decide +kernel
theorem dL_endGift_16 : decode cL_endGift 16 = .ok (.ireturn, 1) := by decide +kernel
set_option maxRecDepth 20000 in
theorem ggL_adjust_X7_adjust : GoodIn wsL_adjust wsX7_adjust := goodIn_ca (goodIn_ca (goodIn_r _ [7, 8, 9, 10, 11, 12, 13, 14, 6, 15, 16, 17, 18, 19, 20, 21, 22, 23, 24, 25, 26, 27, 28, 29, 30, 31, 32, 33, 34, 35, 36, 37, 38, 39, 40, 41, 42, 43, 44, 45, 46, 47, 48, 49, 50, 51, 52, 53, 54, 55, 56, 57, 58, 59, 60, 61, 62, 63, 64, 65, 66, 67, 68, 69, 70, 71, 72, 73, 74, 75, 76, 77, 78, 79, 80, 81, 82, 83, 84, 85, 86, 87, 88, 89, 90, 91, 92, 93, 94, 95, 96, 97, 98, 99, 100, 101, 102, 103, 104, 105, 106, 107, 108, 109, 110, 111, 112, 113, 114, 115, 116, 117, 118, 119, 120, 121, 122, 123, 124, 125, 126, 127, 128, 129, 130, 131, 132, 133, 134, 135, 136, 137, 138, 139, 140, 141, 142, 143, 144, 145, 146, 147, 148, 149, 150, 151, 152, 153, 154, 155, 156, 157, 158, 159, 160, 161, 162, 163, 164] (by decide +kernel) (by decide +kernel)) (goodIn_sub (fun _ h => List.mem_cons_of_mem _ (List.mem_append_left _ (List.mem_append_right _ h))) (by decide +kernel))) (goodIn_sub (fun _ h => List.mem_cons_of_mem _ (List.mem_append_right _ h)) (by decide +kernel))
set_option maxRecDepth 20000 in
theorem gL_adjust_X7_adjust : GoodIn wsL_adjust (wsV RL 120 RX7 yX7_adjust wsX7_adjust) := goodIn_app (goodIn_of _ (by decide +kernel)) ggL_adjust_X7_adjust
theorem dL_adjust_0 : decode cL_adjust 0 = .ok (.aload 4, 2) := by decide +kernel
theorem dL_adjust_2 : decode cL_adjust 2 = .ok (.iconst 0, 1) := by decide +kernel
theorem dL_adjust_3 : decode cL_adjust 3 = .ok (.aload_n 0, 1) := by decide +kernel
theorem dL_adjust_4 : decode cL_adjust 4 = .ok (.iload_n 1, 1) := by decide +kernel
theorem dL_adjust_5 : decode cL_adjust 5 = .ok (.iload_n 2, 1) := by decide +kernel
theorem dL_adjust_6 : decode cL_adjust 6 = .ok (.iload_n 3, 1) := by decide +kernel
theorem dL_adjust_7 : decode cL_adjust 7 = .ok (.invokevirtual 120, 3) := by decide +kernel
theorem dL_adjust_10 : decode cL_adjust 10 = .ok (.i2l, 1) := by decide +kernel
theorem dL_adjust_11 : decode cL_adjust 11 = .ok (.lastore, 1) := by decide +kernel
theorem dL_adjust_12 : decode cL_adjust 12 = .ok (.goto 11, 3) := by decide +kernel
theorem dL_adjust_15 : decode cL_adjust 15 = .ok (.astore 5, 2) := by decide +kernel
theorem dL_adjust_17 : decode cL_adjust 17 = .ok (.iconst 1, 1) := by decide +kernel
theorem dL_adjust_18 : decode cL_adjust 18 = .ok (.ireturn, 1) := by decide +kernel
theorem dL_adjust_19 : decode cL_adjust 19 = .ok (.astore 5, 2) := by decide +kernel
theorem dL_adjust_21 : decode cL_adjust 21 = .ok (.iconst 2, 1) := by decide +kernel
theorem dL_adjust_22 : decode cL_adjust 22 = .ok (.ireturn, 1) := by decide +kernel
theorem dL_adjust_23 : decode cL_adjust 23 = .ok (.iconst 0, 1) := by decide +kernel
theorem dL_adjust_24 : decode cL_adjust 24 = .ok (.ireturn, 1) := by decide +kernel
set_option maxRecDepth 20000 in
theorem ggL_writePath_X7_writePath : GoodIn wsL_writePath wsX7_writePath := goodIn_ca (goodIn_r _ [6, 7, 8, 9, 10, 11, 12, 13, 5, 14, 15, 16, 17, 18, 19, 20, 21, 22, 23, 24, 25, 26, 27, 28, 29, 30, 31, 32, 33, 34, 35, 36, 37, 38, 39, 40, 41, 42, 43, 44, 45, 46, 47, 48, 49, 50, 51, 52, 53, 54, 55, 56, 57, 58, 59, 60, 61, 62, 63, 64, 65, 66, 67, 68, 69, 70, 71, 72, 73] (by decide +kernel) (by decide +kernel)) (goodIn_sub (fun _ h => List.mem_cons_of_mem _ (List.mem_append_right _ h)) (by decide +kernel))
set_option maxRecDepth 20000 in
theorem gL_writePath_X7_writePath : GoodIn wsL_writePath (wsV RL 124 RX7 yX7_writePath wsX7_writePath) := goodIn_app (goodIn_of _ (by decide +kernel)) ggL_writePath_X7_writePath
theorem dL_writePath_0 : decode cL_writePath 0 = .ok (.aload_n 2, 1) := by decide +kernel
theorem dL_writePath_1 : decode cL_writePath 1 = .ok (.iconst 0, 1) := by decide +kernel
theorem dL_writePath_2 : decode cL_writePath 2 = .ok (.aload_n 0, 1) := by decide +kernel
theorem dL_writePath_3 : decode cL_writePath 3 = .ok (.iload_n 1, 1) := by decide +kernel
theorem dL_writePath_4 : decode cL_writePath 4 = .ok (.invokevirtual 124, 3) := by decide +kernel
theorem dL_writePath_7 : decode cL_writePath 7 = .ok (.i2l, 1) := by decide +kernel
theorem dL_writePath_8 : decode cL_writePath 8 = .ok (.lastore, 1) := by decide +kernel
theorem dL_writePath_9 : decode cL_writePath 9 = .ok (.goto 6, 3) := by decide +kernel
theorem dL_writePath_12 : decode cL_writePath 12 = .ok (.astore_n 3, 1) := by decide +kernel
theorem dL_writePath_13 : decode cL_writePath 13 = .ok (.iconst 1, 1) := by decide +kernel
theorem dL_writePath_14 : decode cL_writePath 14 = .ok (.ireturn, 1) := by decide +kernel
theorem dL_writePath_15 : decode cL_writePath 15 = .ok (.iconst 0, 1) := by decide +kernel
theorem dL_writePath_16 : decode cL_writePath 16 = .ok (.ireturn, 1) := by decide +kernel
set_option maxRecDepth 20000 in
theorem ggL_writeAccounts_X7_writeAccounts : GoodIn wsL_writeAccounts wsX7_writeAccounts := goodIn_ca (goodIn_r _ [6, 7, 8, 9, 10, 5, 11, 12, 13, 14, 15, 16, 17, 18, 19, 20, 21, 22, 23, 24, 25, 26, 27, 28, 29, 30, 31, 32, 33, 34, 35, 36, 37, 38, 39, 40, 41, 42, 43, 44, 45, 46, 47, 48, 49, 50, 51, 52, 53, 54, 55, 56, 57, 58, 59, 60, 61, 62, 63, 64, 65, 66, 67, 68, 69, 70, 71, 72, 73, 74, 75, 76, 77, 78, 79, 80, 81, 82, 83, 84, 85, 86, 87, 88, 89, 90, 91, 92, 93, 94, 95, 96, 97, 98, 99, 100, 101, 102, 103, 104, 105, 106, 107, 108, 109, 110, 111, 112, 113, 114, 115, 116, 117, 118, 119, 120, 121, 122, 123, 124] (by decide +kernel) (by decide +kernel)) (goodIn_sub (fun _ h => List.mem_cons_of_mem _ (List.mem_append_right _ h)) (by decide +kernel))
set_option maxRecDepth 20000 in
theorem gL_writeAccounts_X7_writeAccounts : GoodIn wsL_writeAccounts (wsV RL 127 RX7 yX7_writeAccounts wsX7_writeAccounts) := goodIn_app (goodIn_of _ (by decide +kernel)) ggL_writeAccounts_X7_writeAccounts
theorem dL_writeAccounts_0 : decode cL_writeAccounts 0 = .ok (.aload_n 2, 1) := by decide +kernel
theorem dL_writeAccounts_1 : decode cL_writeAccounts 1 = .ok (.iconst 0, 1) := by decide +kernel
theorem dL_writeAccounts_2 : decode cL_writeAccounts 2 = .ok (.aload_n 0, 1) := by decide +kernel
theorem dL_writeAccounts_3 : decode cL_writeAccounts 3 = .ok (.iload_n 1, 1) := by decide +kernel
theorem dL_writeAccounts_4 : decode cL_writeAccounts 4 = .ok (.invokevirtual 127, 3) := by decide +kernel
theorem dL_writeAccounts_7 : decode cL_writeAccounts 7 = .ok (.i2l, 1) := by decide +kernel
theorem dL_writeAccounts_8 : decode cL_writeAccounts 8 = .ok (.lastore, 1) := by decide +kernel
theorem dL_writeAccounts_9 : decode cL_writeAccounts 9 = .ok (.goto 6, 3) := by decide +kernel
theorem dL_writeAccounts_12 : decode cL_writeAccounts 12 = .ok (.astore_n 3, 1) := by decide +kernel
theorem dL_writeAccounts_13 : decode cL_writeAccounts 13 = .ok (.iconst 1, 1) := by decide +kernel
theorem dL_writeAccounts_14 : decode cL_writeAccounts 14 = .ok (.ireturn, 1) := by decide +kernel
theorem dL_writeAccounts_15 : decode cL_writeAccounts 15 = .ok (.iconst 0, 1) := by decide +kernel
theorem dL_writeAccounts_16 : decode cL_writeAccounts 16 = .ok (.ireturn, 1) := by decide +kernel
set_option maxRecDepth 20000 in
theorem ggL_writtenByte_X7_writtenByte : GoodIn wsL_writtenByte wsX7_writtenByte := goodIn_ca (goodIn_r _ [6, 7, 8, 9, 10, 11, 12, 13, 14, 15, 16, 17, 18, 19, 20, 21, 22, 23, 24, 25, 26] (by decide +kernel) (by decide +kernel)) (goodIn_sub (fun _ h => List.mem_cons_of_mem _ (List.mem_append_right _ h)) (by decide +kernel))
set_option maxRecDepth 20000 in
theorem gL_writtenByte_X7_writtenByte : GoodIn wsL_writtenByte (wsV RL 130 RX7 yX7_writtenByte wsX7_writtenByte) := goodIn_app (goodIn_of _ (by decide +kernel)) ggL_writtenByte_X7_writtenByte
theorem dL_writtenByte_0 : decode cL_writtenByte 0 = .ok (.aload_n 2, 1) := by decide +kernel
theorem dL_writtenByte_1 : decode cL_writtenByte 1 = .ok (.iconst 0, 1) := by decide +kernel
theorem dL_writtenByte_2 : decode cL_writtenByte 2 = .ok (.aload_n 0, 1) := by decide +kernel
theorem dL_writtenByte_3 : decode cL_writtenByte 3 = .ok (.iload_n 1, 1) := by decide +kernel
theorem dL_writtenByte_4 : decode cL_writtenByte 4 = .ok (.invokevirtual 130, 3) := by decide +kernel
theorem dL_writtenByte_7 : decode cL_writtenByte 7 = .ok (.i2l, 1) := by decide +kernel
theorem dL_writtenByte_8 : decode cL_writtenByte 8 = .ok (.lastore, 1) := by decide +kernel
theorem dL_writtenByte_9 : decode cL_writtenByte 9 = .ok (.goto 6, 3) := by decide +kernel
theorem dL_writtenByte_12 : decode cL_writtenByte 12 = .ok (.astore_n 3, 1) := by decide +kernel
theorem dL_writtenByte_13 : decode cL_writtenByte 13 = .ok (.iconst 1, 1) := by decide +kernel
theorem dL_writtenByte_14 : decode cL_writtenByte 14 = .ok (.ireturn, 1) := by decide +kernel
theorem dL_writtenByte_15 : decode cL_writtenByte 15 = .ok (.iconst 0, 1) := by decide +kernel
theorem dL_writtenByte_16 : decode cL_writtenByte 16 = .ok (.ireturn, 1) := by decide +kernel
set_option maxRecDepth 20000 in
theorem ggL_undo_X7_undo : GoodIn wsL_undo wsX7_undo := goodIn_ca (goodIn_r _ [6, 7, 8, 9, 10, 11, 12, 13, 14, 15, 16, 17, 18, 19, 20, 21, 22, 23, 24, 25, 26, 27, 28, 29, 30, 31, 32, 33, 34, 35, 36, 37, 38, 39, 40, 41, 42, 43, 44, 45, 46, 47, 48, 49, 50, 51, 52, 53, 54, 55, 56, 57, 58, 59, 60, 61, 62, 63, 64, 65, 66, 67, 68, 69, 70, 71, 72, 73, 74, 75, 76, 77, 78, 79, 80, 81, 82, 83, 84, 85, 86, 87, 88, 89, 90, 91, 92, 93, 94, 95, 96, 97, 98, 99] (by decide +kernel) (by decide +kernel)) (goodIn_sub (fun _ h => List.mem_cons_of_mem _ (List.mem_append_right _ h)) (by decide +kernel))
set_option maxRecDepth 20000 in
theorem gL_undo_X7_undo : GoodIn wsL_undo (wsV RL 133 RX7 yX7_undo wsX7_undo) := goodIn_app (goodIn_of _ (by decide +kernel)) ggL_undo_X7_undo
theorem dL_undo_0 : decode cL_undo 0 = .ok (.aload_n 1, 1) := by decide +kernel
theorem dL_undo_1 : decode cL_undo 1 = .ok (.iconst 0, 1) := by decide +kernel
theorem dL_undo_2 : decode cL_undo 2 = .ok (.aload_n 0, 1) := by decide +kernel
theorem dL_undo_3 : decode cL_undo 3 = .ok (.invokevirtual 133, 3) := by decide +kernel
theorem dL_undo_6 : decode cL_undo 6 = .ok (.i2l, 1) := by decide +kernel
theorem dL_undo_7 : decode cL_undo 7 = .ok (.lastore, 1) := by decide +kernel
theorem dL_undo_8 : decode cL_undo 8 = .ok (.goto 6, 3) := by decide +kernel
theorem dL_undo_11 : decode cL_undo 11 = .ok (.astore_n 2, 1) := by decide +kernel
theorem dL_undo_12 : decode cL_undo 12 = .ok (.iconst 1, 1) := by decide +kernel
theorem dL_undo_13 : decode cL_undo 13 = .ok (.ireturn, 1) := by decide +kernel
theorem dL_undo_14 : decode cL_undo 14 = .ok (.iconst 0, 1) := by decide +kernel
theorem dL_undo_15 : decode cL_undo 15 = .ok (.ireturn, 1) := by decide +kernel
