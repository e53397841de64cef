set_option maxRecDepth 20000 in
theorem ggX7_walked_X7_needFolder : GoodIn wsX7_walked wsX7_needFolder := goodIn_ca (goodIn_r _ [7, 8, 9, 1, 2, 10, 11, 12, 13, 14, 15, 30, 31, 32, 33, 34, 35, 36, 37, 38, 39, 40, 41, 42, 43, 44, 45, 46] (by decide +kernel) (by decide +kernel)) (goodIn_sub (fun _ h => List.mem_cons_of_mem _ (List.mem_append_right _ h)) (by decide +kernel))
set_option maxRecDepth 20000 in
theorem gX7_walked_X7_needFolder : GoodIn wsX7_walked (wsV RX7 132 RX7 yX7_needFolder wsX7_needFolder) := goodIn_app (goodIn_of _ (by decide +kernel)) ggX7_walked_X7_needFolder
set_option maxRecDepth 20000 in
theorem ggX7_walked_X3_nextInWalk : GoodIn wsX7_walked wsX3_nextInWalk := goodIn_r _ [19, 20, 21, 22, 13, 23, 15, 24, 25, 26, 27, 28, 29, 11, 12, 14, 43, 44, 45, 46] (by decide +kernel) (by decide +kernel)
set_option maxRecDepth 20000 in
theorem gX7_walked_X3_nextInWalk : GoodIn wsX7_walked (wsV RX7 162 RX3 yX3_nextInWalk wsX3_nextInWalk) := goodIn_app (goodIn_of _ (by decide +kernel)) ggX7_walked_X3_nextInWalk
theorem dX7_walked_0 : decode cX7_walked 0 = .ok (.aload_n 0, 1) := by decide +kernel
theorem dX7_walked_1 : decode cX7_walked 1 = .ok (.iload_n 1, 1) := by decide +kernel
theorem dX7_walked_2 : decode cX7_walked 2 = .ok (.invokevirtual 132, 3) := by decide +kernel
theorem dX7_walked_5 : decode cX7_walked 5 = .ok (.iconst 0, 1) := by decide +kernel
theorem dX7_walked_6 : decode cX7_walked 6 = .ok (.istore_n 2, 1) := by decide +kernel
theorem dX7_walked_7 : decode cX7_walked 7 = .ok (.iconst 0, 1) := by decide +kernel
theorem dX7_walked_8 : decode cX7_walked 8 = .ok (.istore_n 3, 1) := by decide +kernel
theorem dX7_walked_9 : decode cX7_walked 9 = .ok (.iload_n 3, 1) := by decide +kernel
theorem dX7_walked_10 : decode cX7_walked 10 = .ok (.iload_n 1, 1) := by decide +kernel
theorem dX7_walked_11 : decode cX7_walked 11 = .ok (.if_icmp .ge 21, 3) := by decide +kernel
theorem dX7_walked_14 : decode cX7_walked 14 = .ok (.aload_n 0, 1) := by decide +kernel
theorem dX7_walked_15 : decode cX7_walked 15 = .ok (.getfield 12, 3) := by decide +kernel
theorem dX7_walked_18 : decode cX7_walked 18 = .ok (.getfield 93, 3) := by decide +kernel
theorem dX7_walked_21 : decode cX7_walked 21 = .ok (.iload_n 2, 1) := by decide +kernel
theorem dX7_walked_22 : decode cX7_walked 22 = .ok (.invokevirtual 162, 3) := by decide +kernel
theorem dX7_walked_25 : decode cX7_walked 25 = .ok (.istore_n 2, 1) := by decide +kernel
theorem dX7_walked_26 : decode cX7_walked 26 = .ok (.iinc 3 1, 3) := by decide +kernel
theorem dX7_walked_29 : decode cX7_walked 29 = .ok (.goto (-20), 3) := by decide +kernel
theorem dX7_walked_32 : decode cX7_walked 32 = .ok (.iload_n 2, 1) := by decide +kernel
theorem dX7_walked_33 : decode cX7_walked 33 = .ok (.ireturn, 1) := by decide +kernel
set_option maxRecDepth 20000 in
theorem ggX7_tagReason_X7_needFolder : GoodIn wsX7_tagReason wsX7_needFolder := goodIn_ca (goodIn_r _ [7, 8, 9, 1, 2, 10, 11, 12, 13, 14, 15, 133, 134, 135, 136, 137, 138, 139, 140, 141, 142, 143, 144, 145, 146, 147, 148, 149] (by decide +kernel) (by decide +kernel)) (goodIn_sub (fun _ h => List.mem_cons_of_mem _ (List.mem_append_left _ (List.mem_append_right _ h))) (by decide +kernel))
set_option maxRecDepth 20000 in
theorem gX7_tagReason_X7_needFolder : GoodIn wsX7_tagReason (wsV RX7 132 RX7 yX7_needFolder wsX7_needFolder) := goodIn_app (goodIn_of _ (by decide +kernel)) ggX7_tagReason_X7_needFolder
set_option maxRecDepth 20000 in
theorem ggX7_tagReason_X7_needRange : GoodIn wsX7_tagReason wsX7_needRange := goodIn_ca (goodIn_r _ [18, 19, 20] (by decide +kernel) (by decide +kernel)) (goodIn_sub (fun _ h => List.mem_cons_of_mem _ (List.mem_append_right _ h)) (by decide +kernel))
set_option maxRecDepth 20000 in
theorem gX7_tagReason_X7_needRange : GoodIn wsX7_tagReason (va_wsS RX7 54 yX7_needRange wsX7_needRange) := goodIn_app (goodIn_of _ (by decide +kernel)) ggX7_tagReason_X7_needRange
set_option maxRecDepth 20000 in
theorem ggX7_tagReason_X3_projectIfTagged : GoodIn wsX7_tagReason wsX3_projectIfTagged := goodIn_r _ [24, 25, 26, 27, 13, 28, 29, 30, 11, 12, 14, 15, 31, 32, 33, 34, 35, 36, 37, 38, 39, 146, 147, 148, 149] (by decide +kernel) (by decide +kernel)
set_option maxRecDepth 20000 in
theorem gX7_tagReason_X3_projectIfTagged : GoodIn wsX7_tagReason (wsV RX7 197 RX3 yX3_projectIfTagged wsX3_projectIfTagged) := goodIn_app (goodIn_of _ (by decide +kernel)) ggX7_tagReason_X3_projectIfTagged
set_option maxRecDepth 20000 in
theorem ggX7_tagReason_X6_openReason : GoodIn wsX7_tagReason wsX6_openReason := goodIn_r _ [44, 45, 46, 32, 33, 13, 34, 35, 36, 37, 38, 39, 30, 11, 12, 14, 15, 25, 26, 27, 28, 29, 47, 48, 49, 43, 50, 51, 52, 53, 54, 55, 56, 57, 58, 59, 60, 61, 62, 63, 64, 65, 66, 67, 68, 69, 70, 71, 72, 73, 74, 75, 76, 77, 78, 79, 80, 81, 82, 83, 84, 85, 86, 87, 88, 89, 90, 91, 92, 93, 94, 95, 6, 96, 97, 98, 99, 100, 101, 102, 103, 104, 105, 106, 107, 108, 109, 110, 111, 112, 113, 114, 115, 116, 117, 118, 119, 120, 121, 122, 123, 124, 125, 126, 127, 128, 129, 130, 131, 132, 140, 141, 142, 143, 144, 145, 146, 147, 148, 149, 150, 151, 152, 153, 154, 155, 156, 157, 158, 159, 160, 161] (by decide +kernel) (by decide +kernel)
set_option maxRecDepth 20000 in
theorem gX7_tagReason_X6_openReason : GoodIn wsX7_tagReason (wsV RX7 200 RX6 yX6_openReason wsX6_openReason) := goodIn_app (goodIn_of _ (by decide +kernel)) ggX7_tagReason_X6_openReason
theorem dX7_tagReason_0 : decode cX7_tagReason 0 = .ok (.aload_n 0, 1) := by decide +kernel
theorem dX7_tagReason_1 : decode cX7_tagReason 1 = .ok (.iload_n 1, 1) := by decide +kernel
theorem dX7_tagReason_2 : decode cX7_tagReason 2 = .ok (.invokevirtual 132, 3) := by decide +kernel
theorem dX7_tagReason_5 : decode cX7_tagReason 5 = .ok (.iload_n 2, 1) := by decide +kernel
theorem dX7_tagReason_6 : decode cX7_tagReason 6 = .ok (.iconst (-1), 1) := by decide +kernel
theorem dX7_tagReason_7 : decode cX7_tagReason 7 = .ok (.bipush 7, 2) := by decide +kernel
theorem dX7_tagReason_9 : decode cX7_tagReason 9 = .ok (.invokestatic 54, 3) := by decide +kernel
theorem dX7_tagReason_12 : decode cX7_tagReason 12 = .ok (.aload_n 0, 1) := by decide +kernel
theorem dX7_tagReason_13 : decode cX7_tagReason 13 = .ok (.getfield 12, 3) := by decide +kernel
theorem dX7_tagReason_16 : decode cX7_tagReason 16 = .ok (.iload_n 1, 1) := by decide +kernel
theorem dX7_tagReason_17 : decode cX7_tagReason 17 = .ok (.aload_n 0, 1) := by decide +kernel
theorem dX7_tagReason_18 : decode cX7_tagReason 18 = .ok (.getfield 12, 3) := by decide +kernel
theorem dX7_tagReason_21 : decode cX7_tagReason 21 = .ok (.getfield 93, 3) := by decide +kernel
theorem dX7_tagReason_24 : decode cX7_tagReason 24 = .ok (.iload_n 1, 1) := by decide +kernel
theorem dX7_tagReason_25 : decode cX7_tagReason 25 = .ok (.iload_n 2, 1) := by decide +kernel
theorem dX7_tagReason_26 : decode cX7_tagReason 26 = .ok (.invokevirtual 197, 3) := by decide +kernel
theorem dX7_tagReason_29 : decode cX7_tagReason 29 = .ok (.invokevirtual 200, 3) := by decide +kernel
theorem dX7_tagReason_32 : decode cX7_tagReason 32 = .ok (.ireturn, 1) := by decide +kernel
set_option maxRecDepth 20000 in
theorem ggX7_moveReason_X7_needFolder : GoodIn wsX7_moveReason wsX7_needFolder := goodIn_ca (goodIn_r _ [7, 8, 9, 1, 2, 10, 11, 12, 13, 14, 15, 132, 133, 134, 135, 136, 137, 138, 139, 140, 141, 142, 143, 144, 145, 146, 147, 148] (by decide +kernel) (by decide +kernel)) (goodIn_sub (fun _ h => List.mem_cons_of_mem _ (List.mem_append_right _ h)) (by decide +kernel))
set_option maxRecDepth 20000 in
theorem gX7_moveReason_X7_needFolder : GoodIn wsX7_moveReason (wsV RX7 132 RX7 yX7_needFolder wsX7_needFolder) := goodIn_app (goodIn_of _ (by decide +kernel)) ggX7_moveReason_X7_needFolder
set_option maxRecDepth 20000 in
theorem ggX7_moveReason_X3_isInSubtree : GoodIn wsX7_moveReason wsX3_isInSubtree := goodIn_r _ [19, 20, 21, 22, 13, 23, 24, 25, 11, 12, 14, 15, 145, 146, 147, 148] (by decide +kernel) (by decide +kernel)
set_option maxRecDepth 20000 in
theorem gX7_moveReason_X3_isInSubtree : GoodIn wsX7_moveReason (wsV RX7 216 RX3 yX3_isInSubtree wsX3_isInSubtree) := goodIn_app (goodIn_of _ (by decide +kernel)) ggX7_moveReason_X3_isInSubtree
set_option maxRecDepth 20000 in
theorem ggX7_moveReason_X3_projectIfMoved : GoodIn wsX7_moveReason wsX3_projectIfMoved := goodIn_r _ [29, 30, 31, 32, 13, 33, 34, 25, 11, 12, 14, 15, 35, 36, 37, 38, 20, 21, 22, 23, 24, 145, 146, 147, 148] (by decide +kernel) (by decide +kernel)
set_option maxRecDepth 20000 in
theorem gX7_moveReason_X3_projectIfMoved : GoodIn wsX7_moveReason (wsV RX7 220 RX3 yX3_projectIfMoved wsX3_projectIfMoved) := goodIn_app (goodIn_of _ (by decide +kernel)) ggX7_moveReason_X3_projectIfMoved
set_option maxRecDepth 20000 in
theorem ggX7_moveReason_X6_openReason : GoodIn wsX7_moveReason wsX6_openReason := goodIn_r _ [43, 44, 45, 36, 37, 13, 38, 30, 31, 32, 33, 34, 25, 11, 12, 14, 15, 20, 21, 22, 23, 24, 46, 47, 48, 42, 49, 50, 51, 52, 53, 54, 55, 56, 57, 58, 59, 60, 61, 62, 63, 64, 65, 66, 67, 68, 69, 70, 71, 72, 73, 74, 75, 76, 77, 78, 79, 80, 81, 82, 83, 84, 85, 86, 87, 88, 89, 90, 91, 92, 93, 94, 6, 95, 96, 97, 98, 99, 100, 101, 102, 103, 104, 105, 106, 107, 108, 109, 110, 111, 112, 113, 114, 115, 116, 117, 118, 119, 120, 121, 122, 123, 124, 125, 126, 127, 128, 129, 130, 131, 139, 140, 141, 142, 143, 144, 145, 146, 147, 148, 149, 150, 151, 152, 153, 154, 155, 156, 157, 158, 159, 160] (by decide +kernel) (by decide +kernel)
set_option maxRecDepth 20000 in
theorem gX7_moveReason_X6_openReason : GoodIn wsX7_moveReason (wsV RX7 200 RX6 yX6_openReason wsX6_openReason) := goodIn_app (goodIn_of _ (by decide +kernel)) ggX7_moveReason_X6_openReason
theorem dX7_moveReason_0 : decode cX7_moveReason 0 = .ok (.aload_n 0, 1) := by decide +kernel
theorem dX7_moveReason_1 : decode cX7_moveReason 1 = .ok (.iload_n 1, 1) := by decide +kernel
theorem dX7_moveReason_2 : decode cX7_moveReason 2 = .ok (.invokevirtual 132, 3) := by decide +kernel
theorem dX7_moveReason_5 : decode cX7_moveReason 5 = .ok (.aload_n 0, 1) := by decide +kernel
theorem dX7_moveReason_6 : decode cX7_moveReason 6 = .ok (.iload_n 2, 1) := by decide +kernel
theorem dX7_moveReason_7 : decode cX7_moveReason 7 = .ok (.invokevirtual 132, 3) := by decide +kernel
theorem dX7_moveReason_10 : decode cX7_moveReason 10 = .ok (.iload_n 1, 1) := by decide +kernel
theorem dX7_moveReason_11 : decode cX7_moveReason 11 = .ok (.ifCond .eq 18, 3) := by decide +kernel
theorem dX7_moveReason_14 : decode cX7_moveReason 14 = .ok (.aload_n 0, 1) := by decide +kernel
theorem dX7_moveReason_15 : decode cX7_moveReason 15 = .ok (.getfield 12, 3) := by decide +kernel
theorem dX7_moveReason_18 : decode cX7_moveReason 18 = .ok (.getfield 93, 3) := by decide +kernel
theorem dX7_moveReason_21 : decode cX7_moveReason 21 = .ok (.iload_n 2, 1) := by decide +kernel
theorem dX7_moveReason_22 : decode cX7_moveReason 22 = .ok (.iload_n 1, 1) := by decide +kernel
theorem dX7_moveReason_23 : decode cX7_moveReason 23 = .ok (.invokevirtual 216, 3) := by decide +kernel
theorem dX7_moveReason_26 : decode cX7_moveReason 26 = .ok (.ifCond .eq 5, 3) := by decide +kernel
theorem dX7_moveReason_29 : decode cX7_moveReason 29 = .ok (.iconst 5, 1) := by decide +kernel
theorem dX7_moveReason_30 : decode cX7_moveReason 30 = .ok (.ireturn, 1) := by decide +kernel
theorem dX7_moveReason_31 : decode cX7_moveReason 31 = .ok (.aload_n 0, 1) := by decide +kernel
theorem dX7_moveReason_32 : decode cX7_moveReason 32 = .ok (.getfield 12, 3) := by decide +kernel
theorem dX7_moveReason_35 : decode cX7_moveReason 35 = .ok (.iload_n 1, 1) := by decide +kernel
theorem dX7_moveReason_36 : decode cX7_moveReason 36 = .ok (.aload_n 0, 1) := by decide +kernel
theorem dX7_moveReason_37 : decode cX7_moveReason 37 = .ok (.getfield 12, 3) := by decide +kernel
theorem dX7_moveReason_40 : decode cX7_moveReason 40 = .ok (.getfield 93, 3) := by decide +kernel
theorem dX7_moveReason_43 : decode cX7_moveReason 43 = .ok (.iload_n 1, 1) := by decide +kernel
theorem dX7_moveReason_44 : decode cX7_moveReason 44 = .ok (.iload_n 2, 1) := by decide +kernel
theorem dX7_moveReason_45 : decode cX7_moveReason 45 = .ok (.invokevirtual 220, 3) := by decide +kernel
theorem dX7_moveReason_48 : decode cX7_moveReason 48 = .ok (.invokevirtual 200, 3) := by decide +kernel
theorem dX7_moveReason_51 : decode cX7_moveReason 51 = .ok (.ireturn, 1) := by decide +kernel
set_option maxRecDepth 20000 in
theorem ggX7_file_X7_needFile : GoodIn wsX7_file wsX7_needFile := goodIn_ca (goodIn_r _ [9, 10, 11, 3, 4, 12, 13, 14, 15, 16, 17, 57, 58, 59, 60, 61, 62, 63, 64, 65, 66, 67, 68, 69, 70, 71, 72] (by decide +kernel) (by decide +kernel)) (goodIn_sub (fun _ h => List.mem_cons_of_mem _ (List.mem_append_right _ h)) (by decide +kernel))
set_option maxRecDepth 20000 in
theorem gX7_file_X7_needFile : GoodIn wsX7_file (wsV RX7 229 RX7 yX7_needFile wsX7_needFile) := goodIn_app (goodIn_of _ (by decide +kernel)) ggX7_file_X7_needFile
set_option maxRecDepth 20000 in
theorem ggX7_file_X2_placeOf : GoodIn wsX7_file wsX2_placeOf := goodIn_r _ [21, 22, 23, 13, 14, 15, 16, 17, 70, 71, 72] (by decide +kernel) (by decide +kernel)
set_option maxRecDepth 20000 in
theorem gX7_file_X2_placeOf : GoodIn wsX7_file (wsV RX7 232 RX2 yX2_placeOf wsX2_placeOf) := goodIn_app (goodIn_of _ (by decide +kernel)) ggX7_file_X2_placeOf
set_option maxRecDepth 20000 in
theorem ggX7_file_X2_sizeOf : GoodIn wsX7_file wsX2_sizeOf := goodIn_r _ [27, 28, 23, 13, 14, 15, 16, 17, 70, 71, 72] (by decide +kernel) (by decide +kernel)
set_option maxRecDepth 20000 in
theorem gX7_file_X2_sizeOf : GoodIn wsX7_file (wsV RX7 235 RX2 yX2_sizeOf wsX2_sizeOf) := goodIn_app (goodIn_of _ (by decide +kernel)) ggX7_file_X2_sizeOf
set_option maxRecDepth 20000 in
theorem ggX7_file_X6_projectOfFile : GoodIn wsX7_file wsX6_projectOfFile := goodIn_r _ [33, 34, 35, 36, 19, 20, 15, 21, 22, 23, 13, 14, 16, 17, 37, 38, 39, 40, 41, 42, 43, 44, 45, 46, 47, 48, 49, 50, 51, 52, 53, 54, 55, 56, 64, 65, 66, 67, 68, 69, 70, 71, 72, 73, 74, 75, 76] (by decide +kernel) (by decide +kernel)
set_option maxRecDepth 20000 in
theorem gX7_file_X6_projectOfFile : GoodIn wsX7_file (wsV RX7 238 RX6 yX6_projectOfFile wsX6_projectOfFile) := goodIn_app (goodIn_of _ (by decide +kernel)) ggX7_file_X6_projectOfFile
theorem dX7_file_0 : decode cX7_file 0 = .ok (.aload_n 0, 1) := by decide +kernel
theorem dX7_file_1 : decode cX7_file 1 = .ok (.iload_n 1, 1) := by decide +kernel
theorem dX7_file_2 : decode cX7_file 2 = .ok (.invokevirtual 229, 3) := by decide +kernel
theorem dX7_file_5 : decode cX7_file 5 = .ok (.iload_n 2, 1) := by decide +kernel
theorem dX7_file_6 : decode cX7_file 6 = .ok (.tableswitch 59 0 2 #[26, 38, 50], 26) := by decide +kernel
theorem dX7_file_32 : decode cX7_file 32 = .ok (.aload_n 0, 1) := by decide +kernel
theorem dX7_file_33 : decode cX7_file 33 = .ok (.getfield 12, 3) := by decide +kernel
theorem dX7_file_36 : decode cX7_file 36 = .ok (.getfield 81, 3) := by decide +kernel
theorem dX7_file_39 : decode cX7_file 39 = .ok (.iload_n 1, 1) := by decide +kernel
theorem dX7_file_40 : decode cX7_file 40 = .ok (.invokevirtual 232, 3) := by decide +kernel
theorem dX7_file_43 : decode cX7_file 43 = .ok (.ireturn, 1) := by decide +kernel
theorem dX7_file_44 : decode cX7_file 44 = .ok (.aload_n 0, 1) := by decide +kernel
theorem dX7_file_45 : decode cX7_file 45 = .ok (.getfield 12, 3) := by decide +kernel
theorem dX7_file_48 : decode cX7_file 48 = .ok (.getfield 81, 3) := by decide +kernel
theorem dX7_file_51 : decode cX7_file 51 = .ok (.iload_n 1, 1) := by decide +kernel
theorem dX7_file_52 : decode cX7_file 52 = .ok (.invokevirtual 235, 3) := by decide +kernel
theorem dX7_file_55 : decode cX7_file 55 = .ok (.ireturn, 1) := by decide +kernel
theorem dX7_file_56 : decode cX7_file 56 = .ok (.aload_n 0, 1) := by decide +kernel
theorem dX7_file_57 : decode cX7_file 57 = .ok (.getfield 12, 3) := by decide +kernel
theorem dX7_file_60 : decode cX7_file 60 = .ok (.iload_n 1, 1) := by decide +kernel
theorem dX7_file_61 : decode cX7_file 61 = .ok (.invokevirtual 238, 3) := by decide +kernel
theorem dX7_file_64 : decode cX7_file 64 = .ok (.ireturn, 1) := by decide +kernel
theorem dX7_file_65 : decode cX7_file 65 = .ok (.new 123, 3) := by decide +kernel
theorem dX7_file_68 : decode cX7_file 68 = .ok (.dup, 1) := by decide +kernel
theorem dX7_file_69 : decode cX7_file 69 = .ok (.ldc 241, 2) := by decide +kernel
theorem dX7_file_71 : decode cX7_file 71 = .ok (.invokespecial 127, 3) := by decide +kernel
theorem dX7_file_74 : decode cX7_file 74 = .ok (.athrow, 1) := by decide +kernel
set_option maxRecDepth 20000 in
theorem ggX7_writeReason_X7_needFolder : GoodIn wsX7_writeReason wsX7_needFolder := goodIn_ca (goodIn_r _ [7, 8, 9, 1, 2, 10, 11, 12, 13, 14, 15, 93, 94, 95, 96, 97, 98, 99, 100, 101, 102, 103, 104, 105, 106, 107, 108, 109] (by decide +kernel) (by decide +kernel)) (goodIn_sub (fun _ h => List.mem_cons_of_mem _ (List.mem_append_left _ (List.mem_append_right _ h))) (by decide +kernel))
set_option maxRecDepth 20000 in
theorem gX7_writeReason_X7_needFolder : GoodIn wsX7_writeReason (wsV RX7 132 RX7 yX7_needFolder wsX7_needFolder) := goodIn_app (goodIn_of _ (by decide +kernel)) ggX7_writeReason_X7_needFolder
set_option maxRecDepth 20000 in
theorem ggX7_writeReason_X7_needRange : GoodIn wsX7_writeReason wsX7_needRange := goodIn_ca (goodIn_r _ [18, 19, 20] (by decide +kernel) (by decide +kernel)) (goodIn_sub (fun _ h => List.mem_cons_of_mem _ (List.mem_append_right _ h)) (by decide +kernel))
set_option maxRecDepth 20000 in
theorem gX7_writeReason_X7_needRange : GoodIn wsX7_writeReason (va_wsS RX7 54 yX7_needRange wsX7_needRange) := goodIn_app (goodIn_of _ (by decide +kernel)) ggX7_writeReason_X7_needRange
set_option maxRecDepth 20000 in
theorem ggX7_writeReason_X3_projectOf : GoodIn wsX7_writeReason wsX3_projectOf := goodIn_r _ [24, 25, 26, 27, 13, 28, 29, 30, 11, 12, 14, 15, 31, 32, 33, 34, 35, 106, 107, 108, 109] (by decide +kernel) (by decide +kernel)
set_option maxRecDepth 20000 in
theorem gX7_writeReason_X3_projectOf : GoodIn wsX7_writeReason (wsV RX7 142 RX3 yX3_projectOf wsX3_projectOf) := goodIn_app (goodIn_of _ (by decide +kernel)) ggX7_writeReason_X3_projectOf
set_option maxRecDepth 20000 in
theorem ggX7_writeReason_X6_growthReason : GoodIn wsX7_writeReason wsX6_growthReason := goodIn_r _ [40, 41, 42, 43, 39, 44, 45, 46, 47, 48, 49, 50, 51, 52, 53, 54, 55, 6, 56, 57, 58, 59, 60, 61, 62, 63, 64, 65, 66, 67, 68, 69, 70, 71, 72, 73, 74, 75, 76, 77, 78, 79, 80, 81, 82, 83, 84, 85, 86, 87, 88, 89, 90, 91, 92, 100, 101, 102, 103, 104, 105, 110, 111, 112, 113, 114, 115, 116, 117, 118] (by decide +kernel) (by decide +kernel)
set_option maxRecDepth 20000 in
theorem gX7_writeReason_X6_growthReason : GoodIn wsX7_writeReason (wsV RX7 243 RX6 yX6_growthReason wsX6_growthReason) := goodIn_app (goodIn_of _ (by decide +kernel)) ggX7_writeReason_X6_growthReason
theorem dX7_writeReason_0 : decode cX7_writeReason 0 = .ok (.aload_n 0, 1) := by decide +kernel
theorem dX7_writeReason_1 : decode cX7_writeReason 1 = .ok (.iload_n 1, 1) := by decide +kernel
theorem dX7_writeReason_2 : decode cX7_writeReason 2 = .ok (.invokevirtual 132, 3) := by decide +kernel
theorem dX7_writeReason_5 : decode cX7_writeReason 5 = .ok (.iload_n 2, 1) := by decide +kernel
theorem dX7_writeReason_6 : decode cX7_writeReason 6 = .ok (.iconst 0, 1) := by decide +kernel
theorem dX7_writeReason_7 : decode cX7_writeReason 7 = .ok (.sipush 9999, 3) := by decide +kernel
theorem dX7_writeReason_10 : decode cX7_writeReason 10 = .ok (.invokestatic 54, 3) := by decide +kernel
theorem dX7_writeReason_13 : decode cX7_writeReason 13 = .ok (.aload_n 0, 1) := by decide +kernel
theorem dX7_writeReason_14 : decode cX7_writeReason 14 = .ok (.getfield 12, 3) := by decide +kernel
theorem dX7_writeReason_17 : decode cX7_writeReason 17 = .ok (.aload_n 0, 1) := by decide +kernel
theorem dX7_writeReason_18 : decode cX7_writeReason 18 = .ok (.getfield 12, 3) := by decide +kernel
theorem dX7_writeReason_21 : decode cX7_writeReason 21 = .ok (.getfield 93, 3) := by decide +kernel
theorem dX7_writeReason_24 : decode cX7_writeReason 24 = .ok (.iload_n 1, 1) := by decide +kernel
theorem dX7_writeReason_25 : decode cX7_writeReason 25 = .ok (.invokevirtual 142, 3) := by decide +kernel
theorem dX7_writeReason_28 : decode cX7_writeReason 28 = .ok (.iload_n 2, 1) := by decide +kernel
theorem dX7_writeReason_29 : decode cX7_writeReason 29 = .ok (.iconst 1, 1) := by decide +kernel
theorem dX7_writeReason_30 : decode cX7_writeReason 30 = .ok (.invokevirtual 243, 3) := by decide +kernel
theorem dX7_writeReason_33 : decode cX7_writeReason 33 = .ok (.ireturn, 1) := by decide +kernel
set_option maxRecDepth 20000 in
theorem ggX7_room_X7_needFolder : GoodIn wsX7_room wsX7_needFolder := goodIn_ca (goodIn_r _ [7, 8, 9, 1, 2, 10, 11, 12, 13, 14, 15, 95, 96, 97, 98, 99, 100, 101, 102, 103, 104, 105, 106, 107, 108, 109, 110, 111] (by decide +kernel) (by decide +kernel)) (goodIn_sub (fun _ h => List.mem_cons_of_mem _ (List.mem_append_right _ h)) (by decide +kernel))
set_option maxRecDepth 20000 in
theorem gX7_room_X7_needFolder : GoodIn wsX7_room (wsV RX7 132 RX7 yX7_needFolder wsX7_needFolder) := goodIn_app (goodIn_of _ (by decide +kernel)) ggX7_room_X7_needFolder
set_option maxRecDepth 20000 in
theorem ggX7_room_X3_projectOf : GoodIn wsX7_room wsX3_projectOf := goodIn_r _ [19, 20, 21, 22, 13, 23, 24, 25, 11, 12, 14, 15, 26, 27, 28, 29, 30, 108, 109, 110, 111] (by decide +kernel) (by decide +kernel)
set_option maxRecDepth 20000 in
theorem gX7_room_X3_projectOf : GoodIn wsX7_room (wsV RX7 142 RX3 yX3_projectOf wsX3_projectOf) := goodIn_app (goodIn_of _ (by decide +kernel)) ggX7_room_X3_projectOf
set_option maxRecDepth 20000 in
theorem ggX7_room_X6_growthReason : GoodIn wsX7_room wsX6_growthReason := goodIn_r _ [35, 36, 37, 38, 34, 39, 40, 41, 42, 43, 44, 45, 46, 47, 48, 49, 50, 6, 51, 52, 53, 54, 55, 56, 57, 58, 59, 60, 61, 62, 63, 64, 65, 66, 67, 68, 69, 70, 71, 72, 73, 74, 75, 76, 77, 78, 79, 80, 81, 82, 83, 84, 85, 86, 87, 102, 103, 104, 105, 106, 107, 112, 113, 114, 115, 116, 117, 118, 119, 120] (by decide +kernel) (by decide +kernel)
set_option maxRecDepth 20000 in
theorem gX7_room_X6_growthReason : GoodIn wsX7_room (wsV RX7 243 RX6 yX6_growthReason wsX6_growthReason) := goodIn_app (goodIn_of _ (by decide +kernel)) ggX7_room_X6_growthReason
set_option maxRecDepth 20000 in
theorem ggX7_room_X6_roomOf : GoodIn wsX7_room wsX6_roomOf := goodIn_r _ [91, 40, 92, 93, 48, 94, 46, 47, 49, 73, 74, 75, 34, 76, 77, 78, 79, 80, 81, 82, 50, 6, 51, 83, 84, 85, 55, 86, 87, 41, 42, 43, 44, 45, 52, 53, 54, 56, 57, 58, 59, 60, 61, 62, 63, 64, 65, 66, 67, 68, 69, 70, 71, 72, 102, 103, 104, 105, 106, 107, 112, 113, 114, 115, 116, 117, 118, 119, 120] (by decide +kernel) (by decide +kernel)
set_option maxRecDepth 20000 in
theorem gX7_room_X6_roomOf : GoodIn wsX7_room (wsV RX7 264 RX6 yX6_roomOf wsX6_roomOf) := goodIn_app (goodIn_of _ (by decide +kernel)) ggX7_room_X6_roomOf
theorem dX7_room_0 : decode cX7_room 0 = .ok (.aload_n 0, 1) := by decide +kernel
theorem dX7_room_1 : decode cX7_room 1 = .ok (.iload_n 1, 1) := by decide +kernel
theorem dX7_room_2 : decode cX7_room 2 = .ok (.invokevirtual 132, 3) := by decide +kernel
theorem dX7_room_5 : decode cX7_room 5 = .ok (.aload_n 0, 1) := by decide +kernel
theorem dX7_room_6 : decode cX7_room 6 = .ok (.getfield 12, 3) := by decide +kernel
theorem dX7_room_9 : decode cX7_room 9 = .ok (.getfield 93, 3) := by decide +kernel
theorem dX7_room_12 : decode cX7_room 12 = .ok (.iload_n 1, 1) := by decide +kernel
theorem dX7_room_13 : decode cX7_room 13 = .ok (.invokevirtual 142, 3) := by decide +kernel
theorem dX7_room_16 : decode cX7_room 16 = .ok (.istore_n 2, 1) := by decide +kernel
theorem dX7_room_17 : decode cX7_room 17 = .ok (.aload_n 0, 1) := by decide +kernel
theorem dX7_room_18 : decode cX7_room 18 = .ok (.getfield 12, 3) := by decide +kernel
theorem dX7_room_21 : decode cX7_room 21 = .ok (.iload_n 2, 1) := by decide +kernel
theorem dX7_room_22 : decode cX7_room 22 = .ok (.iconst 0, 1) := by decide +kernel
theorem dX7_room_23 : decode cX7_room 23 = .ok (.iconst 1, 1) := by decide +kernel
theorem dX7_room_24 : decode cX7_room 24 = .ok (.invokevirtual 243, 3) := by decide +kernel
theorem dX7_room_27 : decode cX7_room 27 = .ok (.ifCond .eq 5, 3) := by decide +kernel
theorem dX7_room_30 : decode cX7_room 30 = .ok (.iconst (-1), 1) := by decide +kernel
theorem dX7_room_31 : decode cX7_room 31 = .ok (.ireturn, 1) := by decide +kernel
theorem dX7_room_32 : decode cX7_room 32 = .ok (.aload_n 0, 1) := by decide +kernel
theorem dX7_room_33 : decode cX7_room 33 = .ok (.getfield 12, 3) := by decide +kernel
theorem dX7_room_36 : decode cX7_room 36 = .ok (.iload_n 2, 1) := by decide +kernel
theorem dX7_room_37 : decode cX7_room 37 = .ok (.invokevirtual 264, 3) := by decide +kernel
theorem dX7_room_40 : decode cX7_room 40 = .ok (.ireturn, 1) := by decide +kernel
set_option maxRecDepth 20000 in
theorem ggX7_greatest_X7_needProject : GoodIn wsX7_greatest wsX7_needProject := goodIn_ca (goodIn_r _ [7, 8, 9, 6, 10, 11, 12] (by decide +kernel) (by decide +kernel)) (goodIn_sub (fun _ h => List.mem_cons_of_mem _ (List.mem_append_right _ h)) (by decide +kernel))
set_option maxRecDepth 20000 in
theorem gX7_greatest_X7_needProject : GoodIn wsX7_greatest (va_wsS RX7 278 yX7_needProject wsX7_needProject) := goodIn_app (goodIn_of _ (by decide +kernel)) ggX7_greatest_X7_needProject
set_option maxRecDepth 20000 in
theorem ggX7_greatest_X6_greatestFile : GoodIn wsX7_greatest wsX6_greatestFile := goodIn_r _ [17, 18, 19, 20, 21, 22, 23, 24, 25, 26, 27, 28, 29, 30, 31, 32, 33, 16, 34, 35, 36, 37, 38, 39, 40, 41, 42, 43, 44, 45, 46, 47, 48, 49, 50, 51, 52, 53, 54, 55, 56, 57, 58, 59, 60, 68, 69, 70, 71, 72, 73, 74, 75, 76, 77, 78, 79, 80] (by decide +kernel) (by decide +kernel)
set_option maxRecDepth 20000 in
theorem gX7_greatest_X6_greatestFile : GoodIn wsX7_greatest (wsV RX7 281 RX6 yX6_greatestFile wsX6_greatestFile) := goodIn_app (goodIn_of _ (by decide +kernel)) ggX7_greatest_X6_greatestFile
theorem dX7_greatest_0 : decode cX7_greatest 0 = .ok (.iload_n 1, 1) := by decide +kernel
theorem dX7_greatest_1 : decode cX7_greatest 1 = .ok (.invokestatic 278, 3) := by decide +kernel
theorem dX7_greatest_4 : decode cX7_greatest 4 = .ok (.aload_n 0, 1) := by decide +kernel
theorem dX7_greatest_5 : decode cX7_greatest 5 = .ok (.getfield 12, 3) := by decide +kernel
theorem dX7_greatest_8 : decode cX7_greatest 8 = .ok (.iload_n 1, 1) := by decide +kernel
theorem dX7_greatest_9 : decode cX7_greatest 9 = .ok (.invokevirtual 281, 3) := by decide +kernel
theorem dX7_greatest_12 : decode cX7_greatest 12 = .ok (.istore_n 2, 1) := by decide +kernel
theorem dX7_greatest_13 : decode cX7_greatest 13 = .ok (.iload_n 2, 1) := by decide +kernel
theorem dX7_greatest_14 : decode cX7_greatest 14 = .ok (.iconst (-1), 1) := by decide +kernel
theorem dX7_greatest_15 : decode cX7_greatest 15 = .ok (.if_icmp .ne 14, 3) := by decide +kernel
theorem dX7_greatest_18 : decode cX7_greatest 18 = .ok (.new 168, 3) := by decide +kernel
theorem dX7_greatest_21 : decode cX7_greatest 21 = .ok (.dup, 1) := by decide +kernel
theorem dX7_greatest_22 : decode cX7_greatest 22 = .ok (.ldc_w 284, 3) := by decide +kernel
theorem dX7_greatest_25 : decode cX7_greatest 25 = .ok (.invokespecial 172, 3) := by decide +kernel
theorem dX7_greatest_28 : decode cX7_greatest 28 = .ok (.athrow, 1) := by decide +kernel
theorem dX7_greatest_29 : decode cX7_greatest 29 = .ok (.iload_n 2, 1) := by decide +kernel
theorem dX7_greatest_30 : decode cX7_greatest 30 = .ok (.ireturn, 1) := by decide +kernel
set_option maxRecDepth 20000 in
theorem ggX7_used_X7_needAccount : GoodIn wsX7_used wsX7_needAccount := goodIn_ca (goodIn_r _ [6, 7, 8, 5, 9, 10, 11, 12, 13, 14] (by decide +kernel) (by decide +kernel)) (goodIn_sub (fun _ h => List.mem_cons_of_mem _ (List.mem_append_right _ h)) (by decide +kernel))
set_option maxRecDepth 20000 in
theorem gX7_used_X7_needAccount : GoodIn wsX7_used (va_wsS RX7 286 yX7_needAccount wsX7_needAccount) := goodIn_app (goodIn_of _ (by decide +kernel)) ggX7_used_X7_needAccount
set_option maxRecDepth 20000 in
theorem ggX7_used_X7_accountOf : GoodIn wsX7_used wsX7_accountOf := goodIn_r _ [17] (by decide +kernel) (by decide +kernel)
set_option maxRecDepth 20000 in
theorem gX7_used_X7_accountOf : GoodIn wsX7_used (va_wsS RX7 289 yX7_accountOf wsX7_accountOf) := goodIn_app (goodIn_of _ (by decide +kernel)) ggX7_used_X7_accountOf
set_option maxRecDepth 20000 in
theorem ggX7_used_X0_amountOf : GoodIn wsX7_used wsX0_amountOf := goodIn_r _ [22, 23, 37, 38, 39, 40] (by decide +kernel) (by decide +kernel)
set_option maxRecDepth 20000 in
theorem gX7_used_X0_amountOf : GoodIn wsX7_used (wsV RX7 292 RX0 yX0_amountOf wsX0_amountOf) := goodIn_app (goodIn_of _ (by decide +kernel)) ggX7_used_X0_amountOf
theorem dX7_used_0 : decode cX7_used 0 = .ok (.iload_n 1, 1) := by decide +kernel
theorem dX7_used_1 : decode cX7_used 1 = .ok (.iload_n 2, 1) := by decide +kernel
theorem dX7_used_2 : decode cX7_used 2 = .ok (.invokestatic 286, 3) := by decide +kernel
theorem dX7_used_5 : decode cX7_used 5 = .ok (.aload_n 0, 1) := by decide +kernel
theorem dX7_used_6 : decode cX7_used 6 = .ok (.getfield 12, 3) := by decide +kernel
theorem dX7_used_9 : decode cX7_used 9 = .ok (.getfield 255, 3) := by decide +kernel
theorem dX7_used_12 : decode cX7_used 12 = .ok (.iload_n 1, 1) := by decide +kernel
theorem dX7_used_13 : decode cX7_used 13 = .ok (.iload_n 2, 1) := by decide +kernel
theorem dX7_used_14 : decode cX7_used 14 = .ok (.invokestatic 289, 3) := by decide +kernel
theorem dX7_used_17 : decode cX7_used 17 = .ok (.invokevirtual 292, 3) := by decide +kernel
theorem dX7_used_20 : decode cX7_used 20 = .ok (.ireturn, 1) := by decide +kernel
set_option maxRecDepth 20000 in
theorem ggX7_counted_X7_needAccount : GoodIn wsX7_counted wsX7_needAccount := goodIn_ca (goodIn_r _ [5, 6, 7, 4, 8, 9, 10, 11, 12, 13] (by decide +kernel) (by decide +kernel)) (goodIn_sub (fun _ h => List.mem_cons_of_mem _ (List.mem_append_right _ h)) (by decide +kernel))
set_option maxRecDepth 20000 in
theorem gX7_counted_X7_needAccount : GoodIn wsX7_counted (va_wsS RX7 286 yX7_needAccount wsX7_needAccount) := goodIn_app (goodIn_of _ (by decide +kernel)) ggX7_counted_X7_needAccount
set_option maxRecDepth 20000 in
theorem ggX7_counted_X6_countAnew : GoodIn wsX7_counted wsX6_countAnew := goodIn_r _ [18, 19, 20, 21, 22, 23, 17, 24, 25, 26, 27, 28, 29, 30, 31, 32, 33, 34, 35, 36, 37, 38, 39, 40, 41, 42, 43, 44, 45, 46, 47, 48, 49, 50, 51, 52, 53, 54, 55, 56, 57, 58, 59, 60, 61, 62, 63, 64, 65, 73, 74, 75, 76, 77, 78, 79, 80, 81, 82, 83, 84, 85] (by decide +kernel) (by decide +kernel)
set_option maxRecDepth 20000 in
theorem gX7_counted_X6_countAnew : GoodIn wsX7_counted (wsV RX7 120 RX6 yX6_countAnew wsX6_countAnew) := goodIn_app (goodIn_of _ (by decide +kernel)) ggX7_counted_X6_countAnew
theorem dX7_counted_0 : decode cX7_counted 0 = .ok (.iload_n 1, 1) := by decide +kernel
theorem dX7_counted_1 : decode cX7_counted 1 = .ok (.iload_n 2, 1) := by decide +kernel
theorem dX7_counted_2 : decode cX7_counted 2 = .ok (.invokestatic 286, 3) := by decide +kernel
theorem dX7_counted_5 : decode cX7_counted 5 = .ok (.aload_n 0, 1) := by decide +kernel
theorem dX7_counted_6 : decode cX7_counted 6 = .ok (.getfield 12, 3) := by decide +kernel
theorem dX7_counted_9 : decode cX7_counted 9 = .ok (.iload_n 1, 1) := by decide +kernel
theorem dX7_counted_10 : decode cX7_counted 10 = .ok (.iload_n 2, 1) := by decide +kernel
theorem dX7_counted_11 : decode cX7_counted 11 = .ok (.invokevirtual 120, 3) := by decide +kernel
theorem dX7_counted_14 : decode cX7_counted 14 = .ok (.ireturn, 1) := by decide +kernel
set_option maxRecDepth 20000 in
theorem ggX7_limit_X7_needAccount : GoodIn wsX7_limit wsX7_needAccount := goodIn_ca (goodIn_r _ [5, 6, 7, 4, 8, 9, 10, 11, 12, 13] (by decide +kernel) (by decide +kernel)) (goodIn_sub (fun _ h => List.mem_cons_of_mem _ (List.mem_append_right _ h)) (by decide +kernel))
set_option maxRecDepth 20000 in
theorem gX7_limit_X7_needAccount : GoodIn wsX7_limit (va_wsS RX7 286 yX7_needAccount wsX7_needAccount) := goodIn_app (goodIn_of _ (by decide +kernel)) ggX7_limit_X7_needAccount
set_option maxRecDepth 20000 in
theorem ggX7_limit_X6_effectiveLimit : GoodIn wsX7_limit wsX6_effectiveLimit := goodIn_r _ [18, 19, 20, 21, 22, 23, 24, 25, 4, 26, 27, 28, 29, 30, 31, 32, 33, 34, 35, 36, 37, 38, 39, 40, 41, 42, 50, 51, 52, 53, 54, 55, 56, 57, 58, 59, 60, 61, 62, 63, 64] (by decide +kernel) (by decide +kernel)
set_option maxRecDepth 20000 in
theorem gX7_limit_X6_effectiveLimit : GoodIn wsX7_limit (wsV RX7 295 RX6 yX6_effectiveLimit wsX6_effectiveLimit) := goodIn_app (goodIn_of _ (by decide +kernel)) ggX7_limit_X6_effectiveLimit
theorem dX7_limit_0 : decode cX7_limit 0 = .ok (.iload_n 1, 1) := by decide +kernel
theorem dX7_limit_1 : decode cX7_limit 1 = .ok (.iload_n 2, 1) := by decide +kernel
theorem dX7_limit_2 : decode cX7_limit 2 = .ok (.invokestatic 286, 3) := by decide +kernel
theorem dX7_limit_5 : decode cX7_limit 5 = .ok (.aload_n 0, 1) := by decide +kernel
theorem dX7_limit_6 : decode cX7_limit 6 = .ok (.getfield 12, 3) := by decide +kernel
theorem dX7_limit_9 : decode cX7_limit 9 = .ok (.iload_n 1, 1) := by decide +kernel
theorem dX7_limit_10 : decode cX7_limit 10 = .ok (.iload_n 2, 1) := by decide +kernel
theorem dX7_limit_11 : decode cX7_limit 11 = .ok (.iload_n 3, 1) := by decide +kernel
theorem dX7_limit_12 : decode cX7_limit 12 = .ok (.invokevirtual 295, 3) := by decide +kernel
theorem dX7_limit_15 : decode cX7_limit 15 = .ok (.ireturn, 1) := by decide +kernel
set_option maxRecDepth 20000 in
theorem ggX7_state_X7_needAccount : GoodIn wsX7_state wsX7_needAccount := goodIn_ca (goodIn_r _ [5, 6, 7, 4, 8, 9, 10, 11, 12, 13] (by decide +kernel) (by decide +kernel)) (goodIn_sub (fun _ h => List.mem_cons_of_mem _ (List.mem_append_right _ h)) (by decide +kernel))
set_option maxRecDepth 20000 in
theorem gX7_state_X7_needAccount : GoodIn wsX7_state (va_wsS RX7 286 yX7_needAccount wsX7_needAccount) := goodIn_app (goodIn_of _ (by decide +kernel)) ggX7_state_X7_needAccount
set_option maxRecDepth 20000 in
theorem ggX7_state_X6_stateOf : GoodIn wsX7_state wsX6_stateOf := goodIn_r _ [18, 19, 20, 21, 22, 17, 23, 24, 25, 26, 27, 28, 29, 30, 31, 32, 33, 4, 34, 35, 36, 37, 38, 39, 40, 41, 42, 43, 44, 45, 46, 47, 48, 49, 50, 51, 52, 53, 54, 55, 56, 57, 58, 59, 60, 61, 62, 63, 64, 65, 66, 67, 68, 69, 70, 71, 72, 73, 74, 75, 83, 84, 85, 86, 87, 88, 89, 90, 91, 92, 93, 94, 95, 96, 97] (by decide +kernel) (by decide +kernel)
set_option maxRecDepth 20000 in
theorem gX7_state_X6_stateOf : GoodIn wsX7_state (wsV RX7 311 RX6 yX6_stateOf wsX6_stateOf) := goodIn_app (goodIn_of _ (by decide +kernel)) ggX7_state_X6_stateOf
theorem dX7_state_0 : decode cX7_state 0 = .ok (.iload_n 1, 1) := by decide +kernel
theorem dX7_state_1 : decode cX7_state 1 = .ok (.iload_n 2, 1) := by decide +kernel
theorem dX7_state_2 : decode cX7_state 2 = .ok (.invokestatic 286, 3) := by decide +kernel
theorem dX7_state_5 : decode cX7_state 5 = .ok (.aload_n 0, 1) := by decide +kernel
theorem dX7_state_6 : decode cX7_state 6 = .ok (.getfield 12, 3) := by decide +kernel
theorem dX7_state_9 : decode cX7_state 9 = .ok (.iload_n 1, 1) := by decide +kernel
theorem dX7_state_10 : decode cX7_state 10 = .ok (.iload_n 2, 1) := by decide +kernel
theorem dX7_state_11 : decode cX7_state 11 = .ok (.invokevirtual 311, 3) := by decide +kernel
theorem dX7_state_14 : decode cX7_state 14 = .ok (.ireturn, 1) := by decide +kernel
set_option maxRecDepth 20000 in
theorem ggX7_graceLeft_X7_needAccount : GoodIn wsX7_graceLeft wsX7_needAccount := goodIn_ca (goodIn_r _ [10, 11, 12, 9, 13, 14, 15, 16, 17, 18] (by decide +kernel) (by decide +kernel)) (goodIn_sub (fun _ h => List.mem_cons_of_mem _ (List.mem_append_right _ h)) (by decide +kernel))
set_option maxRecDepth 20000 in
theorem gX7_graceLeft_X7_needAccount : GoodIn wsX7_graceLeft (va_wsS RX7 286 yX7_needAccount wsX7_needAccount) := goodIn_app (goodIn_of _ (by decide +kernel)) ggX7_graceLeft_X7_needAccount
set_option maxRecDepth 20000 in
theorem ggX7_graceLeft_X6_graceEnd : GoodIn wsX7_graceLeft wsX6_graceEnd := goodIn_r _ [23, 24, 25, 26, 9, 27, 28, 29, 30, 31, 32, 33, 41, 42, 43, 44, 45, 46, 47, 48, 49, 50] (by decide +kernel) (by decide +kernel)
set_option maxRecDepth 20000 in
theorem gX7_graceLeft_X6_graceEnd : GoodIn wsX7_graceLeft (wsV RX7 314 RX6 yX6_graceEnd wsX6_graceEnd) := goodIn_app (goodIn_of _ (by decide +kernel)) ggX7_graceLeft_X6_graceEnd
theorem dX7_graceLeft_0 : decode cX7_graceLeft 0 = .ok (.iload_n 1, 1) := by decide +kernel
theorem dX7_graceLeft_1 : decode cX7_graceLeft 1 = .ok (.iload_n 2, 1) := by decide +kernel
theorem dX7_graceLeft_2 : decode cX7_graceLeft 2 = .ok (.invokestatic 286, 3) := by decide +kernel
theorem dX7_graceLeft_5 : decode cX7_graceLeft 5 = .ok (.aload_n 0, 1) := by decide +kernel
theorem dX7_graceLeft_6 : decode cX7_graceLeft 6 = .ok (.getfield 12, 3) := by decide +kernel
theorem dX7_graceLeft_9 : decode cX7_graceLeft 9 = .ok (.iload_n 1, 1) := by decide +kernel
theorem dX7_graceLeft_10 : decode cX7_graceLeft 10 = .ok (.iload_n 2, 1) := by decide +kernel
theorem dX7_graceLeft_11 : decode cX7_graceLeft 11 = .ok (.invokevirtual 314, 3) := by decide +kernel
theorem dX7_graceLeft_14 : decode cX7_graceLeft 14 = .ok (.istore_n 3, 1) := by decide +kernel
theorem dX7_graceLeft_15 : decode cX7_graceLeft 15 = .ok (.iload_n 3, 1) := by decide +kernel
theorem dX7_graceLeft_16 : decode cX7_graceLeft 16 = .ok (.iconst (-1), 1) := by decide +kernel
theorem dX7_graceLeft_17 : decode cX7_graceLeft 17 = .ok (.if_icmp .ne 7, 3) := by decide +kernel
theorem dX7_graceLeft_20 : decode cX7_graceLeft 20 = .ok (.iconst (-1), 1) := by decide +kernel
theorem dX7_graceLeft_21 : decode cX7_graceLeft 21 = .ok (.goto 16, 3) := by decide +kernel
theorem dX7_graceLeft_24 : decode cX7_graceLeft 24 = .ok (.iload_n 3, 1) := by decide +kernel
theorem dX7_graceLeft_25 : decode cX7_graceLeft 25 = .ok (.aload_n 0, 1) := by decide +kernel
theorem dX7_graceLeft_26 : decode cX7_graceLeft 26 = .ok (.getfield 12, 3) := by decide +kernel
theorem dX7_graceLeft_29 : decode cX7_graceLeft 29 = .ok (.getfield 104, 3) := by decide +kernel
theorem dX7_graceLeft_32 : decode cX7_graceLeft 32 = .ok (.isub, 1) := by decide +kernel
theorem dX7_graceLeft_33 : decode cX7_graceLeft 33 = .ok (.iconst 0, 1) := by decide +kernel
theorem dX7_graceLeft_34 : decode cX7_graceLeft 34 = .ok (.invokestatic 317, 3) := by decide +kernel
theorem dX7_graceLeft_37 : decode cX7_graceLeft 37 = .ok (.ireturn, 1) := by decide +kernel
set_option maxRecDepth 20000 in
theorem ggX7_nextEvent_X4_firstEnd : GoodIn wsX7_nextEvent wsX4_firstEnd := goodIn_r _ [7, 8, 9, 53, 54, 55, 56, 57] (by decide +kernel) (by decide +kernel)
set_option maxRecDepth 20000 in
theorem gX7_nextEvent_X4_firstEnd : GoodIn wsX7_nextEvent (wsV RX7 327 RX4 yX4_firstEnd wsX4_firstEnd) := goodIn_app (goodIn_of _ (by decide +kernel)) ggX7_nextEvent_X4_firstEnd
set_option maxRecDepth 20000 in
theorem ggX7_nextEvent_X6_firstGraceEnd : GoodIn wsX7_nextEvent wsX6_firstGraceEnd := goodIn_r _ [14, 15, 16, 17, 13, 18, 19, 20, 21, 22, 23, 24, 25, 26, 27, 28, 29, 30, 31, 32, 33, 34, 35, 36, 37, 38, 47, 48, 49, 50, 51, 52, 58, 59, 60, 61] (by decide +kernel) (by decide +kernel)
set_option maxRecDepth 20000 in
theorem gX7_nextEvent_X6_firstGraceEnd : GoodIn wsX7_nextEvent (wsV RX7 330 RX6 yX6_firstGraceEnd wsX6_firstGraceEnd) := goodIn_app (goodIn_of _ (by decide +kernel)) ggX7_nextEvent_X6_firstGraceEnd
set_option maxRecDepth 20000 in
theorem ggX7_nextEvent_X6_earlierEvent : GoodIn wsX7_nextEvent wsX6_earlierEvent := goodIn_r _ [33, 34, 35, 36, 37, 38, 47, 48, 49, 50, 51, 52] (by decide +kernel) (by decide +kernel)
set_option maxRecDepth 20000 in
theorem gX7_nextEvent_X6_earlierEvent : GoodIn wsX7_nextEvent (wsV RX7 333 RX6 yX6_earlierEvent wsX6_earlierEvent) := goodIn_app (goodIn_of _ (by decide +kernel)) ggX7_nextEvent_X6_earlierEvent
theorem dX7_nextEvent_0 : decode cX7_nextEvent 0 = .ok (.aload_n 0, 1) := by decide +kernel
theorem dX7_nextEvent_1 : decode cX7_nextEvent 1 = .ok (.getfield 12, 3) := by decide +kernel
theorem dX7_nextEvent_4 : decode cX7_nextEvent 4 = .ok (.aload_n 0, 1) := by decide +kernel
theorem dX7_nextEvent_5 : decode cX7_nextEvent 5 = .ok (.getfield 12, 3) := by decide +kernel
theorem dX7_nextEvent_8 : decode cX7_nextEvent 8 = .ok (.getfield 110, 3) := by decide +kernel
theorem dX7_nextEvent_11 : decode cX7_nextEvent 11 = .ok (.invokevirtual 327, 3) := by decide +kernel
theorem dX7_nextEvent_14 : decode cX7_nextEvent 14 = .ok (.aload_n 0, 1) := by decide +kernel
theorem dX7_nextEvent_15 : decode cX7_nextEvent 15 = .ok (.getfield 12, 3) := by decide +kernel
theorem dX7_nextEvent_18 : decode cX7_nextEvent 18 = .ok (.invokevirtual 330, 3) := by decide +kernel
theorem dX7_nextEvent_21 : decode cX7_nextEvent 21 = .ok (.invokevirtual 333, 3) := by decide +kernel
theorem dX7_nextEvent_24 : decode cX7_nextEvent 24 = .ok (.ireturn, 1) := by decide +kernel
set_option maxRecDepth 20000 in
theorem ggX7_giftOf_X7_needGift : GoodIn wsX7_giftOf wsX7_needGift := goodIn_ca (goodIn_r _ [9, 10, 11, 3, 4, 12, 13, 14, 15, 16, 17, 39, 40, 41, 42, 43, 44, 45, 46, 47, 48, 49, 50, 51, 52, 53, 54, 55, 56] (by decide +kernel) (by decide +kernel)) (goodIn_sub (fun _ h => List.mem_cons_of_mem _ (List.mem_append_right _ h)) (by decide +kernel))
set_option maxRecDepth 20000 in
theorem gX7_giftOf_X7_needGift : GoodIn wsX7_giftOf (wsV RX7 349 RX7 yX7_needGift wsX7_needGift) := goodIn_app (goodIn_of _ (by decide +kernel)) ggX7_giftOf_X7_needGift
set_option maxRecDepth 20000 in
theorem ggX7_giftOf_X4_giverOf : GoodIn wsX7_giftOf wsX4_giverOf := goodIn_r _ [21, 22, 23, 13, 14, 15, 16, 17, 52, 53, 54, 55, 56] (by decide +kernel) (by decide +kernel)
set_option maxRecDepth 20000 in
theorem gX7_giftOf_X4_giverOf : GoodIn wsX7_giftOf (wsV RX7 352 RX4 yX4_giverOf wsX4_giverOf) := goodIn_app (goodIn_of _ (by decide +kernel)) ggX7_giftOf_X4_giverOf
set_option maxRecDepth 20000 in
theorem ggX7_giftOf_X4_getterOf : GoodIn wsX7_giftOf wsX4_getterOf := goodIn_r _ [27, 28, 23, 13, 14, 15, 16, 17, 52, 53, 54, 55, 56] (by decide +kernel) (by decide +kernel)
set_option maxRecDepth 20000 in
theorem gX7_giftOf_X4_getterOf : GoodIn wsX7_giftOf (wsV RX7 355 RX4 yX4_getterOf wsX4_getterOf) := goodIn_app (goodIn_of _ (by decide +kernel)) ggX7_giftOf_X4_getterOf
set_option maxRecDepth 20000 in
theorem ggX7_giftOf_X4_blocksOf : GoodIn wsX7_giftOf wsX4_blocksOf := goodIn_r _ [32, 33, 23, 13, 14, 15, 16, 17, 52, 53, 54, 55, 56] (by decide +kernel) (by decide +kernel)
set_option maxRecDepth 20000 in
theorem gX7_giftOf_X4_blocksOf : GoodIn wsX7_giftOf (wsV RX7 358 RX4 yX4_blocksOf wsX4_blocksOf) := goodIn_app (goodIn_of _ (by decide +kernel)) ggX7_giftOf_X4_blocksOf
set_option maxRecDepth 20000 in
theorem ggX7_giftOf_X4_endOf : GoodIn wsX7_giftOf wsX4_endOf := goodIn_r _ [37, 38, 23, 13, 14, 15, 16, 17, 52, 53, 54, 55, 56] (by decide +kernel) (by decide +kernel)
set_option maxRecDepth 20000 in
theorem gX7_giftOf_X4_endOf : GoodIn wsX7_giftOf (wsV RX7 361 RX4 yX4_endOf wsX4_endOf) := goodIn_app (goodIn_of _ (by decide +kernel)) ggX7_giftOf_X4_endOf
theorem dX7_giftOf_0 : decode cX7_giftOf 0 = .ok (.aload_n 0, 1) := by decide +kernel
theorem dX7_giftOf_1 : decode cX7_giftOf 1 = .ok (.iload_n 1, 1) := by decide +kernel
theorem dX7_giftOf_2 : decode cX7_giftOf 2 = .ok (.invokevirtual 349, 3) := by decide +kernel
theorem dX7_giftOf_5 : decode cX7_giftOf 5 = .ok (.iload_n 2, 1) := by decide +kernel
theorem dX7_giftOf_6 : decode cX7_giftOf 6 = .ok (.tableswitch 78 0 3 #[30, 42, 54, 66], 30) := by decide +kernel
theorem dX7_giftOf_36 : decode cX7_giftOf 36 = .ok (.aload_n 0, 1) := by decide +kernel
theorem dX7_giftOf_37 : decode cX7_giftOf 37 = .ok (.getfield 12, 3) := by decide +kernel
theorem dX7_giftOf_40 : decode cX7_giftOf 40 = .ok (.getfield 110, 3) := by decide +kernel
theorem dX7_giftOf_43 : decode cX7_giftOf 43 = .ok (.iload_n 1, 1) := by decide +kernel
theorem dX7_giftOf_44 : decode cX7_giftOf 44 = .ok (.invokevirtual 352, 3) := by decide +kernel
theorem dX7_giftOf_47 : decode cX7_giftOf 47 = .ok (.ireturn, 1) := by decide +kernel
theorem dX7_giftOf_48 : decode cX7_giftOf 48 = .ok (.aload_n 0, 1) := by decide +kernel
theorem dX7_giftOf_49 : decode cX7_giftOf 49 = .ok (.getfield 12, 3) := by decide +kernel
theorem dX7_giftOf_52 : decode cX7_giftOf 52 = .ok (.getfield 110, 3) := by decide +kernel
theorem dX7_giftOf_55 : decode cX7_giftOf 55 = .ok (.iload_n 1, 1) := by decide +kernel
theorem dX7_giftOf_56 : decode cX7_giftOf 56 = .ok (.invokevirtual 355, 3) := by decide +kernel
theorem dX7_giftOf_59 : decode cX7_giftOf 59 = .ok (.ireturn, 1) := by decide +kernel
theorem dX7_giftOf_60 : decode cX7_giftOf 60 = .ok (.aload_n 0, 1) := by decide +kernel
theorem dX7_giftOf_61 : decode cX7_giftOf 61 = .ok (.getfield 12, 3) := by decide +kernel
theorem dX7_giftOf_64 : decode cX7_giftOf 64 = .ok (.getfield 110, 3) := by decide +kernel
theorem dX7_giftOf_67 : decode cX7_giftOf 67 = .ok (.iload_n 1, 1) := by decide +kernel
theorem dX7_giftOf_68 : decode cX7_giftOf 68 = .ok (.invokevirtual 358, 3) := by decide +kernel
theorem dX7_giftOf_71 : decode cX7_giftOf 71 = .ok (.ireturn, 1) := by decide +kernel
theorem dX7_giftOf_72 : decode cX7_giftOf 72 = .ok (.aload_n 0, 1) := by decide +kernel
theorem dX7_giftOf_73 : decode cX7_giftOf 73 = .ok (.getfield 12, 3) := by decide +kernel
theorem dX7_giftOf_76 : decode cX7_giftOf 76 = .ok (.getfield 110, 3) := by decide +kernel
theorem dX7_giftOf_79 : decode cX7_giftOf 79 = .ok (.iload_n 1, 1) := by decide +kernel
theorem dX7_giftOf_80 : decode cX7_giftOf 80 = .ok (.invokevirtual 361, 3) := by decide +kernel
theorem dX7_giftOf_83 : decode cX7_giftOf 83 = .ok (.ireturn, 1) := by decide +kernel
theorem dX7_giftOf_84 : decode cX7_giftOf 84 = .ok (.new 123, 3) := by decide +kernel
theorem dX7_giftOf_87 : decode cX7_giftOf 87 = .ok (.dup, 1) := by decide +kernel
theorem dX7_giftOf_88 : decode cX7_giftOf 88 = .ok (.ldc_w 364, 3) := by decide +kernel
theorem dX7_giftOf_91 : decode cX7_giftOf 91 = .ok (.invokespecial 127, 3) := by decide +kernel
theorem dX7_giftOf_94 : decode cX7_giftOf 94 = .ok (.athrow, 1) := by decide +kernel
