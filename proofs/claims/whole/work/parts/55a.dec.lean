set_option maxRecDepth 20000 in
theorem ggX7_addFolder_X7_needFolder : GoodIn wsX7_addFolder wsX7_needFolder := goodIn_ca (goodIn_r _ [12, 13, 14, 5, 6, 15, 16, 17, 18, 19, 20, 143, 144, 145, 146, 147, 148, 149, 150, 151, 152, 153, 154, 155, 156, 157, 158, 159] (by decide +kernel) (by decide +kernel)) (goodIn_sub (fun _ h => List.mem_cons_of_mem _ (List.mem_append_right _ h)) (by decide +kernel))
set_option maxRecDepth 20000 in
theorem gX7_addFolder_X7_needFolder : GoodIn wsX7_addFolder (wsV RX7 132 RX7 yX7_needFolder wsX7_needFolder) := goodIn_app (goodIn_of _ (by decide +kernel)) ggX7_addFolder_X7_needFolder
set_option maxRecDepth 20000 in
theorem ggX7_addFolder_X7_isName : GoodIn wsX7_addFolder wsX7_isName := goodIn_r _ [23, 24, 25] (by decide +kernel) (by decide +kernel)
set_option maxRecDepth 20000 in
theorem gX7_addFolder_X7_isName : GoodIn wsX7_addFolder (va_wsS RX7 173 yX7_isName wsX7_isName) := goodIn_app (goodIn_of _ (by decide +kernel)) ggX7_addFolder_X7_isName
set_option maxRecDepth 20000 in
theorem ggX7_addFolder_X3_numberOf : GoodIn wsX7_addFolder wsX3_numberOf := goodIn_r _ [29, 20, 30, 156, 157, 158, 159] (by decide +kernel) (by decide +kernel)
set_option maxRecDepth 20000 in
theorem gX7_addFolder_X3_numberOf : GoodIn wsX7_addFolder (wsV RX7 128 RX3 yX3_numberOf wsX3_numberOf) := goodIn_app (goodIn_of _ (by decide +kernel)) ggX7_addFolder_X3_numberOf
set_option maxRecDepth 20000 in
theorem ggX7_addFolder_X3_isFull : GoodIn wsX7_addFolder wsX3_isFull := goodIn_r _ [34, 20, 156, 157, 158, 159] (by decide +kernel) (by decide +kernel)
set_option maxRecDepth 20000 in
theorem gX7_addFolder_X3_isFull : GoodIn wsX7_addFolder (wsV RX7 179 RX3 yX3_isFull wsX3_isFull) := goodIn_app (goodIn_of _ (by decide +kernel)) ggX7_addFolder_X3_isFull
set_option maxRecDepth 20000 in
theorem ggX7_addFolder_X7_remember : GoodIn wsX7_addFolder wsX7_remember := goodIn_r _ [38, 39, 40, 5, 41, 42, 43, 44, 45, 46, 47, 48, 49, 50, 51, 52, 53, 54, 55, 56, 57, 58, 59, 60, 61, 62, 63, 18, 64, 65, 66, 67, 68, 69, 30, 70, 20, 71, 72, 73, 74, 75, 76, 77, 78, 79, 80, 81, 82, 83, 84, 85, 86, 87, 88, 89, 90, 91, 92, 93, 94, 95, 96, 97, 98, 99, 100, 143, 144, 145, 146, 147, 148, 149, 150, 151, 152, 153, 154, 155, 156, 157, 158, 159, 160, 161, 162, 163, 164, 165, 166, 167, 168, 169, 170, 171] (by decide +kernel) (by decide +kernel)
set_option maxRecDepth 20000 in
theorem gX7_addFolder_X7_remember : GoodIn wsX7_addFolder (wsV RX7 64 RX7 yX7_remember wsX7_remember) := goodIn_app (goodIn_of _ (by decide +kernel)) ggX7_addFolder_X7_remember
set_option maxRecDepth 20000 in
theorem ggX7_addFolder_X3_add : GoodIn wsX7_addFolder wsX3_add := goodIn_r _ [104, 65, 20, 30, 70, 105, 32, 33, 18, 34, 156, 157, 158, 159] (by decide +kernel) (by decide +kernel)
set_option maxRecDepth 20000 in
theorem gX7_addFolder_X3_add : GoodIn wsX7_addFolder (wsV RX7 185 RX3 yX3_add wsX3_add) := goodIn_app (goodIn_of _ (by decide +kernel)) ggX7_addFolder_X3_add
set_option maxRecDepth 20000 in
theorem ggX7_addFolder_X6_setClocks : GoodIn wsX7_addFolder wsX6_setClocks := goodIn_r _ [109, 57, 59, 110, 11, 111, 112, 113, 114, 53, 115, 116, 117, 118, 119, 58, 120, 121, 44, 122, 123, 124, 125, 83, 126, 88, 87, 127, 128, 129, 93, 130, 100, 97, 98, 95, 131, 132, 133, 134, 85, 135, 136, 137, 138, 89, 139, 140, 141, 142, 150, 151, 152, 153, 154, 155, 163, 164, 165, 166, 167, 168, 169, 170, 171] (by decide +kernel) (by decide +kernel)
set_option maxRecDepth 20000 in
theorem gX7_addFolder_X6_setClocks : GoodIn wsX7_addFolder (wsV RX7 78 RX6 yX6_setClocks wsX6_setClocks) := goodIn_app (goodIn_of _ (by decide +kernel)) ggX7_addFolder_X6_setClocks
theorem dX7_addFolder_0 : decode cX7_addFolder 0 = .ok (.aload_n 0, 1) := by decide +kernel
theorem dX7_addFolder_1 : decode cX7_addFolder 1 = .ok (.iload_n 1, 1) := by decide +kernel
theorem dX7_addFolder_2 : decode cX7_addFolder 2 = .ok (.invokevirtual 132, 3) := by decide +kernel
theorem dX7_addFolder_5 : decode cX7_addFolder 5 = .ok (.lload_n 2, 1) := by decide +kernel
theorem dX7_addFolder_6 : decode cX7_addFolder 6 = .ok (.invokestatic 173, 3) := by decide +kernel
theorem dX7_addFolder_9 : decode cX7_addFolder 9 = .ok (.ifCond .eq 18, 3) := by decide +kernel
theorem dX7_addFolder_12 : decode cX7_addFolder 12 = .ok (.aload_n 0, 1) := by decide +kernel
theorem dX7_addFolder_13 : decode cX7_addFolder 13 = .ok (.getfield 12, 3) := by decide +kernel
theorem dX7_addFolder_16 : decode cX7_addFolder 16 = .ok (.getfield 93, 3) := by decide +kernel
theorem dX7_addFolder_19 : decode cX7_addFolder 19 = .ok (.lload_n 2, 1) := by decide +kernel
theorem dX7_addFolder_20 : decode cX7_addFolder 20 = .ok (.invokevirtual 128, 3) := by decide +kernel
theorem dX7_addFolder_23 : decode cX7_addFolder 23 = .ok (.iconst (-1), 1) := by decide +kernel
theorem dX7_addFolder_24 : decode cX7_addFolder 24 = .ok (.if_icmp .eq 13, 3) := by decide +kernel
theorem dX7_addFolder_27 : decode cX7_addFolder 27 = .ok (.new 123, 3) := by decide +kernel
theorem dX7_addFolder_30 : decode cX7_addFolder 30 = .ok (.dup, 1) := by decide +kernel
theorem dX7_addFolder_31 : decode cX7_addFolder 31 = .ok (.ldc 177, 2) := by decide +kernel
theorem dX7_addFolder_33 : decode cX7_addFolder 33 = .ok (.invokespecial 127, 3) := by decide +kernel
theorem dX7_addFolder_36 : decode cX7_addFolder 36 = .ok (.athrow, 1) := by decide +kernel
theorem dX7_addFolder_37 : decode cX7_addFolder 37 = .ok (.aload_n 0, 1) := by decide +kernel
theorem dX7_addFolder_38 : decode cX7_addFolder 38 = .ok (.getfield 12, 3) := by decide +kernel
theorem dX7_addFolder_41 : decode cX7_addFolder 41 = .ok (.getfield 93, 3) := by decide +kernel
theorem dX7_addFolder_44 : decode cX7_addFolder 44 = .ok (.invokevirtual 179, 3) := by decide +kernel
theorem dX7_addFolder_47 : decode cX7_addFolder 47 = .ok (.ifCond .eq 13, 3) := by decide +kernel
theorem dX7_addFolder_50 : decode cX7_addFolder 50 = .ok (.new 43, 3) := by decide +kernel
theorem dX7_addFolder_53 : decode cX7_addFolder 53 = .ok (.dup, 1) := by decide +kernel
theorem dX7_addFolder_54 : decode cX7_addFolder 54 = .ok (.ldc 183, 2) := by decide +kernel
theorem dX7_addFolder_56 : decode cX7_addFolder 56 = .ok (.invokespecial 47, 3) := by decide +kernel
theorem dX7_addFolder_59 : decode cX7_addFolder 59 = .ok (.athrow, 1) := by decide +kernel
theorem dX7_addFolder_60 : decode cX7_addFolder 60 = .ok (.aload_n 0, 1) := by decide +kernel
theorem dX7_addFolder_61 : decode cX7_addFolder 61 = .ok (.invokevirtual 64, 3) := by decide +kernel
theorem dX7_addFolder_64 : decode cX7_addFolder 64 = .ok (.aload_n 0, 1) := by decide +kernel
theorem dX7_addFolder_65 : decode cX7_addFolder 65 = .ok (.getfield 12, 3) := by decide +kernel
theorem dX7_addFolder_68 : decode cX7_addFolder 68 = .ok (.getfield 93, 3) := by decide +kernel
theorem dX7_addFolder_71 : decode cX7_addFolder 71 = .ok (.iload_n 1, 1) := by decide +kernel
theorem dX7_addFolder_72 : decode cX7_addFolder 72 = .ok (.lload_n 2, 1) := by decide +kernel
theorem dX7_addFolder_73 : decode cX7_addFolder 73 = .ok (.invokevirtual 185, 3) := by decide +kernel
theorem dX7_addFolder_76 : decode cX7_addFolder 76 = .ok (.aload_n 0, 1) := by decide +kernel
theorem dX7_addFolder_77 : decode cX7_addFolder 77 = .ok (.getfield 12, 3) := by decide +kernel
theorem dX7_addFolder_80 : decode cX7_addFolder 80 = .ok (.invokevirtual 78, 3) := by decide +kernel
theorem dX7_addFolder_83 : decode cX7_addFolder 83 = .ok (.aload_n 0, 1) := by decide +kernel
theorem dX7_addFolder_84 : decode cX7_addFolder 84 = .ok (.getfield 12, 3) := by decide +kernel
theorem dX7_addFolder_87 : decode cX7_addFolder 87 = .ok (.getfield 93, 3) := by decide +kernel
theorem dX7_addFolder_90 : decode cX7_addFolder 90 = .ok (.getfield 97, 3) := by decide +kernel
theorem dX7_addFolder_93 : decode cX7_addFolder 93 = .ok (.iconst 1, 1) := by decide +kernel
theorem dX7_addFolder_94 : decode cX7_addFolder 94 = .ok (.isub, 1) := by decide +kernel
theorem dX7_addFolder_95 : decode cX7_addFolder 95 = .ok (.ireturn, 1) := by decide +kernel
set_option maxRecDepth 20000 in
theorem ggX7_removeFolder_X7_needFolder : GoodIn wsX7_removeFolder wsX7_needFolder := goodIn_ca (goodIn_r _ [11, 12, 13, 3, 4, 14, 15, 16, 17, 18, 19, 141, 142, 143, 144, 145, 146, 147, 148, 149, 150, 151, 152, 153, 154, 155, 156, 157] (by decide +kernel) (by decide +kernel)) (goodIn_sub (fun _ h => List.mem_cons_of_mem _ (List.mem_append_right _ h)) (by decide +kernel))
set_option maxRecDepth 20000 in
theorem gX7_removeFolder_X7_needFolder : GoodIn wsX7_removeFolder (wsV RX7 132 RX7 yX7_needFolder wsX7_needFolder) := goodIn_app (goodIn_of _ (by decide +kernel)) ggX7_removeFolder_X7_needFolder
set_option maxRecDepth 20000 in
theorem ggX7_removeFolder_X3_childrenOf : GoodIn wsX7_removeFolder wsX3_childrenOf := goodIn_r _ [23, 19, 24, 154, 155, 156, 157] (by decide +kernel) (by decide +kernel)
set_option maxRecDepth 20000 in
theorem gX7_removeFolder_X3_childrenOf : GoodIn wsX7_removeFolder (wsV RX7 145 RX3 yX3_childrenOf wsX3_childrenOf) := goodIn_app (goodIn_of _ (by decide +kernel)) ggX7_removeFolder_X3_childrenOf
set_option maxRecDepth 20000 in
theorem ggX7_removeFolder_X2_totalIn : GoodIn wsX7_removeFolder wsX2_totalIn := goodIn_r _ [29, 30, 31, 158, 159, 160] (by decide +kernel) (by decide +kernel)
set_option maxRecDepth 20000 in
theorem gX7_removeFolder_X2_totalIn : GoodIn wsX7_removeFolder (wsV RX7 148 RX2 yX2_totalIn wsX2_totalIn) := goodIn_app (goodIn_of _ (by decide +kernel)) ggX7_removeFolder_X2_totalIn
set_option maxRecDepth 20000 in
theorem ggX7_removeFolder_X7_remember : GoodIn wsX7_removeFolder wsX7_remember := goodIn_r _ [35, 36, 37, 3, 38, 39, 40, 41, 42, 43, 44, 45, 46, 47, 48, 49, 50, 51, 52, 53, 54, 55, 56, 57, 58, 59, 60, 17, 61, 24, 62, 63, 64, 65, 66, 67, 19, 68, 69, 70, 28, 71, 31, 72, 73, 30, 74, 75, 76, 77, 78, 79, 80, 81, 82, 83, 84, 85, 86, 87, 88, 89, 90, 91, 92, 93, 94, 141, 142, 143, 144, 145, 146, 147, 148, 149, 150, 151, 152, 153, 154, 155, 156, 157, 158, 159, 160, 161, 162, 163, 164, 165, 166, 167, 168, 169] (by decide +kernel) (by decide +kernel)
set_option maxRecDepth 20000 in
theorem gX7_removeFolder_X7_remember : GoodIn wsX7_removeFolder (wsV RX7 64 RX7 yX7_remember wsX7_remember) := goodIn_app (goodIn_of _ (by decide +kernel)) ggX7_removeFolder_X7_remember
set_option maxRecDepth 20000 in
theorem ggX7_removeFolder_X3_removeAt : GoodIn wsX7_removeFolder wsX3_removeAt := goodIn_r _ [98, 19, 24, 66, 67, 99, 15, 16, 17, 18, 154, 155, 156, 157] (by decide +kernel) (by decide +kernel)
set_option maxRecDepth 20000 in
theorem gX7_removeFolder_X3_removeAt : GoodIn wsX7_removeFolder (wsV RX7 191 RX3 yX3_removeAt wsX3_removeAt) := goodIn_app (goodIn_of _ (by decide +kernel)) ggX7_removeFolder_X3_removeAt
set_option maxRecDepth 20000 in
theorem ggX7_removeFolder_X2_closeGap : GoodIn wsX7_removeFolder wsX2_closeGap := goodIn_r _ [103, 30, 31, 158, 159, 160] (by decide +kernel) (by decide +kernel)
set_option maxRecDepth 20000 in
theorem gX7_removeFolder_X2_closeGap : GoodIn wsX7_removeFolder (wsV RX7 194 RX2 yX2_closeGap wsX2_closeGap) := goodIn_app (goodIn_of _ (by decide +kernel)) ggX7_removeFolder_X2_closeGap
set_option maxRecDepth 20000 in
theorem ggX7_removeFolder_X6_setClocks : GoodIn wsX7_removeFolder wsX6_setClocks := goodIn_r _ [107, 54, 56, 108, 10, 109, 110, 111, 112, 50, 113, 114, 115, 116, 117, 55, 118, 119, 41, 120, 121, 122, 123, 77, 124, 82, 81, 125, 126, 127, 87, 128, 94, 91, 92, 89, 129, 130, 131, 132, 79, 133, 134, 135, 136, 83, 137, 138, 139, 140, 148, 149, 150, 151, 152, 153, 161, 162, 163, 164, 165, 166, 167, 168, 169] (by decide +kernel) (by decide +kernel)
set_option maxRecDepth 20000 in
theorem gX7_removeFolder_X6_setClocks : GoodIn wsX7_removeFolder (wsV RX7 78 RX6 yX6_setClocks wsX6_setClocks) := goodIn_app (goodIn_of _ (by decide +kernel)) ggX7_removeFolder_X6_setClocks
theorem dX7_removeFolder_0 : decode cX7_removeFolder 0 = .ok (.aload_n 0, 1) := by decide +kernel
theorem dX7_removeFolder_1 : decode cX7_removeFolder 1 = .ok (.iload_n 1, 1) := by decide +kernel
theorem dX7_removeFolder_2 : decode cX7_removeFolder 2 = .ok (.invokevirtual 132, 3) := by decide +kernel
theorem dX7_removeFolder_5 : decode cX7_removeFolder 5 = .ok (.iload_n 1, 1) := by decide +kernel
theorem dX7_removeFolder_6 : decode cX7_removeFolder 6 = .ok (.ifCond .eq 31, 3) := by decide +kernel
theorem dX7_removeFolder_9 : decode cX7_removeFolder 9 = .ok (.aload_n 0, 1) := by decide +kernel
theorem dX7_removeFolder_10 : decode cX7_removeFolder 10 = .ok (.getfield 12, 3) := by decide +kernel
theorem dX7_removeFolder_13 : decode cX7_removeFolder 13 = .ok (.getfield 93, 3) := by decide +kernel
theorem dX7_removeFolder_16 : decode cX7_removeFolder 16 = .ok (.iload_n 1, 1) := by decide +kernel
theorem dX7_removeFolder_17 : decode cX7_removeFolder 17 = .ok (.invokevirtual 145, 3) := by decide +kernel
theorem dX7_removeFolder_20 : decode cX7_removeFolder 20 = .ok (.ifCond .gt 17, 3) := by decide +kernel
theorem dX7_removeFolder_23 : decode cX7_removeFolder 23 = .ok (.aload_n 0, 1) := by decide +kernel
theorem dX7_removeFolder_24 : decode cX7_removeFolder 24 = .ok (.getfield 12, 3) := by decide +kernel
theorem dX7_removeFolder_27 : decode cX7_removeFolder 27 = .ok (.getfield 81, 3) := by decide +kernel
theorem dX7_removeFolder_30 : decode cX7_removeFolder 30 = .ok (.iload_n 1, 1) := by decide +kernel
theorem dX7_removeFolder_31 : decode cX7_removeFolder 31 = .ok (.invokevirtual 148, 3) := by decide +kernel
theorem dX7_removeFolder_34 : decode cX7_removeFolder 34 = .ok (.ifCond .le 13, 3) := by decide +kernel
theorem dX7_removeFolder_37 : decode cX7_removeFolder 37 = .ok (.new 43, 3) := by decide +kernel
theorem dX7_removeFolder_40 : decode cX7_removeFolder 40 = .ok (.dup, 1) := by decide +kernel
theorem dX7_removeFolder_41 : decode cX7_removeFolder 41 = .ok (.ldc 189, 2) := by decide +kernel
theorem dX7_removeFolder_43 : decode cX7_removeFolder 43 = .ok (.invokespecial 47, 3) := by decide +kernel
theorem dX7_removeFolder_46 : decode cX7_removeFolder 46 = .ok (.athrow, 1) := by decide +kernel
theorem dX7_removeFolder_47 : decode cX7_removeFolder 47 = .ok (.aload_n 0, 1) := by decide +kernel
theorem dX7_removeFolder_48 : decode cX7_removeFolder 48 = .ok (.invokevirtual 64, 3) := by decide +kernel
theorem dX7_removeFolder_51 : decode cX7_removeFolder 51 = .ok (.aload_n 0, 1) := by decide +kernel
theorem dX7_removeFolder_52 : decode cX7_removeFolder 52 = .ok (.getfield 12, 3) := by decide +kernel
theorem dX7_removeFolder_55 : decode cX7_removeFolder 55 = .ok (.getfield 93, 3) := by decide +kernel
theorem dX7_removeFolder_58 : decode cX7_removeFolder 58 = .ok (.iload_n 1, 1) := by decide +kernel
theorem dX7_removeFolder_59 : decode cX7_removeFolder 59 = .ok (.invokevirtual 191, 3) := by decide +kernel
theorem dX7_removeFolder_62 : decode cX7_removeFolder 62 = .ok (.aload_n 0, 1) := by decide +kernel
theorem dX7_removeFolder_63 : decode cX7_removeFolder 63 = .ok (.getfield 12, 3) := by decide +kernel
theorem dX7_removeFolder_66 : decode cX7_removeFolder 66 = .ok (.getfield 81, 3) := by decide +kernel
theorem dX7_removeFolder_69 : decode cX7_removeFolder 69 = .ok (.iload_n 1, 1) := by decide +kernel
theorem dX7_removeFolder_70 : decode cX7_removeFolder 70 = .ok (.invokevirtual 194, 3) := by decide +kernel
theorem dX7_removeFolder_73 : decode cX7_removeFolder 73 = .ok (.aload_n 0, 1) := by decide +kernel
theorem dX7_removeFolder_74 : decode cX7_removeFolder 74 = .ok (.getfield 12, 3) := by decide +kernel
theorem dX7_removeFolder_77 : decode cX7_removeFolder 77 = .ok (.invokevirtual 78, 3) := by decide +kernel
theorem dX7_removeFolder_80 : decode cX7_removeFolder 80 = .ok (.aload_n 0, 1) := by decide +kernel
theorem dX7_removeFolder_81 : decode cX7_removeFolder 81 = .ok (.getfield 12, 3) := by decide +kernel
theorem dX7_removeFolder_84 : decode cX7_removeFolder 84 = .ok (.getfield 93, 3) := by decide +kernel
theorem dX7_removeFolder_87 : decode cX7_removeFolder 87 = .ok (.getfield 97, 3) := by decide +kernel
theorem dX7_removeFolder_90 : decode cX7_removeFolder 90 = .ok (.ireturn, 1) := by decide +kernel
set_option maxRecDepth 20000 in
theorem ggX7_tag_X7_tagReason : GoodIn wsX7_tag wsX7_tagReason := goodIn_ca (goodIn_ca (goodIn_r _ [7, 1, 2, 8, 9, 10, 6, 11, 12, 13, 14, 15, 16, 17, 18, 19, 20, 21, 22, 23, 24, 25, 26, 27, 28, 29, 30, 31, 32, 33, 34, 35, 36, 37, 38, 39, 40, 41, 42, 43, 44, 45, 46, 47, 48, 49, 50, 51, 52, 53, 54, 55, 56, 57, 58, 59, 60, 61, 62, 63, 64, 65, 66, 67, 68, 69, 70, 71, 72, 73, 74, 75, 76, 77, 78, 79, 80, 81, 82, 83, 84, 85, 86, 87, 88, 89, 90, 91, 92, 93, 94, 95, 96, 97, 98, 99, 100, 101, 102, 103, 104, 105, 106, 107, 108, 109, 110, 111, 112, 113, 114, 115, 116, 117, 118, 119, 120, 121, 122, 123, 124, 125, 126, 127, 128, 129, 130, 131, 132, 133, 134, 135, 136, 219, 220, 221, 222, 223, 224, 225, 226, 227, 228, 229, 230, 231, 232, 233, 234, 235, 236, 237, 238, 239, 240, 241, 242, 243, 244, 245, 246, 247] (by decide +kernel) (by decide +kernel)) (goodIn_sub (fun _ h => List.mem_cons_of_mem _ (List.mem_append_left _ (List.mem_append_left _ (List.mem_append_right _ h)))) (by decide +kernel))) (goodIn_sub (fun _ h => List.mem_cons_of_mem _ (List.mem_append_left _ (List.mem_append_right _ h))) (by decide +kernel))
set_option maxRecDepth 20000 in
theorem gX7_tag_X7_tagReason : GoodIn wsX7_tag (wsV RX7 203 RX7 yX7_tagReason wsX7_tagReason) := goodIn_app (goodIn_of _ (by decide +kernel)) ggX7_tag_X7_tagReason
set_option maxRecDepth 20000 in
theorem ggX7_tag_X7_needNoReason : GoodIn wsX7_tag wsX7_needNoReason := goodIn_ca (goodIn_r _ [139, 140, 141] (by decide +kernel) (by decide +kernel)) (goodIn_sub (fun _ h => List.mem_cons_of_mem _ (List.mem_append_right _ h)) (by decide +kernel))
set_option maxRecDepth 20000 in
theorem gX7_tag_X7_needNoReason : GoodIn wsX7_tag (va_wsS RX7 206 yX7_needNoReason wsX7_needNoReason) := goodIn_app (goodIn_of _ (by decide +kernel)) ggX7_tag_X7_needNoReason
set_option maxRecDepth 20000 in
theorem ggX7_tag_X7_remember : GoodIn wsX7_tag wsX7_remember := goodIn_r _ [145, 146, 147, 1, 148, 149, 150, 97, 151, 152, 153, 154, 155, 156, 157, 158, 47, 159, 49, 55, 89, 94, 126, 131, 160, 161, 162, 17, 163, 33, 164, 165, 166, 167, 168, 43, 19, 169, 170, 171, 60, 172, 62, 173, 80, 67, 174, 175, 176, 104, 177, 121, 178, 107, 106, 136, 179, 180, 181, 111, 182, 116, 183, 114, 115, 184, 113, 219, 220, 221, 222, 223, 224, 225, 226, 227, 228, 229, 230, 231, 232, 233, 234, 235, 236, 237, 238, 239, 240, 241, 242, 243, 244, 245, 246, 247] (by decide +kernel) (by decide +kernel)
set_option maxRecDepth 20000 in
theorem gX7_tag_X7_remember : GoodIn wsX7_tag (wsV RX7 64 RX7 yX7_remember wsX7_remember) := goodIn_app (goodIn_of _ (by decide +kernel)) ggX7_tag_X7_remember
set_option maxRecDepth 20000 in
theorem ggX7_tag_X3_projectIfTagged : GoodIn wsX7_tag wsX3_projectIfTagged := goodIn_r _ [28, 29, 30, 31, 17, 32, 33, 34, 15, 16, 18, 19, 35, 36, 37, 38, 39, 40, 41, 42, 43, 232, 233, 234, 235] (by decide +kernel) (by decide +kernel)
set_option maxRecDepth 20000 in
theorem gX7_tag_X3_projectIfTagged : GoodIn wsX7_tag (wsV RX7 197 RX3 yX3_projectIfTagged wsX3_projectIfTagged) := goodIn_app (goodIn_of _ (by decide +kernel)) ggX7_tag_X3_projectIfTagged
set_option maxRecDepth 20000 in
theorem ggX7_tag_X6_transferOpenPart : GoodIn wsX7_tag wsX6_transferOpenPart := goodIn_r _ [188, 49, 89, 50, 36, 37, 17, 38, 39, 40, 41, 42, 43, 34, 15, 16, 18, 19, 29, 30, 31, 32, 33, 51, 52, 53, 47, 54, 55, 56, 57, 58, 59, 60, 61, 62, 63, 64, 65, 66, 67, 68, 69, 70, 71, 72, 73, 74, 75, 76, 77, 78, 79, 80, 189, 190, 191, 104, 192, 193, 194, 195, 196, 99, 6, 100, 197, 198, 199, 200, 201, 96, 97, 98, 202, 118, 119, 120, 121, 203, 204, 205, 206, 226, 227, 228, 229, 230, 231, 232, 233, 234, 235, 236, 237, 238, 239, 240, 241, 242] (by decide +kernel) (by decide +kernel)
set_option maxRecDepth 20000 in
theorem gX7_tag_X6_transferOpenPart : GoodIn wsX7_tag (wsV RX7 209 RX6 yX6_transferOpenPart wsX6_transferOpenPart) := goodIn_app (goodIn_of _ (by decide +kernel)) ggX7_tag_X6_transferOpenPart
set_option maxRecDepth 20000 in
theorem ggX7_tag_X3_setTag : GoodIn wsX7_tag wsX3_setTag := goodIn_r _ [210, 43, 34, 15, 16, 17, 18, 19, 232, 233, 234, 235] (by decide +kernel) (by decide +kernel)
set_option maxRecDepth 20000 in
theorem gX7_tag_X3_setTag : GoodIn wsX7_tag (wsV RX7 212 RX3 yX3_setTag wsX3_setTag) := goodIn_app (goodIn_of _ (by decide +kernel)) ggX7_tag_X3_setTag
set_option maxRecDepth 20000 in
theorem ggX7_tag_X6_setClocks : GoodIn wsX7_tag wsX6_setClocks := goodIn_r _ [214, 89, 126, 99, 6, 100, 85, 86, 87, 47, 88, 90, 91, 92, 93, 94, 95, 96, 97, 98, 101, 102, 103, 104, 105, 106, 107, 108, 109, 110, 111, 112, 113, 114, 115, 116, 117, 118, 119, 120, 121, 215, 216, 217, 218, 136, 132, 133, 134, 135, 226, 227, 228, 229, 230, 231, 239, 240, 241, 242, 243, 244, 245, 246, 247] (by decide +kernel) (by decide +kernel)
set_option maxRecDepth 20000 in
theorem gX7_tag_X6_setClocks : GoodIn wsX7_tag (wsV RX7 78 RX6 yX6_setClocks wsX6_setClocks) := goodIn_app (goodIn_of _ (by decide +kernel)) ggX7_tag_X6_setClocks
theorem dX7_tag_0 : decode cX7_tag 0 = .ok (.aload_n 0, 1) := by decide +kernel
theorem dX7_tag_1 : decode cX7_tag 1 = .ok (.iload_n 1, 1) := by decide +kernel
theorem dX7_tag_2 : decode cX7_tag 2 = .ok (.iload_n 2, 1) := by decide +kernel
theorem dX7_tag_3 : decode cX7_tag 3 = .ok (.invokevirtual 203, 3) := by decide +kernel
theorem dX7_tag_6 : decode cX7_tag 6 = .ok (.invokestatic 206, 3) := by decide +kernel
theorem dX7_tag_9 : decode cX7_tag 9 = .ok (.aload_n 0, 1) := by decide +kernel
theorem dX7_tag_10 : decode cX7_tag 10 = .ok (.invokevirtual 64, 3) := by decide +kernel
theorem dX7_tag_13 : decode cX7_tag 13 = .ok (.aload_n 0, 1) := by decide +kernel
theorem dX7_tag_14 : decode cX7_tag 14 = .ok (.getfield 12, 3) := by decide +kernel
theorem dX7_tag_17 : decode cX7_tag 17 = .ok (.iload_n 1, 1) := by decide +kernel
theorem dX7_tag_18 : decode cX7_tag 18 = .ok (.aload_n 0, 1) := by decide +kernel
theorem dX7_tag_19 : decode cX7_tag 19 = .ok (.getfield 12, 3) := by decide +kernel
theorem dX7_tag_22 : decode cX7_tag 22 = .ok (.getfield 93, 3) := by decide +kernel
theorem dX7_tag_25 : decode cX7_tag 25 = .ok (.iload_n 1, 1) := by decide +kernel
theorem dX7_tag_26 : decode cX7_tag 26 = .ok (.iload_n 2, 1) := by decide +kernel
theorem dX7_tag_27 : decode cX7_tag 27 = .ok (.invokevirtual 197, 3) := by decide +kernel
theorem dX7_tag_30 : decode cX7_tag 30 = .ok (.invokevirtual 209, 3) := by decide +kernel
theorem dX7_tag_33 : decode cX7_tag 33 = .ok (.istore_n 3, 1) := by decide +kernel
theorem dX7_tag_34 : decode cX7_tag 34 = .ok (.aload_n 0, 1) := by decide +kernel
theorem dX7_tag_35 : decode cX7_tag 35 = .ok (.getfield 12, 3) := by decide +kernel
theorem dX7_tag_38 : decode cX7_tag 38 = .ok (.getfield 93, 3) := by decide +kernel
theorem dX7_tag_41 : decode cX7_tag 41 = .ok (.iload_n 1, 1) := by decide +kernel
theorem dX7_tag_42 : decode cX7_tag 42 = .ok (.iload_n 2, 1) := by decide +kernel
theorem dX7_tag_43 : decode cX7_tag 43 = .ok (.invokevirtual 212, 3) := by decide +kernel
theorem dX7_tag_46 : decode cX7_tag 46 = .ok (.aload_n 0, 1) := by decide +kernel
theorem dX7_tag_47 : decode cX7_tag 47 = .ok (.getfield 12, 3) := by decide +kernel
theorem dX7_tag_50 : decode cX7_tag 50 = .ok (.invokevirtual 78, 3) := by decide +kernel
theorem dX7_tag_53 : decode cX7_tag 53 = .ok (.iload_n 3, 1) := by decide +kernel
theorem dX7_tag_54 : decode cX7_tag 54 = .ok (.ireturn, 1) := by decide +kernel
set_option maxRecDepth 20000 in
theorem ggX7_moveFolder_X7_moveReason : GoodIn wsX7_moveFolder wsX7_moveReason := goodIn_ca (goodIn_r _ [7, 1, 2, 8, 9, 10, 6, 11, 12, 13, 14, 15, 16, 17, 18, 19, 20, 21, 22, 23, 24, 25, 26, 27, 28, 29, 30, 31, 32, 33, 34, 35, 36, 37, 38, 39, 40, 41, 42, 43, 44, 45, 46, 47, 48, 49, 50, 51, 52, 53, 54, 55, 56, 57, 58, 59, 60, 61, 62, 63, 64, 65, 66, 67, 68, 69, 70, 71, 72, 73, 74, 75, 76, 77, 78, 79, 80, 81, 82, 83, 84, 85, 86, 87, 88, 89, 90, 91, 92, 93, 94, 95, 96, 97, 98, 99, 100, 101, 102, 103, 104, 105, 106, 107, 108, 109, 110, 111, 112, 113, 114, 115, 116, 117, 118, 119, 120, 121, 122, 123, 124, 125, 126, 127, 128, 129, 130, 131, 132, 133, 134, 135, 218, 219, 220, 221, 222, 223, 224, 225, 226, 227, 228, 229, 230, 231, 232, 233, 234, 235, 236, 237, 238, 239, 240, 241, 242, 243, 244, 245, 246] (by decide +kernel) (by decide +kernel)) (goodIn_sub (fun _ h => List.mem_cons_of_mem _ (List.mem_append_left _ (List.mem_append_right _ h))) (by decide +kernel))
set_option maxRecDepth 20000 in
theorem gX7_moveFolder_X7_moveReason : GoodIn wsX7_moveFolder (wsV RX7 223 RX7 yX7_moveReason wsX7_moveReason) := goodIn_app (goodIn_of _ (by decide +kernel)) ggX7_moveFolder_X7_moveReason
set_option maxRecDepth 20000 in
theorem ggX7_moveFolder_X7_needNoReason : GoodIn wsX7_moveFolder wsX7_needNoReason := goodIn_ca (goodIn_r _ [138, 139, 140] (by decide +kernel) (by decide +kernel)) (goodIn_sub (fun _ h => List.mem_cons_of_mem _ (List.mem_append_right _ h)) (by decide +kernel))
set_option maxRecDepth 20000 in
theorem gX7_moveFolder_X7_needNoReason : GoodIn wsX7_moveFolder (va_wsS RX7 206 yX7_needNoReason wsX7_needNoReason) := goodIn_app (goodIn_of _ (by decide +kernel)) ggX7_moveFolder_X7_needNoReason
set_option maxRecDepth 20000 in
theorem ggX7_moveFolder_X7_remember : GoodIn wsX7_moveFolder wsX7_remember := goodIn_r _ [144, 145, 146, 1, 147, 148, 149, 96, 150, 151, 152, 153, 154, 155, 156, 157, 46, 158, 48, 54, 88, 93, 125, 130, 159, 160, 161, 17, 162, 28, 163, 164, 165, 166, 167, 38, 19, 168, 169, 170, 59, 171, 61, 172, 79, 66, 173, 174, 175, 103, 176, 120, 177, 106, 105, 135, 178, 179, 180, 110, 181, 115, 182, 113, 114, 183, 112, 218, 219, 220, 221, 222, 223, 224, 225, 226, 227, 228, 229, 230, 231, 232, 233, 234, 235, 236, 237, 238, 239, 240, 241, 242, 243, 244, 245, 246] (by decide +kernel) (by decide +kernel)
set_option maxRecDepth 20000 in
theorem gX7_moveFolder_X7_remember : GoodIn wsX7_moveFolder (wsV RX7 64 RX7 yX7_remember wsX7_remember) := goodIn_app (goodIn_of _ (by decide +kernel)) ggX7_moveFolder_X7_remember
set_option maxRecDepth 20000 in
theorem ggX7_moveFolder_X3_projectIfMoved : GoodIn wsX7_moveFolder wsX3_projectIfMoved := goodIn_r _ [33, 34, 35, 36, 17, 37, 38, 29, 15, 16, 18, 19, 39, 40, 41, 42, 24, 25, 26, 27, 28, 231, 232, 233, 234] (by decide +kernel) (by decide +kernel)
set_option maxRecDepth 20000 in
theorem gX7_moveFolder_X3_projectIfMoved : GoodIn wsX7_moveFolder (wsV RX7 220 RX3 yX3_projectIfMoved wsX3_projectIfMoved) := goodIn_app (goodIn_of _ (by decide +kernel)) ggX7_moveFolder_X3_projectIfMoved
set_option maxRecDepth 20000 in
theorem ggX7_moveFolder_X6_transferOpenPart : GoodIn wsX7_moveFolder wsX6_transferOpenPart := goodIn_r _ [187, 48, 88, 49, 40, 41, 17, 42, 34, 35, 36, 37, 38, 29, 15, 16, 18, 19, 24, 25, 26, 27, 28, 50, 51, 52, 46, 53, 54, 55, 56, 57, 58, 59, 60, 61, 62, 63, 64, 65, 66, 67, 68, 69, 70, 71, 72, 73, 74, 75, 76, 77, 78, 79, 188, 189, 190, 103, 191, 192, 193, 194, 195, 98, 6, 99, 196, 197, 198, 199, 200, 95, 96, 97, 201, 117, 118, 119, 120, 202, 203, 204, 205, 225, 226, 227, 228, 229, 230, 231, 232, 233, 234, 235, 236, 237, 238, 239, 240, 241] (by decide +kernel) (by decide +kernel)
set_option maxRecDepth 20000 in
theorem gX7_moveFolder_X6_transferOpenPart : GoodIn wsX7_moveFolder (wsV RX7 209 RX6 yX6_transferOpenPart wsX6_transferOpenPart) := goodIn_app (goodIn_of _ (by decide +kernel)) ggX7_moveFolder_X6_transferOpenPart
set_option maxRecDepth 20000 in
theorem ggX7_moveFolder_X3_setParent : GoodIn wsX7_moveFolder wsX3_setParent := goodIn_r _ [209, 28, 29, 15, 16, 17, 18, 19, 231, 232, 233, 234] (by decide +kernel) (by decide +kernel)
set_option maxRecDepth 20000 in
theorem gX7_moveFolder_X3_setParent : GoodIn wsX7_moveFolder (wsV RX7 226 RX3 yX3_setParent wsX3_setParent) := goodIn_app (goodIn_of _ (by decide +kernel)) ggX7_moveFolder_X3_setParent
set_option maxRecDepth 20000 in
theorem ggX7_moveFolder_X6_setClocks : GoodIn wsX7_moveFolder wsX6_setClocks := goodIn_r _ [213, 88, 125, 98, 6, 99, 84, 85, 86, 46, 87, 89, 90, 91, 92, 93, 94, 95, 96, 97, 100, 101, 102, 103, 104, 105, 106, 107, 108, 109, 110, 111, 112, 113, 114, 115, 116, 117, 118, 119, 120, 214, 215, 216, 217, 135, 131, 132, 133, 134, 225, 226, 227, 228, 229, 230, 238, 239, 240, 241, 242, 243, 244, 245, 246] (by decide +kernel) (by decide +kernel)
set_option maxRecDepth 20000 in
theorem gX7_moveFolder_X6_setClocks : GoodIn wsX7_moveFolder (wsV RX7 78 RX6 yX6_setClocks wsX6_setClocks) := goodIn_app (goodIn_of _ (by decide +kernel)) ggX7_moveFolder_X6_setClocks
theorem dX7_moveFolder_0 : decode cX7_moveFolder 0 = .ok (.aload_n 0, 1) := by decide +kernel
theorem dX7_moveFolder_1 : decode cX7_moveFolder 1 = .ok (.iload_n 1, 1) := by decide +kernel
theorem dX7_moveFolder_2 : decode cX7_moveFolder 2 = .ok (.iload_n 2, 1) := by decide +kernel
theorem dX7_moveFolder_3 : decode cX7_moveFolder 3 = .ok (.invokevirtual 223, 3) := by decide +kernel
theorem dX7_moveFolder_6 : decode cX7_moveFolder 6 = .ok (.invokestatic 206, 3) := by decide +kernel
theorem dX7_moveFolder_9 : decode cX7_moveFolder 9 = .ok (.aload_n 0, 1) := by decide +kernel
theorem dX7_moveFolder_10 : decode cX7_moveFolder 10 = .ok (.invokevirtual 64, 3) := by decide +kernel
theorem dX7_moveFolder_13 : decode cX7_moveFolder 13 = .ok (.aload_n 0, 1) := by decide +kernel
theorem dX7_moveFolder_14 : decode cX7_moveFolder 14 = .ok (.getfield 12, 3) := by decide +kernel
theorem dX7_moveFolder_17 : decode cX7_moveFolder 17 = .ok (.iload_n 1, 1) := by decide +kernel
theorem dX7_moveFolder_18 : decode cX7_moveFolder 18 = .ok (.aload_n 0, 1) := by decide +kernel
theorem dX7_moveFolder_19 : decode cX7_moveFolder 19 = .ok (.getfield 12, 3) := by decide +kernel
theorem dX7_moveFolder_22 : decode cX7_moveFolder 22 = .ok (.getfield 93, 3) := by decide +kernel
theorem dX7_moveFolder_25 : decode cX7_moveFolder 25 = .ok (.iload_n 1, 1) := by decide +kernel
theorem dX7_moveFolder_26 : decode cX7_moveFolder 26 = .ok (.iload_n 2, 1) := by decide +kernel
theorem dX7_moveFolder_27 : decode cX7_moveFolder 27 = .ok (.invokevirtual 220, 3) := by decide +kernel
theorem dX7_moveFolder_30 : decode cX7_moveFolder 30 = .ok (.invokevirtual 209, 3) := by decide +kernel
theorem dX7_moveFolder_33 : decode cX7_moveFolder 33 = .ok (.istore_n 3, 1) := by decide +kernel
theorem dX7_moveFolder_34 : decode cX7_moveFolder 34 = .ok (.aload_n 0, 1) := by decide +kernel
theorem dX7_moveFolder_35 : decode cX7_moveFolder 35 = .ok (.getfield 12, 3) := by decide +kernel
theorem dX7_moveFolder_38 : decode cX7_moveFolder 38 = .ok (.getfield 93, 3) := by decide +kernel
theorem dX7_moveFolder_41 : decode cX7_moveFolder 41 = .ok (.iload_n 1, 1) := by decide +kernel
theorem dX7_moveFolder_42 : decode cX7_moveFolder 42 = .ok (.iload_n 2, 1) := by decide +kernel
theorem dX7_moveFolder_43 : decode cX7_moveFolder 43 = .ok (.invokevirtual 226, 3) := by decide +kernel
theorem dX7_moveFolder_46 : decode cX7_moveFolder 46 = .ok (.aload_n 0, 1) := by decide +kernel
theorem dX7_moveFolder_47 : decode cX7_moveFolder 47 = .ok (.getfield 12, 3) := by decide +kernel
theorem dX7_moveFolder_50 : decode cX7_moveFolder 50 = .ok (.invokevirtual 78, 3) := by decide +kernel
theorem dX7_moveFolder_53 : decode cX7_moveFolder 53 = .ok (.iload_n 3, 1) := by decide +kernel
theorem dX7_moveFolder_54 : decode cX7_moveFolder 54 = .ok (.ireturn, 1) := by decide +kernel
set_option maxRecDepth 20000 in
theorem ggX7_write_X7_writeReason : GoodIn wsX7_write wsX7_writeReason := goodIn_ca (goodIn_ca (goodIn_r _ [12, 3, 6, 13, 14, 15, 11, 16, 17, 18, 19, 20, 21, 22, 23, 24, 25, 26, 27, 28, 29, 30, 31, 32, 33, 34, 35, 36, 37, 38, 39, 40, 41, 42, 43, 44, 45, 46, 47, 48, 49, 50, 51, 52, 53, 54, 55, 56, 57, 58, 59, 60, 61, 62, 63, 64, 65, 66, 67, 68, 69, 70, 71, 72, 73, 74, 75, 76, 77, 78, 79, 80, 81, 82, 83, 84, 85, 86, 87, 88, 89, 90, 91, 92, 93, 94, 95, 96, 97, 98, 99, 100, 101, 185, 186, 187, 188, 189, 190, 191, 192, 193, 194, 195, 196, 197, 201, 202, 203, 204, 205, 206, 207, 208, 209, 210, 211, 212, 213] (by decide +kernel) (by decide +kernel)) (goodIn_sub (fun _ h => List.mem_cons_of_mem _ (List.mem_append_left _ (List.mem_append_right _ h))) (by decide +kernel))) (goodIn_sub (fun _ h => List.mem_cons_of_mem _ (List.mem_append_right _ h)) (by decide +kernel))
set_option maxRecDepth 20000 in
theorem gX7_write_X7_writeReason : GoodIn wsX7_write (wsV RX7 247 RX7 yX7_writeReason wsX7_writeReason) := goodIn_app (goodIn_of _ (by decide +kernel)) ggX7_write_X7_writeReason
set_option maxRecDepth 20000 in
theorem ggX7_write_X7_needNoReason : GoodIn wsX7_write wsX7_needNoReason := goodIn_ca (goodIn_r _ [104, 1, 2] (by decide +kernel) (by decide +kernel)) (goodIn_sub (fun _ h => List.mem_cons_of_mem _ (List.mem_append_left _ (List.mem_append_left _ (List.mem_append_right _ h)))) (by decide +kernel))
set_option maxRecDepth 20000 in
theorem gX7_write_X7_needNoReason : GoodIn wsX7_write (va_wsS RX7 206 yX7_needNoReason wsX7_needNoReason) := goodIn_app (goodIn_of _ (by decide +kernel)) ggX7_write_X7_needNoReason
set_option maxRecDepth 20000 in
theorem ggX7_write_X2_isFull : GoodIn wsX7_write wsX2_isFull := goodIn_r _ [109, 110, 198, 199, 200] (by decide +kernel) (by decide +kernel)
set_option maxRecDepth 20000 in
theorem gX7_write_X2_isFull : GoodIn wsX7_write (wsV RX7 250 RX2 yX2_isFull wsX2_isFull) := goodIn_app (goodIn_of _ (by decide +kernel)) ggX7_write_X2_isFull
set_option maxRecDepth 20000 in
theorem ggX7_write_X7_remember : GoodIn wsX7_write wsX7_remember := goodIn_r _ [114, 115, 116, 3, 117, 118, 119, 62, 120, 121, 122, 123, 124, 125, 126, 127, 48, 128, 129, 130, 54, 59, 91, 96, 131, 132, 133, 22, 134, 44, 135, 136, 137, 138, 139, 38, 24, 140, 141, 142, 108, 143, 144, 145, 146, 110, 147, 148, 149, 69, 150, 86, 151, 72, 71, 101, 152, 153, 154, 76, 155, 81, 156, 79, 80, 157, 78, 185, 186, 187, 188, 189, 190, 191, 192, 193, 194, 195, 196, 197, 201, 202, 203, 204, 198, 199, 200, 205, 206, 207, 208, 209, 210, 211, 212, 213] (by decide +kernel) (by decide +kernel)
set_option maxRecDepth 20000 in
theorem gX7_write_X7_remember : GoodIn wsX7_write (wsV RX7 64 RX7 yX7_remember wsX7_remember) := goodIn_app (goodIn_of _ (by decide +kernel)) ggX7_write_X7_remember
set_option maxRecDepth 20000 in
theorem ggX7_write_X2_add : GoodIn wsX7_write wsX2_add := goodIn_r _ [161, 144, 110, 146, 162, 106, 107, 108, 109, 198, 199, 200] (by decide +kernel) (by decide +kernel)
set_option maxRecDepth 20000 in
theorem gX7_write_X2_add : GoodIn wsX7_write (wsV RX7 253 RX2 yX2_add wsX2_add) := goodIn_app (goodIn_of _ (by decide +kernel)) ggX7_write_X2_add
set_option maxRecDepth 20000 in
theorem ggX7_write_X3_projectOf : GoodIn wsX7_write wsX3_projectOf := goodIn_r _ [33, 34, 35, 36, 22, 37, 38, 39, 20, 21, 23, 24, 40, 41, 42, 43, 44, 201, 202, 203, 204] (by decide +kernel) (by decide +kernel)
set_option maxRecDepth 20000 in
theorem gX7_write_X3_projectOf : GoodIn wsX7_write (wsV RX7 142 RX3 yX3_projectOf wsX3_projectOf) := goodIn_app (goodIn_of _ (by decide +kernel)) ggX7_write_X3_projectOf
set_option maxRecDepth 20000 in
theorem ggX7_write_X0_change : GoodIn wsX7_write wsX0_change := goodIn_r _ [166, 64, 11, 65, 167, 168, 169, 69, 170, 171, 61, 62, 63, 172, 83, 84, 85, 86, 173, 174, 175, 176, 205, 206, 207, 208] (by decide +kernel) (by decide +kernel)
set_option maxRecDepth 20000 in
theorem gX7_write_X0_change : GoodIn wsX7_write (wsV RX7 259 RX0 yX0_change wsX0_change) := goodIn_app (goodIn_of _ (by decide +kernel)) ggX7_write_X0_change
set_option maxRecDepth 20000 in
theorem ggX7_write_X6_setClocks : GoodIn wsX7_write wsX6_setClocks := goodIn_r _ [180, 54, 91, 64, 11, 65, 50, 51, 52, 48, 53, 55, 56, 57, 58, 59, 60, 61, 62, 63, 66, 67, 68, 69, 70, 71, 72, 73, 74, 75, 76, 77, 78, 79, 80, 81, 82, 83, 84, 85, 86, 181, 182, 183, 184, 101, 97, 98, 99, 100, 192, 193, 194, 195, 196, 197, 205, 206, 207, 208, 209, 210, 211, 212, 213] (by decide +kernel) (by decide +kernel)
set_option maxRecDepth 20000 in
theorem gX7_write_X6_setClocks : GoodIn wsX7_write (wsV RX7 78 RX6 yX6_setClocks wsX6_setClocks) := goodIn_app (goodIn_of _ (by decide +kernel)) ggX7_write_X6_setClocks
theorem dX7_write_0 : decode cX7_write 0 = .ok (.aload_n 0, 1) := by decide +kernel
theorem dX7_write_1 : decode cX7_write 1 = .ok (.iload_n 1, 1) := by decide +kernel
theorem dX7_write_2 : decode cX7_write 2 = .ok (.iload_n 2, 1) := by decide +kernel
theorem dX7_write_3 : decode cX7_write 3 = .ok (.invokevirtual 247, 3) := by decide +kernel
theorem dX7_write_6 : decode cX7_write 6 = .ok (.invokestatic 206, 3) := by decide +kernel
theorem dX7_write_9 : decode cX7_write 9 = .ok (.aload_n 0, 1) := by decide +kernel
theorem dX7_write_10 : decode cX7_write 10 = .ok (.getfield 12, 3) := by decide +kernel
theorem dX7_write_13 : decode cX7_write 13 = .ok (.getfield 81, 3) := by decide +kernel
theorem dX7_write_16 : decode cX7_write 16 = .ok (.invokevirtual 250, 3) := by decide +kernel
theorem dX7_write_19 : decode cX7_write 19 = .ok (.ifCond .eq 13, 3) := by decide +kernel
theorem dX7_write_22 : decode cX7_write 22 = .ok (.new 43, 3) := by decide +kernel
theorem dX7_write_25 : decode cX7_write 25 = .ok (.dup, 1) := by decide +kernel
theorem dX7_write_26 : decode cX7_write 26 = .ok (.ldc 251, 2) := by decide +kernel
theorem dX7_write_28 : decode cX7_write 28 = .ok (.invokespecial 47, 3) := by decide +kernel
theorem dX7_write_31 : decode cX7_write 31 = .ok (.athrow, 1) := by decide +kernel
theorem dX7_write_32 : decode cX7_write 32 = .ok (.aload_n 0, 1) := by decide +kernel
theorem dX7_write_33 : decode cX7_write 33 = .ok (.invokevirtual 64, 3) := by decide +kernel
theorem dX7_write_36 : decode cX7_write 36 = .ok (.aload_n 0, 1) := by decide +kernel
theorem dX7_write_37 : decode cX7_write 37 = .ok (.getfield 12, 3) := by decide +kernel
theorem dX7_write_40 : decode cX7_write 40 = .ok (.getfield 81, 3) := by decide +kernel
theorem dX7_write_43 : decode cX7_write 43 = .ok (.iload_n 1, 1) := by decide +kernel
theorem dX7_write_44 : decode cX7_write 44 = .ok (.iload_n 2, 1) := by decide +kernel
theorem dX7_write_45 : decode cX7_write 45 = .ok (.invokevirtual 253, 3) := by decide +kernel
theorem dX7_write_48 : decode cX7_write 48 = .ok (.aload_n 0, 1) := by decide +kernel
theorem dX7_write_49 : decode cX7_write 49 = .ok (.getfield 12, 3) := by decide +kernel
theorem dX7_write_52 : decode cX7_write 52 = .ok (.getfield 255, 3) := by decide +kernel
theorem dX7_write_55 : decode cX7_write 55 = .ok (.aload_n 0, 1) := by decide +kernel
theorem dX7_write_56 : decode cX7_write 56 = .ok (.getfield 12, 3) := by decide +kernel
theorem dX7_write_59 : decode cX7_write 59 = .ok (.getfield 93, 3) := by decide +kernel
theorem dX7_write_62 : decode cX7_write 62 = .ok (.iload_n 1, 1) := by decide +kernel
theorem dX7_write_63 : decode cX7_write 63 = .ok (.invokevirtual 142, 3) := by decide +kernel
theorem dX7_write_66 : decode cX7_write 66 = .ok (.iload_n 2, 1) := by decide +kernel
theorem dX7_write_67 : decode cX7_write 67 = .ok (.iconst 1, 1) := by decide +kernel
theorem dX7_write_68 : decode cX7_write 68 = .ok (.invokevirtual 259, 3) := by decide +kernel
theorem dX7_write_71 : decode cX7_write 71 = .ok (.aload_n 0, 1) := by decide +kernel
theorem dX7_write_72 : decode cX7_write 72 = .ok (.getfield 12, 3) := by decide +kernel
theorem dX7_write_75 : decode cX7_write 75 = .ok (.invokevirtual 78, 3) := by decide +kernel
theorem dX7_write_78 : decode cX7_write 78 = .ok (.aload_n 0, 1) := by decide +kernel
theorem dX7_write_79 : decode cX7_write 79 = .ok (.getfield 12, 3) := by decide +kernel
theorem dX7_write_82 : decode cX7_write 82 = .ok (.getfield 81, 3) := by decide +kernel
theorem dX7_write_85 : decode cX7_write 85 = .ok (.getfield 85, 3) := by decide +kernel
theorem dX7_write_88 : decode cX7_write 88 = .ok (.iconst 1, 1) := by decide +kernel
theorem dX7_write_89 : decode cX7_write 89 = .ok (.isub, 1) := by decide +kernel
theorem dX7_write_90 : decode cX7_write 90 = .ok (.ireturn, 1) := by decide +kernel
set_option maxRecDepth 20000 in
theorem ggX7_resize_X7_needFile : GoodIn wsX7_resize wsX7_needFile := goodIn_ca (goodIn_r _ [8, 9, 10, 1, 2, 11, 12, 13, 14, 15, 16, 190, 191, 192, 193, 194, 195, 196, 197, 198, 199, 200, 201, 202, 203, 204, 205] (by decide +kernel) (by decide +kernel)) (goodIn_sub (fun _ h => List.mem_cons_of_mem _ (List.mem_append_left _ (List.mem_append_left _ (List.mem_append_right _ h)))) (by decide +kernel))
set_option maxRecDepth 20000 in
theorem gX7_resize_X7_needFile : GoodIn wsX7_resize (wsV RX7 229 RX7 yX7_needFile wsX7_needFile) := goodIn_app (goodIn_of _ (by decide +kernel)) ggX7_resize_X7_needFile
set_option maxRecDepth 20000 in
theorem ggX7_resize_X7_needRange : GoodIn wsX7_resize wsX7_needRange := goodIn_ca (goodIn_r _ [19, 20, 21] (by decide +kernel) (by decide +kernel)) (goodIn_sub (fun _ h => List.mem_cons_of_mem _ (List.mem_append_left _ (List.mem_append_right _ h))) (by decide +kernel))
set_option maxRecDepth 20000 in
theorem gX7_resize_X7_needRange : GoodIn wsX7_resize (va_wsS RX7 54 yX7_needRange wsX7_needRange) := goodIn_app (goodIn_of _ (by decide +kernel)) ggX7_resize_X7_needRange
set_option maxRecDepth 20000 in
theorem ggX7_resize_X6_projectOfFile : GoodIn wsX7_resize wsX6_projectOfFile := goodIn_r _ [26, 27, 28, 29, 30, 31, 14, 32, 33, 34, 12, 13, 15, 16, 35, 36, 37, 38, 39, 40, 41, 42, 43, 44, 45, 46, 47, 48, 49, 50, 51, 52, 53, 54, 197, 198, 199, 200, 201, 202, 203, 204, 205, 206, 207, 208, 209] (by decide +kernel) (by decide +kernel)
set_option maxRecDepth 20000 in
theorem gX7_resize_X6_projectOfFile : GoodIn wsX7_resize (wsV RX7 238 RX6 yX6_projectOfFile wsX6_projectOfFile) := goodIn_app (goodIn_of _ (by decide +kernel)) ggX7_resize_X6_projectOfFile
set_option maxRecDepth 20000 in
theorem ggX7_resize_X2_sizeOf : GoodIn wsX7_resize wsX2_sizeOf := goodIn_r _ [58, 59, 34, 12, 13, 14, 15, 16, 203, 204, 205] (by decide +kernel) (by decide +kernel)
set_option maxRecDepth 20000 in
theorem gX7_resize_X2_sizeOf : GoodIn wsX7_resize (wsV RX7 235 RX2 yX2_sizeOf wsX2_sizeOf) := goodIn_app (goodIn_of _ (by decide +kernel)) ggX7_resize_X2_sizeOf
set_option maxRecDepth 20000 in
theorem ggX7_resize_X6_growthReason : GoodIn wsX7_resize wsX6_growthReason := goodIn_r _ [63, 64, 65, 66, 25, 67, 68, 69, 70, 71, 72, 73, 74, 75, 76, 77, 78, 7, 79, 80, 81, 82, 83, 84, 85, 86, 87, 88, 89, 90, 91, 92, 93, 94, 95, 96, 97, 98, 99, 100, 101, 102, 103, 104, 105, 106, 107, 108, 109, 110, 111, 112, 113, 114, 115, 197, 198, 199, 200, 201, 202, 210, 211, 212, 213, 214, 215, 216, 217, 218] (by decide +kernel) (by decide +kernel)
set_option maxRecDepth 20000 in
theorem gX7_resize_X6_growthReason : GoodIn wsX7_resize (wsV RX7 243 RX6 yX6_growthReason wsX6_growthReason) := goodIn_app (goodIn_of _ (by decide +kernel)) ggX7_resize_X6_growthReason
set_option maxRecDepth 20000 in
theorem ggX7_resize_X7_needNoReason : GoodIn wsX7_resize wsX7_needNoReason := goodIn_ca (goodIn_r _ [118, 119, 120] (by decide +kernel) (by decide +kernel)) (goodIn_sub (fun _ h => List.mem_cons_of_mem _ (List.mem_append_right _ h)) (by decide +kernel))
set_option maxRecDepth 20000 in
theorem gX7_resize_X7_needNoReason : GoodIn wsX7_resize (va_wsS RX7 206 yX7_needNoReason wsX7_needNoReason) := goodIn_app (goodIn_of _ (by decide +kernel)) ggX7_resize_X7_needNoReason
set_option maxRecDepth 20000 in
theorem ggX7_resize_X7_remember : GoodIn wsX7_resize wsX7_remember := goodIn_r _ [124, 125, 126, 1, 127, 128, 129, 76, 130, 131, 132, 133, 134, 135, 136, 137, 25, 138, 27, 28, 68, 73, 105, 110, 139, 140, 141, 38, 142, 54, 143, 144, 145, 146, 147, 44, 49, 148, 149, 150, 14, 151, 33, 152, 59, 16, 153, 154, 155, 83, 156, 100, 157, 86, 85, 115, 158, 159, 160, 90, 161, 95, 162, 93, 94, 163, 92, 190, 191, 192, 193, 194, 195, 196, 197, 198, 199, 200, 201, 202, 206, 207, 208, 209, 203, 204, 205, 210, 211, 212, 213, 214, 215, 216, 217, 218] (by decide +kernel) (by decide +kernel)
set_option maxRecDepth 20000 in
theorem gX7_resize_X7_remember : GoodIn wsX7_resize (wsV RX7 64 RX7 yX7_remember wsX7_remember) := goodIn_app (goodIn_of _ (by decide +kernel)) ggX7_resize_X7_remember
set_option maxRecDepth 20000 in
theorem ggX7_resize_X2_setSize : GoodIn wsX7_resize wsX2_setSize := goodIn_r _ [167, 59, 34, 12, 13, 14, 15, 16, 203, 204, 205] (by decide +kernel) (by decide +kernel)
set_option maxRecDepth 20000 in
theorem gX7_resize_X2_setSize : GoodIn wsX7_resize (wsV RX7 267 RX2 yX2_setSize wsX2_setSize) := goodIn_app (goodIn_of _ (by decide +kernel)) ggX7_resize_X2_setSize
set_option maxRecDepth 20000 in
theorem ggX7_resize_X0_change : GoodIn wsX7_resize wsX0_change := goodIn_r _ [171, 78, 7, 79, 172, 173, 174, 83, 175, 176, 75, 76, 77, 177, 97, 98, 99, 100, 178, 179, 180, 181, 210, 211, 212, 213] (by decide +kernel) (by decide +kernel)
set_option maxRecDepth 20000 in
theorem gX7_resize_X0_change : GoodIn wsX7_resize (wsV RX7 259 RX0 yX0_change wsX0_change) := goodIn_app (goodIn_of _ (by decide +kernel)) ggX7_resize_X0_change
set_option maxRecDepth 20000 in
theorem ggX7_resize_X6_setClocks : GoodIn wsX7_resize wsX6_setClocks := goodIn_r _ [185, 68, 105, 78, 7, 79, 64, 65, 66, 25, 67, 69, 70, 71, 72, 73, 74, 75, 76, 77, 80, 81, 82, 83, 84, 85, 86, 87, 88, 89, 90, 91, 92, 93, 94, 95, 96, 97, 98, 99, 100, 186, 187, 188, 189, 115, 111, 112, 113, 114, 197, 198, 199, 200, 201, 202, 210, 211, 212, 213, 214, 215, 216, 217, 218] (by decide +kernel) (by decide +kernel)
set_option maxRecDepth 20000 in
theorem gX7_resize_X6_setClocks : GoodIn wsX7_resize (wsV RX7 78 RX6 yX6_setClocks wsX6_setClocks) := goodIn_app (goodIn_of _ (by decide +kernel)) ggX7_resize_X6_setClocks
theorem dX7_resize_0 : decode cX7_resize 0 = .ok (.aload_n 0, 1) := by decide +kernel
theorem dX7_resize_1 : decode cX7_resize 1 = .ok (.iload_n 1, 1) := by decide +kernel
theorem dX7_resize_2 : decode cX7_resize 2 = .ok (.invokevirtual 229, 3) := by decide +kernel
theorem dX7_resize_5 : decode cX7_resize 5 = .ok (.iload_n 2, 1) := by decide +kernel
theorem dX7_resize_6 : decode cX7_resize 6 = .ok (.iconst 0, 1) := by decide +kernel
theorem dX7_resize_7 : decode cX7_resize 7 = .ok (.sipush 9999, 3) := by decide +kernel
theorem dX7_resize_10 : decode cX7_resize 10 = .ok (.invokestatic 54, 3) := by decide +kernel
theorem dX7_resize_13 : decode cX7_resize 13 = .ok (.aload_n 0, 1) := by decide +kernel
theorem dX7_resize_14 : decode cX7_resize 14 = .ok (.getfield 12, 3) := by decide +kernel
theorem dX7_resize_17 : decode cX7_resize 17 = .ok (.iload_n 1, 1) := by decide +kernel
theorem dX7_resize_18 : decode cX7_resize 18 = .ok (.invokevirtual 238, 3) := by decide +kernel
theorem dX7_resize_21 : decode cX7_resize 21 = .ok (.istore_n 3, 1) := by decide +kernel
theorem dX7_resize_22 : decode cX7_resize 22 = .ok (.aload_n 0, 1) := by decide +kernel
theorem dX7_resize_23 : decode cX7_resize 23 = .ok (.getfield 12, 3) := by decide +kernel
theorem dX7_resize_26 : decode cX7_resize 26 = .ok (.getfield 81, 3) := by decide +kernel
theorem dX7_resize_29 : decode cX7_resize 29 = .ok (.iload_n 1, 1) := by decide +kernel
theorem dX7_resize_30 : decode cX7_resize 30 = .ok (.invokevirtual 235, 3) := by decide +kernel
theorem dX7_resize_33 : decode cX7_resize 33 = .ok (.istore 4, 2) := by decide +kernel
theorem dX7_resize_35 : decode cX7_resize 35 = .ok (.aload_n 0, 1) := by decide +kernel
theorem dX7_resize_36 : decode cX7_resize 36 = .ok (.getfield 12, 3) := by decide +kernel
theorem dX7_resize_39 : decode cX7_resize 39 = .ok (.iload_n 3, 1) := by decide +kernel
theorem dX7_resize_40 : decode cX7_resize 40 = .ok (.iload_n 2, 1) := by decide +kernel
theorem dX7_resize_41 : decode cX7_resize 41 = .ok (.iload 4, 2) := by decide +kernel
theorem dX7_resize_43 : decode cX7_resize 43 = .ok (.isub, 1) := by decide +kernel
theorem dX7_resize_44 : decode cX7_resize 44 = .ok (.iconst 0, 1) := by decide +kernel
theorem dX7_resize_45 : decode cX7_resize 45 = .ok (.invokevirtual 243, 3) := by decide +kernel
theorem dX7_resize_48 : decode cX7_resize 48 = .ok (.invokestatic 206, 3) := by decide +kernel
theorem dX7_resize_51 : decode cX7_resize 51 = .ok (.aload_n 0, 1) := by decide +kernel
theorem dX7_resize_52 : decode cX7_resize 52 = .ok (.invokevirtual 64, 3) := by decide +kernel
theorem dX7_resize_55 : decode cX7_resize 55 = .ok (.aload_n 0, 1) := by decide +kernel
theorem dX7_resize_56 : decode cX7_resize 56 = .ok (.getfield 12, 3) := by decide +kernel
theorem dX7_resize_59 : decode cX7_resize 59 = .ok (.getfield 81, 3) := by decide +kernel
theorem dX7_resize_62 : decode cX7_resize 62 = .ok (.iload_n 1, 1) := by decide +kernel
theorem dX7_resize_63 : decode cX7_resize 63 = .ok (.iload_n 2, 1) := by decide +kernel
theorem dX7_resize_64 : decode cX7_resize 64 = .ok (.invokevirtual 267, 3) := by decide +kernel
theorem dX7_resize_67 : decode cX7_resize 67 = .ok (.aload_n 0, 1) := by decide +kernel
theorem dX7_resize_68 : decode cX7_resize 68 = .ok (.getfield 12, 3) := by decide +kernel
theorem dX7_resize_71 : decode cX7_resize 71 = .ok (.getfield 255, 3) := by decide +kernel
theorem dX7_resize_74 : decode cX7_resize 74 = .ok (.iload_n 3, 1) := by decide +kernel
theorem dX7_resize_75 : decode cX7_resize 75 = .ok (.iload_n 2, 1) := by decide +kernel
theorem dX7_resize_76 : decode cX7_resize 76 = .ok (.iload 4, 2) := by decide +kernel
theorem dX7_resize_78 : decode cX7_resize 78 = .ok (.isub, 1) := by decide +kernel
theorem dX7_resize_79 : decode cX7_resize 79 = .ok (.iconst 0, 1) := by decide +kernel
theorem dX7_resize_80 : decode cX7_resize 80 = .ok (.invokevirtual 259, 3) := by decide +kernel
theorem dX7_resize_83 : decode cX7_resize 83 = .ok (.aload_n 0, 1) := by decide +kernel
theorem dX7_resize_84 : decode cX7_resize 84 = .ok (.getfield 12, 3) := by decide +kernel
theorem dX7_resize_87 : decode cX7_resize 87 = .ok (.invokevirtual 78, 3) := by decide +kernel
theorem dX7_resize_90 : decode cX7_resize 90 = .ok (.iload 4, 2) := by decide +kernel
theorem dX7_resize_92 : decode cX7_resize 92 = .ok (.ireturn, 1) := by decide +kernel
set_option maxRecDepth 20000 in
theorem ggX7_delete_X7_needFile : GoodIn wsX7_delete wsX7_needFile := goodIn_ca (goodIn_r _ [9, 10, 11, 1, 3, 12, 13, 14, 15, 16, 17, 169, 170, 171, 172, 173, 174, 175, 176, 177, 178, 179, 180, 181, 182, 183, 184] (by decide +kernel) (by decide +kernel)) (goodIn_sub (fun _ h => List.mem_cons_of_mem _ (List.mem_append_right _ h)) (by decide +kernel))
set_option maxRecDepth 20000 in
theorem gX7_delete_X7_needFile : GoodIn wsX7_delete (wsV RX7 229 RX7 yX7_needFile wsX7_needFile) := goodIn_app (goodIn_of _ (by decide +kernel)) ggX7_delete_X7_needFile
set_option maxRecDepth 20000 in
theorem ggX7_delete_X7_remember : GoodIn wsX7_delete wsX7_remember := goodIn_r _ [21, 22, 23, 1, 24, 25, 26, 27, 28, 29, 30, 31, 32, 33, 34, 35, 36, 37, 38, 39, 40, 41, 42, 43, 44, 45, 46, 47, 48, 49, 50, 51, 52, 53, 54, 55, 56, 57, 58, 59, 15, 60, 61, 62, 63, 17, 64, 65, 66, 67, 68, 69, 70, 71, 72, 73, 74, 75, 76, 77, 78, 79, 80, 81, 82, 83, 84, 169, 170, 171, 172, 173, 174, 175, 176, 177, 178, 179, 180, 181, 185, 186, 187, 188, 182, 183, 184, 189, 190, 191, 192, 193, 194, 195, 196, 197] (by decide +kernel) (by decide +kernel)
set_option maxRecDepth 20000 in
theorem gX7_delete_X7_remember : GoodIn wsX7_delete (wsV RX7 64 RX7 yX7_remember wsX7_remember) := goodIn_app (goodIn_of _ (by decide +kernel)) ggX7_delete_X7_remember
set_option maxRecDepth 20000 in
theorem ggX7_delete_X6_projectOfFile : GoodIn wsX7_delete wsX6_projectOfFile := goodIn_r _ [88, 38, 39, 89, 90, 91, 15, 92, 61, 93, 13, 14, 16, 17, 94, 95, 96, 47, 97, 98, 99, 100, 101, 55, 102, 103, 104, 105, 56, 106, 107, 108, 109, 49, 176, 177, 178, 179, 180, 181, 182, 183, 184, 185, 186, 187, 188] (by decide +kernel) (by decide +kernel)
set_option maxRecDepth 20000 in
theorem gX7_delete_X6_projectOfFile : GoodIn wsX7_delete (wsV RX7 238 RX6 yX6_projectOfFile wsX6_projectOfFile) := goodIn_app (goodIn_of _ (by decide +kernel)) ggX7_delete_X6_projectOfFile
set_option maxRecDepth 20000 in
theorem ggX7_delete_X2_sizeOf : GoodIn wsX7_delete wsX2_sizeOf := goodIn_r _ [113, 63, 93, 13, 14, 15, 16, 17, 182, 183, 184] (by decide +kernel) (by decide +kernel)
set_option maxRecDepth 20000 in
theorem gX7_delete_X2_sizeOf : GoodIn wsX7_delete (wsV RX7 235 RX2 yX2_sizeOf wsX2_sizeOf) := goodIn_app (goodIn_of _ (by decide +kernel)) ggX7_delete_X2_sizeOf
set_option maxRecDepth 20000 in
theorem ggX7_delete_X0_change : GoodIn wsX7_delete wsX0_change := goodIn_r _ [117, 118, 8, 119, 120, 121, 122, 67, 123, 124, 125, 27, 126, 127, 128, 129, 130, 69, 131, 132, 133, 134, 189, 190, 191, 192] (by decide +kernel) (by decide +kernel)
set_option maxRecDepth 20000 in
theorem gX7_delete_X0_change : GoodIn wsX7_delete (wsV RX7 259 RX0 yX0_change wsX0_change) := goodIn_app (goodIn_of _ (by decide +kernel)) ggX7_delete_X0_change
set_option maxRecDepth 20000 in
theorem ggX7_delete_X2_removeAt : GoodIn wsX7_delete wsX2_removeAt := goodIn_r _ [138, 17, 61, 63, 93, 13, 14, 15, 16, 182, 183, 184] (by decide +kernel) (by decide +kernel)
set_option maxRecDepth 20000 in
theorem gX7_delete_X2_removeAt : GoodIn wsX7_delete (wsV RX7 270 RX2 yX2_removeAt wsX2_removeAt) := goodIn_app (goodIn_of _ (by decide +kernel)) ggX7_delete_X2_removeAt
set_option maxRecDepth 20000 in
theorem ggX7_delete_X6_setClocks : GoodIn wsX7_delete wsX6_setClocks := goodIn_r _ [142, 40, 42, 118, 8, 119, 143, 144, 145, 36, 146, 147, 148, 149, 150, 41, 151, 125, 27, 126, 152, 153, 154, 67, 155, 72, 71, 156, 157, 158, 77, 159, 84, 81, 82, 79, 160, 128, 129, 130, 69, 161, 162, 163, 164, 73, 165, 166, 167, 168, 176, 177, 178, 179, 180, 181, 189, 190, 191, 192, 193, 194, 195, 196, 197] (by decide +kernel) (by decide +kernel)
set_option maxRecDepth 20000 in
theorem gX7_delete_X6_setClocks : GoodIn wsX7_delete (wsV RX7 78 RX6 yX6_setClocks wsX6_setClocks) := goodIn_app (goodIn_of _ (by decide +kernel)) ggX7_delete_X6_setClocks
theorem dX7_delete_0 : decode cX7_delete 0 = .ok (.aload_n 0, 1) := by decide +kernel
theorem dX7_delete_1 : decode cX7_delete 1 = .ok (.iload_n 1, 1) := by decide +kernel
theorem dX7_delete_2 : decode cX7_delete 2 = .ok (.invokevirtual 229, 3) := by decide +kernel
theorem dX7_delete_5 : decode cX7_delete 5 = .ok (.aload_n 0, 1) := by decide +kernel
theorem dX7_delete_6 : decode cX7_delete 6 = .ok (.invokevirtual 64, 3) := by decide +kernel
theorem dX7_delete_9 : decode cX7_delete 9 = .ok (.aload_n 0, 1) := by decide +kernel
theorem dX7_delete_10 : decode cX7_delete 10 = .ok (.getfield 12, 3) := by decide +kernel
theorem dX7_delete_13 : decode cX7_delete 13 = .ok (.getfield 255, 3) := by decide +kernel
theorem dX7_delete_16 : decode cX7_delete 16 = .ok (.aload_n 0, 1) := by decide +kernel
theorem dX7_delete_17 : decode cX7_delete 17 = .ok (.getfield 12, 3) := by decide +kernel
theorem dX7_delete_20 : decode cX7_delete 20 = .ok (.iload_n 1, 1) := by decide +kernel
theorem dX7_delete_21 : decode cX7_delete 21 = .ok (.invokevirtual 238, 3) := by decide +kernel
theorem dX7_delete_24 : decode cX7_delete 24 = .ok (.aload_n 0, 1) := by decide +kernel
theorem dX7_delete_25 : decode cX7_delete 25 = .ok (.getfield 12, 3) := by decide +kernel
theorem dX7_delete_28 : decode cX7_delete 28 = .ok (.getfield 81, 3) := by decide +kernel
theorem dX7_delete_31 : decode cX7_delete 31 = .ok (.iload_n 1, 1) := by decide +kernel
theorem dX7_delete_32 : decode cX7_delete 32 = .ok (.invokevirtual 235, 3) := by decide +kernel
theorem dX7_delete_35 : decode cX7_delete 35 = .ok (.ineg, 1) := by decide +kernel
theorem dX7_delete_36 : decode cX7_delete 36 = .ok (.iconst (-1), 1) := by decide +kernel
theorem dX7_delete_37 : decode cX7_delete 37 = .ok (.invokevirtual 259, 3) := by decide +kernel
theorem dX7_delete_40 : decode cX7_delete 40 = .ok (.aload_n 0, 1) := by decide +kernel
theorem dX7_delete_41 : decode cX7_delete 41 = .ok (.getfield 12, 3) := by decide +kernel
theorem dX7_delete_44 : decode cX7_delete 44 = .ok (.getfield 81, 3) := by decide +kernel
theorem dX7_delete_47 : decode cX7_delete 47 = .ok (.iload_n 1, 1) := by decide +kernel
theorem dX7_delete_48 : decode cX7_delete 48 = .ok (.invokevirtual 270, 3) := by decide +kernel
theorem dX7_delete_51 : decode cX7_delete 51 = .ok (.aload_n 0, 1) := by decide +kernel
theorem dX7_delete_52 : decode cX7_delete 52 = .ok (.getfield 12, 3) := by decide +kernel
theorem dX7_delete_55 : decode cX7_delete 55 = .ok (.invokevirtual 78, 3) := by decide +kernel
theorem dX7_delete_58 : decode cX7_delete 58 = .ok (.aload_n 0, 1) := by decide +kernel
theorem dX7_delete_59 : decode cX7_delete 59 = .ok (.getfield 12, 3) := by decide +kernel
theorem dX7_delete_62 : decode cX7_delete 62 = .ok (.getfield 81, 3) := by decide +kernel
theorem dX7_delete_65 : decode cX7_delete 65 = .ok (.getfield 85, 3) := by decide +kernel
theorem dX7_delete_68 : decode cX7_delete 68 = .ok (.ireturn, 1) := by decide +kernel
set_option maxRecDepth 20000 in
theorem ggX7_moveFile_X7_needFile : GoodIn wsX7_moveFile wsX7_needFile := goodIn_ca (goodIn_r _ [9, 10, 11, 1, 3, 12, 13, 14, 15, 16, 17, 196, 197, 198, 199, 200, 201, 202, 203, 204, 205, 206, 207, 208, 209, 210, 211] (by decide +kernel) (by decide +kernel)) (goodIn_sub (fun _ h => List.mem_cons_of_mem _ (List.mem_append_left _ (List.mem_append_right _ h))) (by decide +kernel))
set_option maxRecDepth 20000 in
theorem gX7_moveFile_X7_needFile : GoodIn wsX7_moveFile (wsV RX7 229 RX7 yX7_needFile wsX7_needFile) := goodIn_app (goodIn_of _ (by decide +kernel)) ggX7_moveFile_X7_needFile
set_option maxRecDepth 20000 in
theorem ggX7_moveFile_X7_needFolder : GoodIn wsX7_moveFile wsX7_needFolder := goodIn_ca (goodIn_r _ [21, 10, 11, 1, 2, 22, 23, 24, 25, 26, 27, 196, 197, 198, 199, 200, 201, 202, 203, 204, 205, 206, 207, 208, 212, 213, 214, 215] (by decide +kernel) (by decide +kernel)) (goodIn_sub (fun _ h => List.mem_cons_of_mem _ (List.mem_append_left _ (List.mem_append_right _ h))) (by decide +kernel))
set_option maxRecDepth 20000 in
theorem gX7_moveFile_X7_needFolder : GoodIn wsX7_moveFile (wsV RX7 132 RX7 yX7_needFolder wsX7_needFolder) := goodIn_app (goodIn_of _ (by decide +kernel)) ggX7_moveFile_X7_needFolder
set_option maxRecDepth 20000 in
theorem ggX7_moveFile_X6_projectOfFile : GoodIn wsX7_moveFile wsX6_projectOfFile := goodIn_r _ [32, 33, 34, 35, 36, 37, 15, 38, 39, 40, 13, 14, 16, 17, 41, 42, 43, 25, 44, 45, 46, 47, 48, 49, 50, 23, 24, 26, 27, 51, 52, 53, 54, 55, 203, 204, 205, 206, 207, 208, 209, 210, 211, 212, 213, 214, 215] (by decide +kernel) (by decide +kernel)
set_option maxRecDepth 20000 in
theorem gX7_moveFile_X6_projectOfFile : GoodIn wsX7_moveFile (wsV RX7 238 RX6 yX6_projectOfFile wsX6_projectOfFile) := goodIn_app (goodIn_of _ (by decide +kernel)) ggX7_moveFile_X6_projectOfFile
set_option maxRecDepth 20000 in
theorem ggX7_moveFile_X3_projectOf : GoodIn wsX7_moveFile wsX3_projectOf := goodIn_r _ [44, 45, 46, 47, 25, 48, 49, 50, 23, 24, 26, 27, 51, 52, 53, 54, 55, 212, 213, 214, 215] (by decide +kernel) (by decide +kernel)
set_option maxRecDepth 20000 in
theorem gX7_moveFile_X3_projectOf : GoodIn wsX7_moveFile (wsV RX7 142 RX3 yX3_projectOf wsX3_projectOf) := goodIn_app (goodIn_of _ (by decide +kernel)) ggX7_moveFile_X3_projectOf
set_option maxRecDepth 20000 in
theorem ggX7_moveFile_X2_sizeOf : GoodIn wsX7_moveFile wsX2_sizeOf := goodIn_r _ [60, 61, 40, 13, 14, 15, 16, 17, 209, 210, 211] (by decide +kernel) (by decide +kernel)
set_option maxRecDepth 20000 in
theorem gX7_moveFile_X2_sizeOf : GoodIn wsX7_moveFile (wsV RX7 235 RX2 yX2_sizeOf wsX2_sizeOf) := goodIn_app (goodIn_of _ (by decide +kernel)) ggX7_moveFile_X2_sizeOf
set_option maxRecDepth 20000 in
theorem ggX7_moveFile_X6_growthReason : GoodIn wsX7_moveFile wsX6_growthReason := goodIn_r _ [65, 66, 67, 68, 31, 69, 70, 71, 72, 73, 74, 75, 76, 77, 78, 79, 80, 8, 81, 82, 83, 84, 85, 86, 87, 88, 89, 90, 91, 92, 93, 94, 95, 96, 97, 98, 99, 100, 101, 102, 103, 104, 105, 106, 107, 108, 109, 110, 111, 112, 113, 114, 115, 116, 117, 203, 204, 205, 206, 207, 208, 216, 217, 218, 219, 220, 221, 222, 223, 224] (by decide +kernel) (by decide +kernel)
set_option maxRecDepth 20000 in
theorem gX7_moveFile_X6_growthReason : GoodIn wsX7_moveFile (wsV RX7 243 RX6 yX6_growthReason wsX6_growthReason) := goodIn_app (goodIn_of _ (by decide +kernel)) ggX7_moveFile_X6_growthReason
set_option maxRecDepth 20000 in
theorem ggX7_moveFile_X7_needNoReason : GoodIn wsX7_moveFile wsX7_needNoReason := goodIn_ca (goodIn_r _ [120, 121, 122] (by decide +kernel) (by decide +kernel)) (goodIn_sub (fun _ h => List.mem_cons_of_mem _ (List.mem_append_right _ h)) (by decide +kernel))
set_option maxRecDepth 20000 in
theorem gX7_moveFile_X7_needNoReason : GoodIn wsX7_moveFile (va_wsS RX7 206 yX7_needNoReason wsX7_needNoReason) := goodIn_app (goodIn_of _ (by decide +kernel)) ggX7_moveFile_X7_needNoReason
set_option maxRecDepth 20000 in
theorem ggX7_moveFile_X7_remember : GoodIn wsX7_moveFile wsX7_remember := goodIn_r _ [126, 127, 128, 1, 129, 130, 131, 78, 132, 133, 134, 135, 136, 137, 138, 139, 31, 140, 33, 34, 70, 75, 107, 112, 141, 142, 143, 25, 144, 55, 145, 146, 147, 148, 149, 49, 27, 150, 151, 152, 15, 153, 39, 154, 61, 17, 155, 156, 157, 85, 158, 102, 159, 88, 87, 117, 160, 161, 162, 92, 163, 97, 164, 95, 96, 165, 94, 196, 197, 198, 199, 200, 201, 202, 203, 204, 205, 206, 207, 208, 212, 213, 214, 215, 209, 210, 211, 216, 217, 218, 219, 220, 221, 222, 223, 224] (by decide +kernel) (by decide +kernel)
set_option maxRecDepth 20000 in
theorem gX7_moveFile_X7_remember : GoodIn wsX7_moveFile (wsV RX7 64 RX7 yX7_remember wsX7_remember) := goodIn_app (goodIn_of _ (by decide +kernel)) ggX7_moveFile_X7_remember
set_option maxRecDepth 20000 in
theorem ggX7_moveFile_X2_setPlace : GoodIn wsX7_moveFile wsX2_setPlace := goodIn_r _ [169, 39, 40, 13, 14, 15, 16, 17, 209, 210, 211] (by decide +kernel) (by decide +kernel)
set_option maxRecDepth 20000 in
theorem gX7_moveFile_X2_setPlace : GoodIn wsX7_moveFile (wsV RX7 271 RX2 yX2_setPlace wsX2_setPlace) := goodIn_app (goodIn_of _ (by decide +kernel)) ggX7_moveFile_X2_setPlace
set_option maxRecDepth 20000 in
theorem ggX7_moveFile_X0_transfer : GoodIn wsX7_moveFile wsX0_transfer := goodIn_r _ [173, 174, 175, 176, 85, 177, 80, 8, 81, 178, 179, 180, 181, 182, 77, 78, 79, 183, 99, 100, 101, 102, 184, 185, 186, 187, 216, 217, 218, 219] (by decide +kernel) (by decide +kernel)
set_option maxRecDepth 20000 in
theorem gX7_moveFile_X0_transfer : GoodIn wsX7_moveFile (wsV RX7 274 RX0 yX0_transfer wsX0_transfer) := goodIn_app (goodIn_of _ (by decide +kernel)) ggX7_moveFile_X0_transfer
set_option maxRecDepth 20000 in
theorem ggX7_moveFile_X6_setClocks : GoodIn wsX7_moveFile wsX6_setClocks := goodIn_r _ [191, 70, 107, 80, 8, 81, 66, 67, 68, 31, 69, 71, 72, 73, 74, 75, 76, 77, 78, 79, 82, 83, 84, 85, 86, 87, 88, 89, 90, 91, 92, 93, 94, 95, 96, 97, 98, 99, 100, 101, 102, 192, 193, 194, 195, 117, 113, 114, 115, 116, 203, 204, 205, 206, 207, 208, 216, 217, 218, 219, 220, 221, 222, 223, 224] (by decide +kernel) (by decide +kernel)
set_option maxRecDepth 20000 in
theorem gX7_moveFile_X6_setClocks : GoodIn wsX7_moveFile (wsV RX7 78 RX6 yX6_setClocks wsX6_setClocks) := goodIn_app (goodIn_of _ (by decide +kernel)) ggX7_moveFile_X6_setClocks
theorem dX7_moveFile_0 : decode cX7_moveFile 0 = .ok (.aload_n 0, 1) := by decide +kernel
theorem dX7_moveFile_1 : decode cX7_moveFile 1 = .ok (.iload_n 1, 1) := by decide +kernel
theorem dX7_moveFile_2 : decode cX7_moveFile 2 = .ok (.invokevirtual 229, 3) := by decide +kernel
theorem dX7_moveFile_5 : decode cX7_moveFile 5 = .ok (.aload_n 0, 1) := by decide +kernel
theorem dX7_moveFile_6 : decode cX7_moveFile 6 = .ok (.iload_n 2, 1) := by decide +kernel
theorem dX7_moveFile_7 : decode cX7_moveFile 7 = .ok (.invokevirtual 132, 3) := by decide +kernel
theorem dX7_moveFile_10 : decode cX7_moveFile 10 = .ok (.aload_n 0, 1) := by decide +kernel
theorem dX7_moveFile_11 : decode cX7_moveFile 11 = .ok (.getfield 12, 3) := by decide +kernel
theorem dX7_moveFile_14 : decode cX7_moveFile 14 = .ok (.iload_n 1, 1) := by decide +kernel
theorem dX7_moveFile_15 : decode cX7_moveFile 15 = .ok (.invokevirtual 238, 3) := by decide +kernel
theorem dX7_moveFile_18 : decode cX7_moveFile 18 = .ok (.istore_n 3, 1) := by decide +kernel
theorem dX7_moveFile_19 : decode cX7_moveFile 19 = .ok (.aload_n 0, 1) := by decide +kernel
theorem dX7_moveFile_20 : decode cX7_moveFile 20 = .ok (.getfield 12, 3) := by decide +kernel
theorem dX7_moveFile_23 : decode cX7_moveFile 23 = .ok (.getfield 93, 3) := by decide +kernel
theorem dX7_moveFile_26 : decode cX7_moveFile 26 = .ok (.iload_n 2, 1) := by decide +kernel
theorem dX7_moveFile_27 : decode cX7_moveFile 27 = .ok (.invokevirtual 142, 3) := by decide +kernel
theorem dX7_moveFile_30 : decode cX7_moveFile 30 = .ok (.istore 4, 2) := by decide +kernel
theorem dX7_moveFile_32 : decode cX7_moveFile 32 = .ok (.aload_n 0, 1) := by decide +kernel
theorem dX7_moveFile_33 : decode cX7_moveFile 33 = .ok (.getfield 12, 3) := by decide +kernel
theorem dX7_moveFile_36 : decode cX7_moveFile 36 = .ok (.getfield 81, 3) := by decide +kernel
theorem dX7_moveFile_39 : decode cX7_moveFile 39 = .ok (.iload_n 1, 1) := by decide +kernel
theorem dX7_moveFile_40 : decode cX7_moveFile 40 = .ok (.invokevirtual 235, 3) := by decide +kernel
theorem dX7_moveFile_43 : decode cX7_moveFile 43 = .ok (.istore 5, 2) := by decide +kernel
theorem dX7_moveFile_45 : decode cX7_moveFile 45 = .ok (.iload_n 3, 1) := by decide +kernel
theorem dX7_moveFile_46 : decode cX7_moveFile 46 = .ok (.iload 4, 2) := by decide +kernel
theorem dX7_moveFile_48 : decode cX7_moveFile 48 = .ok (.if_icmp .eq 18, 3) := by decide +kernel
theorem dX7_moveFile_51 : decode cX7_moveFile 51 = .ok (.aload_n 0, 1) := by decide +kernel
theorem dX7_moveFile_52 : decode cX7_moveFile 52 = .ok (.getfield 12, 3) := by decide +kernel
theorem dX7_moveFile_55 : decode cX7_moveFile 55 = .ok (.iload 4, 2) := by decide +kernel
theorem dX7_moveFile_57 : decode cX7_moveFile 57 = .ok (.iload 5, 2) := by decide +kernel
theorem dX7_moveFile_59 : decode cX7_moveFile 59 = .ok (.iconst 1, 1) := by decide +kernel
theorem dX7_moveFile_60 : decode cX7_moveFile 60 = .ok (.invokevirtual 243, 3) := by decide +kernel
theorem dX7_moveFile_63 : decode cX7_moveFile 63 = .ok (.invokestatic 206, 3) := by decide +kernel
theorem dX7_moveFile_66 : decode cX7_moveFile 66 = .ok (.aload_n 0, 1) := by decide +kernel
theorem dX7_moveFile_67 : decode cX7_moveFile 67 = .ok (.invokevirtual 64, 3) := by decide +kernel
theorem dX7_moveFile_70 : decode cX7_moveFile 70 = .ok (.aload_n 0, 1) := by decide +kernel
theorem dX7_moveFile_71 : decode cX7_moveFile 71 = .ok (.getfield 12, 3) := by decide +kernel
theorem dX7_moveFile_74 : decode cX7_moveFile 74 = .ok (.getfield 81, 3) := by decide +kernel
theorem dX7_moveFile_77 : decode cX7_moveFile 77 = .ok (.iload_n 1, 1) := by decide +kernel
theorem dX7_moveFile_78 : decode cX7_moveFile 78 = .ok (.iload_n 2, 1) := by decide +kernel
theorem dX7_moveFile_79 : decode cX7_moveFile 79 = .ok (.invokevirtual 271, 3) := by decide +kernel
theorem dX7_moveFile_82 : decode cX7_moveFile 82 = .ok (.aload_n 0, 1) := by decide +kernel
theorem dX7_moveFile_83 : decode cX7_moveFile 83 = .ok (.getfield 12, 3) := by decide +kernel
theorem dX7_moveFile_86 : decode cX7_moveFile 86 = .ok (.getfield 255, 3) := by decide +kernel
theorem dX7_moveFile_89 : decode cX7_moveFile 89 = .ok (.iload_n 3, 1) := by decide +kernel
theorem dX7_moveFile_90 : decode cX7_moveFile 90 = .ok (.iload 4, 2) := by decide +kernel
theorem dX7_moveFile_92 : decode cX7_moveFile 92 = .ok (.iload 5, 2) := by decide +kernel
theorem dX7_moveFile_94 : decode cX7_moveFile 94 = .ok (.iconst 1, 1) := by decide +kernel
theorem dX7_moveFile_95 : decode cX7_moveFile 95 = .ok (.invokevirtual 274, 3) := by decide +kernel
theorem dX7_moveFile_98 : decode cX7_moveFile 98 = .ok (.aload_n 0, 1) := by decide +kernel
theorem dX7_moveFile_99 : decode cX7_moveFile 99 = .ok (.getfield 12, 3) := by decide +kernel
theorem dX7_moveFile_102 : decode cX7_moveFile 102 = .ok (.invokevirtual 78, 3) := by decide +kernel
theorem dX7_moveFile_105 : decode cX7_moveFile 105 = .ok (.iload_n 3, 1) := by decide +kernel
theorem dX7_moveFile_106 : decode cX7_moveFile 106 = .ok (.iload 4, 2) := by decide +kernel
theorem dX7_moveFile_108 : decode cX7_moveFile 108 = .ok (.if_icmp .ne 7, 3) := by decide +kernel
theorem dX7_moveFile_111 : decode cX7_moveFile 111 = .ok (.iconst 0, 1) := by decide +kernel
theorem dX7_moveFile_112 : decode cX7_moveFile 112 = .ok (.goto 4, 3) := by decide +kernel
theorem dX7_moveFile_115 : decode cX7_moveFile 115 = .ok (.iconst 1, 1) := by decide +kernel
theorem dX7_moveFile_116 : decode cX7_moveFile 116 = .ok (.ireturn, 1) := by decide +kernel
set_option maxRecDepth 20000 in
theorem ggX7_setLimit_X7_needAccount : GoodIn wsX7_setLimit wsX7_needAccount := goodIn_ca (goodIn_r _ [12, 13, 14, 11, 15, 16, 17, 18, 1, 2] (by decide +kernel) (by decide +kernel)) (goodIn_sub (fun _ h => List.mem_cons_of_mem _ (List.mem_append_left _ (List.mem_append_right _ h))) (by decide +kernel))
set_option maxRecDepth 20000 in
theorem gX7_setLimit_X7_needAccount : GoodIn wsX7_setLimit (va_wsS RX7 286 yX7_needAccount wsX7_needAccount) := goodIn_app (goodIn_of _ (by decide +kernel)) ggX7_setLimit_X7_needAccount
set_option maxRecDepth 20000 in
theorem ggX7_setLimit_X7_needRange : GoodIn wsX7_setLimit wsX7_needRange := goodIn_ca (goodIn_r _ [18, 1, 2] (by decide +kernel) (by decide +kernel)) (goodIn_sub (fun _ h => List.mem_cons_of_mem _ (List.mem_append_left _ (List.mem_append_right _ h))) (by decide +kernel))
set_option maxRecDepth 20000 in
theorem gX7_setLimit_X7_needRange : GoodIn wsX7_setLimit (va_wsS RX7 54 yX7_needRange wsX7_needRange) := goodIn_app (goodIn_of _ (by decide +kernel)) ggX7_setLimit_X7_needRange
set_option maxRecDepth 20000 in
theorem ggX7_setLimit_X4_concern : GoodIn wsX7_setLimit wsX4_concern := goodIn_r _ [23, 24, 25, 26, 164, 165, 166, 167, 168] (by decide +kernel) (by decide +kernel)
set_option maxRecDepth 20000 in
theorem gX7_setLimit_X4_concern : GoodIn wsX7_setLimit (wsV RX7 302 RX4 yX4_concern wsX4_concern) := goodIn_app (goodIn_of _ (by decide +kernel)) ggX7_setLimit_X4_concern
set_option maxRecDepth 20000 in
theorem ggX7_setLimit_X7_remember : GoodIn wsX7_setLimit wsX7_remember := goodIn_r _ [30, 31, 32, 6, 33, 34, 35, 36, 37, 38, 39, 40, 41, 42, 43, 44, 45, 46, 47, 48, 49, 50, 51, 52, 53, 54, 55, 56, 57, 58, 59, 60, 61, 62, 63, 64, 65, 66, 67, 68, 69, 70, 71, 72, 73, 74, 75, 76, 77, 78, 79, 80, 81, 82, 83, 84, 85, 86, 87, 22, 88, 25, 89, 26, 90, 91, 24, 151, 152, 153, 154, 155, 156, 157, 158, 159, 160, 161, 162, 163, 169, 170, 171, 172, 173, 174, 175, 176, 177, 178, 179, 164, 165, 166, 167, 168] (by decide +kernel) (by decide +kernel)
set_option maxRecDepth 20000 in
theorem gX7_setLimit_X7_remember : GoodIn wsX7_setLimit (wsV RX7 64 RX7 yX7_remember wsX7_remember) := goodIn_app (goodIn_of _ (by decide +kernel)) ggX7_setLimit_X7_remember
set_option maxRecDepth 20000 in
theorem ggX7_setLimit_X7_accountOf : GoodIn wsX7_setLimit wsX7_accountOf := goodIn_r _ [94] (by decide +kernel) (by decide +kernel)
set_option maxRecDepth 20000 in
theorem gX7_setLimit_X7_accountOf : GoodIn wsX7_setLimit (va_wsS RX7 289 yX7_accountOf wsX7_accountOf) := goodIn_app (goodIn_of _ (by decide +kernel)) ggX7_setLimit_X7_accountOf
set_option maxRecDepth 20000 in
theorem ggX7_setLimit_X0_setLimits : GoodIn wsX7_setLimit wsX0_setLimits := goodIn_r _ [98, 82, 83, 176, 177, 178, 179] (by decide +kernel) (by decide +kernel)
set_option maxRecDepth 20000 in
theorem gX7_setLimit_X0_setLimits : GoodIn wsX7_setLimit (wsV RX7 308 RX0 yX0_setLimits wsX0_setLimits) := goodIn_app (goodIn_of _ (by decide +kernel)) ggX7_setLimit_X0_setLimits
set_option maxRecDepth 20000 in
theorem ggX7_setLimit_X6_setClocks : GoodIn wsX7_setLimit wsX6_setClocks := goodIn_r _ [102, 49, 51, 93, 11, 94, 103, 104, 105, 45, 106, 107, 108, 109, 110, 50, 111, 112, 36, 113, 114, 115, 116, 78, 117, 83, 82, 118, 119, 120, 22, 121, 24, 26, 90, 25, 122, 123, 124, 125, 80, 126, 127, 128, 129, 84, 130, 131, 132, 133, 158, 159, 160, 161, 162, 163, 176, 177, 178, 179, 164, 165, 166, 167, 168] (by decide +kernel) (by decide +kernel)
set_option maxRecDepth 20000 in
theorem gX7_setLimit_X6_setClocks : GoodIn wsX7_setLimit (wsV RX7 78 RX6 yX6_setClocks wsX6_setClocks) := goodIn_app (goodIn_of _ (by decide +kernel)) ggX7_setLimit_X6_setClocks
set_option maxRecDepth 20000 in
theorem ggX7_setLimit_X6_stateOf : GoodIn wsX7_setLimit wsX6_stateOf := goodIn_r _ [137, 49, 103, 104, 105, 45, 106, 107, 108, 109, 110, 50, 111, 112, 36, 113, 93, 11, 94, 114, 115, 116, 78, 117, 83, 82, 118, 119, 120, 22, 121, 24, 26, 90, 25, 122, 123, 124, 125, 80, 138, 139, 140, 141, 51, 142, 143, 144, 145, 52, 130, 131, 132, 133, 84, 146, 147, 148, 149, 150, 158, 159, 160, 161, 162, 163, 176, 177, 178, 179, 164, 165, 166, 167, 168] (by decide +kernel) (by decide +kernel)
set_option maxRecDepth 20000 in
theorem gX7_setLimit_X6_stateOf : GoodIn wsX7_setLimit (wsV RX7 311 RX6 yX6_stateOf wsX6_stateOf) := goodIn_app (goodIn_of _ (by decide +kernel)) ggX7_setLimit_X6_stateOf
theorem dX7_setLimit_0 : decode cX7_setLimit 0 = .ok (.iload_n 1, 1) := by decide +kernel
theorem dX7_setLimit_1 : decode cX7_setLimit 1 = .ok (.iload_n 2, 1) := by decide +kernel
theorem dX7_setLimit_2 : decode cX7_setLimit 2 = .ok (.invokestatic 286, 3) := by decide +kernel
theorem dX7_setLimit_5 : decode cX7_setLimit 5 = .ok (.iload_n 3, 1) := by decide +kernel
theorem dX7_setLimit_6 : decode cX7_setLimit 6 = .ok (.iconst 0, 1) := by decide +kernel
theorem dX7_setLimit_7 : decode cX7_setLimit 7 = .ok (.ldc_w 299, 3) := by decide +kernel
theorem dX7_setLimit_10 : decode cX7_setLimit 10 = .ok (.invokestatic 54, 3) := by decide +kernel
theorem dX7_setLimit_13 : decode cX7_setLimit 13 = .ok (.iload 4, 2) := by decide +kernel
theorem dX7_setLimit_15 : decode cX7_setLimit 15 = .ok (.iconst 0, 1) := by decide +kernel
theorem dX7_setLimit_16 : decode cX7_setLimit 16 = .ok (.ldc_w 299, 3) := by decide +kernel
theorem dX7_setLimit_19 : decode cX7_setLimit 19 = .ok (.invokestatic 54, 3) := by decide +kernel
theorem dX7_setLimit_22 : decode cX7_setLimit 22 = .ok (.iload 4, 2) := by decide +kernel
theorem dX7_setLimit_24 : decode cX7_setLimit 24 = .ok (.ifCond .le 20, 3) := by decide +kernel
theorem dX7_setLimit_27 : decode cX7_setLimit 27 = .ok (.iload 4, 2) := by decide +kernel
theorem dX7_setLimit_29 : decode cX7_setLimit 29 = .ok (.iload_n 3, 1) := by decide +kernel
theorem dX7_setLimit_30 : decode cX7_setLimit 30 = .ok (.if_icmp .ge 14, 3) := by decide +kernel
theorem dX7_setLimit_33 : decode cX7_setLimit 33 = .ok (.new 123, 3) := by decide +kernel
theorem dX7_setLimit_36 : decode cX7_setLimit 36 = .ok (.dup, 1) := by decide +kernel
theorem dX7_setLimit_37 : decode cX7_setLimit 37 = .ok (.ldc_w 300, 3) := by decide +kernel
theorem dX7_setLimit_40 : decode cX7_setLimit 40 = .ok (.invokespecial 127, 3) := by decide +kernel
theorem dX7_setLimit_43 : decode cX7_setLimit 43 = .ok (.athrow, 1) := by decide +kernel
theorem dX7_setLimit_44 : decode cX7_setLimit 44 = .ok (.iload 4, 2) := by decide +kernel
theorem dX7_setLimit_46 : decode cX7_setLimit 46 = .ok (.ifCond .ne 32, 3) := by decide +kernel
theorem dX7_setLimit_49 : decode cX7_setLimit 49 = .ok (.iload_n 2, 1) := by decide +kernel
theorem dX7_setLimit_50 : decode cX7_setLimit 50 = .ok (.ifCond .ne 28, 3) := by decide +kernel
theorem dX7_setLimit_53 : decode cX7_setLimit 53 = .ok (.aload_n 0, 1) := by decide +kernel
theorem dX7_setLimit_54 : decode cX7_setLimit 54 = .ok (.getfield 12, 3) := by decide +kernel
theorem dX7_setLimit_57 : decode cX7_setLimit 57 = .ok (.getfield 110, 3) := by decide +kernel
theorem dX7_setLimit_60 : decode cX7_setLimit 60 = .ok (.iload_n 1, 1) := by decide +kernel
theorem dX7_setLimit_61 : decode cX7_setLimit 61 = .ok (.invokevirtual 302, 3) := by decide +kernel
theorem dX7_setLimit_64 : decode cX7_setLimit 64 = .ok (.ifCond .eq 14, 3) := by decide +kernel
theorem dX7_setLimit_67 : decode cX7_setLimit 67 = .ok (.new 43, 3) := by decide +kernel
theorem dX7_setLimit_70 : decode cX7_setLimit 70 = .ok (.dup, 1) := by decide +kernel
theorem dX7_setLimit_71 : decode cX7_setLimit 71 = .ok (.ldc_w 306, 3) := by decide +kernel
theorem dX7_setLimit_74 : decode cX7_setLimit 74 = .ok (.invokespecial 47, 3) := by decide +kernel
theorem dX7_setLimit_77 : decode cX7_setLimit 77 = .ok (.athrow, 1) := by decide +kernel
theorem dX7_setLimit_78 : decode cX7_setLimit 78 = .ok (.aload_n 0, 1) := by decide +kernel
theorem dX7_setLimit_79 : decode cX7_setLimit 79 = .ok (.invokevirtual 64, 3) := by decide +kernel
theorem dX7_setLimit_82 : decode cX7_setLimit 82 = .ok (.aload_n 0, 1) := by decide +kernel
theorem dX7_setLimit_83 : decode cX7_setLimit 83 = .ok (.getfield 12, 3) := by decide +kernel
theorem dX7_setLimit_86 : decode cX7_setLimit 86 = .ok (.getfield 255, 3) := by decide +kernel
theorem dX7_setLimit_89 : decode cX7_setLimit 89 = .ok (.iload_n 1, 1) := by decide +kernel
theorem dX7_setLimit_90 : decode cX7_setLimit 90 = .ok (.iload_n 2, 1) := by decide +kernel
theorem dX7_setLimit_91 : decode cX7_setLimit 91 = .ok (.invokestatic 289, 3) := by decide +kernel
theorem dX7_setLimit_94 : decode cX7_setLimit 94 = .ok (.iload_n 3, 1) := by decide +kernel
theorem dX7_setLimit_95 : decode cX7_setLimit 95 = .ok (.iload 4, 2) := by decide +kernel
theorem dX7_setLimit_97 : decode cX7_setLimit 97 = .ok (.invokevirtual 308, 3) := by decide +kernel
theorem dX7_setLimit_100 : decode cX7_setLimit 100 = .ok (.aload_n 0, 1) := by decide +kernel
theorem dX7_setLimit_101 : decode cX7_setLimit 101 = .ok (.getfield 12, 3) := by decide +kernel
theorem dX7_setLimit_104 : decode cX7_setLimit 104 = .ok (.invokevirtual 78, 3) := by decide +kernel
theorem dX7_setLimit_107 : decode cX7_setLimit 107 = .ok (.aload_n 0, 1) := by decide +kernel
theorem dX7_setLimit_108 : decode cX7_setLimit 108 = .ok (.getfield 12, 3) := by decide +kernel
theorem dX7_setLimit_111 : decode cX7_setLimit 111 = .ok (.iload_n 1, 1) := by decide +kernel
theorem dX7_setLimit_112 : decode cX7_setLimit 112 = .ok (.iload_n 2, 1) := by decide +kernel
theorem dX7_setLimit_113 : decode cX7_setLimit 113 = .ok (.invokevirtual 311, 3) := by decide +kernel
theorem dX7_setLimit_116 : decode cX7_setLimit 116 = .ok (.ireturn, 1) := by decide +kernel
set_option maxRecDepth 20000 in
theorem ggX7_setGrace_X7_needRange : GoodIn wsX7_setGrace wsX7_needRange := goodIn_ca (goodIn_r _ [6, 7, 8] (by decide +kernel) (by decide +kernel)) (goodIn_sub (fun _ h => List.mem_cons_of_mem _ (List.mem_append_right _ h)) (by decide +kernel))
set_option maxRecDepth 20000 in
theorem gX7_setGrace_X7_needRange : GoodIn wsX7_setGrace (va_wsS RX7 54 yX7_needRange wsX7_needRange) := goodIn_app (goodIn_of _ (by decide +kernel)) ggX7_setGrace_X7_needRange
set_option maxRecDepth 20000 in
theorem ggX7_setGrace_X7_remember : GoodIn wsX7_setGrace wsX7_remember := goodIn_r _ [12, 13, 14, 1, 15, 16, 17, 18, 19, 20, 21, 22, 23, 24, 25, 26, 27, 28, 29, 30, 31, 32, 33, 34, 35, 36, 37, 38, 39, 40, 41, 42, 43, 44, 45, 46, 47, 48, 49, 50, 51, 52, 53, 54, 55, 56, 57, 58, 59, 60, 61, 62, 63, 64, 65, 66, 67, 68, 69, 70, 71, 72, 73, 74, 75, 76, 77, 115, 116, 117, 118, 119, 120, 121, 122, 123, 124, 125, 126, 127, 128, 129, 130, 131, 132, 133, 134, 135, 136, 137, 138, 139, 140, 141, 142, 143] (by decide +kernel) (by decide +kernel)
set_option maxRecDepth 20000 in
theorem gX7_setGrace_X7_remember : GoodIn wsX7_setGrace (wsV RX7 64 RX7 yX7_remember wsX7_remember) := goodIn_app (goodIn_of _ (by decide +kernel)) ggX7_setGrace_X7_remember
set_option maxRecDepth 20000 in
theorem ggX7_setGrace_X6_setClocks : GoodIn wsX7_setGrace wsX6_setClocks := goodIn_r _ [81, 31, 33, 82, 5, 83, 84, 85, 86, 27, 87, 88, 89, 90, 91, 32, 92, 93, 18, 94, 95, 96, 97, 60, 98, 65, 64, 99, 100, 101, 70, 102, 77, 74, 75, 72, 103, 104, 105, 106, 62, 107, 108, 109, 110, 66, 111, 112, 113, 114, 122, 123, 124, 125, 126, 127, 135, 136, 137, 138, 139, 140, 141, 142, 143] (by decide +kernel) (by decide +kernel)
set_option maxRecDepth 20000 in
theorem gX7_setGrace_X6_setClocks : GoodIn wsX7_setGrace (wsV RX7 78 RX6 yX6_setClocks wsX6_setClocks) := goodIn_app (goodIn_of _ (by decide +kernel)) ggX7_setGrace_X6_setClocks
theorem dX7_setGrace_0 : decode cX7_setGrace 0 = .ok (.iload_n 1, 1) := by decide +kernel
theorem dX7_setGrace_1 : decode cX7_setGrace 1 = .ok (.iconst 1, 1) := by decide +kernel
theorem dX7_setGrace_2 : decode cX7_setGrace 2 = .ok (.bipush 99, 2) := by decide +kernel
theorem dX7_setGrace_4 : decode cX7_setGrace 4 = .ok (.invokestatic 54, 3) := by decide +kernel
theorem dX7_setGrace_7 : decode cX7_setGrace 7 = .ok (.aload_n 0, 1) := by decide +kernel
theorem dX7_setGrace_8 : decode cX7_setGrace 8 = .ok (.getfield 12, 3) := by decide +kernel
theorem dX7_setGrace_11 : decode cX7_setGrace 11 = .ok (.getfield 107, 3) := by decide +kernel
theorem dX7_setGrace_14 : decode cX7_setGrace 14 = .ok (.istore_n 2, 1) := by decide +kernel
theorem dX7_setGrace_15 : decode cX7_setGrace 15 = .ok (.aload_n 0, 1) := by decide +kernel
theorem dX7_setGrace_16 : decode cX7_setGrace 16 = .ok (.invokevirtual 64, 3) := by decide +kernel
theorem dX7_setGrace_19 : decode cX7_setGrace 19 = .ok (.aload_n 0, 1) := by decide +kernel
theorem dX7_setGrace_20 : decode cX7_setGrace 20 = .ok (.getfield 12, 3) := by decide +kernel
theorem dX7_setGrace_23 : decode cX7_setGrace 23 = .ok (.iload_n 1, 1) := by decide +kernel
theorem dX7_setGrace_24 : decode cX7_setGrace 24 = .ok (.putfield 107, 3) := by decide +kernel
theorem dX7_setGrace_27 : decode cX7_setGrace 27 = .ok (.aload_n 0, 1) := by decide +kernel
theorem dX7_setGrace_28 : decode cX7_setGrace 28 = .ok (.getfield 12, 3) := by decide +kernel
theorem dX7_setGrace_31 : decode cX7_setGrace 31 = .ok (.invokevirtual 78, 3) := by decide +kernel
theorem dX7_setGrace_34 : decode cX7_setGrace 34 = .ok (.iload_n 2, 1) := by decide +kernel
theorem dX7_setGrace_35 : decode cX7_setGrace 35 = .ok (.ireturn, 1) := by decide +kernel
set_option maxRecDepth 20000 in
theorem ggX7_tick_X7_needRange : GoodIn wsX7_tick wsX7_needRange := goodIn_ca (goodIn_r _ [9, 10, 11] (by decide +kernel) (by decide +kernel)) (goodIn_sub (fun _ h => List.mem_cons_of_mem _ (List.mem_append_right _ h)) (by decide +kernel))
set_option maxRecDepth 20000 in
theorem gX7_tick_X7_needRange : GoodIn wsX7_tick (va_wsS RX7 54 yX7_needRange wsX7_needRange) := goodIn_app (goodIn_of _ (by decide +kernel)) ggX7_tick_X7_needRange
set_option maxRecDepth 20000 in
theorem ggX7_tick_X7_remember : GoodIn wsX7_tick wsX7_remember := goodIn_r _ [15, 16, 17, 3, 18, 19, 20, 21, 22, 23, 24, 25, 26, 27, 28, 29, 30, 31, 32, 33, 34, 35, 36, 37, 38, 39, 40, 41, 42, 43, 44, 45, 46, 47, 48, 49, 50, 51, 52, 53, 54, 55, 56, 57, 58, 59, 60, 61, 62, 63, 64, 65, 66, 67, 68, 69, 70, 71, 72, 73, 74, 75, 76, 77, 78, 79, 80, 134, 135, 136, 137, 138, 139, 140, 141, 142, 143, 144, 145, 146, 147, 148, 149, 150, 151, 152, 153, 154, 155, 156, 157, 158, 159, 160, 161, 162] (by decide +kernel) (by decide +kernel)
set_option maxRecDepth 20000 in
theorem gX7_tick_X7_remember : GoodIn wsX7_tick (wsV RX7 64 RX7 yX7_remember wsX7_remember) := goodIn_app (goodIn_of _ (by decide +kernel)) ggX7_tick_X7_remember
set_option maxRecDepth 20000 in
theorem ggX7_tick_X4_removeEnded : GoodIn wsX7_tick wsX4_removeEnded := goodIn_r _ [84, 80, 85, 86, 87, 73, 88, 79, 89, 90, 91, 92, 93, 94, 95, 96, 75, 77, 78, 158, 159, 160, 161, 162] (by decide +kernel) (by decide +kernel)
set_option maxRecDepth 20000 in
theorem gX7_tick_X4_removeEnded : GoodIn wsX7_tick (wsV RX7 324 RX4 yX4_removeEnded wsX4_removeEnded) := goodIn_app (goodIn_of _ (by decide +kernel)) ggX7_tick_X4_removeEnded
set_option maxRecDepth 20000 in
theorem ggX7_tick_X6_setClocks : GoodIn wsX7_tick wsX6_setClocks := goodIn_r _ [100, 34, 36, 101, 8, 102, 103, 104, 105, 30, 106, 107, 108, 109, 110, 35, 111, 112, 21, 113, 114, 115, 116, 63, 117, 68, 67, 118, 119, 120, 73, 121, 80, 77, 78, 75, 122, 123, 124, 125, 65, 126, 127, 128, 129, 69, 130, 131, 132, 133, 141, 142, 143, 144, 145, 146, 154, 155, 156, 157, 158, 159, 160, 161, 162] (by decide +kernel) (by decide +kernel)
set_option maxRecDepth 20000 in
theorem gX7_tick_X6_setClocks : GoodIn wsX7_tick (wsV RX7 78 RX6 yX6_setClocks wsX6_setClocks) := goodIn_app (goodIn_of _ (by decide +kernel)) ggX7_tick_X6_setClocks
theorem dX7_tick_0 : decode cX7_tick 0 = .ok (.iload_n 1, 1) := by decide +kernel
theorem dX7_tick_1 : decode cX7_tick 1 = .ok (.iconst 1, 1) := by decide +kernel
theorem dX7_tick_2 : decode cX7_tick 2 = .ok (.sipush 999, 3) := by decide +kernel
theorem dX7_tick_5 : decode cX7_tick 5 = .ok (.invokestatic 54, 3) := by decide +kernel
theorem dX7_tick_8 : decode cX7_tick 8 = .ok (.aload_n 0, 1) := by decide +kernel
theorem dX7_tick_9 : decode cX7_tick 9 = .ok (.getfield 12, 3) := by decide +kernel
theorem dX7_tick_12 : decode cX7_tick 12 = .ok (.getfield 104, 3) := by decide +kernel
theorem dX7_tick_15 : decode cX7_tick 15 = .ok (.iload_n 1, 1) := by decide +kernel
theorem dX7_tick_16 : decode cX7_tick 16 = .ok (.iadd, 1) := by decide +kernel
theorem dX7_tick_17 : decode cX7_tick 17 = .ok (.sipush 9999, 3) := by decide +kernel
theorem dX7_tick_20 : decode cX7_tick 20 = .ok (.if_icmp .le 14, 3) := by decide +kernel
theorem dX7_tick_23 : decode cX7_tick 23 = .ok (.new 43, 3) := by decide +kernel
theorem dX7_tick_26 : decode cX7_tick 26 = .ok (.dup, 1) := by decide +kernel
theorem dX7_tick_27 : decode cX7_tick 27 = .ok (.ldc_w 322, 3) := by decide +kernel
theorem dX7_tick_30 : decode cX7_tick 30 = .ok (.invokespecial 47, 3) := by decide +kernel
theorem dX7_tick_33 : decode cX7_tick 33 = .ok (.athrow, 1) := by decide +kernel
theorem dX7_tick_34 : decode cX7_tick 34 = .ok (.aload_n 0, 1) := by decide +kernel
theorem dX7_tick_35 : decode cX7_tick 35 = .ok (.invokevirtual 64, 3) := by decide +kernel
theorem dX7_tick_38 : decode cX7_tick 38 = .ok (.aload_n 0, 1) := by decide +kernel
theorem dX7_tick_39 : decode cX7_tick 39 = .ok (.getfield 12, 3) := by decide +kernel
theorem dX7_tick_42 : decode cX7_tick 42 = .ok (.dup, 1) := by decide +kernel
theorem dX7_tick_43 : decode cX7_tick 43 = .ok (.getfield 104, 3) := by decide +kernel
theorem dX7_tick_46 : decode cX7_tick 46 = .ok (.iload_n 1, 1) := by decide +kernel
theorem dX7_tick_47 : decode cX7_tick 47 = .ok (.iadd, 1) := by decide +kernel
theorem dX7_tick_48 : decode cX7_tick 48 = .ok (.putfield 104, 3) := by decide +kernel
theorem dX7_tick_51 : decode cX7_tick 51 = .ok (.aload_n 0, 1) := by decide +kernel
theorem dX7_tick_52 : decode cX7_tick 52 = .ok (.getfield 12, 3) := by decide +kernel
theorem dX7_tick_55 : decode cX7_tick 55 = .ok (.getfield 110, 3) := by decide +kernel
theorem dX7_tick_58 : decode cX7_tick 58 = .ok (.aload_n 0, 1) := by decide +kernel
theorem dX7_tick_59 : decode cX7_tick 59 = .ok (.getfield 12, 3) := by decide +kernel
theorem dX7_tick_62 : decode cX7_tick 62 = .ok (.getfield 104, 3) := by decide +kernel
theorem dX7_tick_65 : decode cX7_tick 65 = .ok (.invokevirtual 324, 3) := by decide +kernel
theorem dX7_tick_68 : decode cX7_tick 68 = .ok (.istore_n 2, 1) := by decide +kernel
theorem dX7_tick_69 : decode cX7_tick 69 = .ok (.aload_n 0, 1) := by decide +kernel
theorem dX7_tick_70 : decode cX7_tick 70 = .ok (.getfield 12, 3) := by decide +kernel
theorem dX7_tick_73 : decode cX7_tick 73 = .ok (.invokevirtual 78, 3) := by decide +kernel
theorem dX7_tick_76 : decode cX7_tick 76 = .ok (.iload_n 2, 1) := by decide +kernel
theorem dX7_tick_77 : decode cX7_tick 77 = .ok (.ireturn, 1) := by decide +kernel
set_option maxRecDepth 20000 in
theorem ggX7_gift_X7_needProject : GoodIn wsX7_gift wsX7_needProject := goodIn_ca (goodIn_r _ [12, 13, 14, 11, 15, 1, 2] (by decide +kernel) (by decide +kernel)) (goodIn_sub (fun _ h => List.mem_cons_of_mem _ (List.mem_append_left _ (List.mem_append_right _ h))) (by decide +kernel))
set_option maxRecDepth 20000 in
theorem gX7_gift_X7_needProject : GoodIn wsX7_gift (va_wsS RX7 278 yX7_needProject wsX7_needProject) := goodIn_app (goodIn_of _ (by decide +kernel)) ggX7_gift_X7_needProject
set_option maxRecDepth 20000 in
theorem ggX7_gift_X7_needRange : GoodIn wsX7_gift wsX7_needRange := goodIn_ca (goodIn_r _ [15, 1, 2] (by decide +kernel) (by decide +kernel)) (goodIn_sub (fun _ h => List.mem_cons_of_mem _ (List.mem_append_left _ (List.mem_append_right _ h))) (by decide +kernel))
set_option maxRecDepth 20000 in
theorem gX7_gift_X7_needRange : GoodIn wsX7_gift (va_wsS RX7 54 yX7_needRange wsX7_needRange) := goodIn_app (goodIn_of _ (by decide +kernel)) ggX7_gift_X7_needRange
set_option maxRecDepth 20000 in
theorem ggX7_gift_X4_isFull : GoodIn wsX7_gift wsX4_isFull := goodIn_r _ [20, 21, 148, 149, 150, 151, 152] (by decide +kernel) (by decide +kernel)
set_option maxRecDepth 20000 in
theorem gX7_gift_X4_isFull : GoodIn wsX7_gift (wsV RX7 340 RX4 yX4_isFull wsX4_isFull) := goodIn_app (goodIn_of _ (by decide +kernel)) ggX7_gift_X4_isFull
set_option maxRecDepth 20000 in
theorem ggX7_gift_X6_canGive : GoodIn wsX7_gift wsX6_canGive := goodIn_r _ [26, 27, 28, 29, 30, 25, 31, 32, 33, 34, 35, 36, 37, 11, 38, 39, 40, 41, 42, 43, 44, 45, 46, 47, 48, 19, 49, 21, 50, 51, 52, 53, 54, 55, 56, 57, 142, 143, 144, 145, 146, 147, 153, 154, 155, 156, 148, 149, 150, 151, 152] (by decide +kernel) (by decide +kernel)
set_option maxRecDepth 20000 in
theorem gX7_gift_X6_canGive : GoodIn wsX7_gift (wsV RX7 341 RX6 yX6_canGive wsX6_canGive) := goodIn_app (goodIn_of _ (by decide +kernel)) ggX7_gift_X6_canGive
set_option maxRecDepth 20000 in
theorem ggX7_gift_X7_remember : GoodIn wsX7_gift wsX7_remember := goodIn_r _ [61, 62, 63, 5, 64, 65, 66, 35, 67, 68, 69, 70, 71, 72, 73, 74, 25, 75, 76, 77, 27, 32, 78, 79, 80, 81, 82, 83, 84, 85, 86, 87, 88, 89, 90, 91, 92, 93, 94, 95, 96, 97, 98, 99, 100, 101, 102, 103, 104, 42, 105, 57, 106, 45, 44, 107, 108, 109, 110, 19, 111, 52, 112, 50, 51, 113, 21, 135, 136, 137, 138, 139, 140, 141, 142, 143, 144, 145, 146, 147, 157, 158, 159, 160, 161, 162, 163, 153, 154, 155, 156, 148, 149, 150, 151, 152] (by decide +kernel) (by decide +kernel)
set_option maxRecDepth 20000 in
theorem gX7_gift_X7_remember : GoodIn wsX7_gift (wsV RX7 64 RX7 yX7_remember wsX7_remember) := goodIn_app (goodIn_of _ (by decide +kernel)) ggX7_gift_X7_remember
set_option maxRecDepth 20000 in
theorem ggX7_gift_X4_add : GoodIn wsX7_gift wsX4_add := goodIn_r _ [117, 52, 21, 50, 51, 113, 118, 17, 18, 19, 20, 148, 149, 150, 151, 152] (by decide +kernel) (by decide +kernel)
set_option maxRecDepth 20000 in
theorem gX7_gift_X4_add : GoodIn wsX7_gift (wsV RX7 347 RX4 yX4_add wsX4_add) := goodIn_app (goodIn_of _ (by decide +kernel)) ggX7_gift_X4_add
set_option maxRecDepth 20000 in
theorem ggX7_gift_X6_setClocks : GoodIn wsX7_gift wsX6_setClocks := goodIn_r _ [122, 27, 78, 37, 11, 38, 123, 124, 125, 25, 126, 28, 29, 30, 31, 32, 33, 34, 35, 36, 39, 40, 41, 42, 43, 44, 45, 46, 47, 48, 19, 49, 21, 50, 51, 52, 53, 54, 55, 56, 57, 127, 128, 129, 130, 107, 131, 132, 133, 134, 142, 143, 144, 145, 146, 147, 153, 154, 155, 156, 148, 149, 150, 151, 152] (by decide +kernel) (by decide +kernel)
set_option maxRecDepth 20000 in
theorem gX7_gift_X6_setClocks : GoodIn wsX7_gift (wsV RX7 78 RX6 yX6_setClocks wsX6_setClocks) := goodIn_app (goodIn_of _ (by decide +kernel)) ggX7_gift_X6_setClocks
theorem dX7_gift_0 : decode cX7_gift 0 = .ok (.iload_n 1, 1) := by decide +kernel
theorem dX7_gift_1 : decode cX7_gift 1 = .ok (.invokestatic 278, 3) := by decide +kernel
theorem dX7_gift_4 : decode cX7_gift 4 = .ok (.iload_n 2, 1) := by decide +kernel
theorem dX7_gift_5 : decode cX7_gift 5 = .ok (.invokestatic 278, 3) := by decide +kernel
theorem dX7_gift_8 : decode cX7_gift 8 = .ok (.iload_n 3, 1) := by decide +kernel
theorem dX7_gift_9 : decode cX7_gift 9 = .ok (.iconst 1, 1) := by decide +kernel
theorem dX7_gift_10 : decode cX7_gift 10 = .ok (.sipush 9999, 3) := by decide +kernel
theorem dX7_gift_13 : decode cX7_gift 13 = .ok (.invokestatic 54, 3) := by decide +kernel
theorem dX7_gift_16 : decode cX7_gift 16 = .ok (.iload 4, 2) := by decide +kernel
theorem dX7_gift_18 : decode cX7_gift 18 = .ok (.iconst 1, 1) := by decide +kernel
theorem dX7_gift_19 : decode cX7_gift 19 = .ok (.sipush 999, 3) := by decide +kernel
theorem dX7_gift_22 : decode cX7_gift 22 = .ok (.invokestatic 54, 3) := by decide +kernel
theorem dX7_gift_25 : decode cX7_gift 25 = .ok (.iload_n 1, 1) := by decide +kernel
theorem dX7_gift_26 : decode cX7_gift 26 = .ok (.iload_n 2, 1) := by decide +kernel
theorem dX7_gift_27 : decode cX7_gift 27 = .ok (.if_icmp .ne 14, 3) := by decide +kernel
theorem dX7_gift_30 : decode cX7_gift 30 = .ok (.new 123, 3) := by decide +kernel
theorem dX7_gift_33 : decode cX7_gift 33 = .ok (.dup, 1) := by decide +kernel
theorem dX7_gift_34 : decode cX7_gift 34 = .ok (.ldc_w 338, 3) := by decide +kernel
theorem dX7_gift_37 : decode cX7_gift 37 = .ok (.invokespecial 127, 3) := by decide +kernel
theorem dX7_gift_40 : decode cX7_gift 40 = .ok (.athrow, 1) := by decide +kernel
theorem dX7_gift_41 : decode cX7_gift 41 = .ok (.aload_n 0, 1) := by decide +kernel
theorem dX7_gift_42 : decode cX7_gift 42 = .ok (.getfield 12, 3) := by decide +kernel
theorem dX7_gift_45 : decode cX7_gift 45 = .ok (.getfield 110, 3) := by decide +kernel
theorem dX7_gift_48 : decode cX7_gift 48 = .ok (.invokevirtual 340, 3) := by decide +kernel
theorem dX7_gift_51 : decode cX7_gift 51 = .ok (.ifCond .ne 16, 3) := by decide +kernel
theorem dX7_gift_54 : decode cX7_gift 54 = .ok (.aload_n 0, 1) := by decide +kernel
theorem dX7_gift_55 : decode cX7_gift 55 = .ok (.getfield 12, 3) := by decide +kernel
theorem dX7_gift_58 : decode cX7_gift 58 = .ok (.iload_n 1, 1) := by decide +kernel
theorem dX7_gift_59 : decode cX7_gift 59 = .ok (.iload_n 2, 1) := by decide +kernel
theorem dX7_gift_60 : decode cX7_gift 60 = .ok (.iload_n 3, 1) := by decide +kernel
theorem dX7_gift_61 : decode cX7_gift 61 = .ok (.invokevirtual 341, 3) := by decide +kernel
theorem dX7_gift_64 : decode cX7_gift 64 = .ok (.ifCond .ne 14, 3) := by decide +kernel
theorem dX7_gift_67 : decode cX7_gift 67 = .ok (.new 43, 3) := by decide +kernel
theorem dX7_gift_70 : decode cX7_gift 70 = .ok (.dup, 1) := by decide +kernel
theorem dX7_gift_71 : decode cX7_gift 71 = .ok (.ldc_w 345, 3) := by decide +kernel
theorem dX7_gift_74 : decode cX7_gift 74 = .ok (.invokespecial 47, 3) := by decide +kernel
theorem dX7_gift_77 : decode cX7_gift 77 = .ok (.athrow, 1) := by decide +kernel
theorem dX7_gift_78 : decode cX7_gift 78 = .ok (.aload_n 0, 1) := by decide +kernel
theorem dX7_gift_79 : decode cX7_gift 79 = .ok (.invokevirtual 64, 3) := by decide +kernel
theorem dX7_gift_82 : decode cX7_gift 82 = .ok (.aload_n 0, 1) := by decide +kernel
theorem dX7_gift_83 : decode cX7_gift 83 = .ok (.getfield 12, 3) := by decide +kernel
theorem dX7_gift_86 : decode cX7_gift 86 = .ok (.getfield 110, 3) := by decide +kernel
theorem dX7_gift_89 : decode cX7_gift 89 = .ok (.iload_n 1, 1) := by decide +kernel
theorem dX7_gift_90 : decode cX7_gift 90 = .ok (.iload_n 2, 1) := by decide +kernel
theorem dX7_gift_91 : decode cX7_gift 91 = .ok (.iload_n 3, 1) := by decide +kernel
theorem dX7_gift_92 : decode cX7_gift 92 = .ok (.aload_n 0, 1) := by decide +kernel
theorem dX7_gift_93 : decode cX7_gift 93 = .ok (.getfield 12, 3) := by decide +kernel
theorem dX7_gift_96 : decode cX7_gift 96 = .ok (.getfield 104, 3) := by decide +kernel
theorem dX7_gift_99 : decode cX7_gift 99 = .ok (.iload 4, 2) := by decide +kernel
theorem dX7_gift_101 : decode cX7_gift 101 = .ok (.iadd, 1) := by decide +kernel
theorem dX7_gift_102 : decode cX7_gift 102 = .ok (.invokevirtual 347, 3) := by decide +kernel
theorem dX7_gift_105 : decode cX7_gift 105 = .ok (.aload_n 0, 1) := by decide +kernel
theorem dX7_gift_106 : decode cX7_gift 106 = .ok (.getfield 12, 3) := by decide +kernel
theorem dX7_gift_109 : decode cX7_gift 109 = .ok (.invokevirtual 78, 3) := by decide +kernel
theorem dX7_gift_112 : decode cX7_gift 112 = .ok (.aload_n 0, 1) := by decide +kernel
theorem dX7_gift_113 : decode cX7_gift 113 = .ok (.getfield 12, 3) := by decide +kernel
theorem dX7_gift_116 : decode cX7_gift 116 = .ok (.getfield 110, 3) := by decide +kernel
theorem dX7_gift_119 : decode cX7_gift 119 = .ok (.getfield 114, 3) := by decide +kernel
theorem dX7_gift_122 : decode cX7_gift 122 = .ok (.iconst 1, 1) := by decide +kernel
theorem dX7_gift_123 : decode cX7_gift 123 = .ok (.isub, 1) := by decide +kernel
theorem dX7_gift_124 : decode cX7_gift 124 = .ok (.ireturn, 1) := by decide +kernel
set_option maxRecDepth 20000 in
theorem ggX7_endGift_X7_needGift : GoodIn wsX7_endGift wsX7_needGift := goodIn_ca (goodIn_r _ [8, 9, 10, 1, 2, 11, 12, 13, 14, 15, 16, 126, 127, 128, 129, 130, 131, 132, 133, 134, 135, 136, 137, 138, 139, 140, 141, 142, 143] (by decide +kernel) (by decide +kernel)) (goodIn_sub (fun _ h => List.mem_cons_of_mem _ (List.mem_append_right _ h)) (by decide +kernel))
set_option maxRecDepth 20000 in
theorem gX7_endGift_X7_needGift : GoodIn wsX7_endGift (wsV RX7 349 RX7 yX7_needGift wsX7_needGift) := goodIn_app (goodIn_of _ (by decide +kernel)) ggX7_endGift_X7_needGift
set_option maxRecDepth 20000 in
theorem ggX7_endGift_X7_remember : GoodIn wsX7_endGift wsX7_remember := goodIn_r _ [20, 21, 22, 1, 23, 24, 25, 26, 27, 28, 29, 30, 31, 32, 33, 34, 35, 36, 37, 38, 39, 40, 41, 42, 43, 44, 45, 46, 47, 48, 49, 50, 51, 52, 53, 54, 55, 56, 57, 58, 59, 60, 61, 62, 63, 64, 65, 66, 67, 68, 69, 70, 71, 72, 73, 74, 75, 76, 77, 14, 78, 79, 80, 81, 82, 83, 16, 126, 127, 128, 129, 130, 131, 132, 133, 134, 135, 136, 137, 138, 144, 145, 146, 147, 148, 149, 150, 151, 152, 153, 154, 139, 140, 141, 142, 143] (by decide +kernel) (by decide +kernel)
set_option maxRecDepth 20000 in
theorem gX7_endGift_X7_remember : GoodIn wsX7_endGift (wsV RX7 64 RX7 yX7_remember wsX7_remember) := goodIn_app (goodIn_of _ (by decide +kernel)) ggX7_endGift_X7_remember
set_option maxRecDepth 20000 in
theorem ggX7_endGift_X4_removeAt : GoodIn wsX7_endGift wsX4_removeAt := goodIn_r _ [87, 16, 79, 81, 82, 83, 88, 12, 13, 14, 15, 139, 140, 141, 142, 143] (by decide +kernel) (by decide +kernel)
set_option maxRecDepth 20000 in
theorem gX7_endGift_X4_removeAt : GoodIn wsX7_endGift (wsV RX7 366 RX4 yX4_removeAt wsX4_removeAt) := goodIn_app (goodIn_of _ (by decide +kernel)) ggX7_endGift_X4_removeAt
set_option maxRecDepth 20000 in
theorem ggX7_endGift_X6_setClocks : GoodIn wsX7_endGift wsX6_setClocks := goodIn_r _ [92, 39, 41, 93, 7, 94, 95, 96, 97, 35, 98, 99, 100, 101, 102, 40, 103, 104, 26, 105, 106, 107, 108, 68, 109, 73, 72, 110, 111, 112, 14, 113, 16, 81, 82, 79, 114, 115, 116, 117, 70, 118, 119, 120, 121, 74, 122, 123, 124, 125, 133, 134, 135, 136, 137, 138, 151, 152, 153, 154, 139, 140, 141, 142, 143] (by decide +kernel) (by decide +kernel)
set_option maxRecDepth 20000 in
theorem gX7_endGift_X6_setClocks : GoodIn wsX7_endGift (wsV RX7 78 RX6 yX6_setClocks wsX6_setClocks) := goodIn_app (goodIn_of _ (by decide +kernel)) ggX7_endGift_X6_setClocks
theorem dX7_endGift_0 : decode cX7_endGift 0 = .ok (.aload_n 0, 1) := by decide +kernel
theorem dX7_endGift_1 : decode cX7_endGift 1 = .ok (.iload_n 1, 1) := by decide +kernel
theorem dX7_endGift_2 : decode cX7_endGift 2 = .ok (.invokevirtual 349, 3) := by decide +kernel
theorem dX7_endGift_5 : decode cX7_endGift 5 = .ok (.aload_n 0, 1) := by decide +kernel
theorem dX7_endGift_6 : decode cX7_endGift 6 = .ok (.invokevirtual 64, 3) := by decide +kernel
theorem dX7_endGift_9 : decode cX7_endGift 9 = .ok (.aload_n 0, 1) := by decide +kernel
theorem dX7_endGift_10 : decode cX7_endGift 10 = .ok (.getfield 12, 3) := by decide +kernel
theorem dX7_endGift_13 : decode cX7_endGift 13 = .ok (.getfield 110, 3) := by decide +kernel
theorem dX7_endGift_16 : decode cX7_endGift 16 = .ok (.iload_n 1, 1) := by decide +kernel
theorem dX7_endGift_17 : decode cX7_endGift 17 = .ok (.invokevirtual 366, 3) := by decide +kernel
theorem dX7_endGift_20 : decode cX7_endGift 20 = .ok (.aload_n 0, 1) := by decide +kernel
theorem dX7_endGift_21 : decode cX7_endGift 21 = .ok (.getfield 12, 3) := by decide +kernel
theorem dX7_endGift_24 : decode cX7_endGift 24 = .ok (.invokevirtual 78, 3) := by decide +kernel
theorem dX7_endGift_27 : decode cX7_endGift 27 = .ok (.aload_n 0, 1) := by decide +kernel
theorem dX7_endGift_28 : decode cX7_endGift 28 = .ok (.getfield 12, 3) := by decide +kernel
theorem dX7_endGift_31 : decode cX7_endGift 31 = .ok (.getfield 110, 3) := by decide +kernel
theorem dX7_endGift_34 : decode cX7_endGift 34 = .ok (.getfield 114, 3) := by decide +kernel
theorem dX7_endGift_37 : decode cX7_endGift 37 = .ok (.ireturn, 1) := by decide +kernel
set_option maxRecDepth 20000 in
theorem ggX7_adjust_X7_needAccount : GoodIn wsX7_adjust wsX7_needAccount := goodIn_ca (goodIn_r _ [9, 10, 11, 8, 12, 13, 14, 15, 16, 17] (by decide +kernel) (by decide +kernel)) (goodIn_sub (fun _ h => List.mem_cons_of_mem _ (List.mem_append_right _ h)) (by decide +kernel))
set_option maxRecDepth 20000 in
theorem gX7_adjust_X7_needAccount : GoodIn wsX7_adjust (va_wsS RX7 286 yX7_needAccount wsX7_needAccount) := goodIn_app (goodIn_of _ (by decide +kernel)) ggX7_adjust_X7_needAccount
set_option maxRecDepth 20000 in
theorem ggX7_adjust_X7_needRange : GoodIn wsX7_adjust wsX7_needRange := goodIn_ca (goodIn_r _ [15, 16, 17] (by decide +kernel) (by decide +kernel)) (goodIn_sub (fun _ h => List.mem_cons_of_mem _ (List.mem_append_right _ h)) (by decide +kernel))
set_option maxRecDepth 20000 in
theorem gX7_adjust_X7_needRange : GoodIn wsX7_adjust (va_wsS RX7 54 yX7_needRange wsX7_needRange) := goodIn_app (goodIn_of _ (by decide +kernel)) ggX7_adjust_X7_needRange
set_option maxRecDepth 20000 in
theorem ggX7_adjust_X7_accountOf : GoodIn wsX7_adjust wsX7_accountOf := goodIn_r _ [20] (by decide +kernel) (by decide +kernel)
set_option maxRecDepth 20000 in
theorem gX7_adjust_X7_accountOf : GoodIn wsX7_adjust (va_wsS RX7 289 yX7_accountOf wsX7_accountOf) := goodIn_app (goodIn_of _ (by decide +kernel)) ggX7_adjust_X7_accountOf
set_option maxRecDepth 20000 in
theorem ggX7_adjust_X0_amountOf : GoodIn wsX7_adjust wsX0_amountOf := goodIn_r _ [25, 26, 143, 144, 145, 146] (by decide +kernel) (by decide +kernel)
set_option maxRecDepth 20000 in
theorem gX7_adjust_X0_amountOf : GoodIn wsX7_adjust (wsV RX7 292 RX0 yX0_amountOf wsX0_amountOf) := goodIn_app (goodIn_of _ (by decide +kernel)) ggX7_adjust_X0_amountOf
set_option maxRecDepth 20000 in
theorem ggX7_adjust_X7_remember : GoodIn wsX7_adjust wsX7_remember := goodIn_r _ [30, 31, 32, 3, 33, 34, 35, 36, 37, 38, 39, 40, 41, 42, 43, 44, 45, 46, 47, 48, 49, 50, 51, 52, 53, 54, 55, 56, 57, 58, 59, 60, 61, 62, 63, 64, 65, 66, 67, 68, 69, 70, 71, 72, 73, 74, 75, 76, 77, 24, 78, 26, 79, 80, 81, 82, 83, 84, 85, 86, 87, 88, 89, 90, 91, 92, 93, 130, 131, 132, 133, 134, 135, 136, 137, 138, 139, 140, 141, 142, 147, 148, 149, 150, 151, 152, 153, 143, 144, 145, 146, 154, 155, 156, 157, 158] (by decide +kernel) (by decide +kernel)
set_option maxRecDepth 20000 in
theorem gX7_adjust_X7_remember : GoodIn wsX7_adjust (wsV RX7 64 RX7 yX7_remember wsX7_remember) := goodIn_app (goodIn_of _ (by decide +kernel)) ggX7_adjust_X7_remember
set_option maxRecDepth 20000 in
theorem ggX7_adjust_X0_setAmount : GoodIn wsX7_adjust wsX0_setAmount := goodIn_r _ [97, 26, 143, 144, 145, 146] (by decide +kernel) (by decide +kernel)
set_option maxRecDepth 20000 in
theorem gX7_adjust_X0_setAmount : GoodIn wsX7_adjust (wsV RX7 370 RX0 yX0_setAmount wsX0_setAmount) := goodIn_app (goodIn_of _ (by decide +kernel)) ggX7_adjust_X0_setAmount
set_option maxRecDepth 20000 in
theorem ggX7_adjust_X6_setClocks : GoodIn wsX7_adjust wsX6_setClocks := goodIn_r _ [101, 49, 51, 19, 8, 20, 102, 103, 104, 45, 105, 106, 107, 108, 109, 50, 110, 111, 36, 112, 113, 114, 115, 24, 116, 81, 80, 117, 118, 119, 86, 120, 93, 90, 91, 88, 121, 22, 23, 25, 26, 122, 123, 124, 125, 82, 126, 127, 128, 129, 137, 138, 139, 140, 141, 142, 143, 144, 145, 146, 154, 155, 156, 157, 158] (by decide +kernel) (by decide +kernel)
set_option maxRecDepth 20000 in
theorem gX7_adjust_X6_setClocks : GoodIn wsX7_adjust (wsV RX7 78 RX6 yX6_setClocks wsX6_setClocks) := goodIn_app (goodIn_of _ (by decide +kernel)) ggX7_adjust_X6_setClocks
theorem dX7_adjust_0 : decode cX7_adjust 0 = .ok (.iload_n 1, 1) := by decide +kernel
theorem dX7_adjust_1 : decode cX7_adjust 1 = .ok (.iload_n 2, 1) := by decide +kernel
theorem dX7_adjust_2 : decode cX7_adjust 2 = .ok (.invokestatic 286, 3) := by decide +kernel
theorem dX7_adjust_5 : decode cX7_adjust 5 = .ok (.iload_n 3, 1) := by decide +kernel
theorem dX7_adjust_6 : decode cX7_adjust 6 = .ok (.sipush (-9999), 3) := by decide +kernel
theorem dX7_adjust_9 : decode cX7_adjust 9 = .ok (.sipush 9999, 3) := by decide +kernel
theorem dX7_adjust_12 : decode cX7_adjust 12 = .ok (.invokestatic 54, 3) := by decide +kernel
theorem dX7_adjust_15 : decode cX7_adjust 15 = .ok (.iload_n 1, 1) := by decide +kernel
theorem dX7_adjust_16 : decode cX7_adjust 16 = .ok (.iload_n 2, 1) := by decide +kernel
theorem dX7_adjust_17 : decode cX7_adjust 17 = .ok (.invokestatic 289, 3) := by decide +kernel
theorem dX7_adjust_20 : decode cX7_adjust 20 = .ok (.istore 4, 2) := by decide +kernel
theorem dX7_adjust_22 : decode cX7_adjust 22 = .ok (.aload_n 0, 1) := by decide +kernel
theorem dX7_adjust_23 : decode cX7_adjust 23 = .ok (.getfield 12, 3) := by decide +kernel
theorem dX7_adjust_26 : decode cX7_adjust 26 = .ok (.getfield 255, 3) := by decide +kernel
theorem dX7_adjust_29 : decode cX7_adjust 29 = .ok (.iload 4, 2) := by decide +kernel
theorem dX7_adjust_31 : decode cX7_adjust 31 = .ok (.invokevirtual 292, 3) := by decide +kernel
theorem dX7_adjust_34 : decode cX7_adjust 34 = .ok (.iload_n 3, 1) := by decide +kernel
theorem dX7_adjust_35 : decode cX7_adjust 35 = .ok (.iadd, 1) := by decide +kernel
theorem dX7_adjust_36 : decode cX7_adjust 36 = .ok (.istore 5, 2) := by decide +kernel
theorem dX7_adjust_38 : decode cX7_adjust 38 = .ok (.iload 5, 2) := by decide +kernel
theorem dX7_adjust_40 : decode cX7_adjust 40 = .ok (.ifCond .lt 11, 3) := by decide +kernel
theorem dX7_adjust_43 : decode cX7_adjust 43 = .ok (.iload 5, 2) := by decide +kernel
theorem dX7_adjust_45 : decode cX7_adjust 45 = .ok (.ldc_w 367, 3) := by decide +kernel
theorem dX7_adjust_48 : decode cX7_adjust 48 = .ok (.if_icmp .le 14, 3) := by decide +kernel
theorem dX7_adjust_51 : decode cX7_adjust 51 = .ok (.new 43, 3) := by decide +kernel
theorem dX7_adjust_54 : decode cX7_adjust 54 = .ok (.dup, 1) := by decide +kernel
theorem dX7_adjust_55 : decode cX7_adjust 55 = .ok (.ldc_w 368, 3) := by decide +kernel
theorem dX7_adjust_58 : decode cX7_adjust 58 = .ok (.invokespecial 47, 3) := by decide +kernel
theorem dX7_adjust_61 : decode cX7_adjust 61 = .ok (.athrow, 1) := by decide +kernel
theorem dX7_adjust_62 : decode cX7_adjust 62 = .ok (.aload_n 0, 1) := by decide +kernel
theorem dX7_adjust_63 : decode cX7_adjust 63 = .ok (.invokevirtual 64, 3) := by decide +kernel
theorem dX7_adjust_66 : decode cX7_adjust 66 = .ok (.aload_n 0, 1) := by decide +kernel
theorem dX7_adjust_67 : decode cX7_adjust 67 = .ok (.getfield 12, 3) := by decide +kernel
theorem dX7_adjust_70 : decode cX7_adjust 70 = .ok (.getfield 255, 3) := by decide +kernel
theorem dX7_adjust_73 : decode cX7_adjust 73 = .ok (.iload 4, 2) := by decide +kernel
theorem dX7_adjust_75 : decode cX7_adjust 75 = .ok (.iload 5, 2) := by decide +kernel
theorem dX7_adjust_77 : decode cX7_adjust 77 = .ok (.invokevirtual 370, 3) := by decide +kernel
theorem dX7_adjust_80 : decode cX7_adjust 80 = .ok (.aload_n 0, 1) := by decide +kernel
theorem dX7_adjust_81 : decode cX7_adjust 81 = .ok (.getfield 12, 3) := by decide +kernel
theorem dX7_adjust_84 : decode cX7_adjust 84 = .ok (.invokevirtual 78, 3) := by decide +kernel
theorem dX7_adjust_87 : decode cX7_adjust 87 = .ok (.iload 5, 2) := by decide +kernel
theorem dX7_adjust_89 : decode cX7_adjust 89 = .ok (.ireturn, 1) := by decide +kernel
set_option maxRecDepth 20000 in
theorem ggX7_repair_X7_remember : GoodIn wsX7_repair wsX7_remember := goodIn_r _ [6, 7, 8, 1, 9, 10, 11, 12, 13, 14, 15, 16, 17, 18, 19, 20, 21, 22, 23, 24, 25, 26, 27, 28, 29, 30, 31, 32, 33, 34, 35, 36, 37, 38, 39, 40, 41, 42, 43, 44, 45, 46, 47, 48, 49, 50, 51, 52, 53, 54, 55, 56, 57, 58, 59, 60, 61, 62, 63, 64, 65, 66, 67, 68, 69, 70, 71, 158, 159, 160, 161, 162, 163, 164, 165, 166, 167, 168, 169, 170, 171, 172, 173, 174, 175, 176, 177, 178, 179, 180, 181, 182, 183, 184, 185, 186] (by decide +kernel) (by decide +kernel)
set_option maxRecDepth 20000 in
theorem gX7_repair_X7_remember : GoodIn wsX7_repair (wsV RX7 64 RX7 yX7_remember wsX7_remember) := goodIn_app (goodIn_of _ (by decide +kernel)) ggX7_repair_X7_remember
set_option maxRecDepth 20000 in
theorem ggX7_repair_X6_correctAccounts : GoodIn wsX7_repair wsX6_correctAccounts := goodIn_r _ [75, 25, 76, 5, 77, 78, 79, 80, 21, 81, 24, 82, 83, 84, 85, 86, 23, 87, 88, 89, 45, 90, 47, 91, 92, 93, 94, 50, 95, 96, 97, 32, 98, 99, 100, 101, 102, 40, 103, 104, 105, 106, 41, 107, 108, 109, 110, 34, 111, 112, 113, 114, 115, 116, 117, 118, 49, 119, 120, 121, 54, 122, 56, 123, 124, 125, 126, 165, 166, 167, 168, 169, 170, 175, 176, 177, 171, 172, 173, 174, 178, 179, 180, 181] (by decide +kernel) (by decide +kernel)
set_option maxRecDepth 20000 in
theorem gX7_repair_X6_correctAccounts : GoodIn wsX7_repair (wsV RX7 74 RX6 yX6_correctAccounts wsX6_correctAccounts) := goodIn_app (goodIn_of _ (by decide +kernel)) ggX7_repair_X6_correctAccounts
set_option maxRecDepth 20000 in
theorem ggX7_repair_X6_setClocks : GoodIn wsX7_repair wsX6_setClocks := goodIn_r _ [130, 25, 27, 76, 5, 77, 131, 132, 133, 21, 134, 135, 136, 137, 138, 26, 139, 140, 12, 141, 142, 143, 144, 54, 145, 59, 58, 146, 147, 148, 64, 149, 71, 68, 69, 66, 119, 120, 121, 122, 56, 150, 151, 152, 153, 60, 154, 155, 156, 157, 165, 166, 167, 168, 169, 170, 178, 179, 180, 181, 182, 183, 184, 185, 186] (by decide +kernel) (by decide +kernel)
set_option maxRecDepth 20000 in
theorem gX7_repair_X6_setClocks : GoodIn wsX7_repair (wsV RX7 78 RX6 yX6_setClocks wsX6_setClocks) := goodIn_app (goodIn_of _ (by decide +kernel)) ggX7_repair_X6_setClocks
theorem dX7_repair_0 : decode cX7_repair 0 = .ok (.aload_n 0, 1) := by decide +kernel
theorem dX7_repair_1 : decode cX7_repair 1 = .ok (.invokevirtual 64, 3) := by decide +kernel
theorem dX7_repair_4 : decode cX7_repair 4 = .ok (.aload_n 0, 1) := by decide +kernel
theorem dX7_repair_5 : decode cX7_repair 5 = .ok (.getfield 12, 3) := by decide +kernel
theorem dX7_repair_8 : decode cX7_repair 8 = .ok (.invokevirtual 74, 3) := by decide +kernel
theorem dX7_repair_11 : decode cX7_repair 11 = .ok (.istore_n 1, 1) := by decide +kernel
theorem dX7_repair_12 : decode cX7_repair 12 = .ok (.aload_n 0, 1) := by decide +kernel
theorem dX7_repair_13 : decode cX7_repair 13 = .ok (.getfield 12, 3) := by decide +kernel
theorem dX7_repair_16 : decode cX7_repair 16 = .ok (.invokevirtual 78, 3) := by decide +kernel
theorem dX7_repair_19 : decode cX7_repair 19 = .ok (.iload_n 1, 1) := by decide +kernel
theorem dX7_repair_20 : decode cX7_repair 20 = .ok (.ireturn, 1) := by decide +kernel
set_option maxRecDepth 20000 in
theorem ggX7_undo_J9_floorMod_7cf53 : GoodIn wsX7_undo wsJ9_floorMod_7cf53 := goodIn_r _ [10] (by decide +kernel) (by decide +kernel)
set_option maxRecDepth 20000 in
theorem gX7_undo_J9_floorMod_7cf53 : GoodIn wsX7_undo (va_wsS RX7 409 yJ9_floorMod_7cf53 wsJ9_floorMod_7cf53) := goodIn_app (goodIn_of _ (by decide +kernel)) ggX7_undo_J9_floorMod_7cf53
set_option maxRecDepth 20000 in
theorem ggX7_undo_X6_copyFrom : GoodIn wsX7_undo wsX6_copyFrom := goodIn_r _ [15, 16, 17, 18, 19, 20, 21, 22, 23, 24, 25, 26, 27, 28, 29, 30, 31, 32, 33, 34, 35, 36, 37, 38, 39, 40, 41, 42, 43, 44, 45, 46, 47, 48, 49, 50, 51, 52, 53, 54, 55, 56, 57, 58, 59, 60, 61, 62, 63, 64, 72, 73, 74, 75, 76, 77, 78, 79, 80, 81, 82, 83, 84, 85, 86, 87, 88, 89, 90, 91, 92, 93] (by decide +kernel) (by decide +kernel)
set_option maxRecDepth 20000 in
theorem gX7_undo_X6_copyFrom : GoodIn wsX7_undo (wsV RX7 70 RX6 yX6_copyFrom wsX6_copyFrom) := goodIn_app (goodIn_of _ (by decide +kernel)) ggX7_undo_X6_copyFrom
theorem dX7_undo_0 : decode cX7_undo 0 = .ok (.aload_n 0, 1) := by decide +kernel
theorem dX7_undo_1 : decode cX7_undo 1 = .ok (.getfield 401, 3) := by decide +kernel
theorem dX7_undo_4 : decode cX7_undo 4 = .ok (.ifCond .ne 14, 3) := by decide +kernel
theorem dX7_undo_7 : decode cX7_undo 7 = .ok (.new 43, 3) := by decide +kernel
theorem dX7_undo_10 : decode cX7_undo 10 = .ok (.dup, 1) := by decide +kernel
theorem dX7_undo_11 : decode cX7_undo 11 = .ok (.ldc_w 404, 3) := by decide +kernel
theorem dX7_undo_14 : decode cX7_undo 14 = .ok (.invokespecial 47, 3) := by decide +kernel
theorem dX7_undo_17 : decode cX7_undo 17 = .ok (.athrow, 1) := by decide +kernel
theorem dX7_undo_18 : decode cX7_undo 18 = .ok (.aload_n 0, 1) := by decide +kernel
theorem dX7_undo_19 : decode cX7_undo 19 = .ok (.dup, 1) := by decide +kernel
theorem dX7_undo_20 : decode cX7_undo 20 = .ok (.getfield 401, 3) := by decide +kernel
theorem dX7_undo_23 : decode cX7_undo 23 = .ok (.iconst 1, 1) := by decide +kernel
theorem dX7_undo_24 : decode cX7_undo 24 = .ok (.isub, 1) := by decide +kernel
theorem dX7_undo_25 : decode cX7_undo 25 = .ok (.putfield 401, 3) := by decide +kernel
theorem dX7_undo_28 : decode cX7_undo 28 = .ok (.aload_n 0, 1) := by decide +kernel
theorem dX7_undo_29 : decode cX7_undo 29 = .ok (.dup, 1) := by decide +kernel
theorem dX7_undo_30 : decode cX7_undo 30 = .ok (.getfield 406, 3) := by decide +kernel
theorem dX7_undo_33 : decode cX7_undo 33 = .ok (.iconst 1, 1) := by decide +kernel
theorem dX7_undo_34 : decode cX7_undo 34 = .ok (.isub, 1) := by decide +kernel
theorem dX7_undo_35 : decode cX7_undo 35 = .ok (.putfield 406, 3) := by decide +kernel
theorem dX7_undo_38 : decode cX7_undo 38 = .ok (.aload_n 0, 1) := by decide +kernel
theorem dX7_undo_39 : decode cX7_undo 39 = .ok (.getfield 16, 3) := by decide +kernel
theorem dX7_undo_42 : decode cX7_undo 42 = .ok (.aload_n 0, 1) := by decide +kernel
theorem dX7_undo_43 : decode cX7_undo 43 = .ok (.getfield 406, 3) := by decide +kernel
theorem dX7_undo_46 : decode cX7_undo 46 = .ok (.bipush 8, 2) := by decide +kernel
theorem dX7_undo_48 : decode cX7_undo 48 = .ok (.invokestatic 409, 3) := by decide +kernel
theorem dX7_undo_51 : decode cX7_undo 51 = .ok (.aaload, 1) := by decide +kernel
theorem dX7_undo_52 : decode cX7_undo 52 = .ok (.astore_n 1, 1) := by decide +kernel
theorem dX7_undo_53 : decode cX7_undo 53 = .ok (.aload_n 1, 1) := by decide +kernel
theorem dX7_undo_54 : decode cX7_undo 54 = .ok (.ifnull 11, 3) := by decide +kernel
theorem dX7_undo_57 : decode cX7_undo 57 = .ok (.aload_n 0, 1) := by decide +kernel
theorem dX7_undo_58 : decode cX7_undo 58 = .ok (.getfield 12, 3) := by decide +kernel
theorem dX7_undo_61 : decode cX7_undo 61 = .ok (.aload_n 1, 1) := by decide +kernel
theorem dX7_undo_62 : decode cX7_undo 62 = .ok (.invokevirtual 70, 3) := by decide +kernel
theorem dX7_undo_65 : decode cX7_undo 65 = .ok (.aload_n 0, 1) := by decide +kernel
theorem dX7_undo_66 : decode cX7_undo 66 = .ok (.getfield 401, 3) := by decide +kernel
theorem dX7_undo_69 : decode cX7_undo 69 = .ok (.ireturn, 1) := by decide +kernel
