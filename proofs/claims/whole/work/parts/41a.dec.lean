theorem dX8_becomes_0 : decode cX8_becomes 0 = .ok (.iconst 0, 1) := by decide +kernel
theorem dX8_becomes_1 : decode cX8_becomes 1 = .ok (.istore_n 3, 1) := by decide +kernel
theorem dX8_becomes_2 : decode cX8_becomes 2 = .ok (.iload_n 3, 1) := by decide +kernel
theorem dX8_becomes_3 : decode cX8_becomes 3 = .ok (.sipush 357, 3) := by decide +kernel
theorem dX8_becomes_6 : decode cX8_becomes 6 = .ok (.if_icmp .ge 20, 3) := by decide +kernel
theorem dX8_becomes_9 : decode cX8_becomes 9 = .ok (.aload_n 0, 1) := by decide +kernel
theorem dX8_becomes_10 : decode cX8_becomes 10 = .ok (.getfield 7, 3) := by decide +kernel
theorem dX8_becomes_13 : decode cX8_becomes 13 = .ok (.iload_n 3, 1) := by decide +kernel
theorem dX8_becomes_14 : decode cX8_becomes 14 = .ok (.aload_n 1, 1) := by decide +kernel
theorem dX8_becomes_15 : decode cX8_becomes 15 = .ok (.iload_n 2, 1) := by decide +kernel
theorem dX8_becomes_16 : decode cX8_becomes 16 = .ok (.iload_n 3, 1) := by decide +kernel
theorem dX8_becomes_17 : decode cX8_becomes 17 = .ok (.iadd, 1) := by decide +kernel
theorem dX8_becomes_18 : decode cX8_becomes 18 = .ok (.laload, 1) := by decide +kernel
theorem dX8_becomes_19 : decode cX8_becomes 19 = .ok (.lastore, 1) := by decide +kernel
theorem dX8_becomes_20 : decode cX8_becomes 20 = .ok (.iinc 3 1, 3) := by decide +kernel
theorem dX8_becomes_23 : decode cX8_becomes 23 = .ok (.goto (-21), 3) := by decide +kernel
theorem dX8_becomes_26 : decode cX8_becomes 26 = .ok (.return_, 1) := by decide +kernel
theorem dX8_thrown_0 : decode cX8_thrown 0 = .ok (.aload_n 0, 1) := by decide +kernel
theorem dX8_thrown_1 : decode cX8_thrown 1 = .ok (.getfield 43, 3) := by decide +kernel
theorem dX8_thrown_4 : decode cX8_thrown 4 = .ok (.ireturn, 1) := by decide +kernel
theorem dX8_named_0 : decode cX8_named 0 = .ok (.iconst 0, 1) := by decide +kernel
theorem dX8_named_1 : decode cX8_named 1 = .ok (.istore_n 3, 1) := by decide +kernel
theorem dX8_named_2 : decode cX8_named 2 = .ok (.iload_n 3, 1) := by decide +kernel
theorem dX8_named_3 : decode cX8_named 3 = .ok (.i2l, 1) := by decide +kernel
theorem dX8_named_4 : decode cX8_named 4 = .ok (.aload_n 0, 1) := by decide +kernel
theorem dX8_named_5 : decode cX8_named 5 = .ok (.iconst 2, 1) := by decide +kernel
theorem dX8_named_6 : decode cX8_named 6 = .ok (.laload, 1) := by decide +kernel
theorem dX8_named_7 : decode cX8_named 7 = .ok (.lcmp, 1) := by decide +kernel
theorem dX8_named_8 : decode cX8_named 8 = .ok (.ifCond .ge 23, 3) := by decide +kernel
theorem dX8_named_11 : decode cX8_named 11 = .ok (.aload_n 0, 1) := by decide +kernel
theorem dX8_named_12 : decode cX8_named 12 = .ok (.sipush 149, 3) := by decide +kernel
theorem dX8_named_15 : decode cX8_named 15 = .ok (.iload_n 3, 1) := by decide +kernel
theorem dX8_named_16 : decode cX8_named 16 = .ok (.iadd, 1) := by decide +kernel
theorem dX8_named_17 : decode cX8_named 17 = .ok (.laload, 1) := by decide +kernel
theorem dX8_named_18 : decode cX8_named 18 = .ok (.lload_n 1, 1) := by decide +kernel
theorem dX8_named_19 : decode cX8_named 19 = .ok (.lcmp, 1) := by decide +kernel
theorem dX8_named_20 : decode cX8_named 20 = .ok (.ifCond .ne 5, 3) := by decide +kernel
theorem dX8_named_23 : decode cX8_named 23 = .ok (.iload_n 3, 1) := by decide +kernel
theorem dX8_named_24 : decode cX8_named 24 = .ok (.ireturn, 1) := by decide +kernel
theorem dX8_named_25 : decode cX8_named 25 = .ok (.iinc 3 1, 3) := by decide +kernel
theorem dX8_named_28 : decode cX8_named 28 = .ok (.goto (-26), 3) := by decide +kernel
theorem dX8_named_31 : decode cX8_named 31 = .ok (.iconst (-1), 1) := by decide +kernel
theorem dX8_named_32 : decode cX8_named 32 = .ok (.ireturn, 1) := by decide +kernel
theorem dX8_errorPosition_0 : decode cX8_errorPosition 0 = .ok (.aload_n 0, 1) := by decide +kernel
theorem dX8_errorPosition_1 : decode cX8_errorPosition 1 = .ok (.iconst 0, 1) := by decide +kernel
theorem dX8_errorPosition_2 : decode cX8_errorPosition 2 = .ok (.putfield 43, 3) := by decide +kernel
theorem dX8_errorPosition_5 : decode cX8_errorPosition 5 = .ok (.aload_n 0, 1) := by decide +kernel
theorem dX8_errorPosition_6 : decode cX8_errorPosition 6 = .ok (.getfield 23, 3) := by decide +kernel
theorem dX8_errorPosition_9 : decode cX8_errorPosition 9 = .ok (.ireturn, 1) := by decide +kernel
set_option maxRecDepth 20000 in
theorem ggX8_count_X8_isIn : GoodIn wsX8_count wsX8_isIn := goodIn_r _ [7] (by decide +kernel) (by decide +kernel)
set_option maxRecDepth 20000 in
theorem gX8_count_X8_isIn : GoodIn wsX8_count (va_wsS RX8 59 yX8_isIn wsX8_isIn) := goodIn_app (goodIn_of _ (by decide +kernel)) ggX8_count_X8_isIn
set_option maxRecDepth 20000 in
theorem ggX8_count_X8_filesBelow : GoodIn wsX8_count wsX8_filesBelow := goodIn_r _ [11, 3, 12, 13, 14, 6, 15, 16, 17, 18, 19, 20, 21, 22, 23, 40, 41, 42, 43, 44, 45, 46, 47, 48, 49, 50, 51, 52, 53, 54, 55, 56, 57] (by decide +kernel) (by decide +kernel)
set_option maxRecDepth 20000 in
theorem gX8_count_X8_filesBelow : GoodIn wsX8_count (wsV RX8 210 RX8 yX8_filesBelow wsX8_filesBelow) := goodIn_app (goodIn_of _ (by decide +kernel)) ggX8_count_X8_filesBelow
set_option maxRecDepth 20000 in
theorem ggX8_count_X8_taggedNow : GoodIn wsX8_count wsX8_taggedNow := goodIn_r _ [27, 3, 28, 29, 30, 6, 31, 40, 41, 42, 43, 44, 45, 46, 47, 48, 49, 50, 51, 52, 53, 54, 55, 56, 57] (by decide +kernel) (by decide +kernel)
set_option maxRecDepth 20000 in
theorem gX8_count_X8_taggedNow : GoodIn wsX8_count (wsV RX8 214 RX8 yX8_taggedNow wsX8_taggedNow) := goodIn_app (goodIn_of _ (by decide +kernel)) ggX8_count_X8_taggedNow
set_option maxRecDepth 20000 in
theorem ggX8_count_X8_withoutProject : GoodIn wsX8_count wsX8_withoutProject := goodIn_r _ [35, 3, 12, 13, 14, 6, 15, 36, 37, 38, 39, 28, 29, 30, 31, 20, 21, 22, 23, 40, 41, 42, 43, 44, 45, 46, 47, 48, 49, 50, 51, 52, 53, 54, 55, 56, 57] (by decide +kernel) (by decide +kernel)
set_option maxRecDepth 20000 in
theorem gX8_count_X8_withoutProject : GoodIn wsX8_count (wsV RX8 217 RX8 yX8_withoutProject wsX8_withoutProject) := goodIn_app (goodIn_of _ (by decide +kernel)) ggX8_count_X8_withoutProject
theorem dX8_count_0 : decode cX8_count 0 = .ok (.aload_n 0, 1) := by decide +kernel
theorem dX8_count_1 : decode cX8_count 1 = .ok (.iload_n 1, 1) := by decide +kernel
theorem dX8_count_2 : decode cX8_count 2 = .ok (.i2l, 1) := by decide +kernel
theorem dX8_count_3 : decode cX8_count 3 = .ok (.lconst 0, 1) := by decide +kernel
theorem dX8_count_4 : decode cX8_count 4 = .ok (.ldc2_w 189, 3) := by decide +kernel
theorem dX8_count_7 : decode cX8_count 7 = .ok (.invokestatic 59, 3) := by decide +kernel
theorem dX8_count_10 : decode cX8_count 10 = .ok (.ifCond .eq 7, 3) := by decide +kernel
theorem dX8_count_13 : decode cX8_count 13 = .ok (.iconst 0, 1) := by decide +kernel
theorem dX8_count_14 : decode cX8_count 14 = .ok (.goto 4, 3) := by decide +kernel
theorem dX8_count_17 : decode cX8_count 17 = .ok (.iconst 1, 1) := by decide +kernel
theorem dX8_count_18 : decode cX8_count 18 = .ok (.putfield 43, 3) := by decide +kernel
theorem dX8_count_21 : decode cX8_count 21 = .ok (.aload_n 0, 1) := by decide +kernel
theorem dX8_count_22 : decode cX8_count 22 = .ok (.getfield 43, 3) := by decide +kernel
theorem dX8_count_25 : decode cX8_count 25 = .ok (.ifCond .le 5, 3) := by decide +kernel
theorem dX8_count_28 : decode cX8_count 28 = .ok (.iconst 0, 1) := by decide +kernel
theorem dX8_count_29 : decode cX8_count 29 = .ok (.ireturn, 1) := by decide +kernel
theorem dX8_count_30 : decode cX8_count 30 = .ok (.iload_n 1, 1) := by decide +kernel
theorem dX8_count_31 : decode cX8_count 31 = .ok (.tableswitch 94 0 6 #[41, 49, 57, 65, 73, 81, 89], 41) := by decide +kernel
theorem dX8_count_72 : decode cX8_count 72 = .ok (.aload_n 0, 1) := by decide +kernel
theorem dX8_count_73 : decode cX8_count 73 = .ok (.getfield 7, 3) := by decide +kernel
theorem dX8_count_76 : decode cX8_count 76 = .ok (.iconst 2, 1) := by decide +kernel
theorem dX8_count_77 : decode cX8_count 77 = .ok (.laload, 1) := by decide +kernel
theorem dX8_count_78 : decode cX8_count 78 = .ok (.l2i, 1) := by decide +kernel
theorem dX8_count_79 : decode cX8_count 79 = .ok (.ireturn, 1) := by decide +kernel
theorem dX8_count_80 : decode cX8_count 80 = .ok (.aload_n 0, 1) := by decide +kernel
theorem dX8_count_81 : decode cX8_count 81 = .ok (.getfield 7, 3) := by decide +kernel
theorem dX8_count_84 : decode cX8_count 84 = .ok (.iconst 3, 1) := by decide +kernel
theorem dX8_count_85 : decode cX8_count 85 = .ok (.laload, 1) := by decide +kernel
theorem dX8_count_86 : decode cX8_count 86 = .ok (.l2i, 1) := by decide +kernel
theorem dX8_count_87 : decode cX8_count 87 = .ok (.ireturn, 1) := by decide +kernel
theorem dX8_count_88 : decode cX8_count 88 = .ok (.aload_n 0, 1) := by decide +kernel
theorem dX8_count_89 : decode cX8_count 89 = .ok (.iconst 0, 1) := by decide +kernel
theorem dX8_count_90 : decode cX8_count 90 = .ok (.iconst 1, 1) := by decide +kernel
theorem dX8_count_91 : decode cX8_count 91 = .ok (.invokevirtual 210, 3) := by decide +kernel
theorem dX8_count_94 : decode cX8_count 94 = .ok (.l2i, 1) := by decide +kernel
theorem dX8_count_95 : decode cX8_count 95 = .ok (.ireturn, 1) := by decide +kernel
theorem dX8_count_96 : decode cX8_count 96 = .ok (.aload_n 0, 1) := by decide +kernel
theorem dX8_count_97 : decode cX8_count 97 = .ok (.getfield 7, 3) := by decide +kernel
theorem dX8_count_100 : decode cX8_count 100 = .ok (.iconst 0, 1) := by decide +kernel
theorem dX8_count_101 : decode cX8_count 101 = .ok (.laload, 1) := by decide +kernel
theorem dX8_count_102 : decode cX8_count 102 = .ok (.l2i, 1) := by decide +kernel
theorem dX8_count_103 : decode cX8_count 103 = .ok (.ireturn, 1) := by decide +kernel
theorem dX8_count_104 : decode cX8_count 104 = .ok (.aload_n 0, 1) := by decide +kernel
theorem dX8_count_105 : decode cX8_count 105 = .ok (.getfield 7, 3) := by decide +kernel
theorem dX8_count_108 : decode cX8_count 108 = .ok (.iconst 1, 1) := by decide +kernel
theorem dX8_count_109 : decode cX8_count 109 = .ok (.laload, 1) := by decide +kernel
theorem dX8_count_110 : decode cX8_count 110 = .ok (.l2i, 1) := by decide +kernel
theorem dX8_count_111 : decode cX8_count 111 = .ok (.ireturn, 1) := by decide +kernel
theorem dX8_count_112 : decode cX8_count 112 = .ok (.aload_n 0, 1) := by decide +kernel
theorem dX8_count_113 : decode cX8_count 113 = .ok (.getfield 7, 3) := by decide +kernel
theorem dX8_count_116 : decode cX8_count 116 = .ok (.iconst 4, 1) := by decide +kernel
theorem dX8_count_117 : decode cX8_count 117 = .ok (.laload, 1) := by decide +kernel
theorem dX8_count_118 : decode cX8_count 118 = .ok (.l2i, 1) := by decide +kernel
theorem dX8_count_119 : decode cX8_count 119 = .ok (.ireturn, 1) := by decide +kernel
theorem dX8_count_120 : decode cX8_count 120 = .ok (.aload_n 0, 1) := by decide +kernel
theorem dX8_count_121 : decode cX8_count 121 = .ok (.invokevirtual 214, 3) := by decide +kernel
theorem dX8_count_124 : decode cX8_count 124 = .ok (.ireturn, 1) := by decide +kernel
theorem dX8_count_125 : decode cX8_count 125 = .ok (.aload_n 0, 1) := by decide +kernel
theorem dX8_count_126 : decode cX8_count 126 = .ok (.invokevirtual 217, 3) := by decide +kernel
theorem dX8_count_129 : decode cX8_count 129 = .ok (.ireturn, 1) := by decide +kernel
set_option maxRecDepth 20000 in
theorem ggX8_find_X8_named : GoodIn wsX8_find wsX8_named := goodIn_r _ [6] (by decide +kernel) (by decide +kernel)
set_option maxRecDepth 20000 in
theorem gX8_find_X8_named : GoodIn wsX8_find (va_wsS RX8 118 yX8_named wsX8_named) := goodIn_app (goodIn_of _ (by decide +kernel)) ggX8_find_X8_named
theorem dX8_find_0 : decode cX8_find 0 = .ok (.aload_n 0, 1) := by decide +kernel
theorem dX8_find_1 : decode cX8_find 1 = .ok (.iconst 0, 1) := by decide +kernel
theorem dX8_find_2 : decode cX8_find 2 = .ok (.putfield 43, 3) := by decide +kernel
theorem dX8_find_5 : decode cX8_find 5 = .ok (.aload_n 0, 1) := by decide +kernel
theorem dX8_find_6 : decode cX8_find 6 = .ok (.getfield 7, 3) := by decide +kernel
theorem dX8_find_9 : decode cX8_find 9 = .ok (.lload_n 1, 1) := by decide +kernel
theorem dX8_find_10 : decode cX8_find 10 = .ok (.invokestatic 118, 3) := by decide +kernel
theorem dX8_find_13 : decode cX8_find 13 = .ok (.ireturn, 1) := by decide +kernel
set_option maxRecDepth 20000 in
theorem ggX8_folder_X8_isFolder : GoodIn wsX8_folder wsX8_isFolder := goodIn_r _ [7, 8, 9, 10, 6, 11, 60, 61, 62, 63, 64, 65, 66, 67, 68, 69, 70, 71, 72, 73, 74, 75, 76, 77] (by decide +kernel) (by decide +kernel)
set_option maxRecDepth 20000 in
theorem gX8_folder_X8_isFolder : GoodIn wsX8_folder (wsV RX8 220 RX8 yX8_isFolder wsX8_isFolder) := goodIn_app (goodIn_of _ (by decide +kernel)) ggX8_folder_X8_isFolder
set_option maxRecDepth 20000 in
theorem ggX8_folder_X8_isIn : GoodIn wsX8_folder wsX8_isIn := goodIn_r _ [11] (by decide +kernel) (by decide +kernel)
set_option maxRecDepth 20000 in
theorem gX8_folder_X8_isIn : GoodIn wsX8_folder (va_wsS RX8 59 yX8_isIn wsX8_isIn) := goodIn_app (goodIn_of _ (by decide +kernel)) ggX8_folder_X8_isIn
set_option maxRecDepth 20000 in
theorem ggX8_folder_X8_parentOf : GoodIn wsX8_folder wsX8_parentOf := goodIn_r _ [15, 8, 60, 61, 62, 63, 64, 65, 66, 67, 68, 69, 70, 71, 72, 73, 74, 75, 76, 77] (by decide +kernel) (by decide +kernel)
set_option maxRecDepth 20000 in
theorem gX8_folder_X8_parentOf : GoodIn wsX8_folder (wsV RX8 194 RX8 yX8_parentOf wsX8_parentOf) := goodIn_app (goodIn_of _ (by decide +kernel)) ggX8_folder_X8_parentOf
set_option maxRecDepth 20000 in
theorem ggX8_folder_X8_tagOf : GoodIn wsX8_folder wsX8_tagOf := goodIn_r _ [19, 8, 60, 61, 62, 63, 64, 65, 66, 67, 68, 69, 70, 71, 72, 73, 74, 75, 76, 77] (by decide +kernel) (by decide +kernel)
set_option maxRecDepth 20000 in
theorem gX8_folder_X8_tagOf : GoodIn wsX8_folder (wsV RX8 191 RX8 yX8_tagOf wsX8_tagOf) := goodIn_app (goodIn_of _ (by decide +kernel)) ggX8_folder_X8_tagOf
set_option maxRecDepth 20000 in
theorem ggX8_folder_X8_projectOf : GoodIn wsX8_folder wsX8_projectOf := goodIn_r _ [23, 16, 17, 18, 6, 19, 8, 12, 13, 14, 15, 60, 61, 62, 63, 64, 65, 66, 67, 68, 69, 70, 71, 72, 73, 74, 75, 76, 77] (by decide +kernel) (by decide +kernel)
set_option maxRecDepth 20000 in
theorem gX8_folder_X8_projectOf : GoodIn wsX8_folder (wsV RX8 207 RX8 yX8_projectOf wsX8_projectOf) := goodIn_app (goodIn_of _ (by decide +kernel)) ggX8_folder_X8_projectOf
set_option maxRecDepth 20000 in
theorem ggX8_folder_X8_childrenOf : GoodIn wsX8_folder wsX8_childrenOf := goodIn_r _ [27, 8, 12, 13, 14, 6, 15, 60, 61, 62, 63, 64, 65, 66, 67, 68, 69, 70, 71, 72, 73, 74, 75, 76, 77] (by decide +kernel) (by decide +kernel)
set_option maxRecDepth 20000 in
theorem gX8_folder_X8_childrenOf : GoodIn wsX8_folder (wsV RX8 225 RX8 yX8_childrenOf wsX8_childrenOf) := goodIn_app (goodIn_of _ (by decide +kernel)) ggX8_folder_X8_childrenOf
set_option maxRecDepth 20000 in
theorem ggX8_folder_X8_filesIn : GoodIn wsX8_folder wsX8_filesIn := goodIn_r _ [31, 8, 32, 33, 34, 6, 35, 60, 61, 62, 63, 64, 65, 66, 67, 68, 69, 70, 71, 72, 73, 74, 75, 76, 77] (by decide +kernel) (by decide +kernel)
set_option maxRecDepth 20000 in
theorem gX8_folder_X8_filesIn : GoodIn wsX8_folder (wsV RX8 228 RX8 yX8_filesIn wsX8_filesIn) := goodIn_app (goodIn_of _ (by decide +kernel)) ggX8_folder_X8_filesIn
set_option maxRecDepth 20000 in
theorem ggX8_folder_X8_depthOf : GoodIn wsX8_folder wsX8_depthOf := goodIn_r _ [39, 12, 13, 14, 6, 15, 8, 60, 61, 62, 63, 64, 65, 66, 67, 68, 69, 70, 71, 72, 73, 74, 75, 76, 77] (by decide +kernel) (by decide +kernel)
set_option maxRecDepth 20000 in
theorem gX8_folder_X8_depthOf : GoodIn wsX8_folder (wsV RX8 231 RX8 yX8_depthOf wsX8_depthOf) := goodIn_app (goodIn_of _ (by decide +kernel)) ggX8_folder_X8_depthOf
set_option maxRecDepth 20000 in
theorem ggX8_folder_X8_foldersBelow : GoodIn wsX8_folder wsX8_foldersBelow := goodIn_r _ [43, 8, 44, 45, 46, 6, 47, 12, 13, 14, 15, 60, 61, 62, 63, 64, 65, 66, 67, 68, 69, 70, 71, 72, 73, 74, 75, 76, 77] (by decide +kernel) (by decide +kernel)
set_option maxRecDepth 20000 in
theorem gX8_folder_X8_foldersBelow : GoodIn wsX8_folder (wsV RX8 234 RX8 yX8_foldersBelow wsX8_foldersBelow) := goodIn_app (goodIn_of _ (by decide +kernel)) ggX8_folder_X8_foldersBelow
set_option maxRecDepth 20000 in
theorem ggX8_folder_X8_filesBelow : GoodIn wsX8_folder wsX8_filesBelow := goodIn_r _ [51, 8, 32, 33, 34, 6, 35, 44, 45, 46, 47, 12, 13, 14, 15, 60, 61, 62, 63, 64, 65, 66, 67, 68, 69, 70, 71, 72, 73, 74, 75, 76, 77] (by decide +kernel) (by decide +kernel)
set_option maxRecDepth 20000 in
theorem gX8_folder_X8_filesBelow : GoodIn wsX8_folder (wsV RX8 210 RX8 yX8_filesBelow wsX8_filesBelow) := goodIn_app (goodIn_of _ (by decide +kernel)) ggX8_folder_X8_filesBelow
set_option maxRecDepth 20000 in
theorem ggX8_folder_X8_openOf : GoodIn wsX8_folder wsX8_openOf := goodIn_r _ [55, 8, 32, 33, 34, 6, 35, 56, 57, 58, 59, 16, 17, 18, 19, 12, 13, 14, 15, 60, 61, 62, 63, 64, 65, 66, 67, 68, 69, 70, 71, 72, 73, 74, 75, 76, 77] (by decide +kernel) (by decide +kernel)
set_option maxRecDepth 20000 in
theorem gX8_folder_X8_openOf : GoodIn wsX8_folder (wsV RX8 237 RX8 yX8_openOf wsX8_openOf) := goodIn_app (goodIn_of _ (by decide +kernel)) ggX8_folder_X8_openOf
theorem dX8_folder_0 : decode cX8_folder 0 = .ok (.aload_n 0, 1) := by decide +kernel
theorem dX8_folder_1 : decode cX8_folder 1 = .ok (.aload_n 0, 1) := by decide +kernel
theorem dX8_folder_2 : decode cX8_folder 2 = .ok (.iload_n 1, 1) := by decide +kernel
theorem dX8_folder_3 : decode cX8_folder 3 = .ok (.invokevirtual 220, 3) := by decide +kernel
theorem dX8_folder_6 : decode cX8_folder 6 = .ok (.ifCond .ne 7, 3) := by decide +kernel
theorem dX8_folder_9 : decode cX8_folder 9 = .ok (.iconst 1, 1) := by decide +kernel
theorem dX8_folder_10 : decode cX8_folder 10 = .ok (.goto 20, 3) := by decide +kernel
theorem dX8_folder_13 : decode cX8_folder 13 = .ok (.iload_n 2, 1) := by decide +kernel
theorem dX8_folder_14 : decode cX8_folder 14 = .ok (.i2l, 1) := by decide +kernel
theorem dX8_folder_15 : decode cX8_folder 15 = .ok (.lconst 0, 1) := by decide +kernel
theorem dX8_folder_16 : decode cX8_folder 16 = .ok (.ldc2_w 223, 3) := by decide +kernel
theorem dX8_folder_19 : decode cX8_folder 19 = .ok (.invokestatic 59, 3) := by decide +kernel
theorem dX8_folder_22 : decode cX8_folder 22 = .ok (.ifCond .eq 7, 3) := by decide +kernel
theorem dX8_folder_25 : decode cX8_folder 25 = .ok (.iconst 0, 1) := by decide +kernel
theorem dX8_folder_26 : decode cX8_folder 26 = .ok (.goto 4, 3) := by decide +kernel
theorem dX8_folder_29 : decode cX8_folder 29 = .ok (.iconst 2, 1) := by decide +kernel
theorem dX8_folder_30 : decode cX8_folder 30 = .ok (.putfield 43, 3) := by decide +kernel
theorem dX8_folder_33 : decode cX8_folder 33 = .ok (.aload_n 0, 1) := by decide +kernel
theorem dX8_folder_34 : decode cX8_folder 34 = .ok (.getfield 43, 3) := by decide +kernel
theorem dX8_folder_37 : decode cX8_folder 37 = .ok (.ifCond .le 5, 3) := by decide +kernel
theorem dX8_folder_40 : decode cX8_folder 40 = .ok (.iconst 0, 1) := by decide +kernel
theorem dX8_folder_41 : decode cX8_folder 41 = .ok (.ireturn, 1) := by decide +kernel
theorem dX8_folder_42 : decode cX8_folder 42 = .ok (.iload_n 2, 1) := by decide +kernel
theorem dX8_folder_43 : decode cX8_folder 43 = .ok (.tableswitch 107 0 8 #[49, 55, 61, 67, 73, 79, 85, 91, 99], 49) := by decide +kernel
theorem dX8_folder_92 : decode cX8_folder 92 = .ok (.aload_n 0, 1) := by decide +kernel
theorem dX8_folder_93 : decode cX8_folder 93 = .ok (.iload_n 1, 1) := by decide +kernel
theorem dX8_folder_94 : decode cX8_folder 94 = .ok (.invokevirtual 194, 3) := by decide +kernel
theorem dX8_folder_97 : decode cX8_folder 97 = .ok (.ireturn, 1) := by decide +kernel
theorem dX8_folder_98 : decode cX8_folder 98 = .ok (.aload_n 0, 1) := by decide +kernel
theorem dX8_folder_99 : decode cX8_folder 99 = .ok (.iload_n 1, 1) := by decide +kernel
theorem dX8_folder_100 : decode cX8_folder 100 = .ok (.invokevirtual 191, 3) := by decide +kernel
theorem dX8_folder_103 : decode cX8_folder 103 = .ok (.ireturn, 1) := by decide +kernel
theorem dX8_folder_104 : decode cX8_folder 104 = .ok (.aload_n 0, 1) := by decide +kernel
theorem dX8_folder_105 : decode cX8_folder 105 = .ok (.iload_n 1, 1) := by decide +kernel
theorem dX8_folder_106 : decode cX8_folder 106 = .ok (.invokevirtual 207, 3) := by decide +kernel
theorem dX8_folder_109 : decode cX8_folder 109 = .ok (.ireturn, 1) := by decide +kernel
theorem dX8_folder_110 : decode cX8_folder 110 = .ok (.aload_n 0, 1) := by decide +kernel
theorem dX8_folder_111 : decode cX8_folder 111 = .ok (.iload_n 1, 1) := by decide +kernel
theorem dX8_folder_112 : decode cX8_folder 112 = .ok (.invokevirtual 225, 3) := by decide +kernel
theorem dX8_folder_115 : decode cX8_folder 115 = .ok (.ireturn, 1) := by decide +kernel
theorem dX8_folder_116 : decode cX8_folder 116 = .ok (.aload_n 0, 1) := by decide +kernel
theorem dX8_folder_117 : decode cX8_folder 117 = .ok (.iload_n 1, 1) := by decide +kernel
theorem dX8_folder_118 : decode cX8_folder 118 = .ok (.invokevirtual 228, 3) := by decide +kernel
theorem dX8_folder_121 : decode cX8_folder 121 = .ok (.ireturn, 1) := by decide +kernel
theorem dX8_folder_122 : decode cX8_folder 122 = .ok (.aload_n 0, 1) := by decide +kernel
theorem dX8_folder_123 : decode cX8_folder 123 = .ok (.iload_n 1, 1) := by decide +kernel
theorem dX8_folder_124 : decode cX8_folder 124 = .ok (.invokevirtual 231, 3) := by decide +kernel
theorem dX8_folder_127 : decode cX8_folder 127 = .ok (.ireturn, 1) := by decide +kernel
theorem dX8_folder_128 : decode cX8_folder 128 = .ok (.aload_n 0, 1) := by decide +kernel
theorem dX8_folder_129 : decode cX8_folder 129 = .ok (.iload_n 1, 1) := by decide +kernel
theorem dX8_folder_130 : decode cX8_folder 130 = .ok (.invokevirtual 234, 3) := by decide +kernel
theorem dX8_folder_133 : decode cX8_folder 133 = .ok (.ireturn, 1) := by decide +kernel
theorem dX8_folder_134 : decode cX8_folder 134 = .ok (.aload_n 0, 1) := by decide +kernel
theorem dX8_folder_135 : decode cX8_folder 135 = .ok (.iload_n 1, 1) := by decide +kernel
theorem dX8_folder_136 : decode cX8_folder 136 = .ok (.iconst 0, 1) := by decide +kernel
theorem dX8_folder_137 : decode cX8_folder 137 = .ok (.invokevirtual 210, 3) := by decide +kernel
theorem dX8_folder_140 : decode cX8_folder 140 = .ok (.l2i, 1) := by decide +kernel
theorem dX8_folder_141 : decode cX8_folder 141 = .ok (.ireturn, 1) := by decide +kernel
theorem dX8_folder_142 : decode cX8_folder 142 = .ok (.aload_n 0, 1) := by decide +kernel
theorem dX8_folder_143 : decode cX8_folder 143 = .ok (.iload_n 1, 1) := by decide +kernel
theorem dX8_folder_144 : decode cX8_folder 144 = .ok (.iconst 1, 1) := by decide +kernel
theorem dX8_folder_145 : decode cX8_folder 145 = .ok (.invokevirtual 210, 3) := by decide +kernel
theorem dX8_folder_148 : decode cX8_folder 148 = .ok (.l2i, 1) := by decide +kernel
theorem dX8_folder_149 : decode cX8_folder 149 = .ok (.ireturn, 1) := by decide +kernel
theorem dX8_folder_150 : decode cX8_folder 150 = .ok (.aload_n 0, 1) := by decide +kernel
theorem dX8_folder_151 : decode cX8_folder 151 = .ok (.iload_n 1, 1) := by decide +kernel
theorem dX8_folder_152 : decode cX8_folder 152 = .ok (.iconst 0, 1) := by decide +kernel
theorem dX8_folder_153 : decode cX8_folder 153 = .ok (.invokevirtual 237, 3) := by decide +kernel
theorem dX8_folder_156 : decode cX8_folder 156 = .ok (.l2i, 1) := by decide +kernel
theorem dX8_folder_157 : decode cX8_folder 157 = .ok (.ireturn, 1) := by decide +kernel
set_option maxRecDepth 20000 in
theorem ggX8_tagReason_X8_isFolder : GoodIn wsX8_tagReason wsX8_isFolder := goodIn_r _ [8, 9, 10, 11, 7, 12, 83, 84, 85, 86, 87, 88, 89, 90, 91, 92, 93, 94, 95, 96, 97, 98, 99, 100] (by decide +kernel) (by decide +kernel)
set_option maxRecDepth 20000 in
theorem gX8_tagReason_X8_isFolder : GoodIn wsX8_tagReason (wsV RX8 220 RX8 yX8_isFolder wsX8_isFolder) := goodIn_app (goodIn_of _ (by decide +kernel)) ggX8_tagReason_X8_isFolder
set_option maxRecDepth 20000 in
theorem ggX8_tagReason_X8_isIn : GoodIn wsX8_tagReason wsX8_isIn := goodIn_r _ [12] (by decide +kernel) (by decide +kernel)
set_option maxRecDepth 20000 in
theorem gX8_tagReason_X8_isIn : GoodIn wsX8_tagReason (va_wsS RX8 59 yX8_isIn wsX8_isIn) := goodIn_app (goodIn_of _ (by decide +kernel)) ggX8_tagReason_X8_isIn
set_option maxRecDepth 20000 in
theorem ggX8_tagReason_X8_reasonToTag : GoodIn wsX8_tagReason wsX8_reasonToTag := goodIn_r _ [16, 17, 18, 19, 7, 20, 21, 22, 23, 24, 9, 25, 26, 27, 28, 29, 30, 31, 32, 33, 34, 35, 36, 37, 38, 39, 40, 41, 42, 43, 44, 45, 46, 47, 48, 49, 50, 51, 52, 53, 54, 55, 56, 1, 57, 58, 59, 60, 61, 62, 63, 64, 65, 66, 67, 68, 69, 70, 71, 72, 73, 74, 75, 76, 77, 78, 79, 80, 81, 82, 83, 84, 85, 86, 87, 88, 89, 90, 91, 92, 93, 94, 95, 96, 97, 98, 99, 100] (by decide +kernel) (by decide +kernel)
set_option maxRecDepth 20000 in
theorem gX8_tagReason_X8_reasonToTag : GoodIn wsX8_tagReason (wsV RX8 298 RX8 yX8_reasonToTag wsX8_reasonToTag) := goodIn_app (goodIn_of _ (by decide +kernel)) ggX8_tagReason_X8_reasonToTag
theorem dX8_tagReason_0 : decode cX8_tagReason 0 = .ok (.aload_n 0, 1) := by decide +kernel
theorem dX8_tagReason_1 : decode cX8_tagReason 1 = .ok (.aload_n 0, 1) := by decide +kernel
theorem dX8_tagReason_2 : decode cX8_tagReason 2 = .ok (.iload_n 1, 1) := by decide +kernel
theorem dX8_tagReason_3 : decode cX8_tagReason 3 = .ok (.invokevirtual 220, 3) := by decide +kernel
theorem dX8_tagReason_6 : decode cX8_tagReason 6 = .ok (.ifCond .ne 7, 3) := by decide +kernel
theorem dX8_tagReason_9 : decode cX8_tagReason 9 = .ok (.iconst 1, 1) := by decide +kernel
theorem dX8_tagReason_10 : decode cX8_tagReason 10 = .ok (.goto 22, 3) := by decide +kernel
theorem dX8_tagReason_13 : decode cX8_tagReason 13 = .ok (.iload_n 2, 1) := by decide +kernel
theorem dX8_tagReason_14 : decode cX8_tagReason 14 = .ok (.i2l, 1) := by decide +kernel
theorem dX8_tagReason_15 : decode cX8_tagReason 15 = .ok (.ldc2_w 37, 3) := by decide +kernel
theorem dX8_tagReason_18 : decode cX8_tagReason 18 = .ok (.ldc2_w 189, 3) := by decide +kernel
theorem dX8_tagReason_21 : decode cX8_tagReason 21 = .ok (.invokestatic 59, 3) := by decide +kernel
theorem dX8_tagReason_24 : decode cX8_tagReason 24 = .ok (.ifCond .eq 7, 3) := by decide +kernel
theorem dX8_tagReason_27 : decode cX8_tagReason 27 = .ok (.iconst 0, 1) := by decide +kernel
theorem dX8_tagReason_28 : decode cX8_tagReason 28 = .ok (.goto 4, 3) := by decide +kernel
theorem dX8_tagReason_31 : decode cX8_tagReason 31 = .ok (.iconst 2, 1) := by decide +kernel
theorem dX8_tagReason_32 : decode cX8_tagReason 32 = .ok (.putfield 43, 3) := by decide +kernel
theorem dX8_tagReason_35 : decode cX8_tagReason 35 = .ok (.aload_n 0, 1) := by decide +kernel
theorem dX8_tagReason_36 : decode cX8_tagReason 36 = .ok (.getfield 43, 3) := by decide +kernel
theorem dX8_tagReason_39 : decode cX8_tagReason 39 = .ok (.ifCond .le 7, 3) := by decide +kernel
theorem dX8_tagReason_42 : decode cX8_tagReason 42 = .ok (.iconst 0, 1) := by decide +kernel
theorem dX8_tagReason_43 : decode cX8_tagReason 43 = .ok (.goto 9, 3) := by decide +kernel
theorem dX8_tagReason_46 : decode cX8_tagReason 46 = .ok (.aload_n 0, 1) := by decide +kernel
theorem dX8_tagReason_47 : decode cX8_tagReason 47 = .ok (.iload_n 1, 1) := by decide +kernel
theorem dX8_tagReason_48 : decode cX8_tagReason 48 = .ok (.iload_n 2, 1) := by decide +kernel
theorem dX8_tagReason_49 : decode cX8_tagReason 49 = .ok (.invokevirtual 298, 3) := by decide +kernel
theorem dX8_tagReason_52 : decode cX8_tagReason 52 = .ok (.ireturn, 1) := by decide +kernel
set_option maxRecDepth 20000 in
theorem ggX8_moveReason_X8_isFolder : GoodIn wsX8_moveReason wsX8_isFolder := goodIn_r _ [6, 7, 8, 9, 5, 10, 86, 87, 88, 89, 90, 91, 92, 93, 94, 95, 96, 97, 98, 99, 100, 101, 102, 103] (by decide +kernel) (by decide +kernel)
set_option maxRecDepth 20000 in
theorem gX8_moveReason_X8_isFolder : GoodIn wsX8_moveReason (wsV RX8 220 RX8 yX8_isFolder wsX8_isFolder) := goodIn_app (goodIn_of _ (by decide +kernel)) ggX8_moveReason_X8_isFolder
set_option maxRecDepth 20000 in
theorem ggX8_moveReason_X8_reasonToMove : GoodIn wsX8_moveReason wsX8_reasonToMove := goodIn_r _ [14, 15, 16, 17, 5, 18, 19, 20, 21, 22, 7, 23, 24, 25, 26, 27, 28, 29, 30, 31, 32, 33, 34, 35, 36, 37, 38, 39, 40, 41, 42, 43, 44, 45, 46, 47, 48, 49, 50, 51, 52, 53, 54, 55, 56, 57, 58, 59, 60, 61, 62, 63, 64, 65, 66, 67, 68, 69, 70, 71, 72, 73, 74, 75, 76, 77, 78, 79, 80, 81, 82, 83, 84, 85, 86, 87, 88, 89, 90, 91, 92, 93, 94, 95, 96, 97, 98, 99, 100, 101, 102, 103] (by decide +kernel) (by decide +kernel)
set_option maxRecDepth 20000 in
theorem gX8_moveReason_X8_reasonToMove : GoodIn wsX8_moveReason (wsV RX8 307 RX8 yX8_reasonToMove wsX8_reasonToMove) := goodIn_app (goodIn_of _ (by decide +kernel)) ggX8_moveReason_X8_reasonToMove
theorem dX8_moveReason_0 : decode cX8_moveReason 0 = .ok (.aload_n 0, 1) := by decide +kernel
theorem dX8_moveReason_1 : decode cX8_moveReason 1 = .ok (.aload_n 0, 1) := by decide +kernel
theorem dX8_moveReason_2 : decode cX8_moveReason 2 = .ok (.iload_n 1, 1) := by decide +kernel
theorem dX8_moveReason_3 : decode cX8_moveReason 3 = .ok (.invokevirtual 220, 3) := by decide +kernel
theorem dX8_moveReason_6 : decode cX8_moveReason 6 = .ok (.ifCond .eq 15, 3) := by decide +kernel
theorem dX8_moveReason_9 : decode cX8_moveReason 9 = .ok (.aload_n 0, 1) := by decide +kernel
theorem dX8_moveReason_10 : decode cX8_moveReason 10 = .ok (.iload_n 2, 1) := by decide +kernel
theorem dX8_moveReason_11 : decode cX8_moveReason 11 = .ok (.invokevirtual 220, 3) := by decide +kernel
theorem dX8_moveReason_14 : decode cX8_moveReason 14 = .ok (.ifCond .eq 7, 3) := by decide +kernel
theorem dX8_moveReason_17 : decode cX8_moveReason 17 = .ok (.iconst 0, 1) := by decide +kernel
theorem dX8_moveReason_18 : decode cX8_moveReason 18 = .ok (.goto 4, 3) := by decide +kernel
theorem dX8_moveReason_21 : decode cX8_moveReason 21 = .ok (.iconst 1, 1) := by decide +kernel
theorem dX8_moveReason_22 : decode cX8_moveReason 22 = .ok (.putfield 43, 3) := by decide +kernel
theorem dX8_moveReason_25 : decode cX8_moveReason 25 = .ok (.aload_n 0, 1) := by decide +kernel
theorem dX8_moveReason_26 : decode cX8_moveReason 26 = .ok (.getfield 43, 3) := by decide +kernel
theorem dX8_moveReason_29 : decode cX8_moveReason 29 = .ok (.ifCond .le 7, 3) := by decide +kernel
theorem dX8_moveReason_32 : decode cX8_moveReason 32 = .ok (.iconst 0, 1) := by decide +kernel
theorem dX8_moveReason_33 : decode cX8_moveReason 33 = .ok (.goto 9, 3) := by decide +kernel
theorem dX8_moveReason_36 : decode cX8_moveReason 36 = .ok (.aload_n 0, 1) := by decide +kernel
theorem dX8_moveReason_37 : decode cX8_moveReason 37 = .ok (.iload_n 1, 1) := by decide +kernel
theorem dX8_moveReason_38 : decode cX8_moveReason 38 = .ok (.iload_n 2, 1) := by decide +kernel
theorem dX8_moveReason_39 : decode cX8_moveReason 39 = .ok (.invokevirtual 307, 3) := by decide +kernel
theorem dX8_moveReason_42 : decode cX8_moveReason 42 = .ok (.ireturn, 1) := by decide +kernel
set_option maxRecDepth 20000 in
theorem ggX8_file_X8_isFile : GoodIn wsX8_file wsX8_isFile := goodIn_r _ [8, 3, 9, 10, 7, 11, 28, 29, 30, 31, 32, 33, 34, 35, 36, 37, 38, 39, 40, 41, 42, 43, 44, 45] (by decide +kernel) (by decide +kernel)
set_option maxRecDepth 20000 in
theorem gX8_file_X8_isFile : GoodIn wsX8_file (wsV RX8 310 RX8 yX8_isFile wsX8_isFile) := goodIn_app (goodIn_of _ (by decide +kernel)) ggX8_file_X8_isFile
set_option maxRecDepth 20000 in
theorem ggX8_file_X8_isIn : GoodIn wsX8_file wsX8_isIn := goodIn_r _ [11] (by decide +kernel) (by decide +kernel)
set_option maxRecDepth 20000 in
theorem gX8_file_X8_isIn : GoodIn wsX8_file (va_wsS RX8 59 yX8_isIn wsX8_isIn) := goodIn_app (goodIn_of _ (by decide +kernel)) ggX8_file_X8_isIn
set_option maxRecDepth 20000 in
theorem ggX8_file_X8_folderOf : GoodIn wsX8_file wsX8_folderOf := goodIn_r _ [15, 3, 28, 29, 30, 31, 32, 33, 34, 35, 36, 37, 38, 39, 40, 41, 42, 43, 44, 45] (by decide +kernel) (by decide +kernel)
set_option maxRecDepth 20000 in
theorem gX8_file_X8_folderOf : GoodIn wsX8_file (wsV RX8 197 RX8 yX8_folderOf wsX8_folderOf) := goodIn_app (goodIn_of _ (by decide +kernel)) ggX8_file_X8_folderOf
set_option maxRecDepth 20000 in
theorem ggX8_file_X8_projectOf : GoodIn wsX8_file wsX8_projectOf := goodIn_r _ [19, 20, 21, 22, 7, 23, 3, 24, 25, 26, 27, 28, 29, 30, 31, 32, 33, 34, 35, 36, 37, 38, 39, 40, 41, 42, 43, 44, 45] (by decide +kernel) (by decide +kernel)
set_option maxRecDepth 20000 in
theorem gX8_file_X8_projectOf : GoodIn wsX8_file (wsV RX8 207 RX8 yX8_projectOf wsX8_projectOf) := goodIn_app (goodIn_of _ (by decide +kernel)) ggX8_file_X8_projectOf
theorem dX8_file_0 : decode cX8_file 0 = .ok (.aload_n 0, 1) := by decide +kernel
theorem dX8_file_1 : decode cX8_file 1 = .ok (.aload_n 0, 1) := by decide +kernel
theorem dX8_file_2 : decode cX8_file 2 = .ok (.iload_n 1, 1) := by decide +kernel
theorem dX8_file_3 : decode cX8_file 3 = .ok (.invokevirtual 310, 3) := by decide +kernel
theorem dX8_file_6 : decode cX8_file 6 = .ok (.ifCond .ne 7, 3) := by decide +kernel
theorem dX8_file_9 : decode cX8_file 9 = .ok (.iconst 1, 1) := by decide +kernel
theorem dX8_file_10 : decode cX8_file 10 = .ok (.goto 20, 3) := by decide +kernel
theorem dX8_file_13 : decode cX8_file 13 = .ok (.iload_n 2, 1) := by decide +kernel
theorem dX8_file_14 : decode cX8_file 14 = .ok (.i2l, 1) := by decide +kernel
theorem dX8_file_15 : decode cX8_file 15 = .ok (.lconst 0, 1) := by decide +kernel
theorem dX8_file_16 : decode cX8_file 16 = .ok (.ldc2_w 313, 3) := by decide +kernel
theorem dX8_file_19 : decode cX8_file 19 = .ok (.invokestatic 59, 3) := by decide +kernel
theorem dX8_file_22 : decode cX8_file 22 = .ok (.ifCond .eq 7, 3) := by decide +kernel
theorem dX8_file_25 : decode cX8_file 25 = .ok (.iconst 0, 1) := by decide +kernel
theorem dX8_file_26 : decode cX8_file 26 = .ok (.goto 4, 3) := by decide +kernel
theorem dX8_file_29 : decode cX8_file 29 = .ok (.iconst 2, 1) := by decide +kernel
theorem dX8_file_30 : decode cX8_file 30 = .ok (.putfield 43, 3) := by decide +kernel
theorem dX8_file_33 : decode cX8_file 33 = .ok (.aload_n 0, 1) := by decide +kernel
theorem dX8_file_34 : decode cX8_file 34 = .ok (.getfield 43, 3) := by decide +kernel
theorem dX8_file_37 : decode cX8_file 37 = .ok (.ifCond .le 5, 3) := by decide +kernel
theorem dX8_file_40 : decode cX8_file 40 = .ok (.iconst 0, 1) := by decide +kernel
theorem dX8_file_41 : decode cX8_file 41 = .ok (.ireturn, 1) := by decide +kernel
theorem dX8_file_42 : decode cX8_file 42 = .ok (.iload_n 2, 1) := by decide +kernel
theorem dX8_file_43 : decode cX8_file 43 = .ok (.ifCond .ne 11, 3) := by decide +kernel
theorem dX8_file_46 : decode cX8_file 46 = .ok (.aload_n 0, 1) := by decide +kernel
theorem dX8_file_47 : decode cX8_file 47 = .ok (.iload_n 1, 1) := by decide +kernel
theorem dX8_file_48 : decode cX8_file 48 = .ok (.invokevirtual 197, 3) := by decide +kernel
theorem dX8_file_51 : decode cX8_file 51 = .ok (.goto 31, 3) := by decide +kernel
theorem dX8_file_54 : decode cX8_file 54 = .ok (.iload_n 2, 1) := by decide +kernel
theorem dX8_file_55 : decode cX8_file 55 = .ok (.iconst 1, 1) := by decide +kernel
theorem dX8_file_56 : decode cX8_file 56 = .ok (.if_icmp .ne 17, 3) := by decide +kernel
theorem dX8_file_59 : decode cX8_file 59 = .ok (.aload_n 0, 1) := by decide +kernel
theorem dX8_file_60 : decode cX8_file 60 = .ok (.getfield 7, 3) := by decide +kernel
theorem dX8_file_63 : decode cX8_file 63 = .ok (.sipush 249, 3) := by decide +kernel
theorem dX8_file_66 : decode cX8_file 66 = .ok (.iload_n 1, 1) := by decide +kernel
theorem dX8_file_67 : decode cX8_file 67 = .ok (.iadd, 1) := by decide +kernel
theorem dX8_file_68 : decode cX8_file 68 = .ok (.laload, 1) := by decide +kernel
theorem dX8_file_69 : decode cX8_file 69 = .ok (.l2i, 1) := by decide +kernel
theorem dX8_file_70 : decode cX8_file 70 = .ok (.goto 12, 3) := by decide +kernel
theorem dX8_file_73 : decode cX8_file 73 = .ok (.aload_n 0, 1) := by decide +kernel
theorem dX8_file_74 : decode cX8_file 74 = .ok (.aload_n 0, 1) := by decide +kernel
theorem dX8_file_75 : decode cX8_file 75 = .ok (.iload_n 1, 1) := by decide +kernel
theorem dX8_file_76 : decode cX8_file 76 = .ok (.invokevirtual 197, 3) := by decide +kernel
theorem dX8_file_79 : decode cX8_file 79 = .ok (.invokevirtual 207, 3) := by decide +kernel
theorem dX8_file_82 : decode cX8_file 82 = .ok (.ireturn, 1) := by decide +kernel
set_option maxRecDepth 20000 in
theorem ggX8_writeReason_X8_isFolder : GoodIn wsX8_writeReason wsX8_isFolder := goodIn_r _ [7, 8, 9, 10, 6, 11, 59, 60, 61, 62, 63, 64, 65, 66, 67, 68, 69, 70, 71, 72, 73, 74, 75, 76] (by decide +kernel) (by decide +kernel)
set_option maxRecDepth 20000 in
theorem gX8_writeReason_X8_isFolder : GoodIn wsX8_writeReason (wsV RX8 220 RX8 yX8_isFolder wsX8_isFolder) := goodIn_app (goodIn_of _ (by decide +kernel)) ggX8_writeReason_X8_isFolder
set_option maxRecDepth 20000 in
theorem ggX8_writeReason_X8_isIn : GoodIn wsX8_writeReason wsX8_isIn := goodIn_r _ [11] (by decide +kernel) (by decide +kernel)
set_option maxRecDepth 20000 in
theorem gX8_writeReason_X8_isIn : GoodIn wsX8_writeReason (va_wsS RX8 59 yX8_isIn wsX8_isIn) := goodIn_app (goodIn_of _ (by decide +kernel)) ggX8_writeReason_X8_isIn
set_option maxRecDepth 20000 in
theorem ggX8_writeReason_X8_projectOf : GoodIn wsX8_writeReason wsX8_projectOf := goodIn_r _ [15, 16, 17, 18, 6, 19, 8, 20, 21, 22, 23, 59, 60, 61, 62, 63, 64, 65, 66, 67, 68, 69, 70, 71, 72, 73, 74, 75, 76] (by decide +kernel) (by decide +kernel)
set_option maxRecDepth 20000 in
theorem gX8_writeReason_X8_projectOf : GoodIn wsX8_writeReason (wsV RX8 207 RX8 yX8_projectOf wsX8_projectOf) := goodIn_app (goodIn_of _ (by decide +kernel)) ggX8_writeReason_X8_projectOf
set_option maxRecDepth 20000 in
theorem ggX8_writeReason_X8_reasonFor : GoodIn wsX8_writeReason wsX8_reasonFor := goodIn_r _ [27, 28, 29, 30, 6, 31, 32, 33, 34, 35, 36, 8, 37, 38, 39, 40, 41, 42, 43, 44, 45, 46, 47, 48, 49, 50, 51, 52, 53, 54, 55, 56, 57, 58, 59, 60, 61, 62, 63, 64, 65, 66, 67, 68, 69, 70, 71, 72, 73, 74, 75, 76] (by decide +kernel) (by decide +kernel)
set_option maxRecDepth 20000 in
theorem gX8_writeReason_X8_reasonFor : GoodIn wsX8_writeReason (wsV RX8 283 RX8 yX8_reasonFor wsX8_reasonFor) := goodIn_app (goodIn_of _ (by decide +kernel)) ggX8_writeReason_X8_reasonFor
theorem dX8_writeReason_0 : decode cX8_writeReason 0 = .ok (.aload_n 0, 1) := by decide +kernel
theorem dX8_writeReason_1 : decode cX8_writeReason 1 = .ok (.aload_n 0, 1) := by decide +kernel
theorem dX8_writeReason_2 : decode cX8_writeReason 2 = .ok (.iload_n 1, 1) := by decide +kernel
theorem dX8_writeReason_3 : decode cX8_writeReason 3 = .ok (.invokevirtual 220, 3) := by decide +kernel
theorem dX8_writeReason_6 : decode cX8_writeReason 6 = .ok (.ifCond .ne 7, 3) := by decide +kernel
theorem dX8_writeReason_9 : decode cX8_writeReason 9 = .ok (.iconst 1, 1) := by decide +kernel
theorem dX8_writeReason_10 : decode cX8_writeReason 10 = .ok (.goto 20, 3) := by decide +kernel
theorem dX8_writeReason_13 : decode cX8_writeReason 13 = .ok (.iload_n 2, 1) := by decide +kernel
theorem dX8_writeReason_14 : decode cX8_writeReason 14 = .ok (.i2l, 1) := by decide +kernel
theorem dX8_writeReason_15 : decode cX8_writeReason 15 = .ok (.lconst 0, 1) := by decide +kernel
theorem dX8_writeReason_16 : decode cX8_writeReason 16 = .ok (.ldc2_w 315, 3) := by decide +kernel
theorem dX8_writeReason_19 : decode cX8_writeReason 19 = .ok (.invokestatic 59, 3) := by decide +kernel
theorem dX8_writeReason_22 : decode cX8_writeReason 22 = .ok (.ifCond .eq 7, 3) := by decide +kernel
theorem dX8_writeReason_25 : decode cX8_writeReason 25 = .ok (.iconst 0, 1) := by decide +kernel
theorem dX8_writeReason_26 : decode cX8_writeReason 26 = .ok (.goto 4, 3) := by decide +kernel
theorem dX8_writeReason_29 : decode cX8_writeReason 29 = .ok (.iconst 2, 1) := by decide +kernel
theorem dX8_writeReason_30 : decode cX8_writeReason 30 = .ok (.putfield 43, 3) := by decide +kernel
theorem dX8_writeReason_33 : decode cX8_writeReason 33 = .ok (.aload_n 0, 1) := by decide +kernel
theorem dX8_writeReason_34 : decode cX8_writeReason 34 = .ok (.getfield 43, 3) := by decide +kernel
theorem dX8_writeReason_37 : decode cX8_writeReason 37 = .ok (.ifCond .le 7, 3) := by decide +kernel
theorem dX8_writeReason_40 : decode cX8_writeReason 40 = .ok (.iconst 0, 1) := by decide +kernel
theorem dX8_writeReason_41 : decode cX8_writeReason 41 = .ok (.goto 15, 3) := by decide +kernel
theorem dX8_writeReason_44 : decode cX8_writeReason 44 = .ok (.aload_n 0, 1) := by decide +kernel
theorem dX8_writeReason_45 : decode cX8_writeReason 45 = .ok (.aload_n 0, 1) := by decide +kernel
theorem dX8_writeReason_46 : decode cX8_writeReason 46 = .ok (.iload_n 1, 1) := by decide +kernel
theorem dX8_writeReason_47 : decode cX8_writeReason 47 = .ok (.invokevirtual 207, 3) := by decide +kernel
theorem dX8_writeReason_50 : decode cX8_writeReason 50 = .ok (.iload_n 2, 1) := by decide +kernel
theorem dX8_writeReason_51 : decode cX8_writeReason 51 = .ok (.i2l, 1) := by decide +kernel
theorem dX8_writeReason_52 : decode cX8_writeReason 52 = .ok (.lconst 1, 1) := by decide +kernel
theorem dX8_writeReason_53 : decode cX8_writeReason 53 = .ok (.invokevirtual 283, 3) := by decide +kernel
theorem dX8_writeReason_56 : decode cX8_writeReason 56 = .ok (.ireturn, 1) := by decide +kernel
set_option maxRecDepth 20000 in
theorem ggX8_lacks_X8_isProject : GoodIn wsX8_lacks wsX8_isProject := goodIn_r _ [5, 6, 7, 8, 4, 9] (by decide +kernel) (by decide +kernel)
set_option maxRecDepth 20000 in
theorem gX8_lacks_X8_isProject : GoodIn wsX8_lacks (va_wsS RX8 320 yX8_isProject wsX8_isProject) := goodIn_app (goodIn_of _ (by decide +kernel)) ggX8_lacks_X8_isProject
set_option maxRecDepth 20000 in
theorem ggX8_lacks_X8_isKind : GoodIn wsX8_lacks wsX8_isKind := goodIn_r _ [12, 7, 8, 4, 9] (by decide +kernel) (by decide +kernel)
set_option maxRecDepth 20000 in
theorem gX8_lacks_X8_isKind : GoodIn wsX8_lacks (va_wsS RX8 323 yX8_isKind wsX8_isKind) := goodIn_app (goodIn_of _ (by decide +kernel)) ggX8_lacks_X8_isKind
theorem dX8_lacks_0 : decode cX8_lacks 0 = .ok (.aload_n 0, 1) := by decide +kernel
theorem dX8_lacks_1 : decode cX8_lacks 1 = .ok (.iload_n 1, 1) := by decide +kernel
theorem dX8_lacks_2 : decode cX8_lacks 2 = .ok (.invokestatic 320, 3) := by decide +kernel
theorem dX8_lacks_5 : decode cX8_lacks 5 = .ok (.ifCond .eq 14, 3) := by decide +kernel
theorem dX8_lacks_8 : decode cX8_lacks 8 = .ok (.iload_n 2, 1) := by decide +kernel
theorem dX8_lacks_9 : decode cX8_lacks 9 = .ok (.invokestatic 323, 3) := by decide +kernel
theorem dX8_lacks_12 : decode cX8_lacks 12 = .ok (.ifCond .eq 7, 3) := by decide +kernel
theorem dX8_lacks_15 : decode cX8_lacks 15 = .ok (.iconst 0, 1) := by decide +kernel
theorem dX8_lacks_16 : decode cX8_lacks 16 = .ok (.goto 4, 3) := by decide +kernel
theorem dX8_lacks_19 : decode cX8_lacks 19 = .ok (.iconst 1, 1) := by decide +kernel
theorem dX8_lacks_20 : decode cX8_lacks 20 = .ok (.putfield 43, 3) := by decide +kernel
theorem dX8_lacks_23 : decode cX8_lacks 23 = .ok (.aload_n 0, 1) := by decide +kernel
theorem dX8_lacks_24 : decode cX8_lacks 24 = .ok (.getfield 43, 3) := by decide +kernel
theorem dX8_lacks_27 : decode cX8_lacks 27 = .ok (.ifCond .le 7, 3) := by decide +kernel
theorem dX8_lacks_30 : decode cX8_lacks 30 = .ok (.iconst 1, 1) := by decide +kernel
theorem dX8_lacks_31 : decode cX8_lacks 31 = .ok (.goto 4, 3) := by decide +kernel
theorem dX8_lacks_34 : decode cX8_lacks 34 = .ok (.iconst 0, 1) := by decide +kernel
theorem dX8_lacks_35 : decode cX8_lacks 35 = .ok (.ireturn, 1) := by decide +kernel
set_option maxRecDepth 20000 in
theorem ggX8_used_X8_lacks : GoodIn wsX8_used wsX8_lacks := goodIn_r _ [5, 6, 7, 8, 4, 9, 10, 11, 12, 13, 14, 15, 16, 25, 26, 27, 28, 29, 30, 31, 32, 33, 34, 35, 36, 37, 38, 39, 40, 41, 42] (by decide +kernel) (by decide +kernel)
set_option maxRecDepth 20000 in
theorem gX8_used_X8_lacks : GoodIn wsX8_used (wsV RX8 326 RX8 yX8_lacks wsX8_lacks) := goodIn_app (goodIn_of _ (by decide +kernel)) ggX8_used_X8_lacks
set_option maxRecDepth 20000 in
theorem ggX8_used_X8_usedOf : GoodIn wsX8_used wsX8_usedOf := goodIn_r _ [20, 21, 22, 23, 4, 24, 25, 26, 27, 28, 29, 30, 31, 32, 33, 34, 35, 36, 37, 38, 39, 40, 41, 42] (by decide +kernel) (by decide +kernel)
set_option maxRecDepth 20000 in
theorem gX8_used_X8_usedOf : GoodIn wsX8_used (wsV RX8 273 RX8 yX8_usedOf wsX8_usedOf) := goodIn_app (goodIn_of _ (by decide +kernel)) ggX8_used_X8_usedOf
theorem dX8_used_0 : decode cX8_used 0 = .ok (.aload_n 0, 1) := by decide +kernel
theorem dX8_used_1 : decode cX8_used 1 = .ok (.iload_n 1, 1) := by decide +kernel
theorem dX8_used_2 : decode cX8_used 2 = .ok (.iload_n 2, 1) := by decide +kernel
theorem dX8_used_3 : decode cX8_used 3 = .ok (.invokevirtual 326, 3) := by decide +kernel
theorem dX8_used_6 : decode cX8_used 6 = .ok (.ifCond .eq 7, 3) := by decide +kernel
theorem dX8_used_9 : decode cX8_used 9 = .ok (.iconst 0, 1) := by decide +kernel
theorem dX8_used_10 : decode cX8_used 10 = .ok (.goto 10, 3) := by decide +kernel
theorem dX8_used_13 : decode cX8_used 13 = .ok (.aload_n 0, 1) := by decide +kernel
theorem dX8_used_14 : decode cX8_used 14 = .ok (.iload_n 1, 1) := by decide +kernel
theorem dX8_used_15 : decode cX8_used 15 = .ok (.iload_n 2, 1) := by decide +kernel
theorem dX8_used_16 : decode cX8_used 16 = .ok (.invokevirtual 273, 3) := by decide +kernel
theorem dX8_used_19 : decode cX8_used 19 = .ok (.l2i, 1) := by decide +kernel
theorem dX8_used_20 : decode cX8_used 20 = .ok (.ireturn, 1) := by decide +kernel
set_option maxRecDepth 20000 in
theorem ggX8_counted_X8_lacks : GoodIn wsX8_counted wsX8_lacks := goodIn_r _ [5, 6, 7, 8, 4, 9, 10, 11, 12, 13, 14, 15, 16, 38, 39, 40, 41, 42, 43, 44, 45, 46, 47, 48, 49, 50, 51, 52, 53, 54, 55] (by decide +kernel) (by decide +kernel)
set_option maxRecDepth 20000 in
theorem gX8_counted_X8_lacks : GoodIn wsX8_counted (wsV RX8 326 RX8 yX8_lacks wsX8_lacks) := goodIn_app (goodIn_of _ (by decide +kernel)) ggX8_counted_X8_lacks
set_option maxRecDepth 20000 in
theorem ggX8_counted_X8_countedOf : GoodIn wsX8_counted wsX8_countedOf := goodIn_r _ [20, 21, 22, 23, 24, 4, 25, 26, 27, 28, 29, 30, 31, 32, 33, 34, 35, 36, 37, 38, 39, 40, 41, 42, 43, 44, 45, 46, 47, 48, 49, 50, 51, 52, 53, 54, 55] (by decide +kernel) (by decide +kernel)
set_option maxRecDepth 20000 in
theorem gX8_counted_X8_countedOf : GoodIn wsX8_counted (wsV RX8 182 RX8 yX8_countedOf wsX8_countedOf) := goodIn_app (goodIn_of _ (by decide +kernel)) ggX8_counted_X8_countedOf
theorem dX8_counted_0 : decode cX8_counted 0 = .ok (.aload_n 0, 1) := by decide +kernel
theorem dX8_counted_1 : decode cX8_counted 1 = .ok (.iload_n 1, 1) := by decide +kernel
theorem dX8_counted_2 : decode cX8_counted 2 = .ok (.iload_n 2, 1) := by decide +kernel
theorem dX8_counted_3 : decode cX8_counted 3 = .ok (.invokevirtual 326, 3) := by decide +kernel
theorem dX8_counted_6 : decode cX8_counted 6 = .ok (.ifCond .eq 7, 3) := by decide +kernel
theorem dX8_counted_9 : decode cX8_counted 9 = .ok (.iconst 0, 1) := by decide +kernel
theorem dX8_counted_10 : decode cX8_counted 10 = .ok (.goto 10, 3) := by decide +kernel
theorem dX8_counted_13 : decode cX8_counted 13 = .ok (.aload_n 0, 1) := by decide +kernel
theorem dX8_counted_14 : decode cX8_counted 14 = .ok (.iload_n 1, 1) := by decide +kernel
theorem dX8_counted_15 : decode cX8_counted 15 = .ok (.iload_n 2, 1) := by decide +kernel
theorem dX8_counted_16 : decode cX8_counted 16 = .ok (.invokevirtual 182, 3) := by decide +kernel
theorem dX8_counted_19 : decode cX8_counted 19 = .ok (.l2i, 1) := by decide +kernel
theorem dX8_counted_20 : decode cX8_counted 20 = .ok (.ireturn, 1) := by decide +kernel
set_option maxRecDepth 20000 in
theorem ggX8_limit_X8_lacks : GoodIn wsX8_limit wsX8_lacks := goodIn_r _ [5, 6, 7, 8, 4, 9, 10, 11, 12, 13, 14, 15, 16, 33, 34, 35, 36, 37, 38, 39, 40, 41, 42, 43, 44, 45, 46, 47, 48, 49, 50] (by decide +kernel) (by decide +kernel)
set_option maxRecDepth 20000 in
theorem gX8_limit_X8_lacks : GoodIn wsX8_limit (wsV RX8 326 RX8 yX8_lacks wsX8_lacks) := goodIn_app (goodIn_of _ (by decide +kernel)) ggX8_limit_X8_lacks
set_option maxRecDepth 20000 in
theorem ggX8_limit_X8_limitOf : GoodIn wsX8_limit wsX8_limitOf := goodIn_r _ [20, 21, 22, 23, 24, 4, 25, 26, 27, 28, 29, 30, 31, 32, 33, 34, 35, 36, 37, 38, 39, 40, 41, 42, 43, 44, 45, 46, 47, 48, 49, 50] (by decide +kernel) (by decide +kernel)
set_option maxRecDepth 20000 in
theorem gX8_limit_X8_limitOf : GoodIn wsX8_limit (wsV RX8 266 RX8 yX8_limitOf wsX8_limitOf) := goodIn_app (goodIn_of _ (by decide +kernel)) ggX8_limit_X8_limitOf
theorem dX8_limit_0 : decode cX8_limit 0 = .ok (.aload_n 0, 1) := by decide +kernel
theorem dX8_limit_1 : decode cX8_limit 1 = .ok (.iload_n 1, 1) := by decide +kernel
theorem dX8_limit_2 : decode cX8_limit 2 = .ok (.iload_n 2, 1) := by decide +kernel
theorem dX8_limit_3 : decode cX8_limit 3 = .ok (.invokevirtual 326, 3) := by decide +kernel
theorem dX8_limit_6 : decode cX8_limit 6 = .ok (.ifCond .eq 7, 3) := by decide +kernel
theorem dX8_limit_9 : decode cX8_limit 9 = .ok (.iconst 0, 1) := by decide +kernel
theorem dX8_limit_10 : decode cX8_limit 10 = .ok (.goto 11, 3) := by decide +kernel
theorem dX8_limit_13 : decode cX8_limit 13 = .ok (.aload_n 0, 1) := by decide +kernel
theorem dX8_limit_14 : decode cX8_limit 14 = .ok (.iload_n 1, 1) := by decide +kernel
theorem dX8_limit_15 : decode cX8_limit 15 = .ok (.iload_n 2, 1) := by decide +kernel
theorem dX8_limit_16 : decode cX8_limit 16 = .ok (.iload_n 3, 1) := by decide +kernel
theorem dX8_limit_17 : decode cX8_limit 17 = .ok (.invokevirtual 266, 3) := by decide +kernel
theorem dX8_limit_20 : decode cX8_limit 20 = .ok (.l2i, 1) := by decide +kernel
theorem dX8_limit_21 : decode cX8_limit 21 = .ok (.ireturn, 1) := by decide +kernel
set_option maxRecDepth 20000 in
theorem ggX8_state_X8_lacks : GoodIn wsX8_state wsX8_lacks := goodIn_r _ [5, 6, 7, 8, 4, 9, 10, 11, 12, 13, 14, 15, 16, 53, 54, 55, 56, 57, 58, 59, 60, 61, 62, 63, 64, 65, 66, 67, 68, 69, 70] (by decide +kernel) (by decide +kernel)
set_option maxRecDepth 20000 in
theorem gX8_state_X8_lacks : GoodIn wsX8_state (wsV RX8 326 RX8 yX8_lacks wsX8_lacks) := goodIn_app (goodIn_of _ (by decide +kernel)) ggX8_state_X8_lacks
set_option maxRecDepth 20000 in
theorem ggX8_state_X8_stateOf : GoodIn wsX8_state wsX8_stateOf := goodIn_r _ [20, 21, 22, 23, 24, 4, 25, 26, 27, 28, 29, 30, 31, 32, 33, 34, 35, 36, 37, 38, 39, 40, 41, 42, 43, 44, 45, 46, 47, 48, 49, 50, 51, 52, 53, 54, 55, 56, 57, 58, 59, 60, 61, 62, 63, 64, 65, 66, 67, 68, 69, 70] (by decide +kernel) (by decide +kernel)
set_option maxRecDepth 20000 in
theorem gX8_state_X8_stateOf : GoodIn wsX8_state (wsV RX8 334 RX8 yX8_stateOf wsX8_stateOf) := goodIn_app (goodIn_of _ (by decide +kernel)) ggX8_state_X8_stateOf
theorem dX8_state_0 : decode cX8_state 0 = .ok (.aload_n 0, 1) := by decide +kernel
theorem dX8_state_1 : decode cX8_state 1 = .ok (.iload_n 1, 1) := by decide +kernel
theorem dX8_state_2 : decode cX8_state 2 = .ok (.iload_n 2, 1) := by decide +kernel
theorem dX8_state_3 : decode cX8_state 3 = .ok (.invokevirtual 326, 3) := by decide +kernel
theorem dX8_state_6 : decode cX8_state 6 = .ok (.ifCond .eq 7, 3) := by decide +kernel
theorem dX8_state_9 : decode cX8_state 9 = .ok (.iconst 0, 1) := by decide +kernel
theorem dX8_state_10 : decode cX8_state 10 = .ok (.goto 9, 3) := by decide +kernel
theorem dX8_state_13 : decode cX8_state 13 = .ok (.aload_n 0, 1) := by decide +kernel
theorem dX8_state_14 : decode cX8_state 14 = .ok (.iload_n 1, 1) := by decide +kernel
theorem dX8_state_15 : decode cX8_state 15 = .ok (.iload_n 2, 1) := by decide +kernel
theorem dX8_state_16 : decode cX8_state 16 = .ok (.invokevirtual 334, 3) := by decide +kernel
theorem dX8_state_19 : decode cX8_state 19 = .ok (.ireturn, 1) := by decide +kernel
set_option maxRecDepth 20000 in
theorem ggX8_graceLeft_X8_lacks : GoodIn wsX8_graceLeft wsX8_lacks := goodIn_r _ [6, 7, 8, 9, 5, 10, 11, 12, 13, 14, 15, 16, 17, 29, 30, 31, 32, 33, 34, 35, 36, 37, 38, 39, 40, 41, 42, 43, 44, 45, 46] (by decide +kernel) (by decide +kernel)
set_option maxRecDepth 20000 in
theorem gX8_graceLeft_X8_lacks : GoodIn wsX8_graceLeft (wsV RX8 326 RX8 yX8_lacks wsX8_lacks) := goodIn_app (goodIn_of _ (by decide +kernel)) ggX8_graceLeft_X8_lacks
set_option maxRecDepth 20000 in
theorem ggX8_graceLeft_X8_doesRun : GoodIn wsX8_graceLeft wsX8_doesRun := goodIn_r _ [21, 1, 22, 23, 24, 5, 25, 29, 30, 31, 32, 33, 34, 35, 36, 37, 38, 39, 40, 41, 42, 43, 44, 45, 46] (by decide +kernel) (by decide +kernel)
set_option maxRecDepth 20000 in
theorem gX8_graceLeft_X8_doesRun : GoodIn wsX8_graceLeft (wsV RX8 270 RX8 yX8_doesRun wsX8_doesRun) := goodIn_app (goodIn_of _ (by decide +kernel)) ggX8_graceLeft_X8_doesRun
set_option maxRecDepth 20000 in
theorem ggX8_graceLeft_X8_place : GoodIn wsX8_graceLeft wsX8_place := goodIn_r _ [25] (by decide +kernel) (by decide +kernel)
set_option maxRecDepth 20000 in
theorem gX8_graceLeft_X8_place : GoodIn wsX8_graceLeft (va_wsS RX8 255 yX8_place wsX8_place) := goodIn_app (goodIn_of _ (by decide +kernel)) ggX8_graceLeft_X8_place
set_option maxRecDepth 20000 in
theorem ggX8_graceLeft_X8_greater : GoodIn wsX8_graceLeft wsX8_greater := goodIn_r _ [28] (by decide +kernel) (by decide +kernel)
set_option maxRecDepth 20000 in
theorem gX8_graceLeft_X8_greater : GoodIn wsX8_graceLeft (va_wsS RX8 262 yX8_greater wsX8_greater) := goodIn_app (goodIn_of _ (by decide +kernel)) ggX8_graceLeft_X8_greater
theorem dX8_graceLeft_0 : decode cX8_graceLeft 0 = .ok (.aload_n 0, 1) := by decide +kernel
theorem dX8_graceLeft_1 : decode cX8_graceLeft 1 = .ok (.iload_n 1, 1) := by decide +kernel
theorem dX8_graceLeft_2 : decode cX8_graceLeft 2 = .ok (.iload_n 2, 1) := by decide +kernel
theorem dX8_graceLeft_3 : decode cX8_graceLeft 3 = .ok (.invokevirtual 326, 3) := by decide +kernel
theorem dX8_graceLeft_6 : decode cX8_graceLeft 6 = .ok (.ifCond .eq 5, 3) := by decide +kernel
theorem dX8_graceLeft_9 : decode cX8_graceLeft 9 = .ok (.iconst 0, 1) := by decide +kernel
theorem dX8_graceLeft_10 : decode cX8_graceLeft 10 = .ok (.ireturn, 1) := by decide +kernel
theorem dX8_graceLeft_11 : decode cX8_graceLeft 11 = .ok (.aload_n 0, 1) := by decide +kernel
theorem dX8_graceLeft_12 : decode cX8_graceLeft 12 = .ok (.iload_n 1, 1) := by decide +kernel
theorem dX8_graceLeft_13 : decode cX8_graceLeft 13 = .ok (.iload_n 2, 1) := by decide +kernel
theorem dX8_graceLeft_14 : decode cX8_graceLeft 14 = .ok (.invokevirtual 270, 3) := by decide +kernel
theorem dX8_graceLeft_17 : decode cX8_graceLeft 17 = .ok (.ifCond .eq 38, 3) := by decide +kernel
theorem dX8_graceLeft_20 : decode cX8_graceLeft 20 = .ok (.lconst 0, 1) := by decide +kernel
theorem dX8_graceLeft_21 : decode cX8_graceLeft 21 = .ok (.aload_n 0, 1) := by decide +kernel
theorem dX8_graceLeft_22 : decode cX8_graceLeft 22 = .ok (.getfield 7, 3) := by decide +kernel
theorem dX8_graceLeft_25 : decode cX8_graceLeft 25 = .ok (.bipush 53, 2) := by decide +kernel
theorem dX8_graceLeft_27 : decode cX8_graceLeft 27 = .ok (.iload_n 1, 1) := by decide +kernel
theorem dX8_graceLeft_28 : decode cX8_graceLeft 28 = .ok (.iload_n 2, 1) := by decide +kernel
theorem dX8_graceLeft_29 : decode cX8_graceLeft 29 = .ok (.invokestatic 255, 3) := by decide +kernel
theorem dX8_graceLeft_32 : decode cX8_graceLeft 32 = .ok (.iadd, 1) := by decide +kernel
theorem dX8_graceLeft_33 : decode cX8_graceLeft 33 = .ok (.laload, 1) := by decide +kernel
theorem dX8_graceLeft_34 : decode cX8_graceLeft 34 = .ok (.aload_n 0, 1) := by decide +kernel
theorem dX8_graceLeft_35 : decode cX8_graceLeft 35 = .ok (.getfield 7, 3) := by decide +kernel
theorem dX8_graceLeft_38 : decode cX8_graceLeft 38 = .ok (.iconst 1, 1) := by decide +kernel
theorem dX8_graceLeft_39 : decode cX8_graceLeft 39 = .ok (.laload, 1) := by decide +kernel
theorem dX8_graceLeft_40 : decode cX8_graceLeft 40 = .ok (.ladd, 1) := by decide +kernel
theorem dX8_graceLeft_41 : decode cX8_graceLeft 41 = .ok (.aload_n 0, 1) := by decide +kernel
theorem dX8_graceLeft_42 : decode cX8_graceLeft 42 = .ok (.getfield 7, 3) := by decide +kernel
theorem dX8_graceLeft_45 : decode cX8_graceLeft 45 = .ok (.iconst 0, 1) := by decide +kernel
theorem dX8_graceLeft_46 : decode cX8_graceLeft 46 = .ok (.laload, 1) := by decide +kernel
theorem dX8_graceLeft_47 : decode cX8_graceLeft 47 = .ok (.lsub, 1) := by decide +kernel
theorem dX8_graceLeft_48 : decode cX8_graceLeft 48 = .ok (.invokestatic 262, 3) := by decide +kernel
theorem dX8_graceLeft_51 : decode cX8_graceLeft 51 = .ok (.l2i, 1) := by decide +kernel
theorem dX8_graceLeft_52 : decode cX8_graceLeft 52 = .ok (.goto 4, 3) := by decide +kernel
theorem dX8_graceLeft_55 : decode cX8_graceLeft 55 = .ok (.iconst (-1), 1) := by decide +kernel
theorem dX8_graceLeft_56 : decode cX8_graceLeft 56 = .ok (.ireturn, 1) := by decide +kernel
set_option maxRecDepth 20000 in
theorem ggX8_giftOf_X8_isGift : GoodIn wsX8_giftOf wsX8_isGift := goodIn_r _ [8, 3, 9, 10, 7, 11, 12, 13, 14, 15, 16, 17, 18, 19, 20, 21, 22, 23, 24, 25, 26, 27, 28, 29] (by decide +kernel) (by decide +kernel)
set_option maxRecDepth 20000 in
theorem gX8_giftOf_X8_isGift : GoodIn wsX8_giftOf (wsV RX8 357 RX8 yX8_isGift wsX8_isGift) := goodIn_app (goodIn_of _ (by decide +kernel)) ggX8_giftOf_X8_isGift
set_option maxRecDepth 20000 in
theorem ggX8_giftOf_X8_isIn : GoodIn wsX8_giftOf wsX8_isIn := goodIn_r _ [11] (by decide +kernel) (by decide +kernel)
set_option maxRecDepth 20000 in
theorem gX8_giftOf_X8_isIn : GoodIn wsX8_giftOf (va_wsS RX8 59 yX8_isIn wsX8_isIn) := goodIn_app (goodIn_of _ (by decide +kernel)) ggX8_giftOf_X8_isIn
theorem dX8_giftOf_0 : decode cX8_giftOf 0 = .ok (.aload_n 0, 1) := by decide +kernel
theorem dX8_giftOf_1 : decode cX8_giftOf 1 = .ok (.aload_n 0, 1) := by decide +kernel
theorem dX8_giftOf_2 : decode cX8_giftOf 2 = .ok (.iload_n 1, 1) := by decide +kernel
theorem dX8_giftOf_3 : decode cX8_giftOf 3 = .ok (.invokevirtual 357, 3) := by decide +kernel
theorem dX8_giftOf_6 : decode cX8_giftOf 6 = .ok (.ifCond .ne 7, 3) := by decide +kernel
theorem dX8_giftOf_9 : decode cX8_giftOf 9 = .ok (.iconst 1, 1) := by decide +kernel
theorem dX8_giftOf_10 : decode cX8_giftOf 10 = .ok (.goto 20, 3) := by decide +kernel
theorem dX8_giftOf_13 : decode cX8_giftOf 13 = .ok (.iload_n 2, 1) := by decide +kernel
theorem dX8_giftOf_14 : decode cX8_giftOf 14 = .ok (.i2l, 1) := by decide +kernel
theorem dX8_giftOf_15 : decode cX8_giftOf 15 = .ok (.lconst 0, 1) := by decide +kernel
theorem dX8_giftOf_16 : decode cX8_giftOf 16 = .ok (.ldc2_w 360, 3) := by decide +kernel
theorem dX8_giftOf_19 : decode cX8_giftOf 19 = .ok (.invokestatic 59, 3) := by decide +kernel
theorem dX8_giftOf_22 : decode cX8_giftOf 22 = .ok (.ifCond .eq 7, 3) := by decide +kernel
theorem dX8_giftOf_25 : decode cX8_giftOf 25 = .ok (.iconst 0, 1) := by decide +kernel
theorem dX8_giftOf_26 : decode cX8_giftOf 26 = .ok (.goto 4, 3) := by decide +kernel
theorem dX8_giftOf_29 : decode cX8_giftOf 29 = .ok (.iconst 2, 1) := by decide +kernel
theorem dX8_giftOf_30 : decode cX8_giftOf 30 = .ok (.putfield 43, 3) := by decide +kernel
theorem dX8_giftOf_33 : decode cX8_giftOf 33 = .ok (.aload_n 0, 1) := by decide +kernel
theorem dX8_giftOf_34 : decode cX8_giftOf 34 = .ok (.getfield 43, 3) := by decide +kernel
theorem dX8_giftOf_37 : decode cX8_giftOf 37 = .ok (.ifCond .le 7, 3) := by decide +kernel
theorem dX8_giftOf_40 : decode cX8_giftOf 40 = .ok (.iconst 0, 1) := by decide +kernel
theorem dX8_giftOf_41 : decode cX8_giftOf 41 = .ok (.goto 18, 3) := by decide +kernel
theorem dX8_giftOf_44 : decode cX8_giftOf 44 = .ok (.aload_n 0, 1) := by decide +kernel
theorem dX8_giftOf_45 : decode cX8_giftOf 45 = .ok (.getfield 7, 3) := by decide +kernel
theorem dX8_giftOf_48 : decode cX8_giftOf 48 = .ok (.sipush 309, 3) := by decide +kernel
theorem dX8_giftOf_51 : decode cX8_giftOf 51 = .ok (.iconst 4, 1) := by decide +kernel
theorem dX8_giftOf_52 : decode cX8_giftOf 52 = .ok (.iload_n 1, 1) := by decide +kernel
theorem dX8_giftOf_53 : decode cX8_giftOf 53 = .ok (.imul, 1) := by decide +kernel
theorem dX8_giftOf_54 : decode cX8_giftOf 54 = .ok (.iadd, 1) := by decide +kernel
theorem dX8_giftOf_55 : decode cX8_giftOf 55 = .ok (.iload_n 2, 1) := by decide +kernel
theorem dX8_giftOf_56 : decode cX8_giftOf 56 = .ok (.iadd, 1) := by decide +kernel
theorem dX8_giftOf_57 : decode cX8_giftOf 57 = .ok (.laload, 1) := by decide +kernel
theorem dX8_giftOf_58 : decode cX8_giftOf 58 = .ok (.l2i, 1) := by decide +kernel
theorem dX8_giftOf_59 : decode cX8_giftOf 59 = .ok (.ireturn, 1) := by decide +kernel
