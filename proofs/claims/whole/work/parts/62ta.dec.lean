set_option maxRecDepth 20000 in
theorem ggX8_readsStatement_X8_isWord : GoodIn wsX8_readsStatement wsX8_isWord := goodIn_r _ [8, 9, 2, 10, 3, 11, 12, 13, 14, 15, 16, 17, 18, 19, 20, 21, 22, 23, 24, 25, 26, 27, 28, 29, 30, 31, 32, 33, 34, 35, 36, 37, 38, 39, 40, 41, 42, 43, 44, 45, 46, 47, 48, 49, 50, 51, 52, 53, 54, 55, 56, 57, 58, 59, 60, 136, 137, 138, 139, 140, 141, 142, 143, 144, 145, 146, 147, 148, 149, 150, 151, 152, 153] (by decide +kernel) (by decide +kernel)
set_option maxRecDepth 20000 in
theorem gX8_readsStatement_X8_isWord : GoodIn wsX8_readsStatement (wsV RX8 152 RX8 yX8_isWord wsX8_isWord) := goodIn_app (goodIn_of _ (by decide +kernel)) ggX8_readsStatement_X8_isWord
set_option maxRecDepth 20000 in
theorem ggX8_readsStatement_X8_must : GoodIn wsX8_readsStatement wsX8_must := goodIn_r _ [64, 9, 65, 66, 67, 7, 68, 3, 69, 70, 71, 72, 73, 10, 74, 75, 2, 76, 77, 78, 79, 80, 81, 11, 82, 83, 84, 85, 86, 87, 88, 89, 90, 91, 92, 93, 94, 136, 137, 138, 139, 140, 141, 142, 143, 144, 145, 146, 147, 148, 149, 150, 151, 152, 153] (by decide +kernel) (by decide +kernel)
set_option maxRecDepth 20000 in
theorem gX8_readsStatement_X8_must : GoodIn wsX8_readsStatement (wsV RX8 126 RX8 yX8_must wsX8_must) := goodIn_app (goodIn_of _ (by decide +kernel)) ggX8_readsStatement_X8_must
set_option maxRecDepth 20000 in
theorem ggX8_readsStatement_X8_takes : GoodIn wsX8_readsStatement wsX8_takes := goodIn_r _ [98, 9, 2, 76, 65, 66, 67, 7, 68, 3, 69, 87, 88, 89, 70, 71, 72, 73, 10, 74, 75, 77, 78, 79, 80, 81, 11, 82, 83, 84, 85, 86, 90, 91, 92, 93, 94, 136, 137, 138, 139, 140, 141, 142, 143, 144, 145, 146, 147, 148, 149, 150, 151, 152, 153] (by decide +kernel) (by decide +kernel)
set_option maxRecDepth 20000 in
theorem gX8_readsStatement_X8_takes : GoodIn wsX8_readsStatement (wsV RX8 130 RX8 yX8_takes wsX8_takes) := goodIn_app (goodIn_of _ (by decide +kernel)) ggX8_readsStatement_X8_takes
set_option maxRecDepth 20000 in
theorem ggX8_readsStatement_X8_readsLimits : GoodIn wsX8_readsStatement wsX8_readsLimits := goodIn_r _ [102, 103, 9, 2, 76, 1, 61, 62, 63, 7, 64, 65, 66, 67, 68, 3, 69, 70, 71, 72, 73, 10, 74, 75, 77, 78, 79, 80, 81, 11, 82, 83, 84, 85, 86, 87, 88, 89, 90, 91, 92, 93, 94, 95, 96, 97, 98, 136, 137, 138, 139, 140, 141, 142, 143, 144, 145, 146, 147, 148, 149, 150, 151, 152, 153] (by decide +kernel) (by decide +kernel)
set_option maxRecDepth 20000 in
theorem gX8_readsStatement_X8_readsLimits : GoodIn wsX8_readsStatement (wsV RX8 158 RX8 yX8_readsLimits wsX8_readsLimits) := goodIn_app (goodIn_of _ (by decide +kernel)) ggX8_readsStatement_X8_readsLimits
set_option maxRecDepth 20000 in
theorem ggX8_readsStatement_X8_readsFolder : GoodIn wsX8_readsStatement wsX8_readsFolder := goodIn_r _ [107, 1, 108, 9, 65, 66, 67, 7, 68, 3, 69, 61, 62, 63, 64, 70, 71, 72, 73, 10, 74, 75, 2, 76, 77, 78, 79, 80, 81, 11, 82, 83, 84, 85, 86, 87, 88, 89, 90, 91, 92, 93, 94, 109, 110, 111, 112, 113, 114, 115, 116, 117, 118, 119, 120, 121, 122, 123, 136, 137, 138, 139, 140, 141, 142, 143, 144, 145, 146, 147, 148, 149, 150, 151, 152, 153] (by decide +kernel) (by decide +kernel)
set_option maxRecDepth 20000 in
theorem gX8_readsStatement_X8_readsFolder : GoodIn wsX8_readsStatement (wsV RX8 163 RX8 yX8_readsFolder wsX8_readsFolder) := goodIn_app (goodIn_of _ (by decide +kernel)) ggX8_readsStatement_X8_readsFolder
set_option maxRecDepth 20000 in
theorem ggX8_readsStatement_X8_readsTag : GoodIn wsX8_readsStatement wsX8_readsTag := goodIn_r _ [127, 9, 1, 61, 62, 63, 7, 64, 65, 66, 67, 68, 3, 69, 70, 71, 72, 73, 10, 74, 75, 2, 76, 77, 78, 79, 80, 81, 11, 82, 83, 84, 85, 86, 87, 88, 89, 90, 91, 92, 93, 94, 116, 117, 118, 119, 109, 110, 111, 112, 113, 114, 115, 95, 96, 97, 98, 136, 137, 138, 139, 140, 141, 142, 143, 144, 145, 146, 147, 148, 149, 150, 151, 152, 153] (by decide +kernel) (by decide +kernel)
set_option maxRecDepth 20000 in
theorem gX8_readsStatement_X8_readsTag : GoodIn wsX8_readsStatement (wsV RX8 168 RX8 yX8_readsTag wsX8_readsTag) := goodIn_app (goodIn_of _ (by decide +kernel)) ggX8_readsStatement_X8_readsTag
set_option maxRecDepth 20000 in
theorem ggX8_readsStatement_X8_readsFile : GoodIn wsX8_readsStatement wsX8_readsFile := goodIn_r _ [131, 1, 132, 9, 65, 66, 67, 7, 68, 3, 69, 61, 62, 63, 64, 70, 71, 72, 73, 10, 74, 75, 2, 76, 77, 78, 79, 80, 81, 11, 82, 83, 84, 85, 86, 87, 88, 89, 90, 91, 92, 93, 94, 116, 117, 118, 119, 109, 110, 111, 112, 113, 114, 115, 95, 96, 97, 98, 133, 134, 135, 136, 137, 138, 139, 140, 141, 142, 143, 144, 145, 146, 147, 148, 149, 150, 151, 152, 153] (by decide +kernel) (by decide +kernel)
set_option maxRecDepth 20000 in
theorem gX8_readsStatement_X8_readsFile : GoodIn wsX8_readsStatement (wsV RX8 173 RX8 yX8_readsFile wsX8_readsFile) := goodIn_app (goodIn_of _ (by decide +kernel)) ggX8_readsStatement_X8_readsFile
set_option maxRecDepth 20000 in
theorem ggX8_readsStatement_X8_fails : GoodIn wsX8_readsStatement wsX8_fails := goodIn_r _ [68, 9, 3, 69, 136, 137, 138, 139, 140, 141, 142, 143, 144, 145, 146, 147, 148, 149, 150, 151, 152, 153] (by decide +kernel) (by decide +kernel)
set_option maxRecDepth 20000 in
theorem gX8_readsStatement_X8_fails : GoodIn wsX8_readsStatement (wsV RX8 111 RX8 yX8_fails wsX8_fails) := goodIn_app (goodIn_of _ (by decide +kernel)) ggX8_readsStatement_X8_fails
set_option maxRecDepth 20000 in
theorem ggX8_readsStatement_X8_see : GoodIn wsX8_readsStatement wsX8_see := goodIn_r _ [81, 75, 11, 136, 137, 138, 139, 140, 141, 142, 143, 144, 145, 146, 147, 148, 149, 150, 151, 152, 153] (by decide +kernel) (by decide +kernel)
set_option maxRecDepth 20000 in
theorem gX8_readsStatement_X8_see : GoodIn wsX8_readsStatement (wsV RX8 73 RX8 yX8_see wsX8_see) := goodIn_app (goodIn_of _ (by decide +kernel)) ggX8_readsStatement_X8_see
theorem dX8_readsStatement_0 : decode cX8_readsStatement 0 = .ok (.aload_n 0, 1) := by decide +kernel
theorem dX8_readsStatement_1 : decode cX8_readsStatement 1 = .ok (.ldc 150, 2) := by decide +kernel
theorem dX8_readsStatement_3 : decode cX8_readsStatement 3 = .ok (.invokevirtual 152, 3) := by decide +kernel
theorem dX8_readsStatement_6 : decode cX8_readsStatement 6 = .ok (.ifCond .eq 25, 3) := by decide +kernel
theorem dX8_readsStatement_9 : decode cX8_readsStatement 9 = .ok (.aload_n 0, 1) := by decide +kernel
theorem dX8_readsStatement_10 : decode cX8_readsStatement 10 = .ok (.iconst 1, 1) := by decide +kernel
theorem dX8_readsStatement_11 : decode cX8_readsStatement 11 = .ok (.invokevirtual 126, 3) := by decide +kernel
theorem dX8_readsStatement_14 : decode cX8_readsStatement 14 = .ok (.aload_n 0, 1) := by decide +kernel
theorem dX8_readsStatement_15 : decode cX8_readsStatement 15 = .ok (.getfield 13, 3) := by decide +kernel
theorem dX8_readsStatement_18 : decode cX8_readsStatement 18 = .ok (.iconst 1, 1) := by decide +kernel
theorem dX8_readsStatement_19 : decode cX8_readsStatement 19 = .ok (.aload_n 0, 1) := by decide +kernel
theorem dX8_readsStatement_20 : decode cX8_readsStatement 20 = .ok (.iconst 1, 1) := by decide +kernel
theorem dX8_readsStatement_21 : decode cX8_readsStatement 21 = .ok (.bipush 99, 2) := by decide +kernel
theorem dX8_readsStatement_23 : decode cX8_readsStatement 23 = .ok (.invokevirtual 130, 3) := by decide +kernel
theorem dX8_readsStatement_26 : decode cX8_readsStatement 26 = .ok (.i2l, 1) := by decide +kernel
theorem dX8_readsStatement_27 : decode cX8_readsStatement 27 = .ok (.lastore, 1) := by decide +kernel
theorem dX8_readsStatement_28 : decode cX8_readsStatement 28 = .ok (.goto 73, 3) := by decide +kernel
theorem dX8_readsStatement_31 : decode cX8_readsStatement 31 = .ok (.aload_n 0, 1) := by decide +kernel
theorem dX8_readsStatement_32 : decode cX8_readsStatement 32 = .ok (.ldc 156, 2) := by decide +kernel
theorem dX8_readsStatement_34 : decode cX8_readsStatement 34 = .ok (.invokevirtual 152, 3) := by decide +kernel
theorem dX8_readsStatement_37 : decode cX8_readsStatement 37 = .ok (.ifCond .eq 10, 3) := by decide +kernel
theorem dX8_readsStatement_40 : decode cX8_readsStatement 40 = .ok (.aload_n 0, 1) := by decide +kernel
theorem dX8_readsStatement_41 : decode cX8_readsStatement 41 = .ok (.invokevirtual 158, 3) := by decide +kernel
theorem dX8_readsStatement_44 : decode cX8_readsStatement 44 = .ok (.goto 57, 3) := by decide +kernel
theorem dX8_readsStatement_47 : decode cX8_readsStatement 47 = .ok (.aload_n 0, 1) := by decide +kernel
theorem dX8_readsStatement_48 : decode cX8_readsStatement 48 = .ok (.ldc 161, 2) := by decide +kernel
theorem dX8_readsStatement_50 : decode cX8_readsStatement 50 = .ok (.invokevirtual 152, 3) := by decide +kernel
theorem dX8_readsStatement_53 : decode cX8_readsStatement 53 = .ok (.ifCond .eq 10, 3) := by decide +kernel
theorem dX8_readsStatement_56 : decode cX8_readsStatement 56 = .ok (.aload_n 0, 1) := by decide +kernel
theorem dX8_readsStatement_57 : decode cX8_readsStatement 57 = .ok (.invokevirtual 163, 3) := by decide +kernel
theorem dX8_readsStatement_60 : decode cX8_readsStatement 60 = .ok (.goto 41, 3) := by decide +kernel
theorem dX8_readsStatement_63 : decode cX8_readsStatement 63 = .ok (.aload_n 0, 1) := by decide +kernel
theorem dX8_readsStatement_64 : decode cX8_readsStatement 64 = .ok (.ldc 166, 2) := by decide +kernel
theorem dX8_readsStatement_66 : decode cX8_readsStatement 66 = .ok (.invokevirtual 152, 3) := by decide +kernel
theorem dX8_readsStatement_69 : decode cX8_readsStatement 69 = .ok (.ifCond .eq 10, 3) := by decide +kernel
theorem dX8_readsStatement_72 : decode cX8_readsStatement 72 = .ok (.aload_n 0, 1) := by decide +kernel
theorem dX8_readsStatement_73 : decode cX8_readsStatement 73 = .ok (.invokevirtual 168, 3) := by decide +kernel
theorem dX8_readsStatement_76 : decode cX8_readsStatement 76 = .ok (.goto 25, 3) := by decide +kernel
theorem dX8_readsStatement_79 : decode cX8_readsStatement 79 = .ok (.aload_n 0, 1) := by decide +kernel
theorem dX8_readsStatement_80 : decode cX8_readsStatement 80 = .ok (.ldc 171, 2) := by decide +kernel
theorem dX8_readsStatement_82 : decode cX8_readsStatement 82 = .ok (.invokevirtual 152, 3) := by decide +kernel
theorem dX8_readsStatement_85 : decode cX8_readsStatement 85 = .ok (.ifCond .eq 10, 3) := by decide +kernel
theorem dX8_readsStatement_88 : decode cX8_readsStatement 88 = .ok (.aload_n 0, 1) := by decide +kernel
theorem dX8_readsStatement_89 : decode cX8_readsStatement 89 = .ok (.invokevirtual 173, 3) := by decide +kernel
theorem dX8_readsStatement_92 : decode cX8_readsStatement 92 = .ok (.goto 9, 3) := by decide +kernel
theorem dX8_readsStatement_95 : decode cX8_readsStatement 95 = .ok (.aload_n 0, 1) := by decide +kernel
theorem dX8_readsStatement_96 : decode cX8_readsStatement 96 = .ok (.bipush (-2), 2) := by decide +kernel
theorem dX8_readsStatement_98 : decode cX8_readsStatement 98 = .ok (.invokevirtual 111, 3) := by decide +kernel
theorem dX8_readsStatement_101 : decode cX8_readsStatement 101 = .ok (.aload_n 0, 1) := by decide +kernel
theorem dX8_readsStatement_102 : decode cX8_readsStatement 102 = .ok (.aload_n 0, 1) := by decide +kernel
theorem dX8_readsStatement_103 : decode cX8_readsStatement 103 = .ok (.getfield 81, 3) := by decide +kernel
theorem dX8_readsStatement_106 : decode cX8_readsStatement 106 = .ok (.iconst 2, 1) := by decide +kernel
theorem dX8_readsStatement_107 : decode cX8_readsStatement 107 = .ok (.if_icmp .ne 20, 3) := by decide +kernel
theorem dX8_readsStatement_110 : decode cX8_readsStatement 110 = .ok (.aload_n 0, 1) := by decide +kernel
theorem dX8_readsStatement_111 : decode cX8_readsStatement 111 = .ok (.aload_n 0, 1) := by decide +kernel
theorem dX8_readsStatement_112 : decode cX8_readsStatement 112 = .ok (.getfield 70, 3) := by decide +kernel
theorem dX8_readsStatement_115 : decode cX8_readsStatement 115 = .ok (.invokevirtual 73, 3) := by decide +kernel
theorem dX8_readsStatement_118 : decode cX8_readsStatement 118 = .ok (.bipush 59, 2) := by decide +kernel
theorem dX8_readsStatement_120 : decode cX8_readsStatement 120 = .ok (.if_icmp .ne 7, 3) := by decide +kernel
theorem dX8_readsStatement_123 : decode cX8_readsStatement 123 = .ok (.iconst 1, 1) := by decide +kernel
theorem dX8_readsStatement_124 : decode cX8_readsStatement 124 = .ok (.goto 4, 3) := by decide +kernel
theorem dX8_readsStatement_127 : decode cX8_readsStatement 127 = .ok (.iconst 0, 1) := by decide +kernel
theorem dX8_readsStatement_128 : decode cX8_readsStatement 128 = .ok (.invokevirtual 126, 3) := by decide +kernel
theorem dX8_readsStatement_131 : decode cX8_readsStatement 131 = .ok (.return_, 1) := by decide +kernel
