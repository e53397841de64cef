set_option maxRecDepth 20000 in
theorem ggX8_load_X8_isIn : GoodIn wsX8_load wsX8_isIn := goodIn_r _ [14] (by decide +kernel) (by decide +kernel)
set_option maxRecDepth 20000 in
theorem gX8_load_X8_isIn : GoodIn wsX8_load (va_wsS RX8 59 yX8_isIn wsX8_isIn) := goodIn_app (goodIn_of _ (by decide +kernel)) ggX8_load_X8_isIn
set_option maxRecDepth 20000 in
theorem ggX8_load_X8_begins : GoodIn wsX8_load wsX8_begins := goodIn_r _ [18, 9, 19, 20, 21, 198, 199, 200, 201, 202, 203, 204, 205, 206, 207, 208, 209, 210, 211, 212, 213, 214, 215] (by decide +kernel) (by decide +kernel)
set_option maxRecDepth 20000 in
theorem gX8_load_X8_begins : GoodIn wsX8_load (wsV RX8 30 RX8 yX8_begins wsX8_begins) := goodIn_app (goodIn_of _ (by decide +kernel)) ggX8_load_X8_begins
set_option maxRecDepth 20000 in
theorem ggX8_load_X8_next : GoodIn wsX8_load wsX8_next := goodIn_r _ [25, 4, 26, 27, 3, 6, 28, 29, 30, 31, 32, 13, 33, 34, 35, 36, 37, 38, 39, 11, 12, 14, 40, 41, 42, 43, 44, 198, 199, 200, 201, 202, 203, 204, 205, 206, 207, 208, 209, 210, 211, 212, 213, 214, 215] (by decide +kernel) (by decide +kernel)
set_option maxRecDepth 20000 in
theorem gX8_load_X8_next : GoodIn wsX8_load (wsV RX8 115 RX8 yX8_next wsX8_next) := goodIn_app (goodIn_of _ (by decide +kernel)) ggX8_load_X8_next
set_option maxRecDepth 20000 in
theorem ggX8_load_X8_readsStatement : GoodIn wsX8_load wsX8_readsStatement := goodIn_r _ [48, 9, 6, 26, 49, 50, 51, 13, 52, 5, 4, 34, 53, 54, 55, 56, 57, 58, 59, 60, 61, 62, 63, 64, 65, 66, 67, 68, 69, 70, 71, 72, 73, 74, 75, 76, 77, 78, 79, 80, 81, 82, 83, 84, 85, 86, 87, 88, 89, 90, 91, 92, 93, 94, 95, 96, 97, 98, 99, 100, 101, 102, 103, 104, 105, 106, 107, 108, 109, 7, 22, 23, 24, 25, 27, 3, 28, 29, 30, 31, 32, 33, 35, 36, 37, 38, 39, 11, 12, 14, 40, 41, 42, 43, 44, 110, 111, 112, 113, 114, 115, 116, 117, 118, 119, 120, 121, 122, 123, 124, 125, 126, 127, 128, 129, 130, 131, 132, 133, 134, 135, 136, 137, 19, 138, 139, 140, 141, 142, 143, 144, 145, 146, 147, 148, 149, 198, 199, 200, 201, 202, 203, 204, 205, 206, 207, 208, 209, 210, 211, 212, 213, 214, 215] (by decide +kernel) (by decide +kernel)
set_option maxRecDepth 20000 in
theorem gX8_load_X8_readsStatement : GoodIn wsX8_load (wsV RX8 176 RX8 yX8_readsStatement wsX8_readsStatement) := goodIn_app (goodIn_of _ (by decide +kernel)) ggX8_load_X8_readsStatement
set_option maxRecDepth 20000 in
theorem ggX8_load_X8_keeps : GoodIn wsX8_load wsX8_keeps := goodIn_r _ [153, 154, 155, 10, 198, 199, 200, 201, 202, 203, 204, 205, 206, 207, 208, 209, 210, 211, 212, 213, 214, 215] (by decide +kernel) (by decide +kernel)
set_option maxRecDepth 20000 in
theorem gX8_load_X8_keeps : GoodIn wsX8_load (wsV RX8 179 RX8 yX8_keeps wsX8_keeps) := goodIn_app (goodIn_of _ (by decide +kernel)) ggX8_load_X8_keeps
set_option maxRecDepth 20000 in
theorem ggX8_load_X8_becomes : GoodIn wsX8_load wsX8_becomes := goodIn_r _ [159, 10, 198, 199, 200, 201, 202, 203, 204, 205, 206, 207, 208, 209, 210, 211, 212, 213, 214, 215] (by decide +kernel) (by decide +kernel)
set_option maxRecDepth 20000 in
theorem gX8_load_X8_becomes : GoodIn wsX8_load (wsV RX8 33 RX8 yX8_becomes wsX8_becomes) := goodIn_app (goodIn_of _ (by decide +kernel)) ggX8_load_X8_becomes
set_option maxRecDepth 20000 in
theorem ggX8_load_X8_countedOf : GoodIn wsX8_load wsX8_countedOf := goodIn_r _ [163, 10, 164, 165, 166, 13, 167, 168, 169, 170, 171, 172, 173, 174, 175, 176, 177, 178, 179, 198, 199, 200, 201, 202, 203, 204, 205, 206, 207, 208, 209, 210, 211, 212, 213, 214, 215] (by decide +kernel) (by decide +kernel)
set_option maxRecDepth 20000 in
theorem gX8_load_X8_countedOf : GoodIn wsX8_load (wsV RX8 182 RX8 yX8_countedOf wsX8_countedOf) := goodIn_app (goodIn_of _ (by decide +kernel)) ggX8_load_X8_countedOf
set_option maxRecDepth 20000 in
theorem ggX8_load_X8_setsClocks : GoodIn wsX8_load wsX8_setsClocks := goodIn_r _ [183, 19, 10, 184, 185, 186, 13, 187, 188, 189, 190, 191, 192, 193, 194, 195, 196, 197, 198, 199, 200, 201, 202, 203, 204, 205, 206, 207, 208, 209, 210, 211, 212, 213, 214, 215] (by decide +kernel) (by decide +kernel)
set_option maxRecDepth 20000 in
theorem gX8_load_X8_setsClocks : GoodIn wsX8_load (wsV RX8 186 RX8 yX8_setsClocks wsX8_setsClocks) := goodIn_app (goodIn_of _ (by decide +kernel)) ggX8_load_X8_setsClocks
theorem dX8_load_0 : decode cX8_load 0 = .ok (.aload_n 0, 1) := by decide +kernel
theorem dX8_load_1 : decode cX8_load 1 = .ok (.iload_n 1, 1) := by decide +kernel
theorem dX8_load_2 : decode cX8_load 2 = .ok (.i2l, 1) := by decide +kernel
theorem dX8_load_3 : decode cX8_load 3 = .ok (.lconst 0, 1) := by decide +kernel
theorem dX8_load_4 : decode cX8_load 4 = .ok (.aload_n 0, 1) := by decide +kernel
theorem dX8_load_5 : decode cX8_load 5 = .ok (.getfield 49, 3) := by decide +kernel
theorem dX8_load_8 : decode cX8_load 8 = .ok (.i2l, 1) := by decide +kernel
theorem dX8_load_9 : decode cX8_load 9 = .ok (.invokestatic 59, 3) := by decide +kernel
theorem dX8_load_12 : decode cX8_load 12 = .ok (.ifCond .eq 7, 3) := by decide +kernel
theorem dX8_load_15 : decode cX8_load 15 = .ok (.iconst 0, 1) := by decide +kernel
theorem dX8_load_16 : decode cX8_load 16 = .ok (.goto 4, 3) := by decide +kernel
theorem dX8_load_19 : decode cX8_load 19 = .ok (.iconst 1, 1) := by decide +kernel
theorem dX8_load_20 : decode cX8_load 20 = .ok (.putfield 43, 3) := by decide +kernel
theorem dX8_load_23 : decode cX8_load 23 = .ok (.aload_n 0, 1) := by decide +kernel
theorem dX8_load_24 : decode cX8_load 24 = .ok (.getfield 43, 3) := by decide +kernel
theorem dX8_load_27 : decode cX8_load 27 = .ok (.ifCond .le 5, 3) := by decide +kernel
theorem dX8_load_30 : decode cX8_load 30 = .ok (.iconst 0, 1) := by decide +kernel
theorem dX8_load_31 : decode cX8_load 31 = .ok (.ireturn, 1) := by decide +kernel
theorem dX8_load_32 : decode cX8_load 32 = .ok (.aload_n 0, 1) := by decide +kernel
theorem dX8_load_33 : decode cX8_load 33 = .ok (.iload_n 1, 1) := by decide +kernel
theorem dX8_load_34 : decode cX8_load 34 = .ok (.putfield 52, 3) := by decide +kernel
theorem dX8_load_37 : decode cX8_load 37 = .ok (.aload_n 0, 1) := by decide +kernel
theorem dX8_load_38 : decode cX8_load 38 = .ok (.iconst 0, 1) := by decide +kernel
theorem dX8_load_39 : decode cX8_load 39 = .ok (.putfield 49, 3) := by decide +kernel
theorem dX8_load_42 : decode cX8_load 42 = .ok (.aload_n 0, 1) := by decide +kernel
theorem dX8_load_43 : decode cX8_load 43 = .ok (.iconst 0, 1) := by decide +kernel
theorem dX8_load_44 : decode cX8_load 44 = .ok (.putfield 67, 3) := by decide +kernel
theorem dX8_load_47 : decode cX8_load 47 = .ok (.aload_n 0, 1) := by decide +kernel
theorem dX8_load_48 : decode cX8_load 48 = .ok (.iconst 0, 1) := by decide +kernel
theorem dX8_load_49 : decode cX8_load 49 = .ok (.putfield 95, 3) := by decide +kernel
theorem dX8_load_52 : decode cX8_load 52 = .ok (.aload_n 0, 1) := by decide +kernel
theorem dX8_load_53 : decode cX8_load 53 = .ok (.invokevirtual 30, 3) := by decide +kernel
theorem dX8_load_56 : decode cX8_load 56 = .ok (.aload_n 0, 1) := by decide +kernel
theorem dX8_load_57 : decode cX8_load 57 = .ok (.invokevirtual 115, 3) := by decide +kernel
theorem dX8_load_60 : decode cX8_load 60 = .ok (.aload_n 0, 1) := by decide +kernel
theorem dX8_load_61 : decode cX8_load 61 = .ok (.getfield 95, 3) := by decide +kernel
theorem dX8_load_64 : decode cX8_load 64 = .ok (.ifCond .ne 18, 3) := by decide +kernel
theorem dX8_load_67 : decode cX8_load 67 = .ok (.aload_n 0, 1) := by decide +kernel
theorem dX8_load_68 : decode cX8_load 68 = .ok (.getfield 81, 3) := by decide +kernel
theorem dX8_load_71 : decode cX8_load 71 = .ok (.iconst 3, 1) := by decide +kernel
theorem dX8_load_72 : decode cX8_load 72 = .ok (.if_icmp .eq 10, 3) := by decide +kernel
theorem dX8_load_75 : decode cX8_load 75 = .ok (.aload_n 0, 1) := by decide +kernel
theorem dX8_load_76 : decode cX8_load 76 = .ok (.invokevirtual 176, 3) := by decide +kernel
theorem dX8_load_79 : decode cX8_load 79 = .ok (.goto (-19), 3) := by decide +kernel
theorem dX8_load_82 : decode cX8_load 82 = .ok (.aload_n 0, 1) := by decide +kernel
theorem dX8_load_83 : decode cX8_load 83 = .ok (.aload_n 0, 1) := by decide +kernel
theorem dX8_load_84 : decode cX8_load 84 = .ok (.getfield 95, 3) := by decide +kernel
theorem dX8_load_87 : decode cX8_load 87 = .ok (.ifCond .ne 7, 3) := by decide +kernel
theorem dX8_load_90 : decode cX8_load 90 = .ok (.iconst (-1), 1) := by decide +kernel
theorem dX8_load_91 : decode cX8_load 91 = .ok (.goto 7, 3) := by decide +kernel
theorem dX8_load_94 : decode cX8_load 94 = .ok (.aload_n 0, 1) := by decide +kernel
theorem dX8_load_95 : decode cX8_load 95 = .ok (.getfield 108, 3) := by decide +kernel
theorem dX8_load_98 : decode cX8_load 98 = .ok (.putfield 23, 3) := by decide +kernel
theorem dX8_load_101 : decode cX8_load 101 = .ok (.aload_n 0, 1) := by decide +kernel
theorem dX8_load_102 : decode cX8_load 102 = .ok (.getfield 95, 3) := by decide +kernel
theorem dX8_load_105 : decode cX8_load 105 = .ok (.ifCond .eq 8, 3) := by decide +kernel
theorem dX8_load_108 : decode cX8_load 108 = .ok (.aload_n 0, 1) := by decide +kernel
theorem dX8_load_109 : decode cX8_load 109 = .ok (.getfield 95, 3) := by decide +kernel
theorem dX8_load_112 : decode cX8_load 112 = .ok (.ireturn, 1) := by decide +kernel
theorem dX8_load_113 : decode cX8_load 113 = .ok (.aload_n 0, 1) := by decide +kernel
theorem dX8_load_114 : decode cX8_load 114 = .ok (.invokevirtual 179, 3) := by decide +kernel
theorem dX8_load_117 : decode cX8_load 117 = .ok (.aload_n 0, 1) := by decide +kernel
theorem dX8_load_118 : decode cX8_load 118 = .ok (.aload_n 0, 1) := by decide +kernel
theorem dX8_load_119 : decode cX8_load 119 = .ok (.getfield 13, 3) := by decide +kernel
theorem dX8_load_122 : decode cX8_load 122 = .ok (.iconst 0, 1) := by decide +kernel
theorem dX8_load_123 : decode cX8_load 123 = .ok (.invokevirtual 33, 3) := by decide +kernel
theorem dX8_load_126 : decode cX8_load 126 = .ok (.iconst 0, 1) := by decide +kernel
theorem dX8_load_127 : decode cX8_load 127 = .ok (.istore_n 2, 1) := by decide +kernel
theorem dX8_load_128 : decode cX8_load 128 = .ok (.iload_n 2, 1) := by decide +kernel
theorem dX8_load_129 : decode cX8_load 129 = .ok (.bipush 16, 2) := by decide +kernel
theorem dX8_load_131 : decode cX8_load 131 = .ok (.if_icmp .ge 28, 3) := by decide +kernel
theorem dX8_load_134 : decode cX8_load 134 = .ok (.aload_n 0, 1) := by decide +kernel
theorem dX8_load_135 : decode cX8_load 135 = .ok (.getfield 7, 3) := by decide +kernel
theorem dX8_load_138 : decode cX8_load 138 = .ok (.bipush 37, 2) := by decide +kernel
theorem dX8_load_140 : decode cX8_load 140 = .ok (.iload_n 2, 1) := by decide +kernel
theorem dX8_load_141 : decode cX8_load 141 = .ok (.iadd, 1) := by decide +kernel
theorem dX8_load_142 : decode cX8_load 142 = .ok (.aload_n 0, 1) := by decide +kernel
theorem dX8_load_143 : decode cX8_load 143 = .ok (.iload_n 2, 1) := by decide +kernel
theorem dX8_load_144 : decode cX8_load 144 = .ok (.iconst 2, 1) := by decide +kernel
theorem dX8_load_145 : decode cX8_load 145 = .ok (.idiv, 1) := by decide +kernel
theorem dX8_load_146 : decode cX8_load 146 = .ok (.iload_n 2, 1) := by decide +kernel
theorem dX8_load_147 : decode cX8_load 147 = .ok (.iconst 2, 1) := by decide +kernel
theorem dX8_load_148 : decode cX8_load 148 = .ok (.irem, 1) := by decide +kernel
theorem dX8_load_149 : decode cX8_load 149 = .ok (.invokevirtual 182, 3) := by decide +kernel
theorem dX8_load_152 : decode cX8_load 152 = .ok (.lastore, 1) := by decide +kernel
theorem dX8_load_153 : decode cX8_load 153 = .ok (.iinc 2 1, 3) := by decide +kernel
theorem dX8_load_156 : decode cX8_load 156 = .ok (.goto (-28), 3) := by decide +kernel
theorem dX8_load_159 : decode cX8_load 159 = .ok (.aload_n 0, 1) := by decide +kernel
theorem dX8_load_160 : decode cX8_load 160 = .ok (.invokevirtual 186, 3) := by decide +kernel
theorem dX8_load_163 : decode cX8_load 163 = .ok (.aload_n 0, 1) := by decide +kernel
theorem dX8_load_164 : decode cX8_load 164 = .ok (.getfield 7, 3) := by decide +kernel
theorem dX8_load_167 : decode cX8_load 167 = .ok (.iconst 3, 1) := by decide +kernel
theorem dX8_load_168 : decode cX8_load 168 = .ok (.laload, 1) := by decide +kernel
theorem dX8_load_169 : decode cX8_load 169 = .ok (.l2i, 1) := by decide +kernel
theorem dX8_load_170 : decode cX8_load 170 = .ok (.ireturn, 1) := by decide +kernel
set_option maxRecDepth 20000 in
theorem ggX8_share_X8_lacks : GoodIn wsX8_share wsX8_lacks := goodIn_r _ [6, 1, 7, 8, 5, 9, 10, 11, 12, 13, 14, 15, 16, 37, 38, 39, 40, 41, 42, 43, 44, 45, 46, 47, 48, 49, 50, 51, 52, 53, 54] (by decide +kernel) (by decide +kernel)
set_option maxRecDepth 20000 in
theorem gX8_share_X8_lacks : GoodIn wsX8_share (wsV RX8 326 RX8 yX8_lacks wsX8_lacks) := goodIn_app (goodIn_of _ (by decide +kernel)) ggX8_share_X8_lacks
set_option maxRecDepth 20000 in
theorem ggX8_share_X8_limitOf : GoodIn wsX8_share wsX8_limitOf := goodIn_r _ [20, 21, 22, 23, 24, 5, 25, 26, 27, 28, 29, 30, 31, 32, 37, 38, 39, 40, 41, 42, 43, 44, 45, 46, 47, 48, 49, 50, 51, 52, 53, 54] (by decide +kernel) (by decide +kernel)
set_option maxRecDepth 20000 in
theorem gX8_share_X8_limitOf : GoodIn wsX8_share (wsV RX8 266 RX8 yX8_limitOf wsX8_limitOf) := goodIn_app (goodIn_of _ (by decide +kernel)) ggX8_share_X8_limitOf
set_option maxRecDepth 20000 in
theorem ggX8_share_X8_usedOf : GoodIn wsX8_share wsX8_usedOf := goodIn_r _ [36, 21, 23, 24, 5, 25, 37, 38, 39, 40, 41, 42, 43, 44, 45, 46, 47, 48, 49, 50, 51, 52, 53, 54] (by decide +kernel) (by decide +kernel)
set_option maxRecDepth 20000 in
theorem gX8_share_X8_usedOf : GoodIn wsX8_share (wsV RX8 273 RX8 yX8_usedOf wsX8_usedOf) := goodIn_app (goodIn_of _ (by decide +kernel)) ggX8_share_X8_usedOf
theorem dX8_share_0 : decode cX8_share 0 = .ok (.aload_n 0, 1) := by decide +kernel
theorem dX8_share_1 : decode cX8_share 1 = .ok (.iload_n 1, 1) := by decide +kernel
theorem dX8_share_2 : decode cX8_share 2 = .ok (.iload_n 2, 1) := by decide +kernel
theorem dX8_share_3 : decode cX8_share 3 = .ok (.invokevirtual 326, 3) := by decide +kernel
theorem dX8_share_6 : decode cX8_share 6 = .ok (.ifCond .eq 5, 3) := by decide +kernel
theorem dX8_share_9 : decode cX8_share 9 = .ok (.fconst 0, 1) := by decide +kernel
theorem dX8_share_10 : decode cX8_share 10 = .ok (.freturn, 1) := by decide +kernel
theorem dX8_share_11 : decode cX8_share 11 = .ok (.aload_n 0, 1) := by decide +kernel
theorem dX8_share_12 : decode cX8_share 12 = .ok (.iload_n 1, 1) := by decide +kernel
theorem dX8_share_13 : decode cX8_share 13 = .ok (.iload_n 2, 1) := by decide +kernel
theorem dX8_share_14 : decode cX8_share 14 = .ok (.iconst 1, 1) := by decide +kernel
theorem dX8_share_15 : decode cX8_share 15 = .ok (.invokevirtual 266, 3) := by decide +kernel
theorem dX8_share_18 : decode cX8_share 18 = .ok (.lstore_n 3, 1) := by decide +kernel
theorem dX8_share_19 : decode cX8_share 19 = .ok (.aload_n 0, 1) := by decide +kernel
theorem dX8_share_20 : decode cX8_share 20 = .ok (.lload_n 3, 1) := by decide +kernel
theorem dX8_share_21 : decode cX8_share 21 = .ok (.lconst 0, 1) := by decide +kernel
theorem dX8_share_22 : decode cX8_share 22 = .ok (.lcmp, 1) := by decide +kernel
theorem dX8_share_23 : decode cX8_share 23 = .ok (.ifCond .gt 7, 3) := by decide +kernel
theorem dX8_share_26 : decode cX8_share 26 = .ok (.iconst 2, 1) := by decide +kernel
theorem dX8_share_27 : decode cX8_share 27 = .ok (.goto 4, 3) := by decide +kernel
theorem dX8_share_30 : decode cX8_share 30 = .ok (.iconst 0, 1) := by decide +kernel
theorem dX8_share_31 : decode cX8_share 31 = .ok (.putfield 43, 3) := by decide +kernel
theorem dX8_share_34 : decode cX8_share 34 = .ok (.aload_n 0, 1) := by decide +kernel
theorem dX8_share_35 : decode cX8_share 35 = .ok (.getfield 43, 3) := by decide +kernel
theorem dX8_share_38 : decode cX8_share 38 = .ok (.ifCond .le 7, 3) := by decide +kernel
theorem dX8_share_41 : decode cX8_share 41 = .ok (.fconst 0, 1) := by decide +kernel
theorem dX8_share_42 : decode cX8_share 42 = .ok (.goto 13, 3) := by decide +kernel
theorem dX8_share_45 : decode cX8_share 45 = .ok (.aload_n 0, 1) := by decide +kernel
theorem dX8_share_46 : decode cX8_share 46 = .ok (.iload_n 1, 1) := by decide +kernel
theorem dX8_share_47 : decode cX8_share 47 = .ok (.iload_n 2, 1) := by decide +kernel
theorem dX8_share_48 : decode cX8_share 48 = .ok (.invokevirtual 273, 3) := by decide +kernel
theorem dX8_share_51 : decode cX8_share 51 = .ok (.l2f, 1) := by decide +kernel
theorem dX8_share_52 : decode cX8_share 52 = .ok (.lload_n 3, 1) := by decide +kernel
theorem dX8_share_53 : decode cX8_share 53 = .ok (.l2f, 1) := by decide +kernel
theorem dX8_share_54 : decode cX8_share 54 = .ok (.fdiv, 1) := by decide +kernel
theorem dX8_share_55 : decode cX8_share 55 = .ok (.freturn, 1) := by decide +kernel
set_option maxRecDepth 20000 in
theorem ggX8_saysNumber_X8_saysNumber : GoodIn wsX8_saysNumber wsX8_saysNumber := goodIn_r _ [0, 1, 2, 3, 4, 5, 6, 7, 8, 9, 10, 11, 12, 13, 14, 15, 16, 17, 18, 19, 20, 21, 22, 23, 24, 25, 26, 27, 28, 29, 30] (by decide +kernel) (by decide +kernel)
set_option maxRecDepth 20000 in
theorem gX8_saysNumber_X8_saysNumber : GoodIn wsX8_saysNumber (wsV RX8 369 RX8 yX8_saysNumber wsX8_saysNumber) := goodIn_app (goodIn_of _ (by decide +kernel)) ggX8_saysNumber_X8_saysNumber
set_option maxRecDepth 20000 in
theorem ggX8_saysNumber_X8_says : GoodIn wsX8_saysNumber wsX8_says := goodIn_r _ [10, 11, 12, 13, 14, 15, 16, 17, 18, 19, 20, 21, 22, 23, 24, 25, 26, 27, 28, 29, 30] (by decide +kernel) (by decide +kernel)
set_option maxRecDepth 20000 in
theorem gX8_saysNumber_X8_says : GoodIn wsX8_saysNumber (wsV RX8 373 RX8 yX8_says wsX8_says) := goodIn_app (goodIn_of _ (by decide +kernel)) ggX8_saysNumber_X8_says
theorem dX8_saysNumber_0 : decode cX8_saysNumber 0 = .ok (.lload_n 1, 1) := by decide +kernel
theorem dX8_saysNumber_1 : decode cX8_saysNumber 1 = .ok (.ldc2_w 223, 3) := by decide +kernel
theorem dX8_saysNumber_4 : decode cX8_saysNumber 4 = .ok (.lcmp, 1) := by decide +kernel
theorem dX8_saysNumber_5 : decode cX8_saysNumber 5 = .ok (.ifCond .le 12, 3) := by decide +kernel
theorem dX8_saysNumber_8 : decode cX8_saysNumber 8 = .ok (.aload_n 0, 1) := by decide +kernel
theorem dX8_saysNumber_9 : decode cX8_saysNumber 9 = .ok (.lload_n 1, 1) := by decide +kernel
theorem dX8_saysNumber_10 : decode cX8_saysNumber 10 = .ok (.ldc2_w 39, 3) := by decide +kernel
theorem dX8_saysNumber_13 : decode cX8_saysNumber 13 = .ok (.ldiv, 1) := by decide +kernel
theorem dX8_saysNumber_14 : decode cX8_saysNumber 14 = .ok (.invokevirtual 369, 3) := by decide +kernel
theorem dX8_saysNumber_17 : decode cX8_saysNumber 17 = .ok (.aload_n 0, 1) := by decide +kernel
theorem dX8_saysNumber_18 : decode cX8_saysNumber 18 = .ok (.bipush 48, 2) := by decide +kernel
theorem dX8_saysNumber_20 : decode cX8_saysNumber 20 = .ok (.lload_n 1, 1) := by decide +kernel
theorem dX8_saysNumber_21 : decode cX8_saysNumber 21 = .ok (.ldc2_w 39, 3) := by decide +kernel
theorem dX8_saysNumber_24 : decode cX8_saysNumber 24 = .ok (.lrem, 1) := by decide +kernel
theorem dX8_saysNumber_25 : decode cX8_saysNumber 25 = .ok (.l2i, 1) := by decide +kernel
theorem dX8_saysNumber_26 : decode cX8_saysNumber 26 = .ok (.iadd, 1) := by decide +kernel
theorem dX8_saysNumber_27 : decode cX8_saysNumber 27 = .ok (.invokevirtual 373, 3) := by decide +kernel
theorem dX8_saysNumber_30 : decode cX8_saysNumber 30 = .ok (.return_, 1) := by decide +kernel
set_option maxRecDepth 20000 in
theorem ggX8_saysName_X8_saysName : GoodIn wsX8_saysName wsX8_saysName := goodIn_r _ [0, 1, 2, 3, 4, 5, 6, 7, 8, 9, 10, 11, 12, 13, 14, 15, 16, 17, 18, 19, 20, 21, 22, 23, 24, 25, 26, 27, 28, 29] (by decide +kernel) (by decide +kernel)
set_option maxRecDepth 20000 in
theorem gX8_saysName_X8_saysName : GoodIn wsX8_saysName (wsV RX8 376 RX8 yX8_saysName wsX8_saysName) := goodIn_app (goodIn_of _ (by decide +kernel)) ggX8_saysName_X8_saysName
set_option maxRecDepth 20000 in
theorem ggX8_saysName_X8_says : GoodIn wsX8_saysName wsX8_says := goodIn_r _ [9, 10, 11, 12, 13, 14, 15, 16, 17, 18, 19, 20, 21, 22, 23, 24, 25, 26, 27, 28, 29] (by decide +kernel) (by decide +kernel)
set_option maxRecDepth 20000 in
theorem gX8_saysName_X8_says : GoodIn wsX8_saysName (wsV RX8 373 RX8 yX8_says wsX8_says) := goodIn_app (goodIn_of _ (by decide +kernel)) ggX8_saysName_X8_says
theorem dX8_saysName_0 : decode cX8_saysName 0 = .ok (.lload_n 1, 1) := by decide +kernel
theorem dX8_saysName_1 : decode cX8_saysName 1 = .ok (.ldc2_w 243, 3) := by decide +kernel
theorem dX8_saysName_4 : decode cX8_saysName 4 = .ok (.lcmp, 1) := by decide +kernel
theorem dX8_saysName_5 : decode cX8_saysName 5 = .ok (.ifCond .le 10, 3) := by decide +kernel
theorem dX8_saysName_8 : decode cX8_saysName 8 = .ok (.aload_n 0, 1) := by decide +kernel
theorem dX8_saysName_9 : decode cX8_saysName 9 = .ok (.lload_n 1, 1) := by decide +kernel
theorem dX8_saysName_10 : decode cX8_saysName 10 = .ok (.iconst 5, 1) := by decide +kernel
theorem dX8_saysName_11 : decode cX8_saysName 11 = .ok (.lshr, 1) := by decide +kernel
theorem dX8_saysName_12 : decode cX8_saysName 12 = .ok (.invokevirtual 376, 3) := by decide +kernel
theorem dX8_saysName_15 : decode cX8_saysName 15 = .ok (.aload_n 0, 1) := by decide +kernel
theorem dX8_saysName_16 : decode cX8_saysName 16 = .ok (.bipush 96, 2) := by decide +kernel
theorem dX8_saysName_18 : decode cX8_saysName 18 = .ok (.lload_n 1, 1) := by decide +kernel
theorem dX8_saysName_19 : decode cX8_saysName 19 = .ok (.ldc2_w 243, 3) := by decide +kernel
theorem dX8_saysName_22 : decode cX8_saysName 22 = .ok (.land, 1) := by decide +kernel
theorem dX8_saysName_23 : decode cX8_saysName 23 = .ok (.l2i, 1) := by decide +kernel
theorem dX8_saysName_24 : decode cX8_saysName 24 = .ok (.iadd, 1) := by decide +kernel
theorem dX8_saysName_25 : decode cX8_saysName 25 = .ok (.invokevirtual 373, 3) := by decide +kernel
theorem dX8_saysName_28 : decode cX8_saysName 28 = .ok (.return_, 1) := by decide +kernel
set_option maxRecDepth 20000 in
theorem ggX8_saysPath_X8_parentOf : GoodIn wsX8_saysPath wsX8_parentOf := goodIn_r _ [6, 1, 21, 22, 23, 24, 25, 26, 27, 28, 29, 30, 31, 32, 33, 34, 35, 36, 37, 38] (by decide +kernel) (by decide +kernel)
set_option maxRecDepth 20000 in
theorem gX8_saysPath_X8_parentOf : GoodIn wsX8_saysPath (wsV RX8 194 RX8 yX8_parentOf wsX8_parentOf) := goodIn_app (goodIn_of _ (by decide +kernel)) ggX8_saysPath_X8_parentOf
set_option maxRecDepth 20000 in
theorem ggX8_saysPath_X8_saysPath : GoodIn wsX8_saysPath wsX8_saysPath := goodIn_r _ [0, 1, 2, 3, 4, 5, 6, 7, 8, 9, 10, 11, 12, 13, 14, 15, 16, 17, 18, 19, 20, 21, 22, 23, 24, 25, 26, 27, 28, 29, 30, 31, 32, 33, 34, 35, 36, 37, 38] (by decide +kernel) (by decide +kernel)
set_option maxRecDepth 20000 in
theorem gX8_saysPath_X8_saysPath : GoodIn wsX8_saysPath (wsV RX8 379 RX8 yX8_saysPath wsX8_saysPath) := goodIn_app (goodIn_of _ (by decide +kernel)) ggX8_saysPath_X8_saysPath
set_option maxRecDepth 20000 in
theorem ggX8_saysPath_X8_says : GoodIn wsX8_saysPath wsX8_says := goodIn_r _ [13, 14, 15, 21, 22, 23, 24, 25, 26, 27, 28, 29, 30, 31, 32, 33, 34, 35, 36, 37, 38] (by decide +kernel) (by decide +kernel)
set_option maxRecDepth 20000 in
theorem gX8_saysPath_X8_says : GoodIn wsX8_saysPath (wsV RX8 373 RX8 yX8_says wsX8_says) := goodIn_app (goodIn_of _ (by decide +kernel)) ggX8_saysPath_X8_says
set_option maxRecDepth 20000 in
theorem ggX8_saysPath_X8_saysName : GoodIn wsX8_saysPath wsX8_saysName := goodIn_r _ [19, 20, 16, 17, 18, 5, 10, 11, 12, 13, 14, 15, 21, 22, 23, 24, 25, 26, 27, 28, 29, 30, 31, 32, 33, 34, 35, 36, 37, 38] (by decide +kernel) (by decide +kernel)
set_option maxRecDepth 20000 in
theorem gX8_saysPath_X8_saysName : GoodIn wsX8_saysPath (wsV RX8 376 RX8 yX8_saysName wsX8_saysName) := goodIn_app (goodIn_of _ (by decide +kernel)) ggX8_saysPath_X8_saysName
theorem dX8_saysPath_0 : decode cX8_saysPath 0 = .ok (.iload_n 1, 1) := by decide +kernel
theorem dX8_saysPath_1 : decode cX8_saysPath 1 = .ok (.ifCond .le 18, 3) := by decide +kernel
theorem dX8_saysPath_4 : decode cX8_saysPath 4 = .ok (.aload_n 0, 1) := by decide +kernel
theorem dX8_saysPath_5 : decode cX8_saysPath 5 = .ok (.aload_n 0, 1) := by decide +kernel
theorem dX8_saysPath_6 : decode cX8_saysPath 6 = .ok (.iload_n 1, 1) := by decide +kernel
theorem dX8_saysPath_7 : decode cX8_saysPath 7 = .ok (.invokevirtual 194, 3) := by decide +kernel
theorem dX8_saysPath_10 : decode cX8_saysPath 10 = .ok (.invokevirtual 379, 3) := by decide +kernel
theorem dX8_saysPath_13 : decode cX8_saysPath 13 = .ok (.aload_n 0, 1) := by decide +kernel
theorem dX8_saysPath_14 : decode cX8_saysPath 14 = .ok (.bipush 47, 2) := by decide +kernel
theorem dX8_saysPath_16 : decode cX8_saysPath 16 = .ok (.invokevirtual 373, 3) := by decide +kernel
theorem dX8_saysPath_19 : decode cX8_saysPath 19 = .ok (.aload_n 0, 1) := by decide +kernel
theorem dX8_saysPath_20 : decode cX8_saysPath 20 = .ok (.aload_n 0, 1) := by decide +kernel
theorem dX8_saysPath_21 : decode cX8_saysPath 21 = .ok (.getfield 7, 3) := by decide +kernel
theorem dX8_saysPath_24 : decode cX8_saysPath 24 = .ok (.sipush 149, 3) := by decide +kernel
theorem dX8_saysPath_27 : decode cX8_saysPath 27 = .ok (.iload_n 1, 1) := by decide +kernel
theorem dX8_saysPath_28 : decode cX8_saysPath 28 = .ok (.iadd, 1) := by decide +kernel
theorem dX8_saysPath_29 : decode cX8_saysPath 29 = .ok (.laload, 1) := by decide +kernel
theorem dX8_saysPath_30 : decode cX8_saysPath 30 = .ok (.invokevirtual 376, 3) := by decide +kernel
theorem dX8_saysPath_33 : decode cX8_saysPath 33 = .ok (.return_, 1) := by decide +kernel
set_option maxRecDepth 20000 in
theorem ggX8_writePath_X8_isFolder : GoodIn wsX8_writePath wsX8_isFolder := goodIn_r _ [7, 8, 9, 10, 6, 11, 30, 31, 32, 33, 34, 35, 36, 37, 38, 39, 40, 41, 42, 43, 44, 45, 46, 47] (by decide +kernel) (by decide +kernel)
set_option maxRecDepth 20000 in
theorem gX8_writePath_X8_isFolder : GoodIn wsX8_writePath (wsV RX8 220 RX8 yX8_isFolder wsX8_isFolder) := goodIn_app (goodIn_of _ (by decide +kernel)) ggX8_writePath_X8_isFolder
set_option maxRecDepth 20000 in
theorem ggX8_writePath_X8_saysPath : GoodIn wsX8_writePath wsX8_saysPath := goodIn_r _ [15, 8, 16, 17, 18, 6, 19, 12, 13, 14, 20, 21, 22, 23, 24, 2, 25, 26, 27, 28, 29, 30, 31, 32, 33, 34, 35, 36, 37, 38, 39, 40, 41, 42, 43, 44, 45, 46, 47] (by decide +kernel) (by decide +kernel)
set_option maxRecDepth 20000 in
theorem gX8_writePath_X8_saysPath : GoodIn wsX8_writePath (wsV RX8 379 RX8 yX8_saysPath wsX8_saysPath) := goodIn_app (goodIn_of _ (by decide +kernel)) ggX8_writePath_X8_saysPath
theorem dX8_writePath_0 : decode cX8_writePath 0 = .ok (.aload_n 0, 1) := by decide +kernel
theorem dX8_writePath_1 : decode cX8_writePath 1 = .ok (.aload_n 0, 1) := by decide +kernel
theorem dX8_writePath_2 : decode cX8_writePath 2 = .ok (.iload_n 1, 1) := by decide +kernel
theorem dX8_writePath_3 : decode cX8_writePath 3 = .ok (.invokevirtual 220, 3) := by decide +kernel
theorem dX8_writePath_6 : decode cX8_writePath 6 = .ok (.ifCond .eq 7, 3) := by decide +kernel
theorem dX8_writePath_9 : decode cX8_writePath 9 = .ok (.iconst 0, 1) := by decide +kernel
theorem dX8_writePath_10 : decode cX8_writePath 10 = .ok (.goto 4, 3) := by decide +kernel
theorem dX8_writePath_13 : decode cX8_writePath 13 = .ok (.iconst 1, 1) := by decide +kernel
theorem dX8_writePath_14 : decode cX8_writePath 14 = .ok (.putfield 43, 3) := by decide +kernel
theorem dX8_writePath_17 : decode cX8_writePath 17 = .ok (.aload_n 0, 1) := by decide +kernel
theorem dX8_writePath_18 : decode cX8_writePath 18 = .ok (.getfield 43, 3) := by decide +kernel
theorem dX8_writePath_21 : decode cX8_writePath 21 = .ok (.ifCond .le 5, 3) := by decide +kernel
theorem dX8_writePath_24 : decode cX8_writePath 24 = .ok (.iconst 0, 1) := by decide +kernel
theorem dX8_writePath_25 : decode cX8_writePath 25 = .ok (.ireturn, 1) := by decide +kernel
theorem dX8_writePath_26 : decode cX8_writePath 26 = .ok (.aload_n 0, 1) := by decide +kernel
theorem dX8_writePath_27 : decode cX8_writePath 27 = .ok (.iconst 0, 1) := by decide +kernel
theorem dX8_writePath_28 : decode cX8_writePath 28 = .ok (.putfield 366, 3) := by decide +kernel
theorem dX8_writePath_31 : decode cX8_writePath 31 = .ok (.aload_n 0, 1) := by decide +kernel
theorem dX8_writePath_32 : decode cX8_writePath 32 = .ok (.iload_n 1, 1) := by decide +kernel
theorem dX8_writePath_33 : decode cX8_writePath 33 = .ok (.invokevirtual 379, 3) := by decide +kernel
theorem dX8_writePath_36 : decode cX8_writePath 36 = .ok (.aload_n 0, 1) := by decide +kernel
theorem dX8_writePath_37 : decode cX8_writePath 37 = .ok (.getfield 366, 3) := by decide +kernel
theorem dX8_writePath_40 : decode cX8_writePath 40 = .ok (.ireturn, 1) := by decide +kernel
set_option maxRecDepth 20000 in
theorem ggX8_writeAccounts_X8_isProject : GoodIn wsX8_writeAccounts wsX8_isProject := goodIn_r _ [7, 8, 9, 10, 6, 11] (by decide +kernel) (by decide +kernel)
set_option maxRecDepth 20000 in
theorem gX8_writeAccounts_X8_isProject : GoodIn wsX8_writeAccounts (va_wsS RX8 320 yX8_isProject wsX8_isProject) := goodIn_app (goodIn_of _ (by decide +kernel)) ggX8_writeAccounts_X8_isProject
set_option maxRecDepth 20000 in
theorem ggX8_writeAccounts_X8_saysNumber : GoodIn wsX8_writeAccounts wsX8_saysNumber := goodIn_r _ [15, 16, 17, 12, 13, 14, 6, 18, 19, 20, 21, 22, 2, 58, 59, 60, 61, 62, 63, 64, 65, 66, 67, 68, 69, 70, 71, 72, 73, 74, 75] (by decide +kernel) (by decide +kernel)
set_option maxRecDepth 20000 in
theorem gX8_writeAccounts_X8_saysNumber : GoodIn wsX8_writeAccounts (wsV RX8 369 RX8 yX8_saysNumber wsX8_saysNumber) := goodIn_app (goodIn_of _ (by decide +kernel)) ggX8_writeAccounts_X8_saysNumber
set_option maxRecDepth 20000 in
theorem ggX8_writeAccounts_X8_says : GoodIn wsX8_writeAccounts wsX8_says := goodIn_r _ [21, 22, 2, 58, 59, 60, 61, 62, 63, 64, 65, 66, 67, 68, 69, 70, 71, 72, 73, 74, 75] (by decide +kernel) (by decide +kernel)
set_option maxRecDepth 20000 in
theorem gX8_writeAccounts_X8_says : GoodIn wsX8_writeAccounts (wsV RX8 373 RX8 yX8_says wsX8_says) := goodIn_app (goodIn_of _ (by decide +kernel)) ggX8_writeAccounts_X8_says
set_option maxRecDepth 20000 in
theorem ggX8_writeAccounts_X8_usedOf : GoodIn wsX8_writeAccounts wsX8_usedOf := goodIn_r _ [26, 27, 28, 29, 6, 30, 58, 59, 60, 61, 62, 63, 64, 65, 66, 67, 68, 69, 70, 71, 72, 73, 74, 75] (by decide +kernel) (by decide +kernel)
set_option maxRecDepth 20000 in
theorem gX8_writeAccounts_X8_usedOf : GoodIn wsX8_writeAccounts (wsV RX8 273 RX8 yX8_usedOf wsX8_usedOf) := goodIn_app (goodIn_of _ (by decide +kernel)) ggX8_writeAccounts_X8_usedOf
set_option maxRecDepth 20000 in
theorem ggX8_writeAccounts_X8_limitOf : GoodIn wsX8_writeAccounts wsX8_limitOf := goodIn_r _ [34, 27, 3, 28, 29, 6, 30, 35, 36, 37, 38, 39, 40, 41, 58, 59, 60, 61, 62, 63, 64, 65, 66, 67, 68, 69, 70, 71, 72, 73, 74, 75] (by decide +kernel) (by decide +kernel)
set_option maxRecDepth 20000 in
theorem gX8_writeAccounts_X8_limitOf : GoodIn wsX8_writeAccounts (wsV RX8 266 RX8 yX8_limitOf wsX8_limitOf) := goodIn_app (goodIn_of _ (by decide +kernel)) ggX8_writeAccounts_X8_limitOf
set_option maxRecDepth 20000 in
theorem ggX8_writeAccounts_X8_stateOf : GoodIn wsX8_writeAccounts wsX8_stateOf := goodIn_r _ [45, 3, 46, 47, 48, 6, 49, 31, 32, 33, 34, 27, 28, 29, 30, 35, 36, 37, 38, 39, 40, 41, 23, 24, 25, 26, 50, 51, 52, 53, 54, 55, 56, 57, 58, 59, 60, 61, 62, 63, 64, 65, 66, 67, 68, 69, 70, 71, 72, 73, 74, 75] (by decide +kernel) (by decide +kernel)
set_option maxRecDepth 20000 in
theorem gX8_writeAccounts_X8_stateOf : GoodIn wsX8_writeAccounts (wsV RX8 334 RX8 yX8_stateOf wsX8_stateOf) := goodIn_app (goodIn_of _ (by decide +kernel)) ggX8_writeAccounts_X8_stateOf
theorem dX8_writeAccounts_0 : decode cX8_writeAccounts 0 = .ok (.aload_n 0, 1) := by decide +kernel
theorem dX8_writeAccounts_1 : decode cX8_writeAccounts 1 = .ok (.iload_n 1, 1) := by decide +kernel
theorem dX8_writeAccounts_2 : decode cX8_writeAccounts 2 = .ok (.invokestatic 320, 3) := by decide +kernel
theorem dX8_writeAccounts_5 : decode cX8_writeAccounts 5 = .ok (.ifCond .eq 7, 3) := by decide +kernel
theorem dX8_writeAccounts_8 : decode cX8_writeAccounts 8 = .ok (.iconst 0, 1) := by decide +kernel
theorem dX8_writeAccounts_9 : decode cX8_writeAccounts 9 = .ok (.goto 4, 3) := by decide +kernel
theorem dX8_writeAccounts_12 : decode cX8_writeAccounts 12 = .ok (.iconst 1, 1) := by decide +kernel
theorem dX8_writeAccounts_13 : decode cX8_writeAccounts 13 = .ok (.putfield 43, 3) := by decide +kernel
theorem dX8_writeAccounts_16 : decode cX8_writeAccounts 16 = .ok (.aload_n 0, 1) := by decide +kernel
theorem dX8_writeAccounts_17 : decode cX8_writeAccounts 17 = .ok (.getfield 43, 3) := by decide +kernel
theorem dX8_writeAccounts_20 : decode cX8_writeAccounts 20 = .ok (.ifCond .le 5, 3) := by decide +kernel
theorem dX8_writeAccounts_23 : decode cX8_writeAccounts 23 = .ok (.iconst 0, 1) := by decide +kernel
theorem dX8_writeAccounts_24 : decode cX8_writeAccounts 24 = .ok (.ireturn, 1) := by decide +kernel
theorem dX8_writeAccounts_25 : decode cX8_writeAccounts 25 = .ok (.aload_n 0, 1) := by decide +kernel
theorem dX8_writeAccounts_26 : decode cX8_writeAccounts 26 = .ok (.iconst 0, 1) := by decide +kernel
theorem dX8_writeAccounts_27 : decode cX8_writeAccounts 27 = .ok (.putfield 366, 3) := by decide +kernel
theorem dX8_writeAccounts_30 : decode cX8_writeAccounts 30 = .ok (.aload_n 0, 1) := by decide +kernel
theorem dX8_writeAccounts_31 : decode cX8_writeAccounts 31 = .ok (.iload_n 1, 1) := by decide +kernel
theorem dX8_writeAccounts_32 : decode cX8_writeAccounts 32 = .ok (.i2l, 1) := by decide +kernel
theorem dX8_writeAccounts_33 : decode cX8_writeAccounts 33 = .ok (.invokevirtual 369, 3) := by decide +kernel
theorem dX8_writeAccounts_36 : decode cX8_writeAccounts 36 = .ok (.aload_n 0, 1) := by decide +kernel
theorem dX8_writeAccounts_37 : decode cX8_writeAccounts 37 = .ok (.bipush 58, 2) := by decide +kernel
theorem dX8_writeAccounts_39 : decode cX8_writeAccounts 39 = .ok (.invokevirtual 373, 3) := by decide +kernel
theorem dX8_writeAccounts_42 : decode cX8_writeAccounts 42 = .ok (.iconst 0, 1) := by decide +kernel
theorem dX8_writeAccounts_43 : decode cX8_writeAccounts 43 = .ok (.istore_n 2, 1) := by decide +kernel
theorem dX8_writeAccounts_44 : decode cX8_writeAccounts 44 = .ok (.iload_n 2, 1) := by decide +kernel
theorem dX8_writeAccounts_45 : decode cX8_writeAccounts 45 = .ok (.iconst 2, 1) := by decide +kernel
theorem dX8_writeAccounts_46 : decode cX8_writeAccounts 46 = .ok (.if_icmp .ge 96, 3) := by decide +kernel
theorem dX8_writeAccounts_49 : decode cX8_writeAccounts 49 = .ok (.aload_n 0, 1) := by decide +kernel
theorem dX8_writeAccounts_50 : decode cX8_writeAccounts 50 = .ok (.bipush 32, 2) := by decide +kernel
theorem dX8_writeAccounts_52 : decode cX8_writeAccounts 52 = .ok (.invokevirtual 373, 3) := by decide +kernel
theorem dX8_writeAccounts_55 : decode cX8_writeAccounts 55 = .ok (.aload_n 0, 1) := by decide +kernel
theorem dX8_writeAccounts_56 : decode cX8_writeAccounts 56 = .ok (.aload_n 0, 1) := by decide +kernel
theorem dX8_writeAccounts_57 : decode cX8_writeAccounts 57 = .ok (.iload_n 1, 1) := by decide +kernel
theorem dX8_writeAccounts_58 : decode cX8_writeAccounts 58 = .ok (.iload_n 2, 1) := by decide +kernel
theorem dX8_writeAccounts_59 : decode cX8_writeAccounts 59 = .ok (.invokevirtual 273, 3) := by decide +kernel
theorem dX8_writeAccounts_62 : decode cX8_writeAccounts 62 = .ok (.invokevirtual 369, 3) := by decide +kernel
theorem dX8_writeAccounts_65 : decode cX8_writeAccounts 65 = .ok (.aload_n 0, 1) := by decide +kernel
theorem dX8_writeAccounts_66 : decode cX8_writeAccounts 66 = .ok (.bipush 47, 2) := by decide +kernel
theorem dX8_writeAccounts_68 : decode cX8_writeAccounts 68 = .ok (.invokevirtual 373, 3) := by decide +kernel
theorem dX8_writeAccounts_71 : decode cX8_writeAccounts 71 = .ok (.aload_n 0, 1) := by decide +kernel
theorem dX8_writeAccounts_72 : decode cX8_writeAccounts 72 = .ok (.iload_n 1, 1) := by decide +kernel
theorem dX8_writeAccounts_73 : decode cX8_writeAccounts 73 = .ok (.iload_n 2, 1) := by decide +kernel
theorem dX8_writeAccounts_74 : decode cX8_writeAccounts 74 = .ok (.iconst 1, 1) := by decide +kernel
theorem dX8_writeAccounts_75 : decode cX8_writeAccounts 75 = .ok (.invokevirtual 266, 3) := by decide +kernel
theorem dX8_writeAccounts_78 : decode cX8_writeAccounts 78 = .ok (.ldc2_w 37, 3) := by decide +kernel
theorem dX8_writeAccounts_81 : decode cX8_writeAccounts 81 = .ok (.lcmp, 1) := by decide +kernel
theorem dX8_writeAccounts_82 : decode cX8_writeAccounts 82 = .ok (.ifCond .ne 12, 3) := by decide +kernel
theorem dX8_writeAccounts_85 : decode cX8_writeAccounts 85 = .ok (.aload_n 0, 1) := by decide +kernel
theorem dX8_writeAccounts_86 : decode cX8_writeAccounts 86 = .ok (.bipush 45, 2) := by decide +kernel
theorem dX8_writeAccounts_88 : decode cX8_writeAccounts 88 = .ok (.invokevirtual 373, 3) := by decide +kernel
theorem dX8_writeAccounts_91 : decode cX8_writeAccounts 91 = .ok (.goto 14, 3) := by decide +kernel
theorem dX8_writeAccounts_94 : decode cX8_writeAccounts 94 = .ok (.aload_n 0, 1) := by decide +kernel
theorem dX8_writeAccounts_95 : decode cX8_writeAccounts 95 = .ok (.aload_n 0, 1) := by decide +kernel
theorem dX8_writeAccounts_96 : decode cX8_writeAccounts 96 = .ok (.iload_n 1, 1) := by decide +kernel
theorem dX8_writeAccounts_97 : decode cX8_writeAccounts 97 = .ok (.iload_n 2, 1) := by decide +kernel
theorem dX8_writeAccounts_98 : decode cX8_writeAccounts 98 = .ok (.iconst 1, 1) := by decide +kernel
theorem dX8_writeAccounts_99 : decode cX8_writeAccounts 99 = .ok (.invokevirtual 266, 3) := by decide +kernel
theorem dX8_writeAccounts_102 : decode cX8_writeAccounts 102 = .ok (.invokevirtual 369, 3) := by decide +kernel
theorem dX8_writeAccounts_105 : decode cX8_writeAccounts 105 = .ok (.aload_n 0, 1) := by decide +kernel
theorem dX8_writeAccounts_106 : decode cX8_writeAccounts 106 = .ok (.iload_n 1, 1) := by decide +kernel
theorem dX8_writeAccounts_107 : decode cX8_writeAccounts 107 = .ok (.iload_n 2, 1) := by decide +kernel
theorem dX8_writeAccounts_108 : decode cX8_writeAccounts 108 = .ok (.invokevirtual 334, 3) := by decide +kernel
theorem dX8_writeAccounts_111 : decode cX8_writeAccounts 111 = .ok (.iconst 2, 1) := by decide +kernel
theorem dX8_writeAccounts_112 : decode cX8_writeAccounts 112 = .ok (.if_icmp .lt 24, 3) := by decide +kernel
theorem dX8_writeAccounts_115 : decode cX8_writeAccounts 115 = .ok (.aload_n 0, 1) := by decide +kernel
theorem dX8_writeAccounts_116 : decode cX8_writeAccounts 116 = .ok (.aload_n 0, 1) := by decide +kernel
theorem dX8_writeAccounts_117 : decode cX8_writeAccounts 117 = .ok (.iload_n 1, 1) := by decide +kernel
theorem dX8_writeAccounts_118 : decode cX8_writeAccounts 118 = .ok (.iload_n 2, 1) := by decide +kernel
theorem dX8_writeAccounts_119 : decode cX8_writeAccounts 119 = .ok (.invokevirtual 334, 3) := by decide +kernel
theorem dX8_writeAccounts_122 : decode cX8_writeAccounts 122 = .ok (.iconst 2, 1) := by decide +kernel
theorem dX8_writeAccounts_123 : decode cX8_writeAccounts 123 = .ok (.if_icmp .ne 8, 3) := by decide +kernel
theorem dX8_writeAccounts_126 : decode cX8_writeAccounts 126 = .ok (.bipush 43, 2) := by decide +kernel
theorem dX8_writeAccounts_128 : decode cX8_writeAccounts 128 = .ok (.goto 5, 3) := by decide +kernel
theorem dX8_writeAccounts_131 : decode cX8_writeAccounts 131 = .ok (.bipush 33, 2) := by decide +kernel
theorem dX8_writeAccounts_133 : decode cX8_writeAccounts 133 = .ok (.invokevirtual 373, 3) := by decide +kernel
theorem dX8_writeAccounts_136 : decode cX8_writeAccounts 136 = .ok (.iinc 2 1, 3) := by decide +kernel
theorem dX8_writeAccounts_139 : decode cX8_writeAccounts 139 = .ok (.goto (-95), 3) := by decide +kernel
theorem dX8_writeAccounts_142 : decode cX8_writeAccounts 142 = .ok (.aload_n 0, 1) := by decide +kernel
theorem dX8_writeAccounts_143 : decode cX8_writeAccounts 143 = .ok (.getfield 366, 3) := by decide +kernel
theorem dX8_writeAccounts_146 : decode cX8_writeAccounts 146 = .ok (.ireturn, 1) := by decide +kernel
