theorem dX7_errorPosition_0 : decode cX7_errorPosition 0 = .ok (.aload_n 0, 1) := by decide +kernel
theorem dX7_errorPosition_1 : decode cX7_errorPosition 1 = .ok (.getfield 35, 3) := by decide +kernel
theorem dX7_errorPosition_4 : decode cX7_errorPosition 4 = .ok (.getfield 90, 3) := by decide +kernel
theorem dX7_errorPosition_7 : decode cX7_errorPosition 7 = .ok (.ireturn, 1) := by decide +kernel
set_option maxRecDepth 20000 in
theorem ggX7_count_X6_subtreeSum : GoodIn wsX7_count wsX6_subtreeSum := goodIn_r _ [16, 17, 18, 19, 20, 21, 22, 23, 24, 25, 26, 27, 28, 29, 30, 31, 32, 33, 34, 35, 36, 37, 38, 39, 40, 41, 42, 43, 44, 45, 46, 47, 48, 49, 50, 51, 52, 53, 54, 83, 84, 85, 86, 87, 88, 93, 94, 95, 89, 90, 91, 92] (by decide +kernel) (by decide +kernel)
set_option maxRecDepth 20000 in
theorem gX7_count_X6_subtreeSum : GoodIn wsX7_count (wsV RX7 100 RX6 yX6_subtreeSum wsX6_subtreeSum) := goodIn_app (goodIn_of _ (by decide +kernel)) ggX7_count_X6_subtreeSum
set_option maxRecDepth 20000 in
theorem ggX7_count_X3_taggedTotal : GoodIn wsX7_count wsX3_taggedTotal := goodIn_r _ [58, 45, 59, 89, 90, 91, 92] (by decide +kernel) (by decide +kernel)
set_option maxRecDepth 20000 in
theorem gX7_count_X3_taggedTotal : GoodIn wsX7_count (wsV RX7 117 RX3 yX3_taggedTotal wsX3_taggedTotal) := goodIn_app (goodIn_of _ (by decide +kernel)) ggX7_count_X3_taggedTotal
set_option maxRecDepth 20000 in
theorem ggX7_count_X6_countAnew : GoodIn wsX7_count wsX6_countAnew := goodIn_r _ [63, 17, 18, 64, 65, 66, 15, 67, 19, 20, 21, 22, 23, 24, 25, 26, 27, 28, 29, 30, 68, 69, 70, 34, 71, 72, 73, 74, 75, 59, 41, 42, 43, 44, 45, 36, 37, 38, 39, 40, 46, 47, 48, 49, 50, 51, 52, 53, 54, 83, 84, 85, 86, 87, 88, 93, 94, 95, 89, 90, 91, 92] (by decide +kernel) (by decide +kernel)
set_option maxRecDepth 20000 in
theorem gX7_count_X6_countAnew : GoodIn wsX7_count (wsV RX7 120 RX6 yX6_countAnew wsX6_countAnew) := goodIn_app (goodIn_of _ (by decide +kernel)) ggX7_count_X6_countAnew
theorem dX7_count_0 : decode cX7_count 0 = .ok (.iload_n 1, 1) := by decide +kernel
theorem dX7_count_1 : decode cX7_count 1 = .ok (.tableswitch 127 0 7 #[47, 58, 69, 79, 87, 95, 106, 117], 47) := by decide +kernel
theorem dX7_count_48 : decode cX7_count 48 = .ok (.aload_n 0, 1) := by decide +kernel
theorem dX7_count_49 : decode cX7_count 49 = .ok (.getfield 12, 3) := by decide +kernel
theorem dX7_count_52 : decode cX7_count 52 = .ok (.getfield 93, 3) := by decide +kernel
theorem dX7_count_55 : decode cX7_count 55 = .ok (.getfield 97, 3) := by decide +kernel
theorem dX7_count_58 : decode cX7_count 58 = .ok (.ireturn, 1) := by decide +kernel
theorem dX7_count_59 : decode cX7_count 59 = .ok (.aload_n 0, 1) := by decide +kernel
theorem dX7_count_60 : decode cX7_count 60 = .ok (.getfield 12, 3) := by decide +kernel
theorem dX7_count_63 : decode cX7_count 63 = .ok (.getfield 81, 3) := by decide +kernel
theorem dX7_count_66 : decode cX7_count 66 = .ok (.getfield 85, 3) := by decide +kernel
theorem dX7_count_69 : decode cX7_count 69 = .ok (.ireturn, 1) := by decide +kernel
theorem dX7_count_70 : decode cX7_count 70 = .ok (.aload_n 0, 1) := by decide +kernel
theorem dX7_count_71 : decode cX7_count 71 = .ok (.getfield 12, 3) := by decide +kernel
theorem dX7_count_74 : decode cX7_count 74 = .ok (.iconst 0, 1) := by decide +kernel
theorem dX7_count_75 : decode cX7_count 75 = .ok (.iconst 0, 1) := by decide +kernel
theorem dX7_count_76 : decode cX7_count 76 = .ok (.invokevirtual 100, 3) := by decide +kernel
theorem dX7_count_79 : decode cX7_count 79 = .ok (.ireturn, 1) := by decide +kernel
theorem dX7_count_80 : decode cX7_count 80 = .ok (.aload_n 0, 1) := by decide +kernel
theorem dX7_count_81 : decode cX7_count 81 = .ok (.getfield 12, 3) := by decide +kernel
theorem dX7_count_84 : decode cX7_count 84 = .ok (.getfield 104, 3) := by decide +kernel
theorem dX7_count_87 : decode cX7_count 87 = .ok (.ireturn, 1) := by decide +kernel
theorem dX7_count_88 : decode cX7_count 88 = .ok (.aload_n 0, 1) := by decide +kernel
theorem dX7_count_89 : decode cX7_count 89 = .ok (.getfield 12, 3) := by decide +kernel
theorem dX7_count_92 : decode cX7_count 92 = .ok (.getfield 107, 3) := by decide +kernel
theorem dX7_count_95 : decode cX7_count 95 = .ok (.ireturn, 1) := by decide +kernel
theorem dX7_count_96 : decode cX7_count 96 = .ok (.aload_n 0, 1) := by decide +kernel
theorem dX7_count_97 : decode cX7_count 97 = .ok (.getfield 12, 3) := by decide +kernel
theorem dX7_count_100 : decode cX7_count 100 = .ok (.getfield 110, 3) := by decide +kernel
theorem dX7_count_103 : decode cX7_count 103 = .ok (.getfield 114, 3) := by decide +kernel
theorem dX7_count_106 : decode cX7_count 106 = .ok (.ireturn, 1) := by decide +kernel
theorem dX7_count_107 : decode cX7_count 107 = .ok (.aload_n 0, 1) := by decide +kernel
theorem dX7_count_108 : decode cX7_count 108 = .ok (.getfield 12, 3) := by decide +kernel
theorem dX7_count_111 : decode cX7_count 111 = .ok (.getfield 93, 3) := by decide +kernel
theorem dX7_count_114 : decode cX7_count 114 = .ok (.invokevirtual 117, 3) := by decide +kernel
theorem dX7_count_117 : decode cX7_count 117 = .ok (.ireturn, 1) := by decide +kernel
theorem dX7_count_118 : decode cX7_count 118 = .ok (.aload_n 0, 1) := by decide +kernel
theorem dX7_count_119 : decode cX7_count 119 = .ok (.getfield 12, 3) := by decide +kernel
theorem dX7_count_122 : decode cX7_count 122 = .ok (.iconst (-1), 1) := by decide +kernel
theorem dX7_count_123 : decode cX7_count 123 = .ok (.iconst 1, 1) := by decide +kernel
theorem dX7_count_124 : decode cX7_count 124 = .ok (.invokevirtual 120, 3) := by decide +kernel
theorem dX7_count_127 : decode cX7_count 127 = .ok (.ireturn, 1) := by decide +kernel
theorem dX7_count_128 : decode cX7_count 128 = .ok (.new 123, 3) := by decide +kernel
theorem dX7_count_131 : decode cX7_count 131 = .ok (.dup, 1) := by decide +kernel
theorem dX7_count_132 : decode cX7_count 132 = .ok (.ldc 125, 2) := by decide +kernel
theorem dX7_count_134 : decode cX7_count 134 = .ok (.invokespecial 127, 3) := by decide +kernel
theorem dX7_count_137 : decode cX7_count 137 = .ok (.athrow, 1) := by decide +kernel
set_option maxRecDepth 20000 in
theorem ggX7_find_X3_numberOf : GoodIn wsX7_find wsX3_numberOf := goodIn_r _ [7, 8, 9, 23, 24, 25, 26] (by decide +kernel) (by decide +kernel)
set_option maxRecDepth 20000 in
theorem gX7_find_X3_numberOf : GoodIn wsX7_find (wsV RX7 128 RX3 yX3_numberOf wsX3_numberOf) := goodIn_app (goodIn_of _ (by decide +kernel)) ggX7_find_X3_numberOf
theorem dX7_find_0 : decode cX7_find 0 = .ok (.aload_n 0, 1) := by decide +kernel
theorem dX7_find_1 : decode cX7_find 1 = .ok (.getfield 12, 3) := by decide +kernel
theorem dX7_find_4 : decode cX7_find 4 = .ok (.getfield 93, 3) := by decide +kernel
theorem dX7_find_7 : decode cX7_find 7 = .ok (.lload_n 1, 1) := by decide +kernel
theorem dX7_find_8 : decode cX7_find 8 = .ok (.invokevirtual 128, 3) := by decide +kernel
theorem dX7_find_11 : decode cX7_find 11 = .ok (.ireturn, 1) := by decide +kernel
set_option maxRecDepth 20000 in
theorem ggX7_folder_X7_needFolder : GoodIn wsX7_folder wsX7_needFolder := goodIn_ca (goodIn_r _ [10, 11, 12, 3, 4, 13, 14, 15, 16, 17, 18, 93, 94, 95, 96, 97, 98, 99, 100, 101, 102, 103, 104, 105, 106, 107, 108, 109] (by decide +kernel) (by decide +kernel)) (goodIn_sub (fun _ h => List.mem_cons_of_mem _ (List.mem_append_right _ h)) (by decide +kernel))
set_option maxRecDepth 20000 in
theorem gX7_folder_X7_needFolder : GoodIn wsX7_folder (wsV RX7 132 RX7 yX7_needFolder wsX7_needFolder) := goodIn_app (goodIn_of _ (by decide +kernel)) ggX7_folder_X7_needFolder
set_option maxRecDepth 20000 in
theorem ggX7_folder_X3_parentOf : GoodIn wsX7_folder wsX3_parentOf := goodIn_r _ [22, 23, 24, 14, 15, 16, 17, 18, 106, 107, 108, 109] (by decide +kernel) (by decide +kernel)
set_option maxRecDepth 20000 in
theorem gX7_folder_X3_parentOf : GoodIn wsX7_folder (wsV RX7 135 RX3 yX3_parentOf wsX3_parentOf) := goodIn_app (goodIn_of _ (by decide +kernel)) ggX7_folder_X3_parentOf
set_option maxRecDepth 20000 in
theorem ggX7_folder_X3_tagOf : GoodIn wsX7_folder wsX3_tagOf := goodIn_r _ [28, 29, 24, 14, 15, 16, 17, 18, 106, 107, 108, 109] (by decide +kernel) (by decide +kernel)
set_option maxRecDepth 20000 in
theorem gX7_folder_X3_tagOf : GoodIn wsX7_folder (wsV RX7 139 RX3 yX3_tagOf wsX3_tagOf) := goodIn_app (goodIn_of _ (by decide +kernel)) ggX7_folder_X3_tagOf
set_option maxRecDepth 20000 in
theorem ggX7_folder_X3_projectOf : GoodIn wsX7_folder wsX3_projectOf := goodIn_r _ [33, 34, 26, 27, 16, 28, 29, 24, 14, 15, 17, 18, 35, 20, 21, 22, 23, 106, 107, 108, 109] (by decide +kernel) (by decide +kernel)
set_option maxRecDepth 20000 in
theorem gX7_folder_X3_projectOf : GoodIn wsX7_folder (wsV RX7 142 RX3 yX3_projectOf wsX3_projectOf) := goodIn_app (goodIn_of _ (by decide +kernel)) ggX7_folder_X3_projectOf
set_option maxRecDepth 20000 in
theorem ggX7_folder_X3_childrenOf : GoodIn wsX7_folder wsX3_childrenOf := goodIn_r _ [39, 18, 23, 106, 107, 108, 109] (by decide +kernel) (by decide +kernel)
set_option maxRecDepth 20000 in
theorem gX7_folder_X3_childrenOf : GoodIn wsX7_folder (wsV RX7 145 RX3 yX3_childrenOf wsX3_childrenOf) := goodIn_app (goodIn_of _ (by decide +kernel)) ggX7_folder_X3_childrenOf
set_option maxRecDepth 20000 in
theorem ggX7_folder_X2_totalIn : GoodIn wsX7_folder wsX2_totalIn := goodIn_r _ [44, 45, 46, 110, 111, 112] (by decide +kernel) (by decide +kernel)
set_option maxRecDepth 20000 in
theorem gX7_folder_X2_totalIn : GoodIn wsX7_folder (wsV RX7 148 RX2 yX2_totalIn wsX2_totalIn) := goodIn_app (goodIn_of _ (by decide +kernel)) ggX7_folder_X2_totalIn
set_option maxRecDepth 20000 in
theorem ggX7_folder_X3_depthOf : GoodIn wsX7_folder wsX3_depthOf := goodIn_r _ [50, 35, 20, 21, 16, 22, 23, 24, 14, 15, 17, 18, 106, 107, 108, 109] (by decide +kernel) (by decide +kernel)
set_option maxRecDepth 20000 in
theorem gX7_folder_X3_depthOf : GoodIn wsX7_folder (wsV RX7 151 RX3 yX3_depthOf wsX3_depthOf) := goodIn_app (goodIn_of _ (by decide +kernel)) ggX7_folder_X3_depthOf
set_option maxRecDepth 20000 in
theorem ggX7_folder_X3_subtreeTotal : GoodIn wsX7_folder wsX3_subtreeTotal := goodIn_r _ [54, 18, 55, 56, 57, 16, 58, 35, 20, 21, 22, 23, 24, 14, 15, 17, 106, 107, 108, 109] (by decide +kernel) (by decide +kernel)
set_option maxRecDepth 20000 in
theorem gX7_folder_X3_subtreeTotal : GoodIn wsX7_folder (wsV RX7 154 RX3 yX3_subtreeTotal wsX3_subtreeTotal) := goodIn_app (goodIn_of _ (by decide +kernel)) ggX7_folder_X3_subtreeTotal
set_option maxRecDepth 20000 in
theorem ggX7_folder_X6_subtreeSum : GoodIn wsX7_folder wsX6_subtreeSum := goodIn_r _ [63, 64, 65, 66, 67, 68, 69, 43, 70, 46, 71, 72, 73, 74, 45, 75, 56, 57, 16, 58, 35, 20, 21, 22, 23, 24, 14, 15, 17, 18, 76, 77, 78, 79, 80, 81, 82, 83, 84, 100, 101, 102, 103, 104, 105, 110, 111, 112, 106, 107, 108, 109] (by decide +kernel) (by decide +kernel)
set_option maxRecDepth 20000 in
theorem gX7_folder_X6_subtreeSum : GoodIn wsX7_folder (wsV RX7 100 RX6 yX6_subtreeSum wsX6_subtreeSum) := goodIn_app (goodIn_of _ (by decide +kernel)) ggX7_folder_X6_subtreeSum
set_option maxRecDepth 20000 in
theorem ggX7_folder_X6_openSum : GoodIn wsX7_folder wsX6_openSum := goodIn_r _ [88, 64, 65, 66, 67, 68, 69, 43, 70, 46, 71, 72, 73, 74, 45, 89, 90, 91, 16, 92, 34, 26, 27, 28, 29, 24, 14, 15, 17, 18, 35, 20, 21, 22, 23, 76, 77, 78, 79, 80, 81, 82, 83, 84, 100, 101, 102, 103, 104, 105, 110, 111, 112, 106, 107, 108, 109] (by decide +kernel) (by decide +kernel)
set_option maxRecDepth 20000 in
theorem gX7_folder_X6_openSum : GoodIn wsX7_folder (wsV RX7 157 RX6 yX6_openSum wsX6_openSum) := goodIn_app (goodIn_of _ (by decide +kernel)) ggX7_folder_X6_openSum
theorem dX7_folder_0 : decode cX7_folder 0 = .ok (.aload_n 0, 1) := by decide +kernel
theorem dX7_folder_1 : decode cX7_folder 1 = .ok (.iload_n 1, 1) := by decide +kernel
theorem dX7_folder_2 : decode cX7_folder 2 = .ok (.invokevirtual 132, 3) := by decide +kernel
theorem dX7_folder_5 : decode cX7_folder 5 = .ok (.iload_n 2, 1) := by decide +kernel
theorem dX7_folder_6 : decode cX7_folder 6 = .ok (.tableswitch 168 0 9 #[54, 66, 78, 90, 102, 114, 126, 138, 148, 158], 54) := by decide +kernel
theorem dX7_folder_60 : decode cX7_folder 60 = .ok (.aload_n 0, 1) := by decide +kernel
theorem dX7_folder_61 : decode cX7_folder 61 = .ok (.getfield 12, 3) := by decide +kernel
theorem dX7_folder_64 : decode cX7_folder 64 = .ok (.getfield 93, 3) := by decide +kernel
theorem dX7_folder_67 : decode cX7_folder 67 = .ok (.iload_n 1, 1) := by decide +kernel
theorem dX7_folder_68 : decode cX7_folder 68 = .ok (.invokevirtual 135, 3) := by decide +kernel
theorem dX7_folder_71 : decode cX7_folder 71 = .ok (.ireturn, 1) := by decide +kernel
theorem dX7_folder_72 : decode cX7_folder 72 = .ok (.aload_n 0, 1) := by decide +kernel
theorem dX7_folder_73 : decode cX7_folder 73 = .ok (.getfield 12, 3) := by decide +kernel
theorem dX7_folder_76 : decode cX7_folder 76 = .ok (.getfield 93, 3) := by decide +kernel
theorem dX7_folder_79 : decode cX7_folder 79 = .ok (.iload_n 1, 1) := by decide +kernel
theorem dX7_folder_80 : decode cX7_folder 80 = .ok (.invokevirtual 139, 3) := by decide +kernel
theorem dX7_folder_83 : decode cX7_folder 83 = .ok (.ireturn, 1) := by decide +kernel
theorem dX7_folder_84 : decode cX7_folder 84 = .ok (.aload_n 0, 1) := by decide +kernel
theorem dX7_folder_85 : decode cX7_folder 85 = .ok (.getfield 12, 3) := by decide +kernel
theorem dX7_folder_88 : decode cX7_folder 88 = .ok (.getfield 93, 3) := by decide +kernel
theorem dX7_folder_91 : decode cX7_folder 91 = .ok (.iload_n 1, 1) := by decide +kernel
theorem dX7_folder_92 : decode cX7_folder 92 = .ok (.invokevirtual 142, 3) := by decide +kernel
theorem dX7_folder_95 : decode cX7_folder 95 = .ok (.ireturn, 1) := by decide +kernel
theorem dX7_folder_96 : decode cX7_folder 96 = .ok (.aload_n 0, 1) := by decide +kernel
theorem dX7_folder_97 : decode cX7_folder 97 = .ok (.getfield 12, 3) := by decide +kernel
theorem dX7_folder_100 : decode cX7_folder 100 = .ok (.getfield 93, 3) := by decide +kernel
theorem dX7_folder_103 : decode cX7_folder 103 = .ok (.iload_n 1, 1) := by decide +kernel
theorem dX7_folder_104 : decode cX7_folder 104 = .ok (.invokevirtual 145, 3) := by decide +kernel
theorem dX7_folder_107 : decode cX7_folder 107 = .ok (.ireturn, 1) := by decide +kernel
theorem dX7_folder_108 : decode cX7_folder 108 = .ok (.aload_n 0, 1) := by decide +kernel
theorem dX7_folder_109 : decode cX7_folder 109 = .ok (.getfield 12, 3) := by decide +kernel
theorem dX7_folder_112 : decode cX7_folder 112 = .ok (.getfield 81, 3) := by decide +kernel
theorem dX7_folder_115 : decode cX7_folder 115 = .ok (.iload_n 1, 1) := by decide +kernel
theorem dX7_folder_116 : decode cX7_folder 116 = .ok (.invokevirtual 148, 3) := by decide +kernel
theorem dX7_folder_119 : decode cX7_folder 119 = .ok (.ireturn, 1) := by decide +kernel
theorem dX7_folder_120 : decode cX7_folder 120 = .ok (.aload_n 0, 1) := by decide +kernel
theorem dX7_folder_121 : decode cX7_folder 121 = .ok (.getfield 12, 3) := by decide +kernel
theorem dX7_folder_124 : decode cX7_folder 124 = .ok (.getfield 93, 3) := by decide +kernel
theorem dX7_folder_127 : decode cX7_folder 127 = .ok (.iload_n 1, 1) := by decide +kernel
theorem dX7_folder_128 : decode cX7_folder 128 = .ok (.invokevirtual 151, 3) := by decide +kernel
theorem dX7_folder_131 : decode cX7_folder 131 = .ok (.ireturn, 1) := by decide +kernel
theorem dX7_folder_132 : decode cX7_folder 132 = .ok (.aload_n 0, 1) := by decide +kernel
theorem dX7_folder_133 : decode cX7_folder 133 = .ok (.getfield 12, 3) := by decide +kernel
theorem dX7_folder_136 : decode cX7_folder 136 = .ok (.getfield 93, 3) := by decide +kernel
theorem dX7_folder_139 : decode cX7_folder 139 = .ok (.iload_n 1, 1) := by decide +kernel
theorem dX7_folder_140 : decode cX7_folder 140 = .ok (.invokevirtual 154, 3) := by decide +kernel
theorem dX7_folder_143 : decode cX7_folder 143 = .ok (.ireturn, 1) := by decide +kernel
theorem dX7_folder_144 : decode cX7_folder 144 = .ok (.aload_n 0, 1) := by decide +kernel
theorem dX7_folder_145 : decode cX7_folder 145 = .ok (.getfield 12, 3) := by decide +kernel
theorem dX7_folder_148 : decode cX7_folder 148 = .ok (.iload_n 1, 1) := by decide +kernel
theorem dX7_folder_149 : decode cX7_folder 149 = .ok (.iconst 1, 1) := by decide +kernel
theorem dX7_folder_150 : decode cX7_folder 150 = .ok (.invokevirtual 100, 3) := by decide +kernel
theorem dX7_folder_153 : decode cX7_folder 153 = .ok (.ireturn, 1) := by decide +kernel
theorem dX7_folder_154 : decode cX7_folder 154 = .ok (.aload_n 0, 1) := by decide +kernel
theorem dX7_folder_155 : decode cX7_folder 155 = .ok (.getfield 12, 3) := by decide +kernel
theorem dX7_folder_158 : decode cX7_folder 158 = .ok (.iload_n 1, 1) := by decide +kernel
theorem dX7_folder_159 : decode cX7_folder 159 = .ok (.iconst 0, 1) := by decide +kernel
theorem dX7_folder_160 : decode cX7_folder 160 = .ok (.invokevirtual 100, 3) := by decide +kernel
theorem dX7_folder_163 : decode cX7_folder 163 = .ok (.ireturn, 1) := by decide +kernel
theorem dX7_folder_164 : decode cX7_folder 164 = .ok (.aload_n 0, 1) := by decide +kernel
theorem dX7_folder_165 : decode cX7_folder 165 = .ok (.getfield 12, 3) := by decide +kernel
theorem dX7_folder_168 : decode cX7_folder 168 = .ok (.iload_n 1, 1) := by decide +kernel
theorem dX7_folder_169 : decode cX7_folder 169 = .ok (.iconst 1, 1) := by decide +kernel
theorem dX7_folder_170 : decode cX7_folder 170 = .ok (.invokevirtual 157, 3) := by decide +kernel
theorem dX7_folder_173 : decode cX7_folder 173 = .ok (.ireturn, 1) := by decide +kernel
theorem dX7_folder_174 : decode cX7_folder 174 = .ok (.new 123, 3) := by decide +kernel
theorem dX7_folder_177 : decode cX7_folder 177 = .ok (.dup, 1) := by decide +kernel
theorem dX7_folder_178 : decode cX7_folder 178 = .ok (.ldc 160, 2) := by decide +kernel
theorem dX7_folder_180 : decode cX7_folder 180 = .ok (.invokespecial 127, 3) := by decide +kernel
theorem dX7_folder_183 : decode cX7_folder 183 = .ok (.athrow, 1) := by decide +kernel
set_option maxRecDepth 20000 in
theorem ggX7_heaviest_X7_needFolder : GoodIn wsX7_heaviest wsX7_needFolder := goodIn_ca (goodIn_r _ [8, 9, 10, 3, 11, 12, 13, 14, 15, 16, 17, 62, 63, 64, 65, 66, 67, 68, 69, 70, 71, 72, 73, 74, 75, 76, 77, 78] (by decide +kernel) (by decide +kernel)) (goodIn_sub (fun _ h => List.mem_cons_of_mem _ (List.mem_append_right _ h)) (by decide +kernel))
set_option maxRecDepth 20000 in
theorem gX7_heaviest_X7_needFolder : GoodIn wsX7_heaviest (wsV RX7 132 RX7 yX7_needFolder wsX7_needFolder) := goodIn_app (goodIn_of _ (by decide +kernel)) ggX7_heaviest_X7_needFolder
set_option maxRecDepth 20000 in
theorem ggX7_heaviest_X6_heaviestChild : GoodIn wsX7_heaviest wsX6_heaviestChild := goodIn_r _ [22, 23, 24, 25, 26, 27, 15, 28, 29, 30, 13, 14, 16, 17, 31, 32, 33, 21, 34, 35, 36, 37, 38, 39, 40, 41, 42, 43, 44, 45, 46, 47, 48, 49, 50, 51, 52, 53, 54, 55, 56, 57, 58, 59, 60, 61, 69, 70, 71, 72, 73, 74, 75, 76, 77, 78, 79, 80, 81] (by decide +kernel) (by decide +kernel)
set_option maxRecDepth 20000 in
theorem gX7_heaviest_X6_heaviestChild : GoodIn wsX7_heaviest (wsV RX7 165 RX6 yX6_heaviestChild wsX6_heaviestChild) := goodIn_app (goodIn_of _ (by decide +kernel)) ggX7_heaviest_X6_heaviestChild
theorem dX7_heaviest_0 : decode cX7_heaviest 0 = .ok (.aload_n 0, 1) := by decide +kernel
theorem dX7_heaviest_1 : decode cX7_heaviest 1 = .ok (.iload_n 1, 1) := by decide +kernel
theorem dX7_heaviest_2 : decode cX7_heaviest 2 = .ok (.invokevirtual 132, 3) := by decide +kernel
theorem dX7_heaviest_5 : decode cX7_heaviest 5 = .ok (.aload_n 0, 1) := by decide +kernel
theorem dX7_heaviest_6 : decode cX7_heaviest 6 = .ok (.getfield 12, 3) := by decide +kernel
theorem dX7_heaviest_9 : decode cX7_heaviest 9 = .ok (.iload_n 1, 1) := by decide +kernel
theorem dX7_heaviest_10 : decode cX7_heaviest 10 = .ok (.invokevirtual 165, 3) := by decide +kernel
theorem dX7_heaviest_13 : decode cX7_heaviest 13 = .ok (.istore_n 2, 1) := by decide +kernel
theorem dX7_heaviest_14 : decode cX7_heaviest 14 = .ok (.iload_n 2, 1) := by decide +kernel
theorem dX7_heaviest_15 : decode cX7_heaviest 15 = .ok (.iconst (-1), 1) := by decide +kernel
theorem dX7_heaviest_16 : decode cX7_heaviest 16 = .ok (.if_icmp .ne 13, 3) := by decide +kernel
theorem dX7_heaviest_19 : decode cX7_heaviest 19 = .ok (.new 168, 3) := by decide +kernel
theorem dX7_heaviest_22 : decode cX7_heaviest 22 = .ok (.dup, 1) := by decide +kernel
theorem dX7_heaviest_23 : decode cX7_heaviest 23 = .ok (.ldc 170, 2) := by decide +kernel
theorem dX7_heaviest_25 : decode cX7_heaviest 25 = .ok (.invokespecial 172, 3) := by decide +kernel
theorem dX7_heaviest_28 : decode cX7_heaviest 28 = .ok (.athrow, 1) := by decide +kernel
theorem dX7_heaviest_29 : decode cX7_heaviest 29 = .ok (.iload_n 2, 1) := by decide +kernel
theorem dX7_heaviest_30 : decode cX7_heaviest 30 = .ok (.ireturn, 1) := by decide +kernel
set_option maxRecDepth 20000 in
theorem ggX7_remember_J9_floorMod_7cf53 : GoodIn wsX7_remember wsJ9_floorMod_7cf53 := goodIn_r _ [12] (by decide +kernel) (by decide +kernel)
set_option maxRecDepth 20000 in
theorem gX7_remember_J9_floorMod_7cf53 : GoodIn wsX7_remember (va_wsS RX7 409 yJ9_floorMod_7cf53 wsJ9_floorMod_7cf53) := goodIn_app (goodIn_of _ (by decide +kernel)) ggX7_remember_J9_floorMod_7cf53
set_option maxRecDepth 20000 in
theorem ggX7_remember_X6_copyFrom : GoodIn wsX7_remember wsX6_copyFrom := goodIn_r _ [17, 18, 19, 20, 21, 22, 23, 24, 25, 26, 27, 28, 29, 30, 31, 32, 33, 34, 35, 36, 37, 38, 39, 40, 41, 42, 43, 44, 45, 46, 47, 48, 49, 50, 51, 52, 53, 54, 55, 56, 57, 58, 59, 60, 61, 62, 63, 64, 65, 66, 74, 75, 76, 77, 78, 79, 80, 81, 82, 83, 84, 85, 86, 87, 88, 89, 90, 91, 92, 93, 94, 95] (by decide +kernel) (by decide +kernel)
set_option maxRecDepth 20000 in
theorem gX7_remember_X6_copyFrom : GoodIn wsX7_remember (wsV RX7 70 RX6 yX6_copyFrom wsX6_copyFrom) := goodIn_app (goodIn_of _ (by decide +kernel)) ggX7_remember_X6_copyFrom
theorem dX7_remember_0 : decode cX7_remember 0 = .ok (.aload_n 0, 1) := by decide +kernel
theorem dX7_remember_1 : decode cX7_remember 1 = .ok (.getfield 16, 3) := by decide +kernel
theorem dX7_remember_4 : decode cX7_remember 4 = .ok (.aload_n 0, 1) := by decide +kernel
theorem dX7_remember_5 : decode cX7_remember 5 = .ok (.getfield 406, 3) := by decide +kernel
theorem dX7_remember_8 : decode cX7_remember 8 = .ok (.bipush 8, 2) := by decide +kernel
theorem dX7_remember_10 : decode cX7_remember 10 = .ok (.invokestatic 409, 3) := by decide +kernel
theorem dX7_remember_13 : decode cX7_remember 13 = .ok (.aaload, 1) := by decide +kernel
theorem dX7_remember_14 : decode cX7_remember 14 = .ok (.astore_n 1, 1) := by decide +kernel
theorem dX7_remember_15 : decode cX7_remember 15 = .ok (.aload_n 1, 1) := by decide +kernel
theorem dX7_remember_16 : decode cX7_remember 16 = .ok (.ifnull 11, 3) := by decide +kernel
theorem dX7_remember_19 : decode cX7_remember 19 = .ok (.aload_n 1, 1) := by decide +kernel
theorem dX7_remember_20 : decode cX7_remember 20 = .ok (.aload_n 0, 1) := by decide +kernel
theorem dX7_remember_21 : decode cX7_remember 21 = .ok (.getfield 12, 3) := by decide +kernel
theorem dX7_remember_24 : decode cX7_remember 24 = .ok (.invokevirtual 70, 3) := by decide +kernel
theorem dX7_remember_27 : decode cX7_remember 27 = .ok (.aload_n 0, 1) := by decide +kernel
theorem dX7_remember_28 : decode cX7_remember 28 = .ok (.dup, 1) := by decide +kernel
theorem dX7_remember_29 : decode cX7_remember 29 = .ok (.getfield 406, 3) := by decide +kernel
theorem dX7_remember_32 : decode cX7_remember 32 = .ok (.iconst 1, 1) := by decide +kernel
theorem dX7_remember_33 : decode cX7_remember 33 = .ok (.iadd, 1) := by decide +kernel
theorem dX7_remember_34 : decode cX7_remember 34 = .ok (.putfield 406, 3) := by decide +kernel
theorem dX7_remember_37 : decode cX7_remember 37 = .ok (.aload_n 0, 1) := by decide +kernel
theorem dX7_remember_38 : decode cX7_remember 38 = .ok (.aload_n 0, 1) := by decide +kernel
theorem dX7_remember_39 : decode cX7_remember 39 = .ok (.getfield 401, 3) := by decide +kernel
theorem dX7_remember_42 : decode cX7_remember 42 = .ok (.iconst 1, 1) := by decide +kernel
theorem dX7_remember_43 : decode cX7_remember 43 = .ok (.iadd, 1) := by decide +kernel
theorem dX7_remember_44 : decode cX7_remember 44 = .ok (.bipush 8, 2) := by decide +kernel
theorem dX7_remember_46 : decode cX7_remember 46 = .ok (.invokestatic 412, 3) := by decide +kernel
theorem dX7_remember_49 : decode cX7_remember 49 = .ok (.putfield 401, 3) := by decide +kernel
theorem dX7_remember_52 : decode cX7_remember 52 = .ok (.return_, 1) := by decide +kernel
set_option maxRecDepth 20000 in
theorem ggX7_needFolder_X3_has : GoodIn wsX7_needFolder wsX3_has := goodIn_r _ [9, 10, 24, 25, 26, 27] (by decide +kernel) (by decide +kernel)
set_option maxRecDepth 20000 in
theorem gX7_needFolder_X3_has : GoodIn wsX7_needFolder (wsV RX7 415 RX3 yX3_has wsX3_has) := goodIn_app (goodIn_of _ (by decide +kernel)) ggX7_needFolder_X3_has
theorem dX7_needFolder_0 : decode cX7_needFolder 0 = .ok (.aload_n 0, 1) := by decide +kernel
theorem dX7_needFolder_1 : decode cX7_needFolder 1 = .ok (.getfield 12, 3) := by decide +kernel
theorem dX7_needFolder_4 : decode cX7_needFolder 4 = .ok (.getfield 93, 3) := by decide +kernel
theorem dX7_needFolder_7 : decode cX7_needFolder 7 = .ok (.iload_n 1, 1) := by decide +kernel
theorem dX7_needFolder_8 : decode cX7_needFolder 8 = .ok (.invokevirtual 415, 3) := by decide +kernel
theorem dX7_needFolder_11 : decode cX7_needFolder 11 = .ok (.ifCond .ne 14, 3) := by decide +kernel
theorem dX7_needFolder_14 : decode cX7_needFolder 14 = .ok (.new 393, 3) := by decide +kernel
theorem dX7_needFolder_17 : decode cX7_needFolder 17 = .ok (.dup, 1) := by decide +kernel
theorem dX7_needFolder_18 : decode cX7_needFolder 18 = .ok (.ldc_w 418, 3) := by decide +kernel
theorem dX7_needFolder_21 : decode cX7_needFolder 21 = .ok (.invokespecial 397, 3) := by decide +kernel
theorem dX7_needFolder_24 : decode cX7_needFolder 24 = .ok (.athrow, 1) := by decide +kernel
theorem dX7_needFolder_25 : decode cX7_needFolder 25 = .ok (.return_, 1) := by decide +kernel
set_option maxRecDepth 20000 in
theorem ggX7_needFile_X2_has : GoodIn wsX7_needFile wsX2_has := goodIn_r _ [9, 10, 24, 25, 26] (by decide +kernel) (by decide +kernel)
set_option maxRecDepth 20000 in
theorem gX7_needFile_X2_has : GoodIn wsX7_needFile (wsV RX7 420 RX2 yX2_has wsX2_has) := goodIn_app (goodIn_of _ (by decide +kernel)) ggX7_needFile_X2_has
theorem dX7_needFile_0 : decode cX7_needFile 0 = .ok (.aload_n 0, 1) := by decide +kernel
theorem dX7_needFile_1 : decode cX7_needFile 1 = .ok (.getfield 12, 3) := by decide +kernel
theorem dX7_needFile_4 : decode cX7_needFile 4 = .ok (.getfield 81, 3) := by decide +kernel
theorem dX7_needFile_7 : decode cX7_needFile 7 = .ok (.iload_n 1, 1) := by decide +kernel
theorem dX7_needFile_8 : decode cX7_needFile 8 = .ok (.invokevirtual 420, 3) := by decide +kernel
theorem dX7_needFile_11 : decode cX7_needFile 11 = .ok (.ifCond .ne 14, 3) := by decide +kernel
theorem dX7_needFile_14 : decode cX7_needFile 14 = .ok (.new 393, 3) := by decide +kernel
theorem dX7_needFile_17 : decode cX7_needFile 17 = .ok (.dup, 1) := by decide +kernel
theorem dX7_needFile_18 : decode cX7_needFile 18 = .ok (.ldc_w 421, 3) := by decide +kernel
theorem dX7_needFile_21 : decode cX7_needFile 21 = .ok (.invokespecial 397, 3) := by decide +kernel
theorem dX7_needFile_24 : decode cX7_needFile 24 = .ok (.athrow, 1) := by decide +kernel
theorem dX7_needFile_25 : decode cX7_needFile 25 = .ok (.return_, 1) := by decide +kernel
set_option maxRecDepth 20000 in
theorem ggX7_needGift_X4_has : GoodIn wsX7_needGift wsX4_has := goodIn_r _ [9, 10, 24, 25, 26, 27, 28] (by decide +kernel) (by decide +kernel)
set_option maxRecDepth 20000 in
theorem gX7_needGift_X4_has : GoodIn wsX7_needGift (wsV RX7 423 RX4 yX4_has wsX4_has) := goodIn_app (goodIn_of _ (by decide +kernel)) ggX7_needGift_X4_has
theorem dX7_needGift_0 : decode cX7_needGift 0 = .ok (.aload_n 0, 1) := by decide +kernel
theorem dX7_needGift_1 : decode cX7_needGift 1 = .ok (.getfield 12, 3) := by decide +kernel
theorem dX7_needGift_4 : decode cX7_needGift 4 = .ok (.getfield 110, 3) := by decide +kernel
theorem dX7_needGift_7 : decode cX7_needGift 7 = .ok (.iload_n 1, 1) := by decide +kernel
theorem dX7_needGift_8 : decode cX7_needGift 8 = .ok (.invokevirtual 423, 3) := by decide +kernel
theorem dX7_needGift_11 : decode cX7_needGift 11 = .ok (.ifCond .ne 14, 3) := by decide +kernel
theorem dX7_needGift_14 : decode cX7_needGift 14 = .ok (.new 393, 3) := by decide +kernel
theorem dX7_needGift_17 : decode cX7_needGift 17 = .ok (.dup, 1) := by decide +kernel
theorem dX7_needGift_18 : decode cX7_needGift 18 = .ok (.ldc_w 424, 3) := by decide +kernel
theorem dX7_needGift_21 : decode cX7_needGift 21 = .ok (.invokespecial 397, 3) := by decide +kernel
theorem dX7_needGift_24 : decode cX7_needGift 24 = .ok (.athrow, 1) := by decide +kernel
theorem dX7_needGift_25 : decode cX7_needGift 25 = .ok (.return_, 1) := by decide +kernel
theorem dX7_needNoReason_0 : decode cX7_needNoReason 0 = .ok (.iload_n 0, 1) := by decide +kernel
theorem dX7_needNoReason_1 : decode cX7_needNoReason 1 = .ok (.ifCond .eq 14, 3) := by decide +kernel
theorem dX7_needNoReason_4 : decode cX7_needNoReason 4 = .ok (.new 43, 3) := by decide +kernel
theorem dX7_needNoReason_7 : decode cX7_needNoReason 7 = .ok (.dup, 1) := by decide +kernel
theorem dX7_needNoReason_8 : decode cX7_needNoReason 8 = .ok (.ldc_w 426, 3) := by decide +kernel
theorem dX7_needNoReason_11 : decode cX7_needNoReason 11 = .ok (.invokespecial 47, 3) := by decide +kernel
theorem dX7_needNoReason_14 : decode cX7_needNoReason 14 = .ok (.athrow, 1) := by decide +kernel
theorem dX7_needNoReason_15 : decode cX7_needNoReason 15 = .ok (.return_, 1) := by decide +kernel
theorem dX7_needRange_0 : decode cX7_needRange 0 = .ok (.iload_n 0, 1) := by decide +kernel
theorem dX7_needRange_1 : decode cX7_needRange 1 = .ok (.iload_n 1, 1) := by decide +kernel
theorem dX7_needRange_2 : decode cX7_needRange 2 = .ok (.if_icmp .lt 8, 3) := by decide +kernel
theorem dX7_needRange_5 : decode cX7_needRange 5 = .ok (.iload_n 0, 1) := by decide +kernel
theorem dX7_needRange_6 : decode cX7_needRange 6 = .ok (.iload_n 2, 1) := by decide +kernel
theorem dX7_needRange_7 : decode cX7_needRange 7 = .ok (.if_icmp .le 14, 3) := by decide +kernel
theorem dX7_needRange_10 : decode cX7_needRange 10 = .ok (.new 123, 3) := by decide +kernel
theorem dX7_needRange_13 : decode cX7_needRange 13 = .ok (.dup, 1) := by decide +kernel
theorem dX7_needRange_14 : decode cX7_needRange 14 = .ok (.ldc_w 428, 3) := by decide +kernel
theorem dX7_needRange_17 : decode cX7_needRange 17 = .ok (.invokespecial 127, 3) := by decide +kernel
theorem dX7_needRange_20 : decode cX7_needRange 20 = .ok (.athrow, 1) := by decide +kernel
theorem dX7_needRange_21 : decode cX7_needRange 21 = .ok (.return_, 1) := by decide +kernel
set_option maxRecDepth 20000 in
theorem ggX7_needProject_X7_needRange : GoodIn wsX7_needProject wsX7_needRange := goodIn_ca (goodIn_r _ [4, 5, 6] (by decide +kernel) (by decide +kernel)) (goodIn_sub (fun _ h => List.mem_cons_of_mem _ (List.mem_append_right _ h)) (by decide +kernel))
set_option maxRecDepth 20000 in
theorem gX7_needProject_X7_needRange : GoodIn wsX7_needProject (va_wsS RX7 54 yX7_needRange wsX7_needRange) := goodIn_app (goodIn_of _ (by decide +kernel)) ggX7_needProject_X7_needRange
theorem dX7_needProject_0 : decode cX7_needProject 0 = .ok (.iload_n 0, 1) := by decide +kernel
theorem dX7_needProject_1 : decode cX7_needProject 1 = .ok (.iconst 0, 1) := by decide +kernel
theorem dX7_needProject_2 : decode cX7_needProject 2 = .ok (.bipush 7, 2) := by decide +kernel
theorem dX7_needProject_4 : decode cX7_needProject 4 = .ok (.invokestatic 54, 3) := by decide +kernel
theorem dX7_needProject_7 : decode cX7_needProject 7 = .ok (.return_, 1) := by decide +kernel
set_option maxRecDepth 20000 in
theorem ggX7_needAccount_X7_needProject : GoodIn wsX7_needAccount wsX7_needProject := goodIn_ca (goodIn_r _ [4, 5, 6, 3, 7, 8, 9] (by decide +kernel) (by decide +kernel)) (goodIn_sub (fun _ h => List.mem_cons_of_mem _ (List.mem_append_right _ h)) (by decide +kernel))
set_option maxRecDepth 20000 in
theorem gX7_needAccount_X7_needProject : GoodIn wsX7_needAccount (va_wsS RX7 278 yX7_needProject wsX7_needProject) := goodIn_app (goodIn_of _ (by decide +kernel)) ggX7_needAccount_X7_needProject
set_option maxRecDepth 20000 in
theorem ggX7_needAccount_X7_needRange : GoodIn wsX7_needAccount wsX7_needRange := goodIn_ca (goodIn_r _ [7, 8, 9] (by decide +kernel) (by decide +kernel)) (goodIn_sub (fun _ h => List.mem_cons_of_mem _ (List.mem_append_right _ h)) (by decide +kernel))
set_option maxRecDepth 20000 in
theorem gX7_needAccount_X7_needRange : GoodIn wsX7_needAccount (va_wsS RX7 54 yX7_needRange wsX7_needRange) := goodIn_app (goodIn_of _ (by decide +kernel)) ggX7_needAccount_X7_needRange
theorem dX7_needAccount_0 : decode cX7_needAccount 0 = .ok (.iload_n 0, 1) := by decide +kernel
theorem dX7_needAccount_1 : decode cX7_needAccount 1 = .ok (.invokestatic 278, 3) := by decide +kernel
theorem dX7_needAccount_4 : decode cX7_needAccount 4 = .ok (.iload_n 1, 1) := by decide +kernel
theorem dX7_needAccount_5 : decode cX7_needAccount 5 = .ok (.iconst 0, 1) := by decide +kernel
theorem dX7_needAccount_6 : decode cX7_needAccount 6 = .ok (.iconst 1, 1) := by decide +kernel
theorem dX7_needAccount_7 : decode cX7_needAccount 7 = .ok (.invokestatic 54, 3) := by decide +kernel
theorem dX7_needAccount_10 : decode cX7_needAccount 10 = .ok (.return_, 1) := by decide +kernel
theorem dX7_isName_0 : decode cX7_isName 0 = .ok (.iconst 0, 1) := by decide +kernel
theorem dX7_isName_1 : decode cX7_isName 1 = .ok (.istore_n 2, 1) := by decide +kernel
theorem dX7_isName_2 : decode cX7_isName 2 = .ok (.lload_n 0, 1) := by decide +kernel
theorem dX7_isName_3 : decode cX7_isName 3 = .ok (.lstore_n 3, 1) := by decide +kernel
theorem dX7_isName_4 : decode cX7_isName 4 = .ok (.iload_n 2, 1) := by decide +kernel
theorem dX7_isName_5 : decode cX7_isName 5 = .ok (.bipush 8, 2) := by decide +kernel
theorem dX7_isName_7 : decode cX7_isName 7 = .ok (.if_icmp .ge 44, 3) := by decide +kernel
theorem dX7_isName_10 : decode cX7_isName 10 = .ok (.lload_n 3, 1) := by decide +kernel
theorem dX7_isName_11 : decode cX7_isName 11 = .ok (.lconst 0, 1) := by decide +kernel
theorem dX7_isName_12 : decode cX7_isName 12 = .ok (.lcmp, 1) := by decide +kernel
theorem dX7_isName_13 : decode cX7_isName 13 = .ok (.ifCond .le 38, 3) := by decide +kernel
theorem dX7_isName_16 : decode cX7_isName 16 = .ok (.lload_n 3, 1) := by decide +kernel
theorem dX7_isName_17 : decode cX7_isName 17 = .ok (.ldc2_w 430, 3) := by decide +kernel
theorem dX7_isName_20 : decode cX7_isName 20 = .ok (.land, 1) := by decide +kernel
theorem dX7_isName_21 : decode cX7_isName 21 = .ok (.lstore 5, 2) := by decide +kernel
theorem dX7_isName_23 : decode cX7_isName 23 = .ok (.lload 5, 2) := by decide +kernel
theorem dX7_isName_25 : decode cX7_isName 25 = .ok (.lconst 1, 1) := by decide +kernel
theorem dX7_isName_26 : decode cX7_isName 26 = .ok (.lcmp, 1) := by decide +kernel
theorem dX7_isName_27 : decode cX7_isName 27 = .ok (.ifCond .lt 12, 3) := by decide +kernel
theorem dX7_isName_30 : decode cX7_isName 30 = .ok (.lload 5, 2) := by decide +kernel
theorem dX7_isName_32 : decode cX7_isName 32 = .ok (.ldc2_w 432, 3) := by decide +kernel
theorem dX7_isName_35 : decode cX7_isName 35 = .ok (.lcmp, 1) := by decide +kernel
theorem dX7_isName_36 : decode cX7_isName 36 = .ok (.ifCond .le 5, 3) := by decide +kernel
theorem dX7_isName_39 : decode cX7_isName 39 = .ok (.iconst 0, 1) := by decide +kernel
theorem dX7_isName_40 : decode cX7_isName 40 = .ok (.ireturn, 1) := by decide +kernel
theorem dX7_isName_41 : decode cX7_isName 41 = .ok (.lload_n 3, 1) := by decide +kernel
theorem dX7_isName_42 : decode cX7_isName 42 = .ok (.iconst 5, 1) := by decide +kernel
theorem dX7_isName_43 : decode cX7_isName 43 = .ok (.lshr, 1) := by decide +kernel
theorem dX7_isName_44 : decode cX7_isName 44 = .ok (.lstore_n 3, 1) := by decide +kernel
theorem dX7_isName_45 : decode cX7_isName 45 = .ok (.iinc 2 1, 3) := by decide +kernel
theorem dX7_isName_48 : decode cX7_isName 48 = .ok (.goto (-44), 3) := by decide +kernel
theorem dX7_isName_51 : decode cX7_isName 51 = .ok (.iload_n 2, 1) := by decide +kernel
theorem dX7_isName_52 : decode cX7_isName 52 = .ok (.ifCond .le 13, 3) := by decide +kernel
theorem dX7_isName_55 : decode cX7_isName 55 = .ok (.lload_n 3, 1) := by decide +kernel
theorem dX7_isName_56 : decode cX7_isName 56 = .ok (.lconst 0, 1) := by decide +kernel
theorem dX7_isName_57 : decode cX7_isName 57 = .ok (.lcmp, 1) := by decide +kernel
theorem dX7_isName_58 : decode cX7_isName 58 = .ok (.ifCond .ne 7, 3) := by decide +kernel
theorem dX7_isName_61 : decode cX7_isName 61 = .ok (.iconst 1, 1) := by decide +kernel
theorem dX7_isName_62 : decode cX7_isName 62 = .ok (.goto 4, 3) := by decide +kernel
theorem dX7_isName_65 : decode cX7_isName 65 = .ok (.iconst 0, 1) := by decide +kernel
theorem dX7_isName_66 : decode cX7_isName 66 = .ok (.ireturn, 1) := by decide +kernel
theorem dJ9_floorMod_7cf53_0 : decode cJ9_floorMod_7cf53 0 = .ok (.iload_n 0, 1) := by decide +kernel
theorem dJ9_floorMod_7cf53_1 : decode cJ9_floorMod_7cf53 1 = .ok (.iload_n 1, 1) := by decide +kernel
theorem dJ9_floorMod_7cf53_2 : decode cJ9_floorMod_7cf53 2 = .ok (.irem, 1) := by decide +kernel
theorem dJ9_floorMod_7cf53_3 : decode cJ9_floorMod_7cf53 3 = .ok (.istore_n 2, 1) := by decide +kernel
theorem dJ9_floorMod_7cf53_4 : decode cJ9_floorMod_7cf53 4 = .ok (.iload_n 0, 1) := by decide +kernel
theorem dJ9_floorMod_7cf53_5 : decode cJ9_floorMod_7cf53 5 = .ok (.iload_n 1, 1) := by decide +kernel
theorem dJ9_floorMod_7cf53_6 : decode cJ9_floorMod_7cf53 6 = .ok (.ixor, 1) := by decide +kernel
theorem dJ9_floorMod_7cf53_7 : decode cJ9_floorMod_7cf53 7 = .ok (.ifCond .ge 11, 3) := by decide +kernel
theorem dJ9_floorMod_7cf53_10 : decode cJ9_floorMod_7cf53 10 = .ok (.iload_n 2, 1) := by decide +kernel
theorem dJ9_floorMod_7cf53_11 : decode cJ9_floorMod_7cf53 11 = .ok (.ifCond .eq 7, 3) := by decide +kernel
theorem dJ9_floorMod_7cf53_14 : decode cJ9_floorMod_7cf53 14 = .ok (.iload_n 2, 1) := by decide +kernel
theorem dJ9_floorMod_7cf53_15 : decode cJ9_floorMod_7cf53 15 = .ok (.iload_n 1, 1) := by decide +kernel
theorem dJ9_floorMod_7cf53_16 : decode cJ9_floorMod_7cf53 16 = .ok (.iadd, 1) := by decide +kernel
theorem dJ9_floorMod_7cf53_17 : decode cJ9_floorMod_7cf53 17 = .ok (.ireturn, 1) := by decide +kernel
theorem dJ9_floorMod_7cf53_18 : decode cJ9_floorMod_7cf53 18 = .ok (.iload_n 2, 1) := by decide +kernel
theorem dJ9_floorMod_7cf53_19 : decode cJ9_floorMod_7cf53 19 = .ok (.ireturn, 1) := by decide +kernel
