set_option maxRecDepth 20000 in
theorem ggX6_projectOfFile_X2_placeOf : GoodIn wsX6_projectOfFile wsX2_placeOf := goodIn_r _ [7, 8, 9, 10, 11, 6, 12, 13, 40, 41, 42] (by decide +kernel) (by decide +kernel)
set_option maxRecDepth 20000 in
theorem gX6_projectOfFile_X2_placeOf : GoodIn wsX6_projectOfFile (wsV RX6 67 RX2 yX2_placeOf wsX2_placeOf) := goodIn_app (goodIn_of _ (by decide +kernel)) ggX6_projectOfFile_X2_placeOf
set_option maxRecDepth 20000 in
theorem ggX6_projectOfFile_X3_projectOf : GoodIn wsX6_projectOfFile wsX3_projectOf := goodIn_r _ [18, 19, 20, 21, 17, 22, 23, 24, 25, 26, 27, 28, 29, 30, 31, 32, 33, 43, 44, 45, 46] (by decide +kernel) (by decide +kernel)
set_option maxRecDepth 20000 in
theorem gX6_projectOfFile_X3_projectOf : GoodIn wsX6_projectOfFile (wsV RX6 71 RX3 yX3_projectOf wsX3_projectOf) := goodIn_app (goodIn_of _ (by decide +kernel)) ggX6_projectOfFile_X3_projectOf
theorem dX6_projectOfFile_0 : decode cX6_projectOfFile 0 = .ok (.aload_n 0, 1) := by decide +kernel
theorem dX6_projectOfFile_1 : decode cX6_projectOfFile 1 = .ok (.getfield 12, 3) := by decide +kernel
theorem dX6_projectOfFile_4 : decode cX6_projectOfFile 4 = .ok (.aload_n 0, 1) := by decide +kernel
theorem dX6_projectOfFile_5 : decode cX6_projectOfFile 5 = .ok (.getfield 21, 3) := by decide +kernel
theorem dX6_projectOfFile_8 : decode cX6_projectOfFile 8 = .ok (.iload_n 1, 1) := by decide +kernel
theorem dX6_projectOfFile_9 : decode cX6_projectOfFile 9 = .ok (.invokevirtual 67, 3) := by decide +kernel
theorem dX6_projectOfFile_12 : decode cX6_projectOfFile 12 = .ok (.invokevirtual 71, 3) := by decide +kernel
theorem dX6_projectOfFile_15 : decode cX6_projectOfFile 15 = .ok (.ireturn, 1) := by decide +kernel
set_option maxRecDepth 20000 in
theorem ggX6_countAnew_X6_projectOfFile : GoodIn wsX6_countAnew wsX6_projectOfFile := goodIn_r _ [7, 8, 1, 9, 10, 11, 12, 13, 14, 15, 16, 17, 18, 19, 20, 21, 22, 23, 24, 25, 26, 27, 28, 29, 30, 31, 32, 33, 34, 35, 36, 37, 38, 39, 49, 50, 51, 52, 53, 54, 55, 56, 57, 58, 59, 60, 61] (by decide +kernel) (by decide +kernel)
set_option maxRecDepth 20000 in
theorem gX6_countAnew_X6_projectOfFile : GoodIn wsX6_countAnew (wsV RX6 74 RX6 yX6_projectOfFile wsX6_projectOfFile) := goodIn_app (goodIn_of _ (by decide +kernel)) ggX6_countAnew_X6_projectOfFile
set_option maxRecDepth 20000 in
theorem ggX6_countAnew_X2_weightOf : GoodIn wsX6_countAnew wsX2_weightOf := goodIn_r _ [43, 44, 45, 46, 12, 47, 48, 15, 16, 17, 18, 19, 55, 56, 57] (by decide +kernel) (by decide +kernel)
set_option maxRecDepth 20000 in
theorem gX6_countAnew_X2_weightOf : GoodIn wsX6_countAnew (wsV RX6 77 RX2 yX2_weightOf wsX2_weightOf) := goodIn_app (goodIn_of _ (by decide +kernel)) ggX6_countAnew_X2_weightOf
theorem dX6_countAnew_0 : decode cX6_countAnew 0 = .ok (.iconst 0, 1) := by decide +kernel
theorem dX6_countAnew_1 : decode cX6_countAnew 1 = .ok (.istore_n 3, 1) := by decide +kernel
theorem dX6_countAnew_2 : decode cX6_countAnew 2 = .ok (.iconst 0, 1) := by decide +kernel
theorem dX6_countAnew_3 : decode cX6_countAnew 3 = .ok (.istore 4, 2) := by decide +kernel
theorem dX6_countAnew_5 : decode cX6_countAnew 5 = .ok (.iload 4, 2) := by decide +kernel
theorem dX6_countAnew_7 : decode cX6_countAnew 7 = .ok (.aload_n 0, 1) := by decide +kernel
theorem dX6_countAnew_8 : decode cX6_countAnew 8 = .ok (.getfield 21, 3) := by decide +kernel
theorem dX6_countAnew_11 : decode cX6_countAnew 11 = .ok (.getfield 46, 3) := by decide +kernel
theorem dX6_countAnew_14 : decode cX6_countAnew 14 = .ok (.if_icmp .ge 32, 3) := by decide +kernel
theorem dX6_countAnew_17 : decode cX6_countAnew 17 = .ok (.aload_n 0, 1) := by decide +kernel
theorem dX6_countAnew_18 : decode cX6_countAnew 18 = .ok (.iload 4, 2) := by decide +kernel
theorem dX6_countAnew_20 : decode cX6_countAnew 20 = .ok (.invokevirtual 74, 3) := by decide +kernel
theorem dX6_countAnew_23 : decode cX6_countAnew 23 = .ok (.iload_n 1, 1) := by decide +kernel
theorem dX6_countAnew_24 : decode cX6_countAnew 24 = .ok (.if_icmp .ne 16, 3) := by decide +kernel
theorem dX6_countAnew_27 : decode cX6_countAnew 27 = .ok (.iload_n 3, 1) := by decide +kernel
theorem dX6_countAnew_28 : decode cX6_countAnew 28 = .ok (.aload_n 0, 1) := by decide +kernel
theorem dX6_countAnew_29 : decode cX6_countAnew 29 = .ok (.getfield 21, 3) := by decide +kernel
theorem dX6_countAnew_32 : decode cX6_countAnew 32 = .ok (.iload 4, 2) := by decide +kernel
theorem dX6_countAnew_34 : decode cX6_countAnew 34 = .ok (.iload_n 2, 1) := by decide +kernel
theorem dX6_countAnew_35 : decode cX6_countAnew 35 = .ok (.invokevirtual 77, 3) := by decide +kernel
theorem dX6_countAnew_38 : decode cX6_countAnew 38 = .ok (.iadd, 1) := by decide +kernel
theorem dX6_countAnew_39 : decode cX6_countAnew 39 = .ok (.istore_n 3, 1) := by decide +kernel
theorem dX6_countAnew_40 : decode cX6_countAnew 40 = .ok (.iinc 4 1, 3) := by decide +kernel
theorem dX6_countAnew_43 : decode cX6_countAnew 43 = .ok (.goto (-38), 3) := by decide +kernel
theorem dX6_countAnew_46 : decode cX6_countAnew 46 = .ok (.iload_n 3, 1) := by decide +kernel
theorem dX6_countAnew_47 : decode cX6_countAnew 47 = .ok (.ireturn, 1) := by decide +kernel
set_option maxRecDepth 20000 in
theorem ggX6_subtreeSum_X2_placeOf : GoodIn wsX6_subtreeSum wsX2_placeOf := goodIn_r _ [8, 9, 10, 11, 12, 7, 13, 14, 45, 46, 47] (by decide +kernel) (by decide +kernel)
set_option maxRecDepth 20000 in
theorem gX6_subtreeSum_X2_placeOf : GoodIn wsX6_subtreeSum (wsV RX6 67 RX2 yX2_placeOf wsX2_placeOf) := goodIn_app (goodIn_of _ (by decide +kernel)) ggX6_subtreeSum_X2_placeOf
set_option maxRecDepth 20000 in
theorem ggX6_subtreeSum_X3_isInSubtree : GoodIn wsX6_subtreeSum wsX3_isInSubtree := goodIn_r _ [19, 20, 21, 22, 18, 23, 24, 25, 26, 27, 28, 29, 48, 49, 50, 51] (by decide +kernel) (by decide +kernel)
set_option maxRecDepth 20000 in
theorem gX6_subtreeSum_X3_isInSubtree : GoodIn wsX6_subtreeSum (wsV RX6 81 RX3 yX3_isInSubtree wsX3_isInSubtree) := goodIn_app (goodIn_of _ (by decide +kernel)) ggX6_subtreeSum_X3_isInSubtree
set_option maxRecDepth 20000 in
theorem ggX6_subtreeSum_X2_weightOf : GoodIn wsX6_subtreeSum wsX2_weightOf := goodIn_r _ [33, 34, 35, 36, 7, 37, 38, 10, 11, 12, 13, 14, 45, 46, 47] (by decide +kernel) (by decide +kernel)
set_option maxRecDepth 20000 in
theorem gX6_subtreeSum_X2_weightOf : GoodIn wsX6_subtreeSum (wsV RX6 77 RX2 yX2_weightOf wsX2_weightOf) := goodIn_app (goodIn_of _ (by decide +kernel)) ggX6_subtreeSum_X2_weightOf
theorem dX6_subtreeSum_0 : decode cX6_subtreeSum 0 = .ok (.iconst 0, 1) := by decide +kernel
theorem dX6_subtreeSum_1 : decode cX6_subtreeSum 1 = .ok (.istore_n 3, 1) := by decide +kernel
theorem dX6_subtreeSum_2 : decode cX6_subtreeSum 2 = .ok (.iconst 0, 1) := by decide +kernel
theorem dX6_subtreeSum_3 : decode cX6_subtreeSum 3 = .ok (.istore 4, 2) := by decide +kernel
theorem dX6_subtreeSum_5 : decode cX6_subtreeSum 5 = .ok (.iload 4, 2) := by decide +kernel
theorem dX6_subtreeSum_7 : decode cX6_subtreeSum 7 = .ok (.aload_n 0, 1) := by decide +kernel
theorem dX6_subtreeSum_8 : decode cX6_subtreeSum 8 = .ok (.getfield 21, 3) := by decide +kernel
theorem dX6_subtreeSum_11 : decode cX6_subtreeSum 11 = .ok (.getfield 46, 3) := by decide +kernel
theorem dX6_subtreeSum_14 : decode cX6_subtreeSum 14 = .ok (.if_icmp .ge 42, 3) := by decide +kernel
theorem dX6_subtreeSum_17 : decode cX6_subtreeSum 17 = .ok (.aload_n 0, 1) := by decide +kernel
theorem dX6_subtreeSum_18 : decode cX6_subtreeSum 18 = .ok (.getfield 12, 3) := by decide +kernel
theorem dX6_subtreeSum_21 : decode cX6_subtreeSum 21 = .ok (.aload_n 0, 1) := by decide +kernel
theorem dX6_subtreeSum_22 : decode cX6_subtreeSum 22 = .ok (.getfield 21, 3) := by decide +kernel
theorem dX6_subtreeSum_25 : decode cX6_subtreeSum 25 = .ok (.iload 4, 2) := by decide +kernel
theorem dX6_subtreeSum_27 : decode cX6_subtreeSum 27 = .ok (.invokevirtual 67, 3) := by decide +kernel
theorem dX6_subtreeSum_30 : decode cX6_subtreeSum 30 = .ok (.iload_n 1, 1) := by decide +kernel
theorem dX6_subtreeSum_31 : decode cX6_subtreeSum 31 = .ok (.invokevirtual 81, 3) := by decide +kernel
theorem dX6_subtreeSum_34 : decode cX6_subtreeSum 34 = .ok (.ifCond .eq 16, 3) := by decide +kernel
theorem dX6_subtreeSum_37 : decode cX6_subtreeSum 37 = .ok (.iload_n 3, 1) := by decide +kernel
theorem dX6_subtreeSum_38 : decode cX6_subtreeSum 38 = .ok (.aload_n 0, 1) := by decide +kernel
theorem dX6_subtreeSum_39 : decode cX6_subtreeSum 39 = .ok (.getfield 21, 3) := by decide +kernel
theorem dX6_subtreeSum_42 : decode cX6_subtreeSum 42 = .ok (.iload 4, 2) := by decide +kernel
theorem dX6_subtreeSum_44 : decode cX6_subtreeSum 44 = .ok (.iload_n 2, 1) := by decide +kernel
theorem dX6_subtreeSum_45 : decode cX6_subtreeSum 45 = .ok (.invokevirtual 77, 3) := by decide +kernel
theorem dX6_subtreeSum_48 : decode cX6_subtreeSum 48 = .ok (.iadd, 1) := by decide +kernel
theorem dX6_subtreeSum_49 : decode cX6_subtreeSum 49 = .ok (.istore_n 3, 1) := by decide +kernel
theorem dX6_subtreeSum_50 : decode cX6_subtreeSum 50 = .ok (.iinc 4 1, 3) := by decide +kernel
theorem dX6_subtreeSum_53 : decode cX6_subtreeSum 53 = .ok (.goto (-48), 3) := by decide +kernel
theorem dX6_subtreeSum_56 : decode cX6_subtreeSum 56 = .ok (.iload_n 3, 1) := by decide +kernel
theorem dX6_subtreeSum_57 : decode cX6_subtreeSum 57 = .ok (.ireturn, 1) := by decide +kernel
set_option maxRecDepth 20000 in
theorem ggX6_openSum_X2_placeOf : GoodIn wsX6_openSum wsX2_placeOf := goodIn_r _ [8, 9, 10, 11, 12, 7, 13, 14, 50, 51, 52] (by decide +kernel) (by decide +kernel)
set_option maxRecDepth 20000 in
theorem gX6_openSum_X2_placeOf : GoodIn wsX6_openSum (wsV RX6 67 RX2 yX2_placeOf wsX2_placeOf) := goodIn_app (goodIn_of _ (by decide +kernel)) ggX6_openSum_X2_placeOf
set_option maxRecDepth 20000 in
theorem ggX6_openSum_X3_isOpenTo : GoodIn wsX6_openSum wsX3_isOpenTo := goodIn_r _ [19, 20, 21, 22, 18, 23, 24, 25, 26, 27, 28, 29, 30, 31, 32, 33, 34, 53, 54, 55, 56] (by decide +kernel) (by decide +kernel)
set_option maxRecDepth 20000 in
theorem gX6_openSum_X3_isOpenTo : GoodIn wsX6_openSum (wsV RX6 85 RX3 yX3_isOpenTo wsX3_isOpenTo) := goodIn_app (goodIn_of _ (by decide +kernel)) ggX6_openSum_X3_isOpenTo
set_option maxRecDepth 20000 in
theorem ggX6_openSum_X2_weightOf : GoodIn wsX6_openSum wsX2_weightOf := goodIn_r _ [38, 39, 40, 41, 7, 42, 43, 10, 11, 12, 13, 14, 50, 51, 52] (by decide +kernel) (by decide +kernel)
set_option maxRecDepth 20000 in
theorem gX6_openSum_X2_weightOf : GoodIn wsX6_openSum (wsV RX6 77 RX2 yX2_weightOf wsX2_weightOf) := goodIn_app (goodIn_of _ (by decide +kernel)) ggX6_openSum_X2_weightOf
theorem dX6_openSum_0 : decode cX6_openSum 0 = .ok (.iconst 0, 1) := by decide +kernel
theorem dX6_openSum_1 : decode cX6_openSum 1 = .ok (.istore_n 3, 1) := by decide +kernel
theorem dX6_openSum_2 : decode cX6_openSum 2 = .ok (.iconst 0, 1) := by decide +kernel
theorem dX6_openSum_3 : decode cX6_openSum 3 = .ok (.istore 4, 2) := by decide +kernel
theorem dX6_openSum_5 : decode cX6_openSum 5 = .ok (.iload 4, 2) := by decide +kernel
theorem dX6_openSum_7 : decode cX6_openSum 7 = .ok (.aload_n 0, 1) := by decide +kernel
theorem dX6_openSum_8 : decode cX6_openSum 8 = .ok (.getfield 21, 3) := by decide +kernel
theorem dX6_openSum_11 : decode cX6_openSum 11 = .ok (.getfield 46, 3) := by decide +kernel
theorem dX6_openSum_14 : decode cX6_openSum 14 = .ok (.if_icmp .ge 42, 3) := by decide +kernel
theorem dX6_openSum_17 : decode cX6_openSum 17 = .ok (.aload_n 0, 1) := by decide +kernel
theorem dX6_openSum_18 : decode cX6_openSum 18 = .ok (.getfield 12, 3) := by decide +kernel
theorem dX6_openSum_21 : decode cX6_openSum 21 = .ok (.aload_n 0, 1) := by decide +kernel
theorem dX6_openSum_22 : decode cX6_openSum 22 = .ok (.getfield 21, 3) := by decide +kernel
theorem dX6_openSum_25 : decode cX6_openSum 25 = .ok (.iload 4, 2) := by decide +kernel
theorem dX6_openSum_27 : decode cX6_openSum 27 = .ok (.invokevirtual 67, 3) := by decide +kernel
theorem dX6_openSum_30 : decode cX6_openSum 30 = .ok (.iload_n 1, 1) := by decide +kernel
theorem dX6_openSum_31 : decode cX6_openSum 31 = .ok (.invokevirtual 85, 3) := by decide +kernel
theorem dX6_openSum_34 : decode cX6_openSum 34 = .ok (.ifCond .eq 16, 3) := by decide +kernel
theorem dX6_openSum_37 : decode cX6_openSum 37 = .ok (.iload_n 3, 1) := by decide +kernel
theorem dX6_openSum_38 : decode cX6_openSum 38 = .ok (.aload_n 0, 1) := by decide +kernel
theorem dX6_openSum_39 : decode cX6_openSum 39 = .ok (.getfield 21, 3) := by decide +kernel
theorem dX6_openSum_42 : decode cX6_openSum 42 = .ok (.iload 4, 2) := by decide +kernel
theorem dX6_openSum_44 : decode cX6_openSum 44 = .ok (.iload_n 2, 1) := by decide +kernel
theorem dX6_openSum_45 : decode cX6_openSum 45 = .ok (.invokevirtual 77, 3) := by decide +kernel
theorem dX6_openSum_48 : decode cX6_openSum 48 = .ok (.iadd, 1) := by decide +kernel
theorem dX6_openSum_49 : decode cX6_openSum 49 = .ok (.istore_n 3, 1) := by decide +kernel
theorem dX6_openSum_50 : decode cX6_openSum 50 = .ok (.iinc 4 1, 3) := by decide +kernel
theorem dX6_openSum_53 : decode cX6_openSum 53 = .ok (.goto (-48), 3) := by decide +kernel
theorem dX6_openSum_56 : decode cX6_openSum 56 = .ok (.iload_n 3, 1) := by decide +kernel
theorem dX6_openSum_57 : decode cX6_openSum 57 = .ok (.ireturn, 1) := by decide +kernel
set_option maxRecDepth 20000 in
theorem ggX6_effectiveLimit_X7_accountOf : GoodIn wsX6_effectiveLimit wsX7_accountOf := goodIn_r _ [9] (by decide +kernel) (by decide +kernel)
set_option maxRecDepth 20000 in
theorem gX6_effectiveLimit_X7_accountOf_n98 : GoodIn wsX6_effectiveLimit (wsX7_accountOf) := ggX6_effectiveLimit_X7_accountOf
set_option maxRecDepth 20000 in
theorem ggX6_effectiveLimit_X0_limitOf : GoodIn wsX6_effectiveLimit wsX0_limitOf := goodIn_r _ [14, 15, 16, 32, 33, 34, 35] (by decide +kernel) (by decide +kernel)
set_option maxRecDepth 20000 in
theorem gX6_effectiveLimit_X0_limitOf : GoodIn wsX6_effectiveLimit (wsV RX6 101 RX0 yX0_limitOf wsX0_limitOf) := goodIn_app (goodIn_of _ (by decide +kernel)) ggX6_effectiveLimit_X0_limitOf
set_option maxRecDepth 20000 in
theorem ggX6_effectiveLimit_X4_balanceOf : GoodIn wsX6_effectiveLimit wsX4_balanceOf := goodIn_r _ [21, 22, 23, 24, 25, 36, 37, 38, 39, 40] (by decide +kernel) (by decide +kernel)
set_option maxRecDepth 20000 in
theorem gX6_effectiveLimit_X4_balanceOf : GoodIn wsX6_effectiveLimit (wsV RX6 105 RX4 yX4_balanceOf wsX4_balanceOf) := goodIn_app (goodIn_of _ (by decide +kernel)) ggX6_effectiveLimit_X4_balanceOf
theorem dX6_effectiveLimit_0 : decode cX6_effectiveLimit 0 = .ok (.aload_n 0, 1) := by decide +kernel
theorem dX6_effectiveLimit_1 : decode cX6_effectiveLimit 1 = .ok (.getfield 28, 3) := by decide +kernel
theorem dX6_effectiveLimit_4 : decode cX6_effectiveLimit 4 = .ok (.iload_n 1, 1) := by decide +kernel
theorem dX6_effectiveLimit_5 : decode cX6_effectiveLimit 5 = .ok (.iload_n 2, 1) := by decide +kernel
theorem dX6_effectiveLimit_6 : decode cX6_effectiveLimit 6 = .ok (.invokestatic 98, 3) := by decide +kernel
theorem dX6_effectiveLimit_9 : decode cX6_effectiveLimit 9 = .ok (.iload_n 3, 1) := by decide +kernel
theorem dX6_effectiveLimit_10 : decode cX6_effectiveLimit 10 = .ok (.invokevirtual 101, 3) := by decide +kernel
theorem dX6_effectiveLimit_13 : decode cX6_effectiveLimit 13 = .ok (.istore 4, 2) := by decide +kernel
theorem dX6_effectiveLimit_15 : decode cX6_effectiveLimit 15 = .ok (.iload 4, 2) := by decide +kernel
theorem dX6_effectiveLimit_17 : decode cX6_effectiveLimit 17 = .ok (.ifCond .ne 5, 3) := by decide +kernel
theorem dX6_effectiveLimit_20 : decode cX6_effectiveLimit 20 = .ok (.iconst (-1), 1) := by decide +kernel
theorem dX6_effectiveLimit_21 : decode cX6_effectiveLimit 21 = .ok (.ireturn, 1) := by decide +kernel
theorem dX6_effectiveLimit_22 : decode cX6_effectiveLimit 22 = .ok (.iload_n 2, 1) := by decide +kernel
theorem dX6_effectiveLimit_23 : decode cX6_effectiveLimit 23 = .ok (.ifCond .ne 14, 3) := by decide +kernel
theorem dX6_effectiveLimit_26 : decode cX6_effectiveLimit 26 = .ok (.aload_n 0, 1) := by decide +kernel
theorem dX6_effectiveLimit_27 : decode cX6_effectiveLimit 27 = .ok (.getfield 35, 3) := by decide +kernel
theorem dX6_effectiveLimit_30 : decode cX6_effectiveLimit 30 = .ok (.iload_n 1, 1) := by decide +kernel
theorem dX6_effectiveLimit_31 : decode cX6_effectiveLimit 31 = .ok (.invokevirtual 105, 3) := by decide +kernel
theorem dX6_effectiveLimit_34 : decode cX6_effectiveLimit 34 = .ok (.goto 4, 3) := by decide +kernel
theorem dX6_effectiveLimit_37 : decode cX6_effectiveLimit 37 = .ok (.iconst 0, 1) := by decide +kernel
theorem dX6_effectiveLimit_38 : decode cX6_effectiveLimit 38 = .ok (.istore 5, 2) := by decide +kernel
theorem dX6_effectiveLimit_40 : decode cX6_effectiveLimit 40 = .ok (.iload 4, 2) := by decide +kernel
theorem dX6_effectiveLimit_42 : decode cX6_effectiveLimit 42 = .ok (.iload 5, 2) := by decide +kernel
theorem dX6_effectiveLimit_44 : decode cX6_effectiveLimit 44 = .ok (.iadd, 1) := by decide +kernel
theorem dX6_effectiveLimit_45 : decode cX6_effectiveLimit 45 = .ok (.iconst 0, 1) := by decide +kernel
theorem dX6_effectiveLimit_46 : decode cX6_effectiveLimit 46 = .ok (.invokestatic 108, 3) := by decide +kernel
theorem dX6_effectiveLimit_49 : decode cX6_effectiveLimit 49 = .ok (.ireturn, 1) := by decide +kernel
set_option maxRecDepth 20000 in
theorem ggX6_graceEnd_X7_accountOf : GoodIn wsX6_graceEnd wsX7_accountOf := goodIn_r _ [5] (by decide +kernel) (by decide +kernel)
set_option maxRecDepth 20000 in
theorem gX6_graceEnd_X7_accountOf_n98 : GoodIn wsX6_graceEnd (wsX7_accountOf) := ggX6_graceEnd_X7_accountOf
set_option maxRecDepth 20000 in
theorem ggX6_graceEnd_X0_clockOf : GoodIn wsX6_graceEnd wsX0_clockOf := goodIn_r _ [10, 11, 18, 19, 20, 21] (by decide +kernel) (by decide +kernel)
set_option maxRecDepth 20000 in
theorem gX6_graceEnd_X0_clockOf : GoodIn wsX6_graceEnd (wsV RX6 120 RX0 yX0_clockOf wsX0_clockOf) := goodIn_app (goodIn_of _ (by decide +kernel)) ggX6_graceEnd_X0_clockOf
theorem dX6_graceEnd_0 : decode cX6_graceEnd 0 = .ok (.aload_n 0, 1) := by decide +kernel
theorem dX6_graceEnd_1 : decode cX6_graceEnd 1 = .ok (.getfield 28, 3) := by decide +kernel
theorem dX6_graceEnd_4 : decode cX6_graceEnd 4 = .ok (.iload_n 1, 1) := by decide +kernel
theorem dX6_graceEnd_5 : decode cX6_graceEnd 5 = .ok (.iload_n 2, 1) := by decide +kernel
theorem dX6_graceEnd_6 : decode cX6_graceEnd 6 = .ok (.invokestatic 98, 3) := by decide +kernel
theorem dX6_graceEnd_9 : decode cX6_graceEnd 9 = .ok (.invokevirtual 120, 3) := by decide +kernel
theorem dX6_graceEnd_12 : decode cX6_graceEnd 12 = .ok (.istore_n 3, 1) := by decide +kernel
theorem dX6_graceEnd_13 : decode cX6_graceEnd 13 = .ok (.iload_n 3, 1) := by decide +kernel
theorem dX6_graceEnd_14 : decode cX6_graceEnd 14 = .ok (.iconst (-1), 1) := by decide +kernel
theorem dX6_graceEnd_15 : decode cX6_graceEnd 15 = .ok (.if_icmp .ne 7, 3) := by decide +kernel
theorem dX6_graceEnd_18 : decode cX6_graceEnd 18 = .ok (.iconst (-1), 1) := by decide +kernel
theorem dX6_graceEnd_19 : decode cX6_graceEnd 19 = .ok (.goto 9, 3) := by decide +kernel
theorem dX6_graceEnd_22 : decode cX6_graceEnd 22 = .ok (.iload_n 3, 1) := by decide +kernel
theorem dX6_graceEnd_23 : decode cX6_graceEnd 23 = .ok (.aload_n 0, 1) := by decide +kernel
theorem dX6_graceEnd_24 : decode cX6_graceEnd 24 = .ok (.getfield 39, 3) := by decide +kernel
theorem dX6_graceEnd_27 : decode cX6_graceEnd 27 = .ok (.iadd, 1) := by decide +kernel
theorem dX6_graceEnd_28 : decode cX6_graceEnd 28 = .ok (.ireturn, 1) := by decide +kernel
