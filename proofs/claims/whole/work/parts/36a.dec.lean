set_option maxRecDepth 20000 in
theorem ggX6_heaviestChild_X3_parentOf : GoodIn wsX6_heaviestChild wsX3_parentOf := goodIn_r _ [7, 8, 9, 10, 11, 6, 12, 13, 52, 53, 54, 55] (by decide +kernel) (by decide +kernel)
set_option maxRecDepth 20000 in
theorem gX6_heaviestChild_X3_parentOf : GoodIn wsX6_heaviestChild (wsV RX6 89 RX3 yX3_parentOf wsX3_parentOf) := goodIn_app (goodIn_of _ (by decide +kernel)) ggX6_heaviestChild_X3_parentOf
set_option maxRecDepth 20000 in
theorem ggX6_heaviestChild_X6_subtreeSum : GoodIn wsX6_heaviestChild wsX6_subtreeSum := goodIn_r _ [18, 19, 20, 1, 21, 22, 23, 24, 25, 26, 27, 28, 29, 30, 31, 32, 33, 34, 6, 35, 36, 4, 5, 7, 8, 9, 10, 11, 12, 13, 37, 38, 39, 40, 41, 42, 43, 44, 45, 46, 47, 48, 49, 50, 51, 56, 57, 58, 52, 53, 54, 55] (by decide +kernel) (by decide +kernel)
set_option maxRecDepth 20000 in
theorem gX6_heaviestChild_X6_subtreeSum : GoodIn wsX6_heaviestChild (wsV RX6 92 RX6 yX6_subtreeSum wsX6_subtreeSum) := goodIn_app (goodIn_of _ (by decide +kernel)) ggX6_heaviestChild_X6_subtreeSum
theorem dX6_heaviestChild_0 : decode cX6_heaviestChild 0 = .ok (.iconst (-1), 1) := by decide +kernel
theorem dX6_heaviestChild_1 : decode cX6_heaviestChild 1 = .ok (.istore_n 2, 1) := by decide +kernel
theorem dX6_heaviestChild_2 : decode cX6_heaviestChild 2 = .ok (.iconst (-1), 1) := by decide +kernel
theorem dX6_heaviestChild_3 : decode cX6_heaviestChild 3 = .ok (.istore_n 3, 1) := by decide +kernel
theorem dX6_heaviestChild_4 : decode cX6_heaviestChild 4 = .ok (.iconst 0, 1) := by decide +kernel
theorem dX6_heaviestChild_5 : decode cX6_heaviestChild 5 = .ok (.istore 4, 2) := by decide +kernel
theorem dX6_heaviestChild_7 : decode cX6_heaviestChild 7 = .ok (.iload 4, 2) := by decide +kernel
theorem dX6_heaviestChild_9 : decode cX6_heaviestChild 9 = .ok (.aload_n 0, 1) := by decide +kernel
theorem dX6_heaviestChild_10 : decode cX6_heaviestChild 10 = .ok (.getfield 12, 3) := by decide +kernel
theorem dX6_heaviestChild_13 : decode cX6_heaviestChild 13 = .ok (.getfield 88, 3) := by decide +kernel
theorem dX6_heaviestChild_16 : decode cX6_heaviestChild 16 = .ok (.if_icmp .ge 43, 3) := by decide +kernel
theorem dX6_heaviestChild_19 : decode cX6_heaviestChild 19 = .ok (.aload_n 0, 1) := by decide +kernel
theorem dX6_heaviestChild_20 : decode cX6_heaviestChild 20 = .ok (.getfield 12, 3) := by decide +kernel
theorem dX6_heaviestChild_23 : decode cX6_heaviestChild 23 = .ok (.iload 4, 2) := by decide +kernel
theorem dX6_heaviestChild_25 : decode cX6_heaviestChild 25 = .ok (.invokevirtual 89, 3) := by decide +kernel
theorem dX6_heaviestChild_28 : decode cX6_heaviestChild 28 = .ok (.iload_n 1, 1) := by decide +kernel
theorem dX6_heaviestChild_29 : decode cX6_heaviestChild 29 = .ok (.if_icmp .ne 24, 3) := by decide +kernel
theorem dX6_heaviestChild_32 : decode cX6_heaviestChild 32 = .ok (.aload_n 0, 1) := by decide +kernel
theorem dX6_heaviestChild_33 : decode cX6_heaviestChild 33 = .ok (.iload 4, 2) := by decide +kernel
theorem dX6_heaviestChild_35 : decode cX6_heaviestChild 35 = .ok (.iconst 0, 1) := by decide +kernel
theorem dX6_heaviestChild_36 : decode cX6_heaviestChild 36 = .ok (.invokevirtual 92, 3) := by decide +kernel
theorem dX6_heaviestChild_39 : decode cX6_heaviestChild 39 = .ok (.istore 5, 2) := by decide +kernel
theorem dX6_heaviestChild_41 : decode cX6_heaviestChild 41 = .ok (.iload 5, 2) := by decide +kernel
theorem dX6_heaviestChild_43 : decode cX6_heaviestChild 43 = .ok (.iload_n 3, 1) := by decide +kernel
theorem dX6_heaviestChild_44 : decode cX6_heaviestChild 44 = .ok (.if_icmp .le 9, 3) := by decide +kernel
theorem dX6_heaviestChild_47 : decode cX6_heaviestChild 47 = .ok (.iload 4, 2) := by decide +kernel
theorem dX6_heaviestChild_49 : decode cX6_heaviestChild 49 = .ok (.istore_n 2, 1) := by decide +kernel
theorem dX6_heaviestChild_50 : decode cX6_heaviestChild 50 = .ok (.iload 5, 2) := by decide +kernel
theorem dX6_heaviestChild_52 : decode cX6_heaviestChild 52 = .ok (.istore_n 3, 1) := by decide +kernel
theorem dX6_heaviestChild_53 : decode cX6_heaviestChild 53 = .ok (.iinc 4 1, 3) := by decide +kernel
theorem dX6_heaviestChild_56 : decode cX6_heaviestChild 56 = .ok (.goto (-49), 3) := by decide +kernel
theorem dX6_heaviestChild_59 : decode cX6_heaviestChild 59 = .ok (.iload_n 2, 1) := by decide +kernel
theorem dX6_heaviestChild_60 : decode cX6_heaviestChild 60 = .ok (.ireturn, 1) := by decide +kernel
set_option maxRecDepth 20000 in
theorem ggX6_greatestFile_X2_sizeOf : GoodIn wsX6_greatestFile wsX2_sizeOf := goodIn_r _ [7, 8, 9, 10, 11, 6, 12, 13, 51, 52, 53] (by decide +kernel) (by decide +kernel)
set_option maxRecDepth 20000 in
theorem gX6_greatestFile_X2_sizeOf : GoodIn wsX6_greatestFile (wsV RX6 95 RX2 yX2_sizeOf wsX2_sizeOf) := goodIn_app (goodIn_of _ (by decide +kernel)) ggX6_greatestFile_X2_sizeOf
set_option maxRecDepth 20000 in
theorem ggX6_greatestFile_X6_projectOfFile : GoodIn wsX6_greatestFile wsX6_projectOfFile := goodIn_r _ [18, 19, 1, 20, 21, 22, 6, 23, 24, 9, 10, 11, 12, 13, 25, 26, 27, 28, 29, 30, 31, 32, 33, 34, 35, 36, 37, 38, 39, 40, 41, 42, 43, 44, 45, 46, 47, 48, 49, 50, 51, 52, 53, 54, 55, 56, 57] (by decide +kernel) (by decide +kernel)
set_option maxRecDepth 20000 in
theorem gX6_greatestFile_X6_projectOfFile : GoodIn wsX6_greatestFile (wsV RX6 74 RX6 yX6_projectOfFile wsX6_projectOfFile) := goodIn_app (goodIn_of _ (by decide +kernel)) ggX6_greatestFile_X6_projectOfFile
theorem dX6_greatestFile_0 : decode cX6_greatestFile 0 = .ok (.iconst (-1), 1) := by decide +kernel
theorem dX6_greatestFile_1 : decode cX6_greatestFile 1 = .ok (.istore_n 2, 1) := by decide +kernel
theorem dX6_greatestFile_2 : decode cX6_greatestFile 2 = .ok (.iconst (-1), 1) := by decide +kernel
theorem dX6_greatestFile_3 : decode cX6_greatestFile 3 = .ok (.istore_n 3, 1) := by decide +kernel
theorem dX6_greatestFile_4 : decode cX6_greatestFile 4 = .ok (.iconst 0, 1) := by decide +kernel
theorem dX6_greatestFile_5 : decode cX6_greatestFile 5 = .ok (.istore 4, 2) := by decide +kernel
theorem dX6_greatestFile_7 : decode cX6_greatestFile 7 = .ok (.iload 4, 2) := by decide +kernel
theorem dX6_greatestFile_9 : decode cX6_greatestFile 9 = .ok (.aload_n 0, 1) := by decide +kernel
theorem dX6_greatestFile_10 : decode cX6_greatestFile 10 = .ok (.getfield 21, 3) := by decide +kernel
theorem dX6_greatestFile_13 : decode cX6_greatestFile 13 = .ok (.getfield 46, 3) := by decide +kernel
theorem dX6_greatestFile_16 : decode cX6_greatestFile 16 = .ok (.if_icmp .ge 45, 3) := by decide +kernel
theorem dX6_greatestFile_19 : decode cX6_greatestFile 19 = .ok (.aload_n 0, 1) := by decide +kernel
theorem dX6_greatestFile_20 : decode cX6_greatestFile 20 = .ok (.getfield 21, 3) := by decide +kernel
theorem dX6_greatestFile_23 : decode cX6_greatestFile 23 = .ok (.iload 4, 2) := by decide +kernel
theorem dX6_greatestFile_25 : decode cX6_greatestFile 25 = .ok (.invokevirtual 95, 3) := by decide +kernel
theorem dX6_greatestFile_28 : decode cX6_greatestFile 28 = .ok (.iload_n 3, 1) := by decide +kernel
theorem dX6_greatestFile_29 : decode cX6_greatestFile 29 = .ok (.if_icmp .le 26, 3) := by decide +kernel
theorem dX6_greatestFile_32 : decode cX6_greatestFile 32 = .ok (.aload_n 0, 1) := by decide +kernel
theorem dX6_greatestFile_33 : decode cX6_greatestFile 33 = .ok (.iload 4, 2) := by decide +kernel
theorem dX6_greatestFile_35 : decode cX6_greatestFile 35 = .ok (.invokevirtual 74, 3) := by decide +kernel
theorem dX6_greatestFile_38 : decode cX6_greatestFile 38 = .ok (.iload_n 1, 1) := by decide +kernel
theorem dX6_greatestFile_39 : decode cX6_greatestFile 39 = .ok (.if_icmp .ne 16, 3) := by decide +kernel
theorem dX6_greatestFile_42 : decode cX6_greatestFile 42 = .ok (.iload 4, 2) := by decide +kernel
theorem dX6_greatestFile_44 : decode cX6_greatestFile 44 = .ok (.istore_n 2, 1) := by decide +kernel
theorem dX6_greatestFile_45 : decode cX6_greatestFile 45 = .ok (.aload_n 0, 1) := by decide +kernel
theorem dX6_greatestFile_46 : decode cX6_greatestFile 46 = .ok (.getfield 21, 3) := by decide +kernel
theorem dX6_greatestFile_49 : decode cX6_greatestFile 49 = .ok (.iload 4, 2) := by decide +kernel
theorem dX6_greatestFile_51 : decode cX6_greatestFile 51 = .ok (.invokevirtual 95, 3) := by decide +kernel
theorem dX6_greatestFile_54 : decode cX6_greatestFile 54 = .ok (.istore_n 3, 1) := by decide +kernel
theorem dX6_greatestFile_55 : decode cX6_greatestFile 55 = .ok (.iinc 4 1, 3) := by decide +kernel
theorem dX6_greatestFile_58 : decode cX6_greatestFile 58 = .ok (.goto (-51), 3) := by decide +kernel
theorem dX6_greatestFile_61 : decode cX6_greatestFile 61 = .ok (.iload_n 2, 1) := by decide +kernel
theorem dX6_greatestFile_62 : decode cX6_greatestFile 62 = .ok (.ireturn, 1) := by decide +kernel
set_option maxRecDepth 20000 in
theorem ggX6_wouldExceed_X6_effectiveLimit : GoodIn wsX6_wouldExceed wsX6_effectiveLimit := goodIn_r _ [6, 1, 7, 8, 9, 10, 11, 12, 13, 14, 15, 16, 17, 18, 19, 20, 21, 22, 23, 24, 25, 26, 27, 28, 29, 30, 36, 37, 38, 39, 40, 41, 42, 43, 44, 45, 46, 47, 48, 49, 50] (by decide +kernel) (by decide +kernel)
set_option maxRecDepth 20000 in
theorem gX6_wouldExceed_X6_effectiveLimit : GoodIn wsX6_wouldExceed (wsV RX6 113 RX6 yX6_effectiveLimit wsX6_effectiveLimit) := goodIn_app (goodIn_of _ (by decide +kernel)) ggX6_wouldExceed_X6_effectiveLimit
set_option maxRecDepth 20000 in
theorem ggX6_wouldExceed_X7_accountOf : GoodIn wsX6_wouldExceed wsX7_accountOf := goodIn_r _ [14] (by decide +kernel) (by decide +kernel)
set_option maxRecDepth 20000 in
theorem gX6_wouldExceed_X7_accountOf_n98 : GoodIn wsX6_wouldExceed (wsX7_accountOf) := ggX6_wouldExceed_X7_accountOf
set_option maxRecDepth 20000 in
theorem ggX6_wouldExceed_X0_amountOf : GoodIn wsX6_wouldExceed wsX0_amountOf := goodIn_r _ [34, 35, 42, 43, 44, 45] (by decide +kernel) (by decide +kernel)
set_option maxRecDepth 20000 in
theorem gX6_wouldExceed_X0_amountOf : GoodIn wsX6_wouldExceed (wsV RX6 117 RX0 yX0_amountOf wsX0_amountOf) := goodIn_app (goodIn_of _ (by decide +kernel)) ggX6_wouldExceed_X0_amountOf
theorem dX6_wouldExceed_0 : decode cX6_wouldExceed 0 = .ok (.aload_n 0, 1) := by decide +kernel
theorem dX6_wouldExceed_1 : decode cX6_wouldExceed 1 = .ok (.iload_n 1, 1) := by decide +kernel
theorem dX6_wouldExceed_2 : decode cX6_wouldExceed 2 = .ok (.iload_n 2, 1) := by decide +kernel
theorem dX6_wouldExceed_3 : decode cX6_wouldExceed 3 = .ok (.iload_n 3, 1) := by decide +kernel
theorem dX6_wouldExceed_4 : decode cX6_wouldExceed 4 = .ok (.invokevirtual 113, 3) := by decide +kernel
theorem dX6_wouldExceed_7 : decode cX6_wouldExceed 7 = .ok (.istore 5, 2) := by decide +kernel
theorem dX6_wouldExceed_9 : decode cX6_wouldExceed 9 = .ok (.iload 5, 2) := by decide +kernel
theorem dX6_wouldExceed_11 : decode cX6_wouldExceed 11 = .ok (.iconst (-1), 1) := by decide +kernel
theorem dX6_wouldExceed_12 : decode cX6_wouldExceed 12 = .ok (.if_icmp .eq 27, 3) := by decide +kernel
theorem dX6_wouldExceed_15 : decode cX6_wouldExceed 15 = .ok (.aload_n 0, 1) := by decide +kernel
theorem dX6_wouldExceed_16 : decode cX6_wouldExceed 16 = .ok (.getfield 28, 3) := by decide +kernel
theorem dX6_wouldExceed_19 : decode cX6_wouldExceed 19 = .ok (.iload_n 1, 1) := by decide +kernel
theorem dX6_wouldExceed_20 : decode cX6_wouldExceed 20 = .ok (.iload_n 2, 1) := by decide +kernel
theorem dX6_wouldExceed_21 : decode cX6_wouldExceed 21 = .ok (.invokestatic 98, 3) := by decide +kernel
theorem dX6_wouldExceed_24 : decode cX6_wouldExceed 24 = .ok (.invokevirtual 117, 3) := by decide +kernel
theorem dX6_wouldExceed_27 : decode cX6_wouldExceed 27 = .ok (.iload 4, 2) := by decide +kernel
theorem dX6_wouldExceed_29 : decode cX6_wouldExceed 29 = .ok (.iadd, 1) := by decide +kernel
theorem dX6_wouldExceed_30 : decode cX6_wouldExceed 30 = .ok (.iload 5, 2) := by decide +kernel
theorem dX6_wouldExceed_32 : decode cX6_wouldExceed 32 = .ok (.if_icmp .le 7, 3) := by decide +kernel
theorem dX6_wouldExceed_35 : decode cX6_wouldExceed 35 = .ok (.iconst 1, 1) := by decide +kernel
theorem dX6_wouldExceed_36 : decode cX6_wouldExceed 36 = .ok (.goto 4, 3) := by decide +kernel
theorem dX6_wouldExceed_39 : decode cX6_wouldExceed 39 = .ok (.iconst 0, 1) := by decide +kernel
theorem dX6_wouldExceed_40 : decode cX6_wouldExceed 40 = .ok (.ireturn, 1) := by decide +kernel
set_option maxRecDepth 20000 in
theorem ggX6_isGraceOver_X6_graceEnd : GoodIn wsX6_isGraceOver wsX6_graceEnd := goodIn_r _ [6, 7, 8, 9, 10, 11, 12, 13, 14, 15, 16, 17, 18, 19, 20, 21, 22, 23, 24, 25, 26, 27] (by decide +kernel) (by decide +kernel)
set_option maxRecDepth 20000 in
theorem gX6_isGraceOver_X6_graceEnd : GoodIn wsX6_isGraceOver (wsV RX6 123 RX6 yX6_graceEnd wsX6_graceEnd) := goodIn_app (goodIn_of _ (by decide +kernel)) ggX6_isGraceOver_X6_graceEnd
theorem dX6_isGraceOver_0 : decode cX6_isGraceOver 0 = .ok (.aload_n 0, 1) := by decide +kernel
theorem dX6_isGraceOver_1 : decode cX6_isGraceOver 1 = .ok (.iload_n 1, 1) := by decide +kernel
theorem dX6_isGraceOver_2 : decode cX6_isGraceOver 2 = .ok (.iload_n 2, 1) := by decide +kernel
theorem dX6_isGraceOver_3 : decode cX6_isGraceOver 3 = .ok (.invokevirtual 123, 3) := by decide +kernel
theorem dX6_isGraceOver_6 : decode cX6_isGraceOver 6 = .ok (.istore_n 3, 1) := by decide +kernel
theorem dX6_isGraceOver_7 : decode cX6_isGraceOver 7 = .ok (.iload_n 3, 1) := by decide +kernel
theorem dX6_isGraceOver_8 : decode cX6_isGraceOver 8 = .ok (.iconst (-1), 1) := by decide +kernel
theorem dX6_isGraceOver_9 : decode cX6_isGraceOver 9 = .ok (.if_icmp .eq 15, 3) := by decide +kernel
theorem dX6_isGraceOver_12 : decode cX6_isGraceOver 12 = .ok (.iload_n 3, 1) := by decide +kernel
theorem dX6_isGraceOver_13 : decode cX6_isGraceOver 13 = .ok (.aload_n 0, 1) := by decide +kernel
theorem dX6_isGraceOver_14 : decode cX6_isGraceOver 14 = .ok (.getfield 51, 3) := by decide +kernel
theorem dX6_isGraceOver_17 : decode cX6_isGraceOver 17 = .ok (.if_icmp .gt 7, 3) := by decide +kernel
theorem dX6_isGraceOver_20 : decode cX6_isGraceOver 20 = .ok (.iconst 1, 1) := by decide +kernel
theorem dX6_isGraceOver_21 : decode cX6_isGraceOver 21 = .ok (.goto 4, 3) := by decide +kernel
theorem dX6_isGraceOver_24 : decode cX6_isGraceOver 24 = .ok (.iconst 0, 1) := by decide +kernel
theorem dX6_isGraceOver_25 : decode cX6_isGraceOver 25 = .ok (.ireturn, 1) := by decide +kernel
set_option maxRecDepth 20000 in
theorem ggX6_stateOf_X6_wouldExceed : GoodIn wsX6_stateOf wsX6_wouldExceed := goodIn_r _ [6, 1, 7, 8, 9, 5, 10, 11, 12, 13, 14, 15, 16, 17, 18, 19, 20, 21, 22, 23, 24, 25, 26, 27, 28, 29, 30, 31, 32, 33, 34, 35, 36, 37, 38, 39, 60, 61, 62, 63, 64, 65, 66, 67, 68, 69, 70, 71, 72, 73, 74] (by decide +kernel) (by decide +kernel)
set_option maxRecDepth 20000 in
theorem gX6_stateOf_X6_wouldExceed : GoodIn wsX6_stateOf (wsV RX6 126 RX6 yX6_wouldExceed wsX6_wouldExceed) := goodIn_app (goodIn_of _ (by decide +kernel)) ggX6_stateOf_X6_wouldExceed
set_option maxRecDepth 20000 in
theorem ggX6_stateOf_X6_isGraceOver : GoodIn wsX6_stateOf wsX6_isGraceOver := goodIn_r _ [43, 44, 45, 46, 47, 5, 48, 1, 49, 16, 17, 18, 50, 51, 52, 22, 53, 54, 60, 61, 62, 63, 64, 65, 66, 67, 68, 69] (by decide +kernel) (by decide +kernel)
set_option maxRecDepth 20000 in
theorem gX6_stateOf_X6_isGraceOver : GoodIn wsX6_stateOf (wsV RX6 130 RX6 yX6_isGraceOver wsX6_isGraceOver) := goodIn_app (goodIn_of _ (by decide +kernel)) ggX6_stateOf_X6_isGraceOver
set_option maxRecDepth 20000 in
theorem ggX6_stateOf_X7_accountOf : GoodIn wsX6_stateOf wsX7_accountOf := goodIn_r _ [18] (by decide +kernel) (by decide +kernel)
set_option maxRecDepth 20000 in
theorem gX6_stateOf_X7_accountOf_n98 : GoodIn wsX6_stateOf (wsX7_accountOf) := ggX6_stateOf_X7_accountOf
set_option maxRecDepth 20000 in
theorem ggX6_stateOf_X0_clockOf : GoodIn wsX6_stateOf wsX0_clockOf := goodIn_r _ [53, 54, 66, 67, 68, 69] (by decide +kernel) (by decide +kernel)
set_option maxRecDepth 20000 in
theorem gX6_stateOf_X0_clockOf : GoodIn wsX6_stateOf (wsV RX6 120 RX0 yX0_clockOf wsX0_clockOf) := goodIn_app (goodIn_of _ (by decide +kernel)) ggX6_stateOf_X0_clockOf
set_option maxRecDepth 20000 in
theorem ggX6_stateOf_X0_hasLimit : GoodIn wsX6_stateOf wsX0_hasLimit := goodIn_r _ [58, 59, 20, 21, 22, 23, 24, 25, 66, 67, 68, 69] (by decide +kernel) (by decide +kernel)
set_option maxRecDepth 20000 in
theorem gX6_stateOf_X0_hasLimit : GoodIn wsX6_stateOf (wsV RX6 133 RX0 yX0_hasLimit wsX0_hasLimit) := goodIn_app (goodIn_of _ (by decide +kernel)) ggX6_stateOf_X0_hasLimit
theorem dX6_stateOf_0 : decode cX6_stateOf 0 = .ok (.aload_n 0, 1) := by decide +kernel
theorem dX6_stateOf_1 : decode cX6_stateOf 1 = .ok (.iload_n 1, 1) := by decide +kernel
theorem dX6_stateOf_2 : decode cX6_stateOf 2 = .ok (.iload_n 2, 1) := by decide +kernel
theorem dX6_stateOf_3 : decode cX6_stateOf 3 = .ok (.iconst 1, 1) := by decide +kernel
theorem dX6_stateOf_4 : decode cX6_stateOf 4 = .ok (.iconst 0, 1) := by decide +kernel
theorem dX6_stateOf_5 : decode cX6_stateOf 5 = .ok (.invokevirtual 126, 3) := by decide +kernel
theorem dX6_stateOf_8 : decode cX6_stateOf 8 = .ok (.ifCond .eq 5, 3) := by decide +kernel
theorem dX6_stateOf_11 : decode cX6_stateOf 11 = .ok (.iconst 4, 1) := by decide +kernel
theorem dX6_stateOf_12 : decode cX6_stateOf 12 = .ok (.ireturn, 1) := by decide +kernel
theorem dX6_stateOf_13 : decode cX6_stateOf 13 = .ok (.aload_n 0, 1) := by decide +kernel
theorem dX6_stateOf_14 : decode cX6_stateOf 14 = .ok (.iload_n 1, 1) := by decide +kernel
theorem dX6_stateOf_15 : decode cX6_stateOf 15 = .ok (.iload_n 2, 1) := by decide +kernel
theorem dX6_stateOf_16 : decode cX6_stateOf 16 = .ok (.invokevirtual 130, 3) := by decide +kernel
theorem dX6_stateOf_19 : decode cX6_stateOf 19 = .ok (.ifCond .eq 5, 3) := by decide +kernel
theorem dX6_stateOf_22 : decode cX6_stateOf 22 = .ok (.iconst 3, 1) := by decide +kernel
theorem dX6_stateOf_23 : decode cX6_stateOf 23 = .ok (.ireturn, 1) := by decide +kernel
theorem dX6_stateOf_24 : decode cX6_stateOf 24 = .ok (.aload_n 0, 1) := by decide +kernel
theorem dX6_stateOf_25 : decode cX6_stateOf 25 = .ok (.getfield 28, 3) := by decide +kernel
theorem dX6_stateOf_28 : decode cX6_stateOf 28 = .ok (.iload_n 1, 1) := by decide +kernel
theorem dX6_stateOf_29 : decode cX6_stateOf 29 = .ok (.iload_n 2, 1) := by decide +kernel
theorem dX6_stateOf_30 : decode cX6_stateOf 30 = .ok (.invokestatic 98, 3) := by decide +kernel
theorem dX6_stateOf_33 : decode cX6_stateOf 33 = .ok (.invokevirtual 120, 3) := by decide +kernel
theorem dX6_stateOf_36 : decode cX6_stateOf 36 = .ok (.iconst (-1), 1) := by decide +kernel
theorem dX6_stateOf_37 : decode cX6_stateOf 37 = .ok (.if_icmp .eq 5, 3) := by decide +kernel
theorem dX6_stateOf_40 : decode cX6_stateOf 40 = .ok (.iconst 2, 1) := by decide +kernel
theorem dX6_stateOf_41 : decode cX6_stateOf 41 = .ok (.ireturn, 1) := by decide +kernel
theorem dX6_stateOf_42 : decode cX6_stateOf 42 = .ok (.aload_n 0, 1) := by decide +kernel
theorem dX6_stateOf_43 : decode cX6_stateOf 43 = .ok (.getfield 28, 3) := by decide +kernel
theorem dX6_stateOf_46 : decode cX6_stateOf 46 = .ok (.iload_n 1, 1) := by decide +kernel
theorem dX6_stateOf_47 : decode cX6_stateOf 47 = .ok (.iload_n 2, 1) := by decide +kernel
theorem dX6_stateOf_48 : decode cX6_stateOf 48 = .ok (.invokestatic 98, 3) := by decide +kernel
theorem dX6_stateOf_51 : decode cX6_stateOf 51 = .ok (.invokevirtual 133, 3) := by decide +kernel
theorem dX6_stateOf_54 : decode cX6_stateOf 54 = .ok (.ifCond .eq 7, 3) := by decide +kernel
theorem dX6_stateOf_57 : decode cX6_stateOf 57 = .ok (.iconst 1, 1) := by decide +kernel
theorem dX6_stateOf_58 : decode cX6_stateOf 58 = .ok (.goto 4, 3) := by decide +kernel
theorem dX6_stateOf_61 : decode cX6_stateOf 61 = .ok (.iconst 0, 1) := by decide +kernel
theorem dX6_stateOf_62 : decode cX6_stateOf 62 = .ok (.ireturn, 1) := by decide +kernel
set_option maxRecDepth 20000 in
theorem ggX6_growthReason_X6_wouldExceed : GoodIn wsX6_growthReason wsX6_wouldExceed := goodIn_r _ [5, 6, 7, 8, 9, 4, 10, 11, 12, 13, 14, 15, 16, 17, 18, 19, 20, 21, 22, 23, 24, 25, 26, 27, 28, 29, 30, 31, 32, 33, 34, 35, 36, 37, 38, 39, 55, 56, 57, 58, 59, 60, 61, 62, 63, 64, 65, 66, 67, 68, 69] (by decide +kernel) (by decide +kernel)
set_option maxRecDepth 20000 in
theorem gX6_growthReason_X6_wouldExceed : GoodIn wsX6_growthReason (wsV RX6 126 RX6 yX6_wouldExceed wsX6_wouldExceed) := goodIn_app (goodIn_of _ (by decide +kernel)) ggX6_growthReason_X6_wouldExceed
set_option maxRecDepth 20000 in
theorem ggX6_growthReason_X6_isGraceOver : GoodIn wsX6_growthReason wsX6_isGraceOver := goodIn_r _ [43, 44, 45, 46, 47, 4, 48, 6, 49, 16, 17, 18, 50, 51, 52, 22, 53, 54, 55, 56, 57, 58, 59, 60, 61, 62, 63, 64] (by decide +kernel) (by decide +kernel)
set_option maxRecDepth 20000 in
theorem gX6_growthReason_X6_isGraceOver : GoodIn wsX6_growthReason (wsV RX6 130 RX6 yX6_isGraceOver wsX6_isGraceOver) := goodIn_app (goodIn_of _ (by decide +kernel)) ggX6_growthReason_X6_isGraceOver
theorem dX6_growthReason_0 : decode cX6_growthReason 0 = .ok (.iload_n 1, 1) := by decide +kernel
theorem dX6_growthReason_1 : decode cX6_growthReason 1 = .ok (.iconst (-1), 1) := by decide +kernel
theorem dX6_growthReason_2 : decode cX6_growthReason 2 = .ok (.if_icmp .ne 5, 3) := by decide +kernel
theorem dX6_growthReason_5 : decode cX6_growthReason 5 = .ok (.iconst 0, 1) := by decide +kernel
theorem dX6_growthReason_6 : decode cX6_growthReason 6 = .ok (.ireturn, 1) := by decide +kernel
theorem dX6_growthReason_7 : decode cX6_growthReason 7 = .ok (.iload_n 2, 1) := by decide +kernel
theorem dX6_growthReason_8 : decode cX6_growthReason 8 = .ok (.ifCond .le 16, 3) := by decide +kernel
theorem dX6_growthReason_11 : decode cX6_growthReason 11 = .ok (.aload_n 0, 1) := by decide +kernel
theorem dX6_growthReason_12 : decode cX6_growthReason 12 = .ok (.iload_n 1, 1) := by decide +kernel
theorem dX6_growthReason_13 : decode cX6_growthReason 13 = .ok (.iconst 0, 1) := by decide +kernel
theorem dX6_growthReason_14 : decode cX6_growthReason 14 = .ok (.iconst 1, 1) := by decide +kernel
theorem dX6_growthReason_15 : decode cX6_growthReason 15 = .ok (.iload_n 2, 1) := by decide +kernel
theorem dX6_growthReason_16 : decode cX6_growthReason 16 = .ok (.invokevirtual 126, 3) := by decide +kernel
theorem dX6_growthReason_19 : decode cX6_growthReason 19 = .ok (.ifCond .eq 5, 3) := by decide +kernel
theorem dX6_growthReason_22 : decode cX6_growthReason 22 = .ok (.iconst 1, 1) := by decide +kernel
theorem dX6_growthReason_23 : decode cX6_growthReason 23 = .ok (.ireturn, 1) := by decide +kernel
theorem dX6_growthReason_24 : decode cX6_growthReason 24 = .ok (.iload_n 3, 1) := by decide +kernel
theorem dX6_growthReason_25 : decode cX6_growthReason 25 = .ok (.ifCond .le 16, 3) := by decide +kernel
theorem dX6_growthReason_28 : decode cX6_growthReason 28 = .ok (.aload_n 0, 1) := by decide +kernel
theorem dX6_growthReason_29 : decode cX6_growthReason 29 = .ok (.iload_n 1, 1) := by decide +kernel
theorem dX6_growthReason_30 : decode cX6_growthReason 30 = .ok (.iconst 1, 1) := by decide +kernel
theorem dX6_growthReason_31 : decode cX6_growthReason 31 = .ok (.iconst 1, 1) := by decide +kernel
theorem dX6_growthReason_32 : decode cX6_growthReason 32 = .ok (.iload_n 3, 1) := by decide +kernel
theorem dX6_growthReason_33 : decode cX6_growthReason 33 = .ok (.invokevirtual 126, 3) := by decide +kernel
theorem dX6_growthReason_36 : decode cX6_growthReason 36 = .ok (.ifCond .eq 5, 3) := by decide +kernel
theorem dX6_growthReason_39 : decode cX6_growthReason 39 = .ok (.iconst 2, 1) := by decide +kernel
theorem dX6_growthReason_40 : decode cX6_growthReason 40 = .ok (.ireturn, 1) := by decide +kernel
theorem dX6_growthReason_41 : decode cX6_growthReason 41 = .ok (.iload_n 2, 1) := by decide +kernel
theorem dX6_growthReason_42 : decode cX6_growthReason 42 = .ok (.ifCond .le 14, 3) := by decide +kernel
theorem dX6_growthReason_45 : decode cX6_growthReason 45 = .ok (.aload_n 0, 1) := by decide +kernel
theorem dX6_growthReason_46 : decode cX6_growthReason 46 = .ok (.iload_n 1, 1) := by decide +kernel
theorem dX6_growthReason_47 : decode cX6_growthReason 47 = .ok (.iconst 0, 1) := by decide +kernel
theorem dX6_growthReason_48 : decode cX6_growthReason 48 = .ok (.invokevirtual 130, 3) := by decide +kernel
theorem dX6_growthReason_51 : decode cX6_growthReason 51 = .ok (.ifCond .eq 5, 3) := by decide +kernel
theorem dX6_growthReason_54 : decode cX6_growthReason 54 = .ok (.iconst 3, 1) := by decide +kernel
theorem dX6_growthReason_55 : decode cX6_growthReason 55 = .ok (.ireturn, 1) := by decide +kernel
theorem dX6_growthReason_56 : decode cX6_growthReason 56 = .ok (.iload_n 3, 1) := by decide +kernel
theorem dX6_growthReason_57 : decode cX6_growthReason 57 = .ok (.ifCond .le 16, 3) := by decide +kernel
theorem dX6_growthReason_60 : decode cX6_growthReason 60 = .ok (.aload_n 0, 1) := by decide +kernel
theorem dX6_growthReason_61 : decode cX6_growthReason 61 = .ok (.iload_n 1, 1) := by decide +kernel
theorem dX6_growthReason_62 : decode cX6_growthReason 62 = .ok (.iconst 1, 1) := by decide +kernel
theorem dX6_growthReason_63 : decode cX6_growthReason 63 = .ok (.invokevirtual 130, 3) := by decide +kernel
theorem dX6_growthReason_66 : decode cX6_growthReason 66 = .ok (.ifCond .eq 7, 3) := by decide +kernel
theorem dX6_growthReason_69 : decode cX6_growthReason 69 = .ok (.iconst 4, 1) := by decide +kernel
theorem dX6_growthReason_70 : decode cX6_growthReason 70 = .ok (.goto 4, 3) := by decide +kernel
theorem dX6_growthReason_73 : decode cX6_growthReason 73 = .ok (.iconst 0, 1) := by decide +kernel
theorem dX6_growthReason_74 : decode cX6_growthReason 74 = .ok (.ireturn, 1) := by decide +kernel
set_option maxRecDepth 20000 in
theorem ggX6_roomOf_X6_isGraceOver : GoodIn wsX6_roomOf wsX6_isGraceOver := goodIn_r _ [13, 14, 15, 16, 17, 12, 18, 1, 19, 20, 21, 22, 23, 24, 25, 26, 27, 28, 54, 55, 56, 57, 58, 59, 60, 61, 62, 63] (by decide +kernel) (by decide +kernel)
set_option maxRecDepth 20000 in
theorem gX6_roomOf_X6_isGraceOver : GoodIn wsX6_roomOf (wsV RX6 130 RX6 yX6_isGraceOver wsX6_isGraceOver) := goodIn_app (goodIn_of _ (by decide +kernel)) ggX6_roomOf_X6_isGraceOver
set_option maxRecDepth 20000 in
theorem ggX6_roomOf_X6_effectiveLimit : GoodIn wsX6_roomOf wsX6_effectiveLimit := goodIn_r _ [32, 1, 33, 6, 7, 4, 8, 20, 21, 22, 34, 35, 36, 26, 37, 38, 39, 40, 41, 42, 43, 44, 45, 46, 47, 48, 54, 55, 56, 57, 58, 59, 60, 61, 62, 63, 64, 65, 66, 67, 68] (by decide +kernel) (by decide +kernel)
set_option maxRecDepth 20000 in
theorem gX6_roomOf_X6_effectiveLimit : GoodIn wsX6_roomOf (wsV RX6 113 RX6 yX6_effectiveLimit wsX6_effectiveLimit) := goodIn_app (goodIn_of _ (by decide +kernel)) ggX6_roomOf_X6_effectiveLimit
set_option maxRecDepth 20000 in
theorem ggX6_roomOf_X7_accountOf : GoodIn wsX6_roomOf wsX7_accountOf := goodIn_r _ [22] (by decide +kernel) (by decide +kernel)
set_option maxRecDepth 20000 in
theorem gX6_roomOf_X7_accountOf_n98 : GoodIn wsX6_roomOf (wsX7_accountOf) := ggX6_roomOf_X7_accountOf
set_option maxRecDepth 20000 in
theorem ggX6_roomOf_X0_amountOf : GoodIn wsX6_roomOf wsX0_amountOf := goodIn_r _ [52, 53, 60, 61, 62, 63] (by decide +kernel) (by decide +kernel)
set_option maxRecDepth 20000 in
theorem gX6_roomOf_X0_amountOf : GoodIn wsX6_roomOf (wsV RX6 117 RX0 yX0_amountOf wsX0_amountOf) := goodIn_app (goodIn_of _ (by decide +kernel)) ggX6_roomOf_X0_amountOf
theorem dX6_roomOf_0 : decode cX6_roomOf 0 = .ok (.iload_n 1, 1) := by decide +kernel
theorem dX6_roomOf_1 : decode cX6_roomOf 1 = .ok (.iconst (-1), 1) := by decide +kernel
theorem dX6_roomOf_2 : decode cX6_roomOf 2 = .ok (.if_icmp .ne 7, 3) := by decide +kernel
theorem dX6_roomOf_5 : decode cX6_roomOf 5 = .ok (.sipush 9999, 3) := by decide +kernel
theorem dX6_roomOf_8 : decode cX6_roomOf 8 = .ok (.ireturn, 1) := by decide +kernel
theorem dX6_roomOf_9 : decode cX6_roomOf 9 = .ok (.aload_n 0, 1) := by decide +kernel
theorem dX6_roomOf_10 : decode cX6_roomOf 10 = .ok (.iload_n 1, 1) := by decide +kernel
theorem dX6_roomOf_11 : decode cX6_roomOf 11 = .ok (.iconst 0, 1) := by decide +kernel
theorem dX6_roomOf_12 : decode cX6_roomOf 12 = .ok (.invokevirtual 130, 3) := by decide +kernel
theorem dX6_roomOf_15 : decode cX6_roomOf 15 = .ok (.ifCond .eq 5, 3) := by decide +kernel
theorem dX6_roomOf_18 : decode cX6_roomOf 18 = .ok (.iconst 0, 1) := by decide +kernel
theorem dX6_roomOf_19 : decode cX6_roomOf 19 = .ok (.ireturn, 1) := by decide +kernel
theorem dX6_roomOf_20 : decode cX6_roomOf 20 = .ok (.aload_n 0, 1) := by decide +kernel
theorem dX6_roomOf_21 : decode cX6_roomOf 21 = .ok (.iload_n 1, 1) := by decide +kernel
theorem dX6_roomOf_22 : decode cX6_roomOf 22 = .ok (.iconst 0, 1) := by decide +kernel
theorem dX6_roomOf_23 : decode cX6_roomOf 23 = .ok (.iconst 1, 1) := by decide +kernel
theorem dX6_roomOf_24 : decode cX6_roomOf 24 = .ok (.invokevirtual 113, 3) := by decide +kernel
theorem dX6_roomOf_27 : decode cX6_roomOf 27 = .ok (.istore_n 2, 1) := by decide +kernel
theorem dX6_roomOf_28 : decode cX6_roomOf 28 = .ok (.iload_n 2, 1) := by decide +kernel
theorem dX6_roomOf_29 : decode cX6_roomOf 29 = .ok (.iconst (-1), 1) := by decide +kernel
theorem dX6_roomOf_30 : decode cX6_roomOf 30 = .ok (.if_icmp .ne 7, 3) := by decide +kernel
theorem dX6_roomOf_33 : decode cX6_roomOf 33 = .ok (.sipush 9999, 3) := by decide +kernel
theorem dX6_roomOf_36 : decode cX6_roomOf 36 = .ok (.ireturn, 1) := by decide +kernel
theorem dX6_roomOf_37 : decode cX6_roomOf 37 = .ok (.iload_n 2, 1) := by decide +kernel
theorem dX6_roomOf_38 : decode cX6_roomOf 38 = .ok (.aload_n 0, 1) := by decide +kernel
theorem dX6_roomOf_39 : decode cX6_roomOf 39 = .ok (.getfield 28, 3) := by decide +kernel
theorem dX6_roomOf_42 : decode cX6_roomOf 42 = .ok (.iload_n 1, 1) := by decide +kernel
theorem dX6_roomOf_43 : decode cX6_roomOf 43 = .ok (.iconst 0, 1) := by decide +kernel
theorem dX6_roomOf_44 : decode cX6_roomOf 44 = .ok (.invokestatic 98, 3) := by decide +kernel
theorem dX6_roomOf_47 : decode cX6_roomOf 47 = .ok (.invokevirtual 117, 3) := by decide +kernel
theorem dX6_roomOf_50 : decode cX6_roomOf 50 = .ok (.isub, 1) := by decide +kernel
theorem dX6_roomOf_51 : decode cX6_roomOf 51 = .ok (.istore_n 3, 1) := by decide +kernel
theorem dX6_roomOf_52 : decode cX6_roomOf 52 = .ok (.iload_n 3, 1) := by decide +kernel
theorem dX6_roomOf_53 : decode cX6_roomOf 53 = .ok (.sipush 9999, 3) := by decide +kernel
theorem dX6_roomOf_56 : decode cX6_roomOf 56 = .ok (.invokestatic 141, 3) := by decide +kernel
theorem dX6_roomOf_59 : decode cX6_roomOf 59 = .ok (.iconst 0, 1) := by decide +kernel
theorem dX6_roomOf_60 : decode cX6_roomOf 60 = .ok (.invokestatic 108, 3) := by decide +kernel
theorem dX6_roomOf_63 : decode cX6_roomOf 63 = .ok (.ireturn, 1) := by decide +kernel
set_option maxRecDepth 20000 in
theorem ggX6_openReason_X3_projectOf : GoodIn wsX6_openReason wsX3_projectOf := goodIn_r _ [6, 7, 8, 9, 5, 10, 11, 12, 13, 14, 15, 16, 17, 18, 19, 20, 21, 116, 117, 118, 119] (by decide +kernel) (by decide +kernel)
set_option maxRecDepth 20000 in
theorem gX6_openReason_X3_projectOf : GoodIn wsX6_openReason (wsV RX6 71 RX3 yX3_projectOf wsX3_projectOf) := goodIn_app (goodIn_of _ (by decide +kernel)) ggX6_openReason_X3_projectOf
set_option maxRecDepth 20000 in
theorem ggX6_openReason_X6_openSum : GoodIn wsX6_openReason wsX6_openSum := goodIn_r _ [26, 27, 28, 1, 29, 30, 31, 32, 33, 34, 35, 36, 37, 38, 39, 40, 41, 42, 5, 43, 7, 8, 9, 10, 11, 12, 13, 14, 15, 16, 17, 18, 19, 20, 21, 44, 45, 46, 47, 48, 49, 50, 51, 52, 110, 111, 112, 113, 114, 115, 120, 121, 122, 116, 117, 118, 119] (by decide +kernel) (by decide +kernel)
set_option maxRecDepth 20000 in
theorem gX6_openReason_X6_openSum : GoodIn wsX6_openReason (wsV RX6 144 RX6 yX6_openSum wsX6_openSum) := goodIn_app (goodIn_of _ (by decide +kernel)) ggX6_openReason_X6_openSum
set_option maxRecDepth 20000 in
theorem ggX6_openReason_X6_growthReason : GoodIn wsX6_openReason wsX6_growthReason := goodIn_r _ [56, 57, 58, 59, 25, 60, 61, 62, 63, 64, 65, 66, 67, 68, 69, 70, 71, 72, 73, 74, 75, 76, 77, 78, 79, 80, 81, 82, 83, 84, 85, 86, 87, 88, 89, 90, 91, 92, 93, 94, 95, 96, 97, 98, 99, 100, 101, 102, 103, 104, 105, 106, 107, 108, 109, 110, 111, 112, 113, 114, 115, 123, 124, 125, 126, 127, 128, 129, 130, 131] (by decide +kernel) (by decide +kernel)
set_option maxRecDepth 20000 in
theorem gX6_openReason_X6_growthReason : GoodIn wsX6_openReason (wsV RX6 147 RX6 yX6_growthReason wsX6_growthReason) := goodIn_app (goodIn_of _ (by decide +kernel)) ggX6_openReason_X6_growthReason
theorem dX6_openReason_0 : decode cX6_openReason 0 = .ok (.aload_n 0, 1) := by decide +kernel
theorem dX6_openReason_1 : decode cX6_openReason 1 = .ok (.getfield 12, 3) := by decide +kernel
theorem dX6_openReason_4 : decode cX6_openReason 4 = .ok (.iload_n 1, 1) := by decide +kernel
theorem dX6_openReason_5 : decode cX6_openReason 5 = .ok (.invokevirtual 71, 3) := by decide +kernel
theorem dX6_openReason_8 : decode cX6_openReason 8 = .ok (.iload_n 2, 1) := by decide +kernel
theorem dX6_openReason_9 : decode cX6_openReason 9 = .ok (.if_icmp .ne 5, 3) := by decide +kernel
theorem dX6_openReason_12 : decode cX6_openReason 12 = .ok (.iconst 0, 1) := by decide +kernel
theorem dX6_openReason_13 : decode cX6_openReason 13 = .ok (.ireturn, 1) := by decide +kernel
theorem dX6_openReason_14 : decode cX6_openReason 14 = .ok (.aload_n 0, 1) := by decide +kernel
theorem dX6_openReason_15 : decode cX6_openReason 15 = .ok (.iload_n 2, 1) := by decide +kernel
theorem dX6_openReason_16 : decode cX6_openReason 16 = .ok (.aload_n 0, 1) := by decide +kernel
theorem dX6_openReason_17 : decode cX6_openReason 17 = .ok (.iload_n 1, 1) := by decide +kernel
theorem dX6_openReason_18 : decode cX6_openReason 18 = .ok (.iconst 0, 1) := by decide +kernel
theorem dX6_openReason_19 : decode cX6_openReason 19 = .ok (.invokevirtual 144, 3) := by decide +kernel
theorem dX6_openReason_22 : decode cX6_openReason 22 = .ok (.aload_n 0, 1) := by decide +kernel
theorem dX6_openReason_23 : decode cX6_openReason 23 = .ok (.iload_n 1, 1) := by decide +kernel
theorem dX6_openReason_24 : decode cX6_openReason 24 = .ok (.iconst 1, 1) := by decide +kernel
theorem dX6_openReason_25 : decode cX6_openReason 25 = .ok (.invokevirtual 144, 3) := by decide +kernel
theorem dX6_openReason_28 : decode cX6_openReason 28 = .ok (.invokevirtual 147, 3) := by decide +kernel
theorem dX6_openReason_31 : decode cX6_openReason 31 = .ok (.ireturn, 1) := by decide +kernel
set_option maxRecDepth 20000 in
theorem ggX6_canGive_X6_effectiveLimit : GoodIn wsX6_canGive wsX6_effectiveLimit := goodIn_r _ [6, 1, 7, 8, 9, 10, 11, 12, 13, 14, 15, 16, 17, 18, 19, 20, 21, 22, 23, 24, 25, 26, 27, 28, 29, 30, 36, 37, 38, 39, 40, 41, 42, 43, 44, 45, 46, 47, 48, 49, 50] (by decide +kernel) (by decide +kernel)
set_option maxRecDepth 20000 in
theorem gX6_canGive_X6_effectiveLimit : GoodIn wsX6_canGive (wsV RX6 113 RX6 yX6_effectiveLimit wsX6_effectiveLimit) := goodIn_app (goodIn_of _ (by decide +kernel)) ggX6_canGive_X6_effectiveLimit
set_option maxRecDepth 20000 in
theorem ggX6_canGive_X7_accountOf : GoodIn wsX6_canGive wsX7_accountOf := goodIn_r _ [14] (by decide +kernel) (by decide +kernel)
set_option maxRecDepth 20000 in
theorem gX6_canGive_X7_accountOf_n98 : GoodIn wsX6_canGive (wsX7_accountOf) := ggX6_canGive_X7_accountOf
set_option maxRecDepth 20000 in
theorem ggX6_canGive_X0_amountOf : GoodIn wsX6_canGive wsX0_amountOf := goodIn_r _ [34, 35, 42, 43, 44, 45] (by decide +kernel) (by decide +kernel)
set_option maxRecDepth 20000 in
theorem gX6_canGive_X0_amountOf : GoodIn wsX6_canGive (wsV RX6 117 RX0 yX0_amountOf wsX0_amountOf) := goodIn_app (goodIn_of _ (by decide +kernel)) ggX6_canGive_X0_amountOf
theorem dX6_canGive_0 : decode cX6_canGive 0 = .ok (.aload_n 0, 1) := by decide +kernel
theorem dX6_canGive_1 : decode cX6_canGive 1 = .ok (.iload_n 1, 1) := by decide +kernel
theorem dX6_canGive_2 : decode cX6_canGive 2 = .ok (.iconst 0, 1) := by decide +kernel
theorem dX6_canGive_3 : decode cX6_canGive 3 = .ok (.iconst 1, 1) := by decide +kernel
theorem dX6_canGive_4 : decode cX6_canGive 4 = .ok (.invokevirtual 113, 3) := by decide +kernel
theorem dX6_canGive_7 : decode cX6_canGive 7 = .ok (.istore 4, 2) := by decide +kernel
theorem dX6_canGive_9 : decode cX6_canGive 9 = .ok (.iload 4, 2) := by decide +kernel
theorem dX6_canGive_11 : decode cX6_canGive 11 = .ok (.iconst (-1), 1) := by decide +kernel
theorem dX6_canGive_12 : decode cX6_canGive 12 = .ok (.if_icmp .eq 37, 3) := by decide +kernel
theorem dX6_canGive_15 : decode cX6_canGive 15 = .ok (.aload_n 0, 1) := by decide +kernel
theorem dX6_canGive_16 : decode cX6_canGive 16 = .ok (.iload_n 2, 1) := by decide +kernel
theorem dX6_canGive_17 : decode cX6_canGive 17 = .ok (.iconst 0, 1) := by decide +kernel
theorem dX6_canGive_18 : decode cX6_canGive 18 = .ok (.iconst 1, 1) := by decide +kernel
theorem dX6_canGive_19 : decode cX6_canGive 19 = .ok (.invokevirtual 113, 3) := by decide +kernel
theorem dX6_canGive_22 : decode cX6_canGive 22 = .ok (.iconst (-1), 1) := by decide +kernel
theorem dX6_canGive_23 : decode cX6_canGive 23 = .ok (.if_icmp .eq 26, 3) := by decide +kernel
theorem dX6_canGive_26 : decode cX6_canGive 26 = .ok (.iload_n 3, 1) := by decide +kernel
theorem dX6_canGive_27 : decode cX6_canGive 27 = .ok (.iload 4, 2) := by decide +kernel
theorem dX6_canGive_29 : decode cX6_canGive 29 = .ok (.aload_n 0, 1) := by decide +kernel
theorem dX6_canGive_30 : decode cX6_canGive 30 = .ok (.getfield 28, 3) := by decide +kernel
theorem dX6_canGive_33 : decode cX6_canGive 33 = .ok (.iload_n 1, 1) := by decide +kernel
theorem dX6_canGive_34 : decode cX6_canGive 34 = .ok (.iconst 0, 1) := by decide +kernel
theorem dX6_canGive_35 : decode cX6_canGive 35 = .ok (.invokestatic 98, 3) := by decide +kernel
theorem dX6_canGive_38 : decode cX6_canGive 38 = .ok (.invokevirtual 117, 3) := by decide +kernel
theorem dX6_canGive_41 : decode cX6_canGive 41 = .ok (.isub, 1) := by decide +kernel
theorem dX6_canGive_42 : decode cX6_canGive 42 = .ok (.if_icmp .gt 7, 3) := by decide +kernel
theorem dX6_canGive_45 : decode cX6_canGive 45 = .ok (.iconst 1, 1) := by decide +kernel
theorem dX6_canGive_46 : decode cX6_canGive 46 = .ok (.goto 4, 3) := by decide +kernel
theorem dX6_canGive_49 : decode cX6_canGive 49 = .ok (.iconst 0, 1) := by decide +kernel
theorem dX6_canGive_50 : decode cX6_canGive 50 = .ok (.ireturn, 1) := by decide +kernel
set_option maxRecDepth 20000 in
theorem ggX6_firstGraceEnd_X6_graceEnd : GoodIn wsX6_firstGraceEnd wsX6_graceEnd := goodIn_r _ [5, 6, 7, 8, 9, 10, 11, 12, 13, 14, 15, 16, 26, 27, 28, 29, 30, 31, 32, 33, 34, 35] (by decide +kernel) (by decide +kernel)
set_option maxRecDepth 20000 in
theorem gX6_firstGraceEnd_X6_graceEnd : GoodIn wsX6_firstGraceEnd (wsV RX6 123 RX6 yX6_graceEnd wsX6_graceEnd) := goodIn_app (goodIn_of _ (by decide +kernel)) ggX6_firstGraceEnd_X6_graceEnd
set_option maxRecDepth 20000 in
theorem ggX6_firstGraceEnd_X6_earlierEvent : GoodIn wsX6_firstGraceEnd wsX6_earlierEvent := goodIn_r _ [20, 21, 22, 23, 24, 25, 26, 27, 28, 29, 30, 31] (by decide +kernel) (by decide +kernel)
set_option maxRecDepth 20000 in
theorem gX6_firstGraceEnd_X6_earlierEvent : GoodIn wsX6_firstGraceEnd (wsV RX6 161 RX6 yX6_earlierEvent wsX6_earlierEvent) := goodIn_app (goodIn_of _ (by decide +kernel)) ggX6_firstGraceEnd_X6_earlierEvent
theorem dX6_firstGraceEnd_0 : decode cX6_firstGraceEnd 0 = .ok (.iconst (-1), 1) := by decide +kernel
theorem dX6_firstGraceEnd_1 : decode cX6_firstGraceEnd 1 = .ok (.istore_n 1, 1) := by decide +kernel
theorem dX6_firstGraceEnd_2 : decode cX6_firstGraceEnd 2 = .ok (.iconst 0, 1) := by decide +kernel
theorem dX6_firstGraceEnd_3 : decode cX6_firstGraceEnd 3 = .ok (.istore_n 2, 1) := by decide +kernel
theorem dX6_firstGraceEnd_4 : decode cX6_firstGraceEnd 4 = .ok (.iload_n 2, 1) := by decide +kernel
theorem dX6_firstGraceEnd_5 : decode cX6_firstGraceEnd 5 = .ok (.bipush 8, 2) := by decide +kernel
theorem dX6_firstGraceEnd_7 : decode cX6_firstGraceEnd 7 = .ok (.if_icmp .ge 34, 3) := by decide +kernel
theorem dX6_firstGraceEnd_10 : decode cX6_firstGraceEnd 10 = .ok (.iconst 0, 1) := by decide +kernel
theorem dX6_firstGraceEnd_11 : decode cX6_firstGraceEnd 11 = .ok (.istore_n 3, 1) := by decide +kernel
theorem dX6_firstGraceEnd_12 : decode cX6_firstGraceEnd 12 = .ok (.iload_n 3, 1) := by decide +kernel
theorem dX6_firstGraceEnd_13 : decode cX6_firstGraceEnd 13 = .ok (.iconst 2, 1) := by decide +kernel
theorem dX6_firstGraceEnd_14 : decode cX6_firstGraceEnd 14 = .ok (.if_icmp .ge 21, 3) := by decide +kernel
theorem dX6_firstGraceEnd_17 : decode cX6_firstGraceEnd 17 = .ok (.aload_n 0, 1) := by decide +kernel
theorem dX6_firstGraceEnd_18 : decode cX6_firstGraceEnd 18 = .ok (.iload_n 1, 1) := by decide +kernel
theorem dX6_firstGraceEnd_19 : decode cX6_firstGraceEnd 19 = .ok (.aload_n 0, 1) := by decide +kernel
theorem dX6_firstGraceEnd_20 : decode cX6_firstGraceEnd 20 = .ok (.iload_n 2, 1) := by decide +kernel
theorem dX6_firstGraceEnd_21 : decode cX6_firstGraceEnd 21 = .ok (.iload_n 3, 1) := by decide +kernel
theorem dX6_firstGraceEnd_22 : decode cX6_firstGraceEnd 22 = .ok (.invokevirtual 123, 3) := by decide +kernel
theorem dX6_firstGraceEnd_25 : decode cX6_firstGraceEnd 25 = .ok (.invokevirtual 161, 3) := by decide +kernel
theorem dX6_firstGraceEnd_28 : decode cX6_firstGraceEnd 28 = .ok (.istore_n 1, 1) := by decide +kernel
theorem dX6_firstGraceEnd_29 : decode cX6_firstGraceEnd 29 = .ok (.iinc 3 1, 3) := by decide +kernel
theorem dX6_firstGraceEnd_32 : decode cX6_firstGraceEnd 32 = .ok (.goto (-20), 3) := by decide +kernel
theorem dX6_firstGraceEnd_35 : decode cX6_firstGraceEnd 35 = .ok (.iinc 2 1, 3) := by decide +kernel
theorem dX6_firstGraceEnd_38 : decode cX6_firstGraceEnd 38 = .ok (.goto (-34), 3) := by decide +kernel
theorem dX6_firstGraceEnd_41 : decode cX6_firstGraceEnd 41 = .ok (.iload_n 1, 1) := by decide +kernel
theorem dX6_firstGraceEnd_42 : decode cX6_firstGraceEnd 42 = .ok (.ireturn, 1) := by decide +kernel
theorem dX6_earlierEvent_0 : decode cX6_earlierEvent 0 = .ok (.iload_n 1, 1) := by decide +kernel
theorem dX6_earlierEvent_1 : decode cX6_earlierEvent 1 = .ok (.aload_n 0, 1) := by decide +kernel
theorem dX6_earlierEvent_2 : decode cX6_earlierEvent 2 = .ok (.getfield 51, 3) := by decide +kernel
theorem dX6_earlierEvent_5 : decode cX6_earlierEvent 5 = .ok (.if_icmp .gt 17, 3) := by decide +kernel
theorem dX6_earlierEvent_8 : decode cX6_earlierEvent 8 = .ok (.iload_n 2, 1) := by decide +kernel
theorem dX6_earlierEvent_9 : decode cX6_earlierEvent 9 = .ok (.aload_n 0, 1) := by decide +kernel
theorem dX6_earlierEvent_10 : decode cX6_earlierEvent 10 = .ok (.getfield 51, 3) := by decide +kernel
theorem dX6_earlierEvent_13 : decode cX6_earlierEvent 13 = .ok (.if_icmp .le 7, 3) := by decide +kernel
theorem dX6_earlierEvent_16 : decode cX6_earlierEvent 16 = .ok (.iload_n 2, 1) := by decide +kernel
theorem dX6_earlierEvent_17 : decode cX6_earlierEvent 17 = .ok (.goto 4, 3) := by decide +kernel
theorem dX6_earlierEvent_20 : decode cX6_earlierEvent 20 = .ok (.iconst (-1), 1) := by decide +kernel
theorem dX6_earlierEvent_21 : decode cX6_earlierEvent 21 = .ok (.ireturn, 1) := by decide +kernel
theorem dX6_earlierEvent_22 : decode cX6_earlierEvent 22 = .ok (.iload_n 2, 1) := by decide +kernel
theorem dX6_earlierEvent_23 : decode cX6_earlierEvent 23 = .ok (.aload_n 0, 1) := by decide +kernel
theorem dX6_earlierEvent_24 : decode cX6_earlierEvent 24 = .ok (.getfield 51, 3) := by decide +kernel
theorem dX6_earlierEvent_27 : decode cX6_earlierEvent 27 = .ok (.if_icmp .le 11, 3) := by decide +kernel
theorem dX6_earlierEvent_30 : decode cX6_earlierEvent 30 = .ok (.iload_n 1, 1) := by decide +kernel
theorem dX6_earlierEvent_31 : decode cX6_earlierEvent 31 = .ok (.iload_n 2, 1) := by decide +kernel
theorem dX6_earlierEvent_32 : decode cX6_earlierEvent 32 = .ok (.invokestatic 141, 3) := by decide +kernel
theorem dX6_earlierEvent_35 : decode cX6_earlierEvent 35 = .ok (.goto 4, 3) := by decide +kernel
theorem dX6_earlierEvent_38 : decode cX6_earlierEvent 38 = .ok (.iload_n 1, 1) := by decide +kernel
theorem dX6_earlierEvent_39 : decode cX6_earlierEvent 39 = .ok (.ireturn, 1) := by decide +kernel
