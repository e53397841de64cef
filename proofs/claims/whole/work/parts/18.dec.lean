theorem dX8_begins_0 : decode cX8_begins 0 = .ok (.iconst 0, 1) := by decide +kernel
theorem dX8_begins_1 : decode cX8_begins 1 = .ok (.istore_n 1, 1) := by decide +kernel
theorem dX8_begins_2 : decode cX8_begins 2 = .ok (.iload_n 1, 1) := by decide +kernel
theorem dX8_begins_3 : decode cX8_begins 3 = .ok (.sipush 357, 3) := by decide +kernel
theorem dX8_begins_6 : decode cX8_begins 6 = .ok (.if_icmp .ge 35, 3) := by decide +kernel
theorem dX8_begins_9 : decode cX8_begins 9 = .ok (.aload_n 0, 1) := by decide +kernel
theorem dX8_begins_10 : decode cX8_begins 10 = .ok (.getfield 13, 3) := by decide +kernel
theorem dX8_begins_13 : decode cX8_begins 13 = .ok (.iload_n 1, 1) := by decide +kernel
theorem dX8_begins_14 : decode cX8_begins 14 = .ok (.iload_n 1, 1) := by decide +kernel
theorem dX8_begins_15 : decode cX8_begins 15 = .ok (.bipush 53, 2) := by decide +kernel
theorem dX8_begins_17 : decode cX8_begins 17 = .ok (.if_icmp .lt 16, 3) := by decide +kernel
theorem dX8_begins_20 : decode cX8_begins 20 = .ok (.iload_n 1, 1) := by decide +kernel
theorem dX8_begins_21 : decode cX8_begins 21 = .ok (.sipush 149, 3) := by decide +kernel
theorem dX8_begins_24 : decode cX8_begins 24 = .ok (.if_icmp .ge 9, 3) := by decide +kernel
theorem dX8_begins_27 : decode cX8_begins 27 = .ok (.ldc2_w 37, 3) := by decide +kernel
theorem dX8_begins_30 : decode cX8_begins 30 = .ok (.goto 4, 3) := by decide +kernel
theorem dX8_begins_33 : decode cX8_begins 33 = .ok (.lconst 0, 1) := by decide +kernel
theorem dX8_begins_34 : decode cX8_begins 34 = .ok (.lastore, 1) := by decide +kernel
theorem dX8_begins_35 : decode cX8_begins 35 = .ok (.iinc 1 1, 3) := by decide +kernel
theorem dX8_begins_38 : decode cX8_begins 38 = .ok (.goto (-36), 3) := by decide +kernel
theorem dX8_begins_41 : decode cX8_begins 41 = .ok (.aload_n 0, 1) := by decide +kernel
theorem dX8_begins_42 : decode cX8_begins 42 = .ok (.getfield 13, 3) := by decide +kernel
theorem dX8_begins_45 : decode cX8_begins 45 = .ok (.iconst 1, 1) := by decide +kernel
theorem dX8_begins_46 : decode cX8_begins 46 = .ok (.ldc2_w 39, 3) := by decide +kernel
theorem dX8_begins_49 : decode cX8_begins 49 = .ok (.lastore, 1) := by decide +kernel
theorem dX8_begins_50 : decode cX8_begins 50 = .ok (.aload_n 0, 1) := by decide +kernel
theorem dX8_begins_51 : decode cX8_begins 51 = .ok (.getfield 13, 3) := by decide +kernel
theorem dX8_begins_54 : decode cX8_begins 54 = .ok (.iconst 2, 1) := by decide +kernel
theorem dX8_begins_55 : decode cX8_begins 55 = .ok (.lconst 1, 1) := by decide +kernel
theorem dX8_begins_56 : decode cX8_begins 56 = .ok (.lastore, 1) := by decide +kernel
theorem dX8_begins_57 : decode cX8_begins 57 = .ok (.aload_n 0, 1) := by decide +kernel
theorem dX8_begins_58 : decode cX8_begins 58 = .ok (.getfield 13, 3) := by decide +kernel
theorem dX8_begins_61 : decode cX8_begins 61 = .ok (.sipush 149, 3) := by decide +kernel
theorem dX8_begins_64 : decode cX8_begins 64 = .ok (.ldc2_w 41, 3) := by decide +kernel
theorem dX8_begins_67 : decode cX8_begins 67 = .ok (.lastore, 1) := by decide +kernel
theorem dX8_begins_68 : decode cX8_begins 68 = .ok (.return_, 1) := by decide +kernel
theorem dX8_keeps_0 : decode cX8_keeps 0 = .ok (.aload_n 0, 1) := by decide +kernel
theorem dX8_keeps_1 : decode cX8_keeps 1 = .ok (.getfield 46, 3) := by decide +kernel
theorem dX8_keeps_4 : decode cX8_keeps 4 = .ok (.bipush 8, 2) := by decide +kernel
theorem dX8_keeps_6 : decode cX8_keeps 6 = .ok (.if_icmp .ne 44, 3) := by decide +kernel
theorem dX8_keeps_9 : decode cX8_keeps 9 = .ok (.iconst 0, 1) := by decide +kernel
theorem dX8_keeps_10 : decode cX8_keeps 10 = .ok (.istore_n 1, 1) := by decide +kernel
theorem dX8_keeps_11 : decode cX8_keeps 11 = .ok (.iload_n 1, 1) := by decide +kernel
theorem dX8_keeps_12 : decode cX8_keeps 12 = .ok (.sipush 2499, 3) := by decide +kernel
theorem dX8_keeps_15 : decode cX8_keeps 15 = .ok (.if_icmp .ge 25, 3) := by decide +kernel
theorem dX8_keeps_18 : decode cX8_keeps 18 = .ok (.aload_n 0, 1) := by decide +kernel
theorem dX8_keeps_19 : decode cX8_keeps 19 = .ok (.getfield 16, 3) := by decide +kernel
theorem dX8_keeps_22 : decode cX8_keeps 22 = .ok (.iload_n 1, 1) := by decide +kernel
theorem dX8_keeps_23 : decode cX8_keeps 23 = .ok (.aload_n 0, 1) := by decide +kernel
theorem dX8_keeps_24 : decode cX8_keeps 24 = .ok (.getfield 16, 3) := by decide +kernel
theorem dX8_keeps_27 : decode cX8_keeps 27 = .ok (.iload_n 1, 1) := by decide +kernel
theorem dX8_keeps_28 : decode cX8_keeps 28 = .ok (.sipush 357, 3) := by decide +kernel
theorem dX8_keeps_31 : decode cX8_keeps 31 = .ok (.iadd, 1) := by decide +kernel
theorem dX8_keeps_32 : decode cX8_keeps 32 = .ok (.laload, 1) := by decide +kernel
theorem dX8_keeps_33 : decode cX8_keeps 33 = .ok (.lastore, 1) := by decide +kernel
theorem dX8_keeps_34 : decode cX8_keeps 34 = .ok (.iinc 1 1, 3) := by decide +kernel
theorem dX8_keeps_37 : decode cX8_keeps 37 = .ok (.goto (-26), 3) := by decide +kernel
theorem dX8_keeps_40 : decode cX8_keeps 40 = .ok (.aload_n 0, 1) := by decide +kernel
theorem dX8_keeps_41 : decode cX8_keeps 41 = .ok (.dup, 1) := by decide +kernel
theorem dX8_keeps_42 : decode cX8_keeps 42 = .ok (.getfield 46, 3) := by decide +kernel
theorem dX8_keeps_45 : decode cX8_keeps 45 = .ok (.iconst 1, 1) := by decide +kernel
theorem dX8_keeps_46 : decode cX8_keeps 46 = .ok (.isub, 1) := by decide +kernel
theorem dX8_keeps_47 : decode cX8_keeps 47 = .ok (.putfield 46, 3) := by decide +kernel
theorem dX8_keeps_50 : decode cX8_keeps 50 = .ok (.iconst 0, 1) := by decide +kernel
theorem dX8_keeps_51 : decode cX8_keeps 51 = .ok (.istore_n 1, 1) := by decide +kernel
theorem dX8_keeps_52 : decode cX8_keeps 52 = .ok (.iload_n 1, 1) := by decide +kernel
theorem dX8_keeps_53 : decode cX8_keeps 53 = .ok (.sipush 357, 3) := by decide +kernel
theorem dX8_keeps_56 : decode cX8_keeps 56 = .ok (.if_icmp .ge 30, 3) := by decide +kernel
theorem dX8_keeps_59 : decode cX8_keeps 59 = .ok (.aload_n 0, 1) := by decide +kernel
theorem dX8_keeps_60 : decode cX8_keeps 60 = .ok (.getfield 16, 3) := by decide +kernel
theorem dX8_keeps_63 : decode cX8_keeps 63 = .ok (.sipush 357, 3) := by decide +kernel
theorem dX8_keeps_66 : decode cX8_keeps 66 = .ok (.aload_n 0, 1) := by decide +kernel
theorem dX8_keeps_67 : decode cX8_keeps 67 = .ok (.getfield 46, 3) := by decide +kernel
theorem dX8_keeps_70 : decode cX8_keeps 70 = .ok (.imul, 1) := by decide +kernel
theorem dX8_keeps_71 : decode cX8_keeps 71 = .ok (.iload_n 1, 1) := by decide +kernel
theorem dX8_keeps_72 : decode cX8_keeps 72 = .ok (.iadd, 1) := by decide +kernel
theorem dX8_keeps_73 : decode cX8_keeps 73 = .ok (.aload_n 0, 1) := by decide +kernel
theorem dX8_keeps_74 : decode cX8_keeps 74 = .ok (.getfield 7, 3) := by decide +kernel
theorem dX8_keeps_77 : decode cX8_keeps 77 = .ok (.iload_n 1, 1) := by decide +kernel
theorem dX8_keeps_78 : decode cX8_keeps 78 = .ok (.laload, 1) := by decide +kernel
theorem dX8_keeps_79 : decode cX8_keeps 79 = .ok (.lastore, 1) := by decide +kernel
theorem dX8_keeps_80 : decode cX8_keeps 80 = .ok (.iinc 1 1, 3) := by decide +kernel
theorem dX8_keeps_83 : decode cX8_keeps 83 = .ok (.goto (-31), 3) := by decide +kernel
theorem dX8_keeps_86 : decode cX8_keeps 86 = .ok (.aload_n 0, 1) := by decide +kernel
theorem dX8_keeps_87 : decode cX8_keeps 87 = .ok (.dup, 1) := by decide +kernel
theorem dX8_keeps_88 : decode cX8_keeps 88 = .ok (.getfield 46, 3) := by decide +kernel
theorem dX8_keeps_91 : decode cX8_keeps 91 = .ok (.iconst 1, 1) := by decide +kernel
theorem dX8_keeps_92 : decode cX8_keeps 92 = .ok (.iadd, 1) := by decide +kernel
theorem dX8_keeps_93 : decode cX8_keeps 93 = .ok (.putfield 46, 3) := by decide +kernel
theorem dX8_keeps_96 : decode cX8_keeps 96 = .ok (.return_, 1) := by decide +kernel
theorem dX8_addsFolder_0 : decode cX8_addsFolder 0 = .ok (.aload_n 0, 1) := by decide +kernel
theorem dX8_addsFolder_1 : decode cX8_addsFolder 1 = .ok (.iconst 2, 1) := by decide +kernel
theorem dX8_addsFolder_2 : decode cX8_addsFolder 2 = .ok (.laload, 1) := by decide +kernel
theorem dX8_addsFolder_3 : decode cX8_addsFolder 3 = .ok (.l2i, 1) := by decide +kernel
theorem dX8_addsFolder_4 : decode cX8_addsFolder 4 = .ok (.istore 4, 2) := by decide +kernel
theorem dX8_addsFolder_6 : decode cX8_addsFolder 6 = .ok (.aload_n 0, 1) := by decide +kernel
theorem dX8_addsFolder_7 : decode cX8_addsFolder 7 = .ok (.bipush 69, 2) := by decide +kernel
theorem dX8_addsFolder_9 : decode cX8_addsFolder 9 = .ok (.iload 4, 2) := by decide +kernel
theorem dX8_addsFolder_11 : decode cX8_addsFolder 11 = .ok (.iadd, 1) := by decide +kernel
theorem dX8_addsFolder_12 : decode cX8_addsFolder 12 = .ok (.iload_n 1, 1) := by decide +kernel
theorem dX8_addsFolder_13 : decode cX8_addsFolder 13 = .ok (.i2l, 1) := by decide +kernel
theorem dX8_addsFolder_14 : decode cX8_addsFolder 14 = .ok (.lastore, 1) := by decide +kernel
theorem dX8_addsFolder_15 : decode cX8_addsFolder 15 = .ok (.aload_n 0, 1) := by decide +kernel
theorem dX8_addsFolder_16 : decode cX8_addsFolder 16 = .ok (.bipush 109, 2) := by decide +kernel
theorem dX8_addsFolder_18 : decode cX8_addsFolder 18 = .ok (.iload 4, 2) := by decide +kernel
theorem dX8_addsFolder_20 : decode cX8_addsFolder 20 = .ok (.iadd, 1) := by decide +kernel
theorem dX8_addsFolder_21 : decode cX8_addsFolder 21 = .ok (.ldc2_w 37, 3) := by decide +kernel
theorem dX8_addsFolder_24 : decode cX8_addsFolder 24 = .ok (.lastore, 1) := by decide +kernel
theorem dX8_addsFolder_25 : decode cX8_addsFolder 25 = .ok (.aload_n 0, 1) := by decide +kernel
theorem dX8_addsFolder_26 : decode cX8_addsFolder 26 = .ok (.sipush 149, 3) := by decide +kernel
theorem dX8_addsFolder_29 : decode cX8_addsFolder 29 = .ok (.iload 4, 2) := by decide +kernel
theorem dX8_addsFolder_31 : decode cX8_addsFolder 31 = .ok (.iadd, 1) := by decide +kernel
theorem dX8_addsFolder_32 : decode cX8_addsFolder 32 = .ok (.lload_n 2, 1) := by decide +kernel
theorem dX8_addsFolder_33 : decode cX8_addsFolder 33 = .ok (.lastore, 1) := by decide +kernel
theorem dX8_addsFolder_34 : decode cX8_addsFolder 34 = .ok (.aload_n 0, 1) := by decide +kernel
theorem dX8_addsFolder_35 : decode cX8_addsFolder 35 = .ok (.iconst 2, 1) := by decide +kernel
theorem dX8_addsFolder_36 : decode cX8_addsFolder 36 = .ok (.dup2, 1) := by decide +kernel
theorem dX8_addsFolder_37 : decode cX8_addsFolder 37 = .ok (.laload, 1) := by decide +kernel
theorem dX8_addsFolder_38 : decode cX8_addsFolder 38 = .ok (.lconst 1, 1) := by decide +kernel
theorem dX8_addsFolder_39 : decode cX8_addsFolder 39 = .ok (.ladd, 1) := by decide +kernel
theorem dX8_addsFolder_40 : decode cX8_addsFolder 40 = .ok (.lastore, 1) := by decide +kernel
theorem dX8_addsFolder_41 : decode cX8_addsFolder 41 = .ok (.return_, 1) := by decide +kernel
theorem dX8_addsFile_0 : decode cX8_addsFile 0 = .ok (.aload_n 0, 1) := by decide +kernel
theorem dX8_addsFile_1 : decode cX8_addsFile 1 = .ok (.sipush 189, 3) := by decide +kernel
theorem dX8_addsFile_4 : decode cX8_addsFile 4 = .ok (.aload_n 0, 1) := by decide +kernel
theorem dX8_addsFile_5 : decode cX8_addsFile 5 = .ok (.iconst 3, 1) := by decide +kernel
theorem dX8_addsFile_6 : decode cX8_addsFile 6 = .ok (.laload, 1) := by decide +kernel
theorem dX8_addsFile_7 : decode cX8_addsFile 7 = .ok (.l2i, 1) := by decide +kernel
theorem dX8_addsFile_8 : decode cX8_addsFile 8 = .ok (.iadd, 1) := by decide +kernel
theorem dX8_addsFile_9 : decode cX8_addsFile 9 = .ok (.iload_n 1, 1) := by decide +kernel
theorem dX8_addsFile_10 : decode cX8_addsFile 10 = .ok (.i2l, 1) := by decide +kernel
theorem dX8_addsFile_11 : decode cX8_addsFile 11 = .ok (.lastore, 1) := by decide +kernel
theorem dX8_addsFile_12 : decode cX8_addsFile 12 = .ok (.aload_n 0, 1) := by decide +kernel
theorem dX8_addsFile_13 : decode cX8_addsFile 13 = .ok (.sipush 249, 3) := by decide +kernel
theorem dX8_addsFile_16 : decode cX8_addsFile 16 = .ok (.aload_n 0, 1) := by decide +kernel
theorem dX8_addsFile_17 : decode cX8_addsFile 17 = .ok (.iconst 3, 1) := by decide +kernel
theorem dX8_addsFile_18 : decode cX8_addsFile 18 = .ok (.laload, 1) := by decide +kernel
theorem dX8_addsFile_19 : decode cX8_addsFile 19 = .ok (.l2i, 1) := by decide +kernel
theorem dX8_addsFile_20 : decode cX8_addsFile 20 = .ok (.iadd, 1) := by decide +kernel
theorem dX8_addsFile_21 : decode cX8_addsFile 21 = .ok (.iload_n 2, 1) := by decide +kernel
theorem dX8_addsFile_22 : decode cX8_addsFile 22 = .ok (.i2l, 1) := by decide +kernel
theorem dX8_addsFile_23 : decode cX8_addsFile 23 = .ok (.lastore, 1) := by decide +kernel
theorem dX8_addsFile_24 : decode cX8_addsFile 24 = .ok (.aload_n 0, 1) := by decide +kernel
theorem dX8_addsFile_25 : decode cX8_addsFile 25 = .ok (.iconst 3, 1) := by decide +kernel
theorem dX8_addsFile_26 : decode cX8_addsFile 26 = .ok (.dup2, 1) := by decide +kernel
theorem dX8_addsFile_27 : decode cX8_addsFile 27 = .ok (.laload, 1) := by decide +kernel
theorem dX8_addsFile_28 : decode cX8_addsFile 28 = .ok (.lconst 1, 1) := by decide +kernel
theorem dX8_addsFile_29 : decode cX8_addsFile 29 = .ok (.ladd, 1) := by decide +kernel
theorem dX8_addsFile_30 : decode cX8_addsFile 30 = .ok (.lastore, 1) := by decide +kernel
theorem dX8_addsFile_31 : decode cX8_addsFile 31 = .ok (.return_, 1) := by decide +kernel
set_option maxRecDepth 20000 in
theorem ggX8_childBehind_X8_parentOf : GoodIn wsX8_childBehind wsX8_parentOf := goodIn_r _ [6, 1, 7, 8, 9, 10, 11, 12, 13, 14, 15, 16, 17, 18, 19, 20, 21, 22, 23, 24] (by decide +kernel) (by decide +kernel)
set_option maxRecDepth 20000 in
theorem gX8_childBehind_X8_parentOf : GoodIn wsX8_childBehind (wsV RX8 194 RX8 yX8_parentOf wsX8_parentOf) := goodIn_app (goodIn_of _ (by decide +kernel)) ggX8_childBehind_X8_parentOf
theorem dX8_childBehind_0 : decode cX8_childBehind 0 = .ok (.iload_n 2, 1) := by decide +kernel
theorem dX8_childBehind_1 : decode cX8_childBehind 1 = .ok (.iconst 1, 1) := by decide +kernel
theorem dX8_childBehind_2 : decode cX8_childBehind 2 = .ok (.iadd, 1) := by decide +kernel
theorem dX8_childBehind_3 : decode cX8_childBehind 3 = .ok (.istore_n 3, 1) := by decide +kernel
theorem dX8_childBehind_4 : decode cX8_childBehind 4 = .ok (.iload_n 3, 1) := by decide +kernel
theorem dX8_childBehind_5 : decode cX8_childBehind 5 = .ok (.i2l, 1) := by decide +kernel
theorem dX8_childBehind_6 : decode cX8_childBehind 6 = .ok (.aload_n 0, 1) := by decide +kernel
theorem dX8_childBehind_7 : decode cX8_childBehind 7 = .ok (.getfield 7, 3) := by decide +kernel
theorem dX8_childBehind_10 : decode cX8_childBehind 10 = .ok (.iconst 2, 1) := by decide +kernel
theorem dX8_childBehind_11 : decode cX8_childBehind 11 = .ok (.laload, 1) := by decide +kernel
theorem dX8_childBehind_12 : decode cX8_childBehind 12 = .ok (.lcmp, 1) := by decide +kernel
theorem dX8_childBehind_13 : decode cX8_childBehind 13 = .ok (.ifCond .ge 20, 3) := by decide +kernel
theorem dX8_childBehind_16 : decode cX8_childBehind 16 = .ok (.aload_n 0, 1) := by decide +kernel
theorem dX8_childBehind_17 : decode cX8_childBehind 17 = .ok (.iload_n 3, 1) := by decide +kernel
theorem dX8_childBehind_18 : decode cX8_childBehind 18 = .ok (.invokevirtual 194, 3) := by decide +kernel
theorem dX8_childBehind_21 : decode cX8_childBehind 21 = .ok (.iload_n 1, 1) := by decide +kernel
theorem dX8_childBehind_22 : decode cX8_childBehind 22 = .ok (.if_icmp .ne 5, 3) := by decide +kernel
theorem dX8_childBehind_25 : decode cX8_childBehind 25 = .ok (.iload_n 3, 1) := by decide +kernel
theorem dX8_childBehind_26 : decode cX8_childBehind 26 = .ok (.ireturn, 1) := by decide +kernel
theorem dX8_childBehind_27 : decode cX8_childBehind 27 = .ok (.iinc 3 1, 3) := by decide +kernel
theorem dX8_childBehind_30 : decode cX8_childBehind 30 = .ok (.goto (-26), 3) := by decide +kernel
theorem dX8_childBehind_33 : decode cX8_childBehind 33 = .ok (.iconst (-1), 1) := by decide +kernel
theorem dX8_childBehind_34 : decode cX8_childBehind 34 = .ok (.ireturn, 1) := by decide +kernel
theorem dX8_closesUp_0 : decode cX8_closesUp 0 = .ok (.iload_n 2, 1) := by decide +kernel
theorem dX8_closesUp_1 : decode cX8_closesUp 1 = .ok (.istore 4, 2) := by decide +kernel
theorem dX8_closesUp_3 : decode cX8_closesUp 3 = .ok (.iload 4, 2) := by decide +kernel
theorem dX8_closesUp_5 : decode cX8_closesUp 5 = .ok (.iload_n 3, 1) := by decide +kernel
theorem dX8_closesUp_6 : decode cX8_closesUp 6 = .ok (.if_icmp .ge 29, 3) := by decide +kernel
theorem dX8_closesUp_9 : decode cX8_closesUp 9 = .ok (.aload_n 0, 1) := by decide +kernel
theorem dX8_closesUp_10 : decode cX8_closesUp 10 = .ok (.getfield 7, 3) := by decide +kernel
theorem dX8_closesUp_13 : decode cX8_closesUp 13 = .ok (.iload_n 1, 1) := by decide +kernel
theorem dX8_closesUp_14 : decode cX8_closesUp 14 = .ok (.iload 4, 2) := by decide +kernel
theorem dX8_closesUp_16 : decode cX8_closesUp 16 = .ok (.iadd, 1) := by decide +kernel
theorem dX8_closesUp_17 : decode cX8_closesUp 17 = .ok (.aload_n 0, 1) := by decide +kernel
theorem dX8_closesUp_18 : decode cX8_closesUp 18 = .ok (.getfield 7, 3) := by decide +kernel
theorem dX8_closesUp_21 : decode cX8_closesUp 21 = .ok (.iload_n 1, 1) := by decide +kernel
theorem dX8_closesUp_22 : decode cX8_closesUp 22 = .ok (.iload 4, 2) := by decide +kernel
theorem dX8_closesUp_24 : decode cX8_closesUp 24 = .ok (.iadd, 1) := by decide +kernel
theorem dX8_closesUp_25 : decode cX8_closesUp 25 = .ok (.iconst 1, 1) := by decide +kernel
theorem dX8_closesUp_26 : decode cX8_closesUp 26 = .ok (.iadd, 1) := by decide +kernel
theorem dX8_closesUp_27 : decode cX8_closesUp 27 = .ok (.laload, 1) := by decide +kernel
theorem dX8_closesUp_28 : decode cX8_closesUp 28 = .ok (.lastore, 1) := by decide +kernel
theorem dX8_closesUp_29 : decode cX8_closesUp 29 = .ok (.iinc 4 1, 3) := by decide +kernel
theorem dX8_closesUp_32 : decode cX8_closesUp 32 = .ok (.goto (-29), 3) := by decide +kernel
theorem dX8_closesUp_35 : decode cX8_closesUp 35 = .ok (.return_, 1) := by decide +kernel
set_option maxRecDepth 20000 in
theorem ggX8_setsClocks_X8_limitOf : GoodIn wsX8_setsClocks wsX8_limitOf := goodIn_r _ [7, 2, 1, 8, 9, 6, 10, 11, 12, 13, 14, 15, 16, 17, 18, 19, 20, 21, 22, 23, 24, 25, 26, 27, 28, 29, 30, 31, 32, 33, 34, 35] (by decide +kernel) (by decide +kernel)
set_option maxRecDepth 20000 in
theorem gX8_setsClocks_X8_limitOf : GoodIn wsX8_setsClocks (wsV RX8 266 RX8 yX8_limitOf wsX8_limitOf) := goodIn_app (goodIn_of _ (by decide +kernel)) ggX8_setsClocks_X8_limitOf
theorem dX8_setsClocks_0 : decode cX8_setsClocks 0 = .ok (.iconst 0, 1) := by decide +kernel
theorem dX8_setsClocks_1 : decode cX8_setsClocks 1 = .ok (.istore_n 1, 1) := by decide +kernel
theorem dX8_setsClocks_2 : decode cX8_setsClocks 2 = .ok (.iload_n 1, 1) := by decide +kernel
theorem dX8_setsClocks_3 : decode cX8_setsClocks 3 = .ok (.bipush 16, 2) := by decide +kernel
theorem dX8_setsClocks_5 : decode cX8_setsClocks 5 = .ok (.if_icmp .ge 104, 3) := by decide +kernel
theorem dX8_setsClocks_8 : decode cX8_setsClocks 8 = .ok (.aload_n 0, 1) := by decide +kernel
theorem dX8_setsClocks_9 : decode cX8_setsClocks 9 = .ok (.iload_n 1, 1) := by decide +kernel
theorem dX8_setsClocks_10 : decode cX8_setsClocks 10 = .ok (.iconst 2, 1) := by decide +kernel
theorem dX8_setsClocks_11 : decode cX8_setsClocks 11 = .ok (.idiv, 1) := by decide +kernel
theorem dX8_setsClocks_12 : decode cX8_setsClocks 12 = .ok (.iload_n 1, 1) := by decide +kernel
theorem dX8_setsClocks_13 : decode cX8_setsClocks 13 = .ok (.iconst 2, 1) := by decide +kernel
theorem dX8_setsClocks_14 : decode cX8_setsClocks 14 = .ok (.irem, 1) := by decide +kernel
theorem dX8_setsClocks_15 : decode cX8_setsClocks 15 = .ok (.iconst 0, 1) := by decide +kernel
theorem dX8_setsClocks_16 : decode cX8_setsClocks 16 = .ok (.invokevirtual 266, 3) := by decide +kernel
theorem dX8_setsClocks_19 : decode cX8_setsClocks 19 = .ok (.lstore_n 2, 1) := by decide +kernel
theorem dX8_setsClocks_20 : decode cX8_setsClocks 20 = .ok (.lload_n 2, 1) := by decide +kernel
theorem dX8_setsClocks_21 : decode cX8_setsClocks 21 = .ok (.ldc2_w 37, 3) := by decide +kernel
theorem dX8_setsClocks_24 : decode cX8_setsClocks 24 = .ok (.lcmp, 1) := by decide +kernel
theorem dX8_setsClocks_25 : decode cX8_setsClocks 25 = .ok (.ifCond .eq 21, 3) := by decide +kernel
theorem dX8_setsClocks_28 : decode cX8_setsClocks 28 = .ok (.aload_n 0, 1) := by decide +kernel
theorem dX8_setsClocks_29 : decode cX8_setsClocks 29 = .ok (.getfield 7, 3) := by decide +kernel
theorem dX8_setsClocks_32 : decode cX8_setsClocks 32 = .ok (.bipush 37, 2) := by decide +kernel
theorem dX8_setsClocks_34 : decode cX8_setsClocks 34 = .ok (.iload_n 1, 1) := by decide +kernel
theorem dX8_setsClocks_35 : decode cX8_setsClocks 35 = .ok (.iadd, 1) := by decide +kernel
theorem dX8_setsClocks_36 : decode cX8_setsClocks 36 = .ok (.laload, 1) := by decide +kernel
theorem dX8_setsClocks_37 : decode cX8_setsClocks 37 = .ok (.lload_n 2, 1) := by decide +kernel
theorem dX8_setsClocks_38 : decode cX8_setsClocks 38 = .ok (.lcmp, 1) := by decide +kernel
theorem dX8_setsClocks_39 : decode cX8_setsClocks 39 = .ok (.ifCond .le 7, 3) := by decide +kernel
theorem dX8_setsClocks_42 : decode cX8_setsClocks 42 = .ok (.iconst 1, 1) := by decide +kernel
theorem dX8_setsClocks_43 : decode cX8_setsClocks 43 = .ok (.goto 4, 3) := by decide +kernel
theorem dX8_setsClocks_46 : decode cX8_setsClocks 46 = .ok (.iconst 0, 1) := by decide +kernel
theorem dX8_setsClocks_47 : decode cX8_setsClocks 47 = .ok (.istore 4, 2) := by decide +kernel
theorem dX8_setsClocks_49 : decode cX8_setsClocks 49 = .ok (.aload_n 0, 1) := by decide +kernel
theorem dX8_setsClocks_50 : decode cX8_setsClocks 50 = .ok (.getfield 7, 3) := by decide +kernel
theorem dX8_setsClocks_53 : decode cX8_setsClocks 53 = .ok (.bipush 53, 2) := by decide +kernel
theorem dX8_setsClocks_55 : decode cX8_setsClocks 55 = .ok (.iload_n 1, 1) := by decide +kernel
theorem dX8_setsClocks_56 : decode cX8_setsClocks 56 = .ok (.iadd, 1) := by decide +kernel
theorem dX8_setsClocks_57 : decode cX8_setsClocks 57 = .ok (.iload 4, 2) := by decide +kernel
theorem dX8_setsClocks_59 : decode cX8_setsClocks 59 = .ok (.ifCond .ne 9, 3) := by decide +kernel
theorem dX8_setsClocks_62 : decode cX8_setsClocks 62 = .ok (.ldc2_w 37, 3) := by decide +kernel
theorem dX8_setsClocks_65 : decode cX8_setsClocks 65 = .ok (.goto 37, 3) := by decide +kernel
theorem dX8_setsClocks_68 : decode cX8_setsClocks 68 = .ok (.aload_n 0, 1) := by decide +kernel
theorem dX8_setsClocks_69 : decode cX8_setsClocks 69 = .ok (.getfield 7, 3) := by decide +kernel
theorem dX8_setsClocks_72 : decode cX8_setsClocks 72 = .ok (.bipush 53, 2) := by decide +kernel
theorem dX8_setsClocks_74 : decode cX8_setsClocks 74 = .ok (.iload_n 1, 1) := by decide +kernel
theorem dX8_setsClocks_75 : decode cX8_setsClocks 75 = .ok (.iadd, 1) := by decide +kernel
theorem dX8_setsClocks_76 : decode cX8_setsClocks 76 = .ok (.laload, 1) := by decide +kernel
theorem dX8_setsClocks_77 : decode cX8_setsClocks 77 = .ok (.ldc2_w 37, 3) := by decide +kernel
theorem dX8_setsClocks_80 : decode cX8_setsClocks 80 = .ok (.lcmp, 1) := by decide +kernel
theorem dX8_setsClocks_81 : decode cX8_setsClocks 81 = .ok (.ifCond .ne 12, 3) := by decide +kernel
theorem dX8_setsClocks_84 : decode cX8_setsClocks 84 = .ok (.aload_n 0, 1) := by decide +kernel
theorem dX8_setsClocks_85 : decode cX8_setsClocks 85 = .ok (.getfield 7, 3) := by decide +kernel
theorem dX8_setsClocks_88 : decode cX8_setsClocks 88 = .ok (.iconst 0, 1) := by decide +kernel
theorem dX8_setsClocks_89 : decode cX8_setsClocks 89 = .ok (.laload, 1) := by decide +kernel
theorem dX8_setsClocks_90 : decode cX8_setsClocks 90 = .ok (.goto 12, 3) := by decide +kernel
theorem dX8_setsClocks_93 : decode cX8_setsClocks 93 = .ok (.aload_n 0, 1) := by decide +kernel
theorem dX8_setsClocks_94 : decode cX8_setsClocks 94 = .ok (.getfield 7, 3) := by decide +kernel
theorem dX8_setsClocks_97 : decode cX8_setsClocks 97 = .ok (.bipush 53, 2) := by decide +kernel
theorem dX8_setsClocks_99 : decode cX8_setsClocks 99 = .ok (.iload_n 1, 1) := by decide +kernel
theorem dX8_setsClocks_100 : decode cX8_setsClocks 100 = .ok (.iadd, 1) := by decide +kernel
theorem dX8_setsClocks_101 : decode cX8_setsClocks 101 = .ok (.laload, 1) := by decide +kernel
theorem dX8_setsClocks_102 : decode cX8_setsClocks 102 = .ok (.lastore, 1) := by decide +kernel
theorem dX8_setsClocks_103 : decode cX8_setsClocks 103 = .ok (.iinc 1 1, 3) := by decide +kernel
theorem dX8_setsClocks_106 : decode cX8_setsClocks 106 = .ok (.goto (-104), 3) := by decide +kernel
theorem dX8_setsClocks_109 : decode cX8_setsClocks 109 = .ok (.return_, 1) := by decide +kernel
set_option maxRecDepth 20000 in
theorem ggX8_counts_X8_place : GoodIn wsX8_counts wsX8_place := goodIn_r _ [5] (by decide +kernel) (by decide +kernel)
set_option maxRecDepth 20000 in
theorem gX8_counts_X8_place : GoodIn wsX8_counts (va_wsS RX8 255 yX8_place wsX8_place) := goodIn_app (goodIn_of _ (by decide +kernel)) ggX8_counts_X8_place
set_option maxRecDepth 20000 in
theorem ggX8_counts_X8_usedOf : GoodIn wsX8_counts wsX8_usedOf := goodIn_r _ [9, 1, 2, 3, 4, 5, 13, 14, 15, 16, 17, 18, 19, 20, 21, 22, 23, 24, 25, 26, 27, 28, 29, 30] (by decide +kernel) (by decide +kernel)
set_option maxRecDepth 20000 in
theorem gX8_counts_X8_usedOf : GoodIn wsX8_counts (wsV RX8 273 RX8 yX8_usedOf wsX8_usedOf) := goodIn_app (goodIn_of _ (by decide +kernel)) ggX8_counts_X8_usedOf
set_option maxRecDepth 20000 in
theorem ggX8_counts_X8_greater : GoodIn wsX8_counts wsX8_greater := goodIn_r _ [12] (by decide +kernel) (by decide +kernel)
set_option maxRecDepth 20000 in
theorem gX8_counts_X8_greater : GoodIn wsX8_counts (va_wsS RX8 262 yX8_greater wsX8_greater) := goodIn_app (goodIn_of _ (by decide +kernel)) ggX8_counts_X8_greater
theorem dX8_counts_0 : decode cX8_counts 0 = .ok (.iload_n 1, 1) := by decide +kernel
theorem dX8_counts_1 : decode cX8_counts 1 = .ok (.iconst (-1), 1) := by decide +kernel
theorem dX8_counts_2 : decode cX8_counts 2 = .ok (.if_icmp .ne 4, 3) := by decide +kernel
theorem dX8_counts_5 : decode cX8_counts 5 = .ok (.return_, 1) := by decide +kernel
theorem dX8_counts_6 : decode cX8_counts 6 = .ok (.aload_n 0, 1) := by decide +kernel
theorem dX8_counts_7 : decode cX8_counts 7 = .ok (.getfield 7, 3) := by decide +kernel
theorem dX8_counts_10 : decode cX8_counts 10 = .ok (.bipush 37, 2) := by decide +kernel
theorem dX8_counts_12 : decode cX8_counts 12 = .ok (.iload_n 1, 1) := by decide +kernel
theorem dX8_counts_13 : decode cX8_counts 13 = .ok (.iconst 0, 1) := by decide +kernel
theorem dX8_counts_14 : decode cX8_counts 14 = .ok (.invokestatic 255, 3) := by decide +kernel
theorem dX8_counts_17 : decode cX8_counts 17 = .ok (.iadd, 1) := by decide +kernel
theorem dX8_counts_18 : decode cX8_counts 18 = .ok (.lconst 0, 1) := by decide +kernel
theorem dX8_counts_19 : decode cX8_counts 19 = .ok (.aload_n 0, 1) := by decide +kernel
theorem dX8_counts_20 : decode cX8_counts 20 = .ok (.iload_n 1, 1) := by decide +kernel
theorem dX8_counts_21 : decode cX8_counts 21 = .ok (.iconst 0, 1) := by decide +kernel
theorem dX8_counts_22 : decode cX8_counts 22 = .ok (.invokevirtual 273, 3) := by decide +kernel
theorem dX8_counts_25 : decode cX8_counts 25 = .ok (.lload_n 2, 1) := by decide +kernel
theorem dX8_counts_26 : decode cX8_counts 26 = .ok (.ladd, 1) := by decide +kernel
theorem dX8_counts_27 : decode cX8_counts 27 = .ok (.invokestatic 262, 3) := by decide +kernel
theorem dX8_counts_30 : decode cX8_counts 30 = .ok (.lastore, 1) := by decide +kernel
theorem dX8_counts_31 : decode cX8_counts 31 = .ok (.aload_n 0, 1) := by decide +kernel
theorem dX8_counts_32 : decode cX8_counts 32 = .ok (.getfield 7, 3) := by decide +kernel
theorem dX8_counts_35 : decode cX8_counts 35 = .ok (.bipush 37, 2) := by decide +kernel
theorem dX8_counts_37 : decode cX8_counts 37 = .ok (.iload_n 1, 1) := by decide +kernel
theorem dX8_counts_38 : decode cX8_counts 38 = .ok (.iconst 1, 1) := by decide +kernel
theorem dX8_counts_39 : decode cX8_counts 39 = .ok (.invokestatic 255, 3) := by decide +kernel
theorem dX8_counts_42 : decode cX8_counts 42 = .ok (.iadd, 1) := by decide +kernel
theorem dX8_counts_43 : decode cX8_counts 43 = .ok (.lconst 0, 1) := by decide +kernel
theorem dX8_counts_44 : decode cX8_counts 44 = .ok (.aload_n 0, 1) := by decide +kernel
theorem dX8_counts_45 : decode cX8_counts 45 = .ok (.iload_n 1, 1) := by decide +kernel
theorem dX8_counts_46 : decode cX8_counts 46 = .ok (.iconst 1, 1) := by decide +kernel
theorem dX8_counts_47 : decode cX8_counts 47 = .ok (.invokevirtual 273, 3) := by decide +kernel
theorem dX8_counts_50 : decode cX8_counts 50 = .ok (.lload 4, 2) := by decide +kernel
theorem dX8_counts_52 : decode cX8_counts 52 = .ok (.ladd, 1) := by decide +kernel
theorem dX8_counts_53 : decode cX8_counts 53 = .ok (.invokestatic 262, 3) := by decide +kernel
theorem dX8_counts_56 : decode cX8_counts 56 = .ok (.lastore, 1) := by decide +kernel
theorem dX8_counts_57 : decode cX8_counts 57 = .ok (.return_, 1) := by decide +kernel
set_option maxRecDepth 20000 in
theorem ggX8_reasonToPass_X8_openOf : GoodIn wsX8_reasonToPass wsX8_openOf := goodIn_r _ [5, 6, 7, 8, 9, 4, 10, 11, 12, 13, 14, 15, 16, 17, 18, 19, 20, 21, 22, 58, 59, 60, 61, 62, 63, 64, 65, 66, 67, 68, 69, 70, 71, 72, 73, 74, 75] (by decide +kernel) (by decide +kernel)
set_option maxRecDepth 20000 in
theorem gX8_reasonToPass_X8_openOf : GoodIn wsX8_reasonToPass (wsV RX8 237 RX8 yX8_openOf wsX8_openOf) := goodIn_app (goodIn_of _ (by decide +kernel)) ggX8_reasonToPass_X8_openOf
set_option maxRecDepth 20000 in
theorem ggX8_reasonToPass_X8_reasonFor : GoodIn wsX8_reasonToPass wsX8_reasonFor := goodIn_r _ [26, 27, 28, 29, 4, 30, 31, 32, 33, 34, 35, 6, 36, 37, 38, 39, 40, 41, 42, 43, 44, 45, 46, 47, 48, 49, 50, 51, 52, 53, 54, 55, 56, 57, 58, 59, 60, 61, 62, 63, 64, 65, 66, 67, 68, 69, 70, 71, 72, 73, 74, 75] (by decide +kernel) (by decide +kernel)
set_option maxRecDepth 20000 in
theorem gX8_reasonToPass_X8_reasonFor : GoodIn wsX8_reasonToPass (wsV RX8 283 RX8 yX8_reasonFor wsX8_reasonFor) := goodIn_app (goodIn_of _ (by decide +kernel)) ggX8_reasonToPass_X8_reasonFor
theorem dX8_reasonToPass_0 : decode cX8_reasonToPass 0 = .ok (.iload_n 2, 1) := by decide +kernel
theorem dX8_reasonToPass_1 : decode cX8_reasonToPass 1 = .ok (.iload_n 3, 1) := by decide +kernel
theorem dX8_reasonToPass_2 : decode cX8_reasonToPass 2 = .ok (.if_icmp .ne 7, 3) := by decide +kernel
theorem dX8_reasonToPass_5 : decode cX8_reasonToPass 5 = .ok (.iconst 0, 1) := by decide +kernel
theorem dX8_reasonToPass_6 : decode cX8_reasonToPass 6 = .ok (.goto 20, 3) := by decide +kernel
theorem dX8_reasonToPass_9 : decode cX8_reasonToPass 9 = .ok (.aload_n 0, 1) := by decide +kernel
theorem dX8_reasonToPass_10 : decode cX8_reasonToPass 10 = .ok (.iload_n 3, 1) := by decide +kernel
theorem dX8_reasonToPass_11 : decode cX8_reasonToPass 11 = .ok (.aload_n 0, 1) := by decide +kernel
theorem dX8_reasonToPass_12 : decode cX8_reasonToPass 12 = .ok (.iload_n 1, 1) := by decide +kernel
theorem dX8_reasonToPass_13 : decode cX8_reasonToPass 13 = .ok (.iconst 1, 1) := by decide +kernel
theorem dX8_reasonToPass_14 : decode cX8_reasonToPass 14 = .ok (.invokevirtual 237, 3) := by decide +kernel
theorem dX8_reasonToPass_17 : decode cX8_reasonToPass 17 = .ok (.aload_n 0, 1) := by decide +kernel
theorem dX8_reasonToPass_18 : decode cX8_reasonToPass 18 = .ok (.iload_n 1, 1) := by decide +kernel
theorem dX8_reasonToPass_19 : decode cX8_reasonToPass 19 = .ok (.iconst 0, 1) := by decide +kernel
theorem dX8_reasonToPass_20 : decode cX8_reasonToPass 20 = .ok (.invokevirtual 237, 3) := by decide +kernel
theorem dX8_reasonToPass_23 : decode cX8_reasonToPass 23 = .ok (.invokevirtual 283, 3) := by decide +kernel
theorem dX8_reasonToPass_26 : decode cX8_reasonToPass 26 = .ok (.ireturn, 1) := by decide +kernel
set_option maxRecDepth 20000 in
theorem ggX8_passes_X8_openOf : GoodIn wsX8_passes wsX8_openOf := goodIn_r _ [5, 6, 7, 8, 9, 4, 10, 11, 12, 13, 14, 15, 16, 17, 18, 19, 20, 21, 22, 37, 38, 39, 40, 41, 42, 43, 44, 45, 46, 47, 48, 49, 50, 51, 52, 53, 54] (by decide +kernel) (by decide +kernel)
set_option maxRecDepth 20000 in
theorem gX8_passes_X8_openOf : GoodIn wsX8_passes (wsV RX8 237 RX8 yX8_openOf wsX8_openOf) := goodIn_app (goodIn_of _ (by decide +kernel)) ggX8_passes_X8_openOf
set_option maxRecDepth 20000 in
theorem ggX8_passes_X8_counts : GoodIn wsX8_passes wsX8_counts := goodIn_r _ [26, 6, 27, 28, 4, 29, 30, 31, 32, 33, 34, 35, 36, 37, 38, 39, 40, 41, 42, 43, 44, 45, 46, 47, 48, 49, 50, 51, 52, 53, 54] (by decide +kernel) (by decide +kernel)
set_option maxRecDepth 20000 in
theorem gX8_passes_X8_counts : GoodIn wsX8_passes (wsV RX8 287 RX8 yX8_counts wsX8_counts) := goodIn_app (goodIn_of _ (by decide +kernel)) ggX8_passes_X8_counts
theorem dX8_passes_0 : decode cX8_passes 0 = .ok (.iload_n 2, 1) := by decide +kernel
theorem dX8_passes_1 : decode cX8_passes 1 = .ok (.iload_n 3, 1) := by decide +kernel
theorem dX8_passes_2 : decode cX8_passes 2 = .ok (.if_icmp .ne 5, 3) := by decide +kernel
theorem dX8_passes_5 : decode cX8_passes 5 = .ok (.iconst 0, 1) := by decide +kernel
theorem dX8_passes_6 : decode cX8_passes 6 = .ok (.ireturn, 1) := by decide +kernel
theorem dX8_passes_7 : decode cX8_passes 7 = .ok (.aload_n 0, 1) := by decide +kernel
theorem dX8_passes_8 : decode cX8_passes 8 = .ok (.iload_n 1, 1) := by decide +kernel
theorem dX8_passes_9 : decode cX8_passes 9 = .ok (.iconst 1, 1) := by decide +kernel
theorem dX8_passes_10 : decode cX8_passes 10 = .ok (.invokevirtual 237, 3) := by decide +kernel
theorem dX8_passes_13 : decode cX8_passes 13 = .ok (.lstore 4, 2) := by decide +kernel
theorem dX8_passes_15 : decode cX8_passes 15 = .ok (.aload_n 0, 1) := by decide +kernel
theorem dX8_passes_16 : decode cX8_passes 16 = .ok (.iload_n 1, 1) := by decide +kernel
theorem dX8_passes_17 : decode cX8_passes 17 = .ok (.iconst 0, 1) := by decide +kernel
theorem dX8_passes_18 : decode cX8_passes 18 = .ok (.invokevirtual 237, 3) := by decide +kernel
theorem dX8_passes_21 : decode cX8_passes 21 = .ok (.lstore 6, 2) := by decide +kernel
theorem dX8_passes_23 : decode cX8_passes 23 = .ok (.aload_n 0, 1) := by decide +kernel
theorem dX8_passes_24 : decode cX8_passes 24 = .ok (.iload_n 3, 1) := by decide +kernel
theorem dX8_passes_25 : decode cX8_passes 25 = .ok (.lload 4, 2) := by decide +kernel
theorem dX8_passes_27 : decode cX8_passes 27 = .ok (.lload 6, 2) := by decide +kernel
theorem dX8_passes_29 : decode cX8_passes 29 = .ok (.invokevirtual 287, 3) := by decide +kernel
theorem dX8_passes_32 : decode cX8_passes 32 = .ok (.aload_n 0, 1) := by decide +kernel
theorem dX8_passes_33 : decode cX8_passes 33 = .ok (.iload_n 2, 1) := by decide +kernel
theorem dX8_passes_34 : decode cX8_passes 34 = .ok (.lload 4, 2) := by decide +kernel
theorem dX8_passes_36 : decode cX8_passes 36 = .ok (.lneg, 1) := by decide +kernel
theorem dX8_passes_37 : decode cX8_passes 37 = .ok (.lload 6, 2) := by decide +kernel
theorem dX8_passes_39 : decode cX8_passes 39 = .ok (.lneg, 1) := by decide +kernel
theorem dX8_passes_40 : decode cX8_passes 40 = .ok (.invokevirtual 287, 3) := by decide +kernel
theorem dX8_passes_43 : decode cX8_passes 43 = .ok (.lload 6, 2) := by decide +kernel
theorem dX8_passes_45 : decode cX8_passes 45 = .ok (.l2i, 1) := by decide +kernel
theorem dX8_passes_46 : decode cX8_passes 46 = .ok (.ireturn, 1) := by decide +kernel
set_option maxRecDepth 20000 in
theorem ggX8_projectWith_X8_parentOf : GoodIn wsX8_projectWith wsX8_parentOf := goodIn_r _ [5, 6, 15, 16, 17, 18, 19, 20, 21, 22, 23, 24, 25, 26, 27, 28, 29, 30, 31, 32] (by decide +kernel) (by decide +kernel)
set_option maxRecDepth 20000 in
theorem gX8_projectWith_X8_parentOf : GoodIn wsX8_projectWith (wsV RX8 194 RX8 yX8_parentOf wsX8_parentOf) := goodIn_app (goodIn_of _ (by decide +kernel)) ggX8_projectWith_X8_parentOf
set_option maxRecDepth 20000 in
theorem ggX8_projectWith_X8_projectOf : GoodIn wsX8_projectWith wsX8_projectOf := goodIn_r _ [10, 11, 12, 13, 4, 14, 6, 1, 2, 3, 5, 15, 16, 17, 18, 19, 20, 21, 22, 23, 24, 25, 26, 27, 28, 29, 30, 31, 32] (by decide +kernel) (by decide +kernel)
set_option maxRecDepth 20000 in
theorem gX8_projectWith_X8_projectOf : GoodIn wsX8_projectWith (wsV RX8 207 RX8 yX8_projectOf wsX8_projectOf) := goodIn_app (goodIn_of _ (by decide +kernel)) ggX8_projectWith_X8_projectOf
theorem dX8_projectWith_0 : decode cX8_projectWith 0 = .ok (.iload_n 2, 1) := by decide +kernel
theorem dX8_projectWith_1 : decode cX8_projectWith 1 = .ok (.iconst (-1), 1) := by decide +kernel
theorem dX8_projectWith_2 : decode cX8_projectWith 2 = .ok (.if_icmp .ne 7, 3) := by decide +kernel
theorem dX8_projectWith_5 : decode cX8_projectWith 5 = .ok (.iload_n 1, 1) := by decide +kernel
theorem dX8_projectWith_6 : decode cX8_projectWith 6 = .ok (.ifCond .ne 7, 3) := by decide +kernel
theorem dX8_projectWith_9 : decode cX8_projectWith 9 = .ok (.iload_n 2, 1) := by decide +kernel
theorem dX8_projectWith_10 : decode cX8_projectWith 10 = .ok (.goto 12, 3) := by decide +kernel
theorem dX8_projectWith_13 : decode cX8_projectWith 13 = .ok (.aload_n 0, 1) := by decide +kernel
theorem dX8_projectWith_14 : decode cX8_projectWith 14 = .ok (.aload_n 0, 1) := by decide +kernel
theorem dX8_projectWith_15 : decode cX8_projectWith 15 = .ok (.iload_n 1, 1) := by decide +kernel
theorem dX8_projectWith_16 : decode cX8_projectWith 16 = .ok (.invokevirtual 194, 3) := by decide +kernel
theorem dX8_projectWith_19 : decode cX8_projectWith 19 = .ok (.invokevirtual 207, 3) := by decide +kernel
theorem dX8_projectWith_22 : decode cX8_projectWith 22 = .ok (.ireturn, 1) := by decide +kernel
set_option maxRecDepth 20000 in
theorem ggX8_reasonToTag_X8_projectOf : GoodIn wsX8_reasonToTag wsX8_projectOf := goodIn_r _ [5, 6, 7, 8, 4, 9, 10, 11, 12, 13, 14, 70, 71, 72, 73, 74, 75, 76, 77, 78, 79, 80, 81, 82, 83, 84, 85, 86, 87] (by decide +kernel) (by decide +kernel)
set_option maxRecDepth 20000 in
theorem gX8_reasonToTag_X8_projectOf : GoodIn wsX8_reasonToTag (wsV RX8 207 RX8 yX8_projectOf wsX8_projectOf) := goodIn_app (goodIn_of _ (by decide +kernel)) ggX8_reasonToTag_X8_projectOf
set_option maxRecDepth 20000 in
theorem ggX8_reasonToTag_X8_projectWith : GoodIn wsX8_reasonToTag wsX8_projectWith := goodIn_r _ [18, 11, 12, 13, 4, 14, 10, 1, 2, 3, 5, 6, 7, 8, 9, 70, 71, 72, 73, 74, 75, 76, 77, 78, 79, 80, 81, 82, 83, 84, 85, 86, 87] (by decide +kernel) (by decide +kernel)
set_option maxRecDepth 20000 in
theorem gX8_reasonToTag_X8_projectWith : GoodIn wsX8_reasonToTag (wsV RX8 291 RX8 yX8_projectWith wsX8_projectWith) := goodIn_app (goodIn_of _ (by decide +kernel)) ggX8_reasonToTag_X8_projectWith
set_option maxRecDepth 20000 in
theorem ggX8_reasonToTag_X8_reasonToPass : GoodIn wsX8_reasonToTag wsX8_reasonToPass := goodIn_r _ [22, 23, 24, 25, 4, 26, 10, 27, 28, 29, 30, 31, 32, 33, 34, 6, 7, 8, 9, 11, 12, 13, 14, 35, 36, 37, 38, 39, 40, 41, 42, 43, 44, 45, 46, 47, 48, 49, 50, 51, 52, 53, 54, 55, 56, 57, 58, 59, 60, 61, 62, 63, 64, 65, 66, 67, 68, 69, 70, 71, 72, 73, 74, 75, 76, 77, 78, 79, 80, 81, 82, 83, 84, 85, 86, 87] (by decide +kernel) (by decide +kernel)
set_option maxRecDepth 20000 in
theorem gX8_reasonToTag_X8_reasonToPass : GoodIn wsX8_reasonToTag (wsV RX8 294 RX8 yX8_reasonToPass wsX8_reasonToPass) := goodIn_app (goodIn_of _ (by decide +kernel)) ggX8_reasonToTag_X8_reasonToPass
theorem dX8_reasonToTag_0 : decode cX8_reasonToTag 0 = .ok (.aload_n 0, 1) := by decide +kernel
theorem dX8_reasonToTag_1 : decode cX8_reasonToTag 1 = .ok (.iload_n 1, 1) := by decide +kernel
theorem dX8_reasonToTag_2 : decode cX8_reasonToTag 2 = .ok (.aload_n 0, 1) := by decide +kernel
theorem dX8_reasonToTag_3 : decode cX8_reasonToTag 3 = .ok (.iload_n 1, 1) := by decide +kernel
theorem dX8_reasonToTag_4 : decode cX8_reasonToTag 4 = .ok (.invokevirtual 207, 3) := by decide +kernel
theorem dX8_reasonToTag_7 : decode cX8_reasonToTag 7 = .ok (.aload_n 0, 1) := by decide +kernel
theorem dX8_reasonToTag_8 : decode cX8_reasonToTag 8 = .ok (.iload_n 1, 1) := by decide +kernel
theorem dX8_reasonToTag_9 : decode cX8_reasonToTag 9 = .ok (.iload_n 2, 1) := by decide +kernel
theorem dX8_reasonToTag_10 : decode cX8_reasonToTag 10 = .ok (.invokevirtual 291, 3) := by decide +kernel
theorem dX8_reasonToTag_13 : decode cX8_reasonToTag 13 = .ok (.invokevirtual 294, 3) := by decide +kernel
theorem dX8_reasonToTag_16 : decode cX8_reasonToTag 16 = .ok (.ireturn, 1) := by decide +kernel
set_option maxRecDepth 20000 in
theorem ggX8_projectUnder_X8_tagOf : GoodIn wsX8_projectUnder wsX8_tagOf := goodIn_r _ [5, 6, 15, 16, 17, 18, 19, 20, 21, 22, 23, 24, 25, 26, 27, 28, 29, 30, 31, 32] (by decide +kernel) (by decide +kernel)
set_option maxRecDepth 20000 in
theorem gX8_projectUnder_X8_tagOf : GoodIn wsX8_projectUnder (wsV RX8 191 RX8 yX8_tagOf wsX8_tagOf) := goodIn_app (goodIn_of _ (by decide +kernel)) ggX8_projectUnder_X8_tagOf
set_option maxRecDepth 20000 in
theorem ggX8_projectUnder_X8_projectOf : GoodIn wsX8_projectUnder wsX8_projectOf := goodIn_r _ [10, 1, 2, 3, 4, 5, 6, 11, 12, 13, 14, 15, 16, 17, 18, 19, 20, 21, 22, 23, 24, 25, 26, 27, 28, 29, 30, 31, 32] (by decide +kernel) (by decide +kernel)
set_option maxRecDepth 20000 in
theorem gX8_projectUnder_X8_projectOf : GoodIn wsX8_projectUnder (wsV RX8 207 RX8 yX8_projectOf wsX8_projectOf) := goodIn_app (goodIn_of _ (by decide +kernel)) ggX8_projectUnder_X8_projectOf
theorem dX8_projectUnder_0 : decode cX8_projectUnder 0 = .ok (.aload_n 0, 1) := by decide +kernel
theorem dX8_projectUnder_1 : decode cX8_projectUnder 1 = .ok (.iload_n 1, 1) := by decide +kernel
theorem dX8_projectUnder_2 : decode cX8_projectUnder 2 = .ok (.invokevirtual 191, 3) := by decide +kernel
theorem dX8_projectUnder_5 : decode cX8_projectUnder 5 = .ok (.iconst (-1), 1) := by decide +kernel
theorem dX8_projectUnder_6 : decode cX8_projectUnder 6 = .ok (.if_icmp .eq 11, 3) := by decide +kernel
theorem dX8_projectUnder_9 : decode cX8_projectUnder 9 = .ok (.aload_n 0, 1) := by decide +kernel
theorem dX8_projectUnder_10 : decode cX8_projectUnder 10 = .ok (.iload_n 1, 1) := by decide +kernel
theorem dX8_projectUnder_11 : decode cX8_projectUnder 11 = .ok (.invokevirtual 191, 3) := by decide +kernel
theorem dX8_projectUnder_14 : decode cX8_projectUnder 14 = .ok (.goto 8, 3) := by decide +kernel
theorem dX8_projectUnder_17 : decode cX8_projectUnder 17 = .ok (.aload_n 0, 1) := by decide +kernel
theorem dX8_projectUnder_18 : decode cX8_projectUnder 18 = .ok (.iload_n 2, 1) := by decide +kernel
theorem dX8_projectUnder_19 : decode cX8_projectUnder 19 = .ok (.invokevirtual 207, 3) := by decide +kernel
theorem dX8_projectUnder_22 : decode cX8_projectUnder 22 = .ok (.ireturn, 1) := by decide +kernel
set_option maxRecDepth 20000 in
theorem ggX8_reasonToMove_X8_isBelow : GoodIn wsX8_reasonToMove wsX8_isBelow := goodIn_r _ [5, 6, 7, 8, 4, 9, 10, 74, 75, 76, 77, 78, 79, 80, 81, 82, 83, 84, 85, 86, 87, 88, 89, 90, 91] (by decide +kernel) (by decide +kernel)
set_option maxRecDepth 20000 in
theorem gX8_reasonToMove_X8_isBelow : GoodIn wsX8_reasonToMove (wsV RX8 204 RX8 yX8_isBelow wsX8_isBelow) := goodIn_app (goodIn_of _ (by decide +kernel)) ggX8_reasonToMove_X8_isBelow
set_option maxRecDepth 20000 in
theorem ggX8_reasonToMove_X8_projectOf : GoodIn wsX8_reasonToMove wsX8_projectOf := goodIn_r _ [14, 15, 16, 17, 4, 18, 10, 6, 7, 8, 9, 74, 75, 76, 77, 78, 79, 80, 81, 82, 83, 84, 85, 86, 87, 88, 89, 90, 91] (by decide +kernel) (by decide +kernel)
set_option maxRecDepth 20000 in
theorem gX8_reasonToMove_X8_projectOf : GoodIn wsX8_reasonToMove (wsV RX8 207 RX8 yX8_projectOf wsX8_projectOf) := goodIn_app (goodIn_of _ (by decide +kernel)) ggX8_reasonToMove_X8_projectOf
set_option maxRecDepth 20000 in
theorem ggX8_reasonToMove_X8_projectUnder : GoodIn wsX8_reasonToMove wsX8_projectUnder := goodIn_r _ [22, 15, 16, 17, 4, 18, 10, 11, 12, 13, 14, 6, 7, 8, 9, 74, 75, 76, 77, 78, 79, 80, 81, 82, 83, 84, 85, 86, 87, 88, 89, 90, 91] (by decide +kernel) (by decide +kernel)
set_option maxRecDepth 20000 in
theorem gX8_reasonToMove_X8_projectUnder : GoodIn wsX8_reasonToMove (wsV RX8 304 RX8 yX8_projectUnder wsX8_projectUnder) := goodIn_app (goodIn_of _ (by decide +kernel)) ggX8_reasonToMove_X8_projectUnder
set_option maxRecDepth 20000 in
theorem ggX8_reasonToMove_X8_reasonToPass : GoodIn wsX8_reasonToMove wsX8_reasonToPass := goodIn_r _ [26, 27, 28, 29, 4, 30, 10, 31, 32, 33, 34, 35, 36, 37, 38, 15, 16, 17, 18, 6, 7, 8, 9, 39, 40, 41, 42, 43, 44, 45, 46, 47, 48, 49, 50, 51, 52, 53, 54, 55, 56, 57, 58, 59, 60, 61, 62, 63, 64, 65, 66, 67, 68, 69, 70, 71, 72, 73, 74, 75, 76, 77, 78, 79, 80, 81, 82, 83, 84, 85, 86, 87, 88, 89, 90, 91] (by decide +kernel) (by decide +kernel)
set_option maxRecDepth 20000 in
theorem gX8_reasonToMove_X8_reasonToPass : GoodIn wsX8_reasonToMove (wsV RX8 294 RX8 yX8_reasonToPass wsX8_reasonToPass) := goodIn_app (goodIn_of _ (by decide +kernel)) ggX8_reasonToMove_X8_reasonToPass
theorem dX8_reasonToMove_0 : decode cX8_reasonToMove 0 = .ok (.iload_n 1, 1) := by decide +kernel
theorem dX8_reasonToMove_1 : decode cX8_reasonToMove 1 = .ok (.ifCond .eq 12, 3) := by decide +kernel
theorem dX8_reasonToMove_4 : decode cX8_reasonToMove 4 = .ok (.aload_n 0, 1) := by decide +kernel
theorem dX8_reasonToMove_5 : decode cX8_reasonToMove 5 = .ok (.iload_n 2, 1) := by decide +kernel
theorem dX8_reasonToMove_6 : decode cX8_reasonToMove 6 = .ok (.iload_n 1, 1) := by decide +kernel
theorem dX8_reasonToMove_7 : decode cX8_reasonToMove 7 = .ok (.invokevirtual 204, 3) := by decide +kernel
theorem dX8_reasonToMove_10 : decode cX8_reasonToMove 10 = .ok (.ifCond .eq 7, 3) := by decide +kernel
theorem dX8_reasonToMove_13 : decode cX8_reasonToMove 13 = .ok (.iconst 5, 1) := by decide +kernel
theorem dX8_reasonToMove_14 : decode cX8_reasonToMove 14 = .ok (.goto 19, 3) := by decide +kernel
theorem dX8_reasonToMove_17 : decode cX8_reasonToMove 17 = .ok (.aload_n 0, 1) := by decide +kernel
theorem dX8_reasonToMove_18 : decode cX8_reasonToMove 18 = .ok (.iload_n 1, 1) := by decide +kernel
theorem dX8_reasonToMove_19 : decode cX8_reasonToMove 19 = .ok (.aload_n 0, 1) := by decide +kernel
theorem dX8_reasonToMove_20 : decode cX8_reasonToMove 20 = .ok (.iload_n 1, 1) := by decide +kernel
theorem dX8_reasonToMove_21 : decode cX8_reasonToMove 21 = .ok (.invokevirtual 207, 3) := by decide +kernel
theorem dX8_reasonToMove_24 : decode cX8_reasonToMove 24 = .ok (.aload_n 0, 1) := by decide +kernel
theorem dX8_reasonToMove_25 : decode cX8_reasonToMove 25 = .ok (.iload_n 1, 1) := by decide +kernel
theorem dX8_reasonToMove_26 : decode cX8_reasonToMove 26 = .ok (.iload_n 2, 1) := by decide +kernel
theorem dX8_reasonToMove_27 : decode cX8_reasonToMove 27 = .ok (.invokevirtual 304, 3) := by decide +kernel
theorem dX8_reasonToMove_30 : decode cX8_reasonToMove 30 = .ok (.invokevirtual 294, 3) := by decide +kernel
theorem dX8_reasonToMove_33 : decode cX8_reasonToMove 33 = .ok (.ireturn, 1) := by decide +kernel
set_option maxRecDepth 20000 in
theorem ggX8_reasonToCarry_X8_projectOf : GoodIn wsX8_reasonToCarry wsX8_projectOf := goodIn_r _ [6, 7, 8, 9, 5, 10, 1, 11, 12, 13, 14, 54, 55, 56, 57, 58, 59, 60, 61, 62, 63, 64, 65, 66, 67, 68, 69, 70, 71] (by decide +kernel) (by decide +kernel)
set_option maxRecDepth 20000 in
theorem gX8_reasonToCarry_X8_projectOf : GoodIn wsX8_reasonToCarry (wsV RX8 207 RX8 yX8_projectOf wsX8_projectOf) := goodIn_app (goodIn_of _ (by decide +kernel)) ggX8_reasonToCarry_X8_projectOf
set_option maxRecDepth 20000 in
theorem ggX8_reasonToCarry_X8_folderOf : GoodIn wsX8_reasonToCarry wsX8_folderOf := goodIn_r _ [18, 1, 54, 55, 56, 57, 58, 59, 60, 61, 62, 63, 64, 65, 66, 67, 68, 69, 70, 71] (by decide +kernel) (by decide +kernel)
set_option maxRecDepth 20000 in
theorem gX8_reasonToCarry_X8_folderOf : GoodIn wsX8_reasonToCarry (wsV RX8 197 RX8 yX8_folderOf wsX8_folderOf) := goodIn_app (goodIn_of _ (by decide +kernel)) ggX8_reasonToCarry_X8_folderOf
set_option maxRecDepth 20000 in
theorem ggX8_reasonToCarry_X8_reasonFor : GoodIn wsX8_reasonToCarry wsX8_reasonFor := goodIn_r _ [22, 23, 24, 25, 5, 26, 27, 28, 29, 30, 31, 1, 32, 33, 34, 35, 36, 37, 38, 39, 40, 41, 42, 43, 44, 45, 46, 47, 48, 49, 50, 51, 52, 53, 54, 55, 56, 57, 58, 59, 60, 61, 62, 63, 64, 65, 66, 67, 68, 69, 70, 71] (by decide +kernel) (by decide +kernel)
set_option maxRecDepth 20000 in
theorem gX8_reasonToCarry_X8_reasonFor : GoodIn wsX8_reasonToCarry (wsV RX8 283 RX8 yX8_reasonFor wsX8_reasonFor) := goodIn_app (goodIn_of _ (by decide +kernel)) ggX8_reasonToCarry_X8_reasonFor
theorem dX8_reasonToCarry_0 : decode cX8_reasonToCarry 0 = .ok (.aload_n 0, 1) := by decide +kernel
theorem dX8_reasonToCarry_1 : decode cX8_reasonToCarry 1 = .ok (.iload_n 2, 1) := by decide +kernel
theorem dX8_reasonToCarry_2 : decode cX8_reasonToCarry 2 = .ok (.invokevirtual 207, 3) := by decide +kernel
theorem dX8_reasonToCarry_5 : decode cX8_reasonToCarry 5 = .ok (.istore_n 3, 1) := by decide +kernel
theorem dX8_reasonToCarry_6 : decode cX8_reasonToCarry 6 = .ok (.iload_n 3, 1) := by decide +kernel
theorem dX8_reasonToCarry_7 : decode cX8_reasonToCarry 7 = .ok (.aload_n 0, 1) := by decide +kernel
theorem dX8_reasonToCarry_8 : decode cX8_reasonToCarry 8 = .ok (.aload_n 0, 1) := by decide +kernel
theorem dX8_reasonToCarry_9 : decode cX8_reasonToCarry 9 = .ok (.iload_n 1, 1) := by decide +kernel
theorem dX8_reasonToCarry_10 : decode cX8_reasonToCarry 10 = .ok (.invokevirtual 197, 3) := by decide +kernel
theorem dX8_reasonToCarry_13 : decode cX8_reasonToCarry 13 = .ok (.invokevirtual 207, 3) := by decide +kernel
theorem dX8_reasonToCarry_16 : decode cX8_reasonToCarry 16 = .ok (.if_icmp .ne 7, 3) := by decide +kernel
theorem dX8_reasonToCarry_19 : decode cX8_reasonToCarry 19 = .ok (.iconst 0, 1) := by decide +kernel
theorem dX8_reasonToCarry_20 : decode cX8_reasonToCarry 20 = .ok (.goto 19, 3) := by decide +kernel
theorem dX8_reasonToCarry_23 : decode cX8_reasonToCarry 23 = .ok (.aload_n 0, 1) := by decide +kernel
theorem dX8_reasonToCarry_24 : decode cX8_reasonToCarry 24 = .ok (.iload_n 3, 1) := by decide +kernel
theorem dX8_reasonToCarry_25 : decode cX8_reasonToCarry 25 = .ok (.aload_n 0, 1) := by decide +kernel
theorem dX8_reasonToCarry_26 : decode cX8_reasonToCarry 26 = .ok (.getfield 7, 3) := by decide +kernel
theorem dX8_reasonToCarry_29 : decode cX8_reasonToCarry 29 = .ok (.sipush 249, 3) := by decide +kernel
theorem dX8_reasonToCarry_32 : decode cX8_reasonToCarry 32 = .ok (.iload_n 1, 1) := by decide +kernel
theorem dX8_reasonToCarry_33 : decode cX8_reasonToCarry 33 = .ok (.iadd, 1) := by decide +kernel
theorem dX8_reasonToCarry_34 : decode cX8_reasonToCarry 34 = .ok (.laload, 1) := by decide +kernel
theorem dX8_reasonToCarry_35 : decode cX8_reasonToCarry 35 = .ok (.lconst 1, 1) := by decide +kernel
theorem dX8_reasonToCarry_36 : decode cX8_reasonToCarry 36 = .ok (.invokevirtual 283, 3) := by decide +kernel
theorem dX8_reasonToCarry_39 : decode cX8_reasonToCarry 39 = .ok (.ireturn, 1) := by decide +kernel
theorem dX8_hasGift_0 : decode cX8_hasGift 0 = .ok (.iconst 0, 1) := by decide +kernel
theorem dX8_hasGift_1 : decode cX8_hasGift 1 = .ok (.istore_n 2, 1) := by decide +kernel
theorem dX8_hasGift_2 : decode cX8_hasGift 2 = .ok (.iconst 0, 1) := by decide +kernel
theorem dX8_hasGift_3 : decode cX8_hasGift 3 = .ok (.istore_n 3, 1) := by decide +kernel
theorem dX8_hasGift_4 : decode cX8_hasGift 4 = .ok (.iload_n 3, 1) := by decide +kernel
theorem dX8_hasGift_5 : decode cX8_hasGift 5 = .ok (.i2l, 1) := by decide +kernel
theorem dX8_hasGift_6 : decode cX8_hasGift 6 = .ok (.aload_n 0, 1) := by decide +kernel
theorem dX8_hasGift_7 : decode cX8_hasGift 7 = .ok (.getfield 7, 3) := by decide +kernel
theorem dX8_hasGift_10 : decode cX8_hasGift 10 = .ok (.iconst 4, 1) := by decide +kernel
theorem dX8_hasGift_11 : decode cX8_hasGift 11 = .ok (.laload, 1) := by decide +kernel
theorem dX8_hasGift_12 : decode cX8_hasGift 12 = .ok (.lcmp, 1) := by decide +kernel
theorem dX8_hasGift_13 : decode cX8_hasGift 13 = .ok (.ifCond .ge 59, 3) := by decide +kernel
theorem dX8_hasGift_16 : decode cX8_hasGift 16 = .ok (.iload_n 2, 1) := by decide +kernel
theorem dX8_hasGift_17 : decode cX8_hasGift 17 = .ok (.ifCond .ne 43, 3) := by decide +kernel
theorem dX8_hasGift_20 : decode cX8_hasGift 20 = .ok (.aload_n 0, 1) := by decide +kernel
theorem dX8_hasGift_21 : decode cX8_hasGift 21 = .ok (.getfield 7, 3) := by decide +kernel
theorem dX8_hasGift_24 : decode cX8_hasGift 24 = .ok (.sipush 309, 3) := by decide +kernel
theorem dX8_hasGift_27 : decode cX8_hasGift 27 = .ok (.iconst 4, 1) := by decide +kernel
theorem dX8_hasGift_28 : decode cX8_hasGift 28 = .ok (.iload_n 3, 1) := by decide +kernel
theorem dX8_hasGift_29 : decode cX8_hasGift 29 = .ok (.imul, 1) := by decide +kernel
theorem dX8_hasGift_30 : decode cX8_hasGift 30 = .ok (.iadd, 1) := by decide +kernel
theorem dX8_hasGift_31 : decode cX8_hasGift 31 = .ok (.iconst 0, 1) := by decide +kernel
theorem dX8_hasGift_32 : decode cX8_hasGift 32 = .ok (.iadd, 1) := by decide +kernel
theorem dX8_hasGift_33 : decode cX8_hasGift 33 = .ok (.laload, 1) := by decide +kernel
theorem dX8_hasGift_34 : decode cX8_hasGift 34 = .ok (.iload_n 1, 1) := by decide +kernel
theorem dX8_hasGift_35 : decode cX8_hasGift 35 = .ok (.i2l, 1) := by decide +kernel
theorem dX8_hasGift_36 : decode cX8_hasGift 36 = .ok (.lcmp, 1) := by decide +kernel
theorem dX8_hasGift_37 : decode cX8_hasGift 37 = .ok (.ifCond .eq 23, 3) := by decide +kernel
theorem dX8_hasGift_40 : decode cX8_hasGift 40 = .ok (.aload_n 0, 1) := by decide +kernel
theorem dX8_hasGift_41 : decode cX8_hasGift 41 = .ok (.getfield 7, 3) := by decide +kernel
theorem dX8_hasGift_44 : decode cX8_hasGift 44 = .ok (.sipush 309, 3) := by decide +kernel
theorem dX8_hasGift_47 : decode cX8_hasGift 47 = .ok (.iconst 4, 1) := by decide +kernel
theorem dX8_hasGift_48 : decode cX8_hasGift 48 = .ok (.iload_n 3, 1) := by decide +kernel
theorem dX8_hasGift_49 : decode cX8_hasGift 49 = .ok (.imul, 1) := by decide +kernel
theorem dX8_hasGift_50 : decode cX8_hasGift 50 = .ok (.iadd, 1) := by decide +kernel
theorem dX8_hasGift_51 : decode cX8_hasGift 51 = .ok (.iconst 1, 1) := by decide +kernel
theorem dX8_hasGift_52 : decode cX8_hasGift 52 = .ok (.iadd, 1) := by decide +kernel
theorem dX8_hasGift_53 : decode cX8_hasGift 53 = .ok (.laload, 1) := by decide +kernel
theorem dX8_hasGift_54 : decode cX8_hasGift 54 = .ok (.iload_n 1, 1) := by decide +kernel
theorem dX8_hasGift_55 : decode cX8_hasGift 55 = .ok (.i2l, 1) := by decide +kernel
theorem dX8_hasGift_56 : decode cX8_hasGift 56 = .ok (.lcmp, 1) := by decide +kernel
theorem dX8_hasGift_57 : decode cX8_hasGift 57 = .ok (.ifCond .ne 7, 3) := by decide +kernel
theorem dX8_hasGift_60 : decode cX8_hasGift 60 = .ok (.iconst 1, 1) := by decide +kernel
theorem dX8_hasGift_61 : decode cX8_hasGift 61 = .ok (.goto 4, 3) := by decide +kernel
theorem dX8_hasGift_64 : decode cX8_hasGift 64 = .ok (.iconst 0, 1) := by decide +kernel
theorem dX8_hasGift_65 : decode cX8_hasGift 65 = .ok (.istore_n 2, 1) := by decide +kernel
theorem dX8_hasGift_66 : decode cX8_hasGift 66 = .ok (.iinc 3 1, 3) := by decide +kernel
theorem dX8_hasGift_69 : decode cX8_hasGift 69 = .ok (.goto (-65), 3) := by decide +kernel
theorem dX8_hasGift_72 : decode cX8_hasGift 72 = .ok (.iload_n 2, 1) := by decide +kernel
theorem dX8_hasGift_73 : decode cX8_hasGift 73 = .ok (.ireturn, 1) := by decide +kernel
theorem dX8_dropsGift_0 : decode cX8_dropsGift 0 = .ok (.aload_n 0, 1) := by decide +kernel
theorem dX8_dropsGift_1 : decode cX8_dropsGift 1 = .ok (.getfield 7, 3) := by decide +kernel
theorem dX8_dropsGift_4 : decode cX8_dropsGift 4 = .ok (.iconst 4, 1) := by decide +kernel
theorem dX8_dropsGift_5 : decode cX8_dropsGift 5 = .ok (.dup2, 1) := by decide +kernel
theorem dX8_dropsGift_6 : decode cX8_dropsGift 6 = .ok (.laload, 1) := by decide +kernel
theorem dX8_dropsGift_7 : decode cX8_dropsGift 7 = .ok (.lconst 1, 1) := by decide +kernel
theorem dX8_dropsGift_8 : decode cX8_dropsGift 8 = .ok (.lsub, 1) := by decide +kernel
theorem dX8_dropsGift_9 : decode cX8_dropsGift 9 = .ok (.lastore, 1) := by decide +kernel
theorem dX8_dropsGift_10 : decode cX8_dropsGift 10 = .ok (.sipush 309, 3) := by decide +kernel
theorem dX8_dropsGift_13 : decode cX8_dropsGift 13 = .ok (.iconst 4, 1) := by decide +kernel
theorem dX8_dropsGift_14 : decode cX8_dropsGift 14 = .ok (.iload_n 1, 1) := by decide +kernel
theorem dX8_dropsGift_15 : decode cX8_dropsGift 15 = .ok (.imul, 1) := by decide +kernel
theorem dX8_dropsGift_16 : decode cX8_dropsGift 16 = .ok (.iadd, 1) := by decide +kernel
theorem dX8_dropsGift_17 : decode cX8_dropsGift 17 = .ok (.istore_n 2, 1) := by decide +kernel
theorem dX8_dropsGift_18 : decode cX8_dropsGift 18 = .ok (.iload_n 2, 1) := by decide +kernel
theorem dX8_dropsGift_19 : decode cX8_dropsGift 19 = .ok (.i2l, 1) := by decide +kernel
theorem dX8_dropsGift_20 : decode cX8_dropsGift 20 = .ok (.ldc2_w 339, 3) := by decide +kernel
theorem dX8_dropsGift_23 : decode cX8_dropsGift 23 = .ok (.ldc2_w 341, 3) := by decide +kernel
theorem dX8_dropsGift_26 : decode cX8_dropsGift 26 = .ok (.aload_n 0, 1) := by decide +kernel
theorem dX8_dropsGift_27 : decode cX8_dropsGift 27 = .ok (.getfield 7, 3) := by decide +kernel
theorem dX8_dropsGift_30 : decode cX8_dropsGift 30 = .ok (.iconst 4, 1) := by decide +kernel
theorem dX8_dropsGift_31 : decode cX8_dropsGift 31 = .ok (.laload, 1) := by decide +kernel
theorem dX8_dropsGift_32 : decode cX8_dropsGift 32 = .ok (.lmul, 1) := by decide +kernel
theorem dX8_dropsGift_33 : decode cX8_dropsGift 33 = .ok (.ladd, 1) := by decide +kernel
theorem dX8_dropsGift_34 : decode cX8_dropsGift 34 = .ok (.lcmp, 1) := by decide +kernel
theorem dX8_dropsGift_35 : decode cX8_dropsGift 35 = .ok (.ifCond .ge 23, 3) := by decide +kernel
theorem dX8_dropsGift_38 : decode cX8_dropsGift 38 = .ok (.aload_n 0, 1) := by decide +kernel
theorem dX8_dropsGift_39 : decode cX8_dropsGift 39 = .ok (.getfield 7, 3) := by decide +kernel
theorem dX8_dropsGift_42 : decode cX8_dropsGift 42 = .ok (.iload_n 2, 1) := by decide +kernel
theorem dX8_dropsGift_43 : decode cX8_dropsGift 43 = .ok (.aload_n 0, 1) := by decide +kernel
theorem dX8_dropsGift_44 : decode cX8_dropsGift 44 = .ok (.getfield 7, 3) := by decide +kernel
theorem dX8_dropsGift_47 : decode cX8_dropsGift 47 = .ok (.iload_n 2, 1) := by decide +kernel
theorem dX8_dropsGift_48 : decode cX8_dropsGift 48 = .ok (.iconst 4, 1) := by decide +kernel
theorem dX8_dropsGift_49 : decode cX8_dropsGift 49 = .ok (.iadd, 1) := by decide +kernel
theorem dX8_dropsGift_50 : decode cX8_dropsGift 50 = .ok (.laload, 1) := by decide +kernel
theorem dX8_dropsGift_51 : decode cX8_dropsGift 51 = .ok (.lastore, 1) := by decide +kernel
theorem dX8_dropsGift_52 : decode cX8_dropsGift 52 = .ok (.iinc 2 1, 3) := by decide +kernel
theorem dX8_dropsGift_55 : decode cX8_dropsGift 55 = .ok (.goto (-37), 3) := by decide +kernel
theorem dX8_dropsGift_58 : decode cX8_dropsGift 58 = .ok (.return_, 1) := by decide +kernel
theorem dX8_sooner_0 : decode cX8_sooner 0 = .ok (.lload_n 3, 1) := by decide +kernel
theorem dX8_sooner_1 : decode cX8_sooner 1 = .ok (.aload_n 0, 1) := by decide +kernel
theorem dX8_sooner_2 : decode cX8_sooner 2 = .ok (.getfield 7, 3) := by decide +kernel
theorem dX8_sooner_5 : decode cX8_sooner 5 = .ok (.iconst 0, 1) := by decide +kernel
theorem dX8_sooner_6 : decode cX8_sooner 6 = .ok (.laload, 1) := by decide +kernel
theorem dX8_sooner_7 : decode cX8_sooner 7 = .ok (.lcmp, 1) := by decide +kernel
theorem dX8_sooner_8 : decode cX8_sooner 8 = .ok (.ifCond .le 21, 3) := by decide +kernel
theorem dX8_sooner_11 : decode cX8_sooner 11 = .ok (.lload_n 1, 1) := by decide +kernel
theorem dX8_sooner_12 : decode cX8_sooner 12 = .ok (.ldc2_w 37, 3) := by decide +kernel
theorem dX8_sooner_15 : decode cX8_sooner 15 = .ok (.lcmp, 1) := by decide +kernel
theorem dX8_sooner_16 : decode cX8_sooner 16 = .ok (.ifCond .eq 9, 3) := by decide +kernel
theorem dX8_sooner_19 : decode cX8_sooner 19 = .ok (.lload_n 3, 1) := by decide +kernel
theorem dX8_sooner_20 : decode cX8_sooner 20 = .ok (.lload_n 1, 1) := by decide +kernel
theorem dX8_sooner_21 : decode cX8_sooner 21 = .ok (.lcmp, 1) := by decide +kernel
theorem dX8_sooner_22 : decode cX8_sooner 22 = .ok (.ifCond .ge 7, 3) := by decide +kernel
theorem dX8_sooner_25 : decode cX8_sooner 25 = .ok (.lload_n 3, 1) := by decide +kernel
theorem dX8_sooner_26 : decode cX8_sooner 26 = .ok (.goto 4, 3) := by decide +kernel
theorem dX8_sooner_29 : decode cX8_sooner 29 = .ok (.lload_n 1, 1) := by decide +kernel
theorem dX8_sooner_30 : decode cX8_sooner 30 = .ok (.lreturn, 1) := by decide +kernel
set_option maxRecDepth 20000 in
theorem ggX8_isRefused_X8_limitOf : GoodIn wsX8_isRefused wsX8_limitOf := goodIn_r _ [8, 2, 1, 9, 10, 7, 11, 12, 13, 14, 15, 16, 17, 18, 23, 24, 25, 26, 27, 28, 29, 30, 31, 32, 33, 34, 35, 36, 37, 38, 39, 40] (by decide +kernel) (by decide +kernel)
set_option maxRecDepth 20000 in
theorem gX8_isRefused_X8_limitOf : GoodIn wsX8_isRefused (wsV RX8 266 RX8 yX8_limitOf wsX8_limitOf) := goodIn_app (goodIn_of _ (by decide +kernel)) ggX8_isRefused_X8_limitOf
set_option maxRecDepth 20000 in
theorem ggX8_isRefused_X8_usedOf : GoodIn wsX8_isRefused wsX8_usedOf := goodIn_r _ [22, 2, 9, 10, 7, 11, 23, 24, 25, 26, 27, 28, 29, 30, 31, 32, 33, 34, 35, 36, 37, 38, 39, 40] (by decide +kernel) (by decide +kernel)
set_option maxRecDepth 20000 in
theorem gX8_isRefused_X8_usedOf : GoodIn wsX8_isRefused (wsV RX8 273 RX8 yX8_usedOf wsX8_usedOf) := goodIn_app (goodIn_of _ (by decide +kernel)) ggX8_isRefused_X8_usedOf
theorem dX8_isRefused_0 : decode cX8_isRefused 0 = .ok (.aload_n 0, 1) := by decide +kernel
theorem dX8_isRefused_1 : decode cX8_isRefused 1 = .ok (.iload_n 1, 1) := by decide +kernel
theorem dX8_isRefused_2 : decode cX8_isRefused 2 = .ok (.iconst 0, 1) := by decide +kernel
theorem dX8_isRefused_3 : decode cX8_isRefused 3 = .ok (.iconst 1, 1) := by decide +kernel
theorem dX8_isRefused_4 : decode cX8_isRefused 4 = .ok (.invokevirtual 266, 3) := by decide +kernel
theorem dX8_isRefused_7 : decode cX8_isRefused 7 = .ok (.ldc2_w 37, 3) := by decide +kernel
theorem dX8_isRefused_10 : decode cX8_isRefused 10 = .ok (.lcmp, 1) := by decide +kernel
theorem dX8_isRefused_11 : decode cX8_isRefused 11 = .ok (.ifCond .eq 30, 3) := by decide +kernel
theorem dX8_isRefused_14 : decode cX8_isRefused 14 = .ok (.aload_n 0, 1) := by decide +kernel
theorem dX8_isRefused_15 : decode cX8_isRefused 15 = .ok (.iload_n 2, 1) := by decide +kernel
theorem dX8_isRefused_16 : decode cX8_isRefused 16 = .ok (.iconst 0, 1) := by decide +kernel
theorem dX8_isRefused_17 : decode cX8_isRefused 17 = .ok (.iconst 1, 1) := by decide +kernel
theorem dX8_isRefused_18 : decode cX8_isRefused 18 = .ok (.invokevirtual 266, 3) := by decide +kernel
theorem dX8_isRefused_21 : decode cX8_isRefused 21 = .ok (.ldc2_w 37, 3) := by decide +kernel
theorem dX8_isRefused_24 : decode cX8_isRefused 24 = .ok (.lcmp, 1) := by decide +kernel
theorem dX8_isRefused_25 : decode cX8_isRefused 25 = .ok (.ifCond .eq 16, 3) := by decide +kernel
theorem dX8_isRefused_28 : decode cX8_isRefused 28 = .ok (.aload_n 0, 1) := by decide +kernel
theorem dX8_isRefused_29 : decode cX8_isRefused 29 = .ok (.getfield 7, 3) := by decide +kernel
theorem dX8_isRefused_32 : decode cX8_isRefused 32 = .ok (.iconst 4, 1) := by decide +kernel
theorem dX8_isRefused_33 : decode cX8_isRefused 33 = .ok (.laload, 1) := by decide +kernel
theorem dX8_isRefused_34 : decode cX8_isRefused 34 = .ok (.ldc2_w 351, 3) := by decide +kernel
theorem dX8_isRefused_37 : decode cX8_isRefused 37 = .ok (.lcmp, 1) := by decide +kernel
theorem dX8_isRefused_38 : decode cX8_isRefused 38 = .ok (.ifCond .ne 5, 3) := by decide +kernel
theorem dX8_isRefused_41 : decode cX8_isRefused 41 = .ok (.iconst 1, 1) := by decide +kernel
theorem dX8_isRefused_42 : decode cX8_isRefused 42 = .ok (.ireturn, 1) := by decide +kernel
theorem dX8_isRefused_43 : decode cX8_isRefused 43 = .ok (.iload_n 3, 1) := by decide +kernel
theorem dX8_isRefused_44 : decode cX8_isRefused 44 = .ok (.i2l, 1) := by decide +kernel
theorem dX8_isRefused_45 : decode cX8_isRefused 45 = .ok (.aload_n 0, 1) := by decide +kernel
theorem dX8_isRefused_46 : decode cX8_isRefused 46 = .ok (.iload_n 1, 1) := by decide +kernel
theorem dX8_isRefused_47 : decode cX8_isRefused 47 = .ok (.iconst 0, 1) := by decide +kernel
theorem dX8_isRefused_48 : decode cX8_isRefused 48 = .ok (.iconst 1, 1) := by decide +kernel
theorem dX8_isRefused_49 : decode cX8_isRefused 49 = .ok (.invokevirtual 266, 3) := by decide +kernel
theorem dX8_isRefused_52 : decode cX8_isRefused 52 = .ok (.aload_n 0, 1) := by decide +kernel
theorem dX8_isRefused_53 : decode cX8_isRefused 53 = .ok (.iload_n 1, 1) := by decide +kernel
theorem dX8_isRefused_54 : decode cX8_isRefused 54 = .ok (.iconst 0, 1) := by decide +kernel
theorem dX8_isRefused_55 : decode cX8_isRefused 55 = .ok (.invokevirtual 273, 3) := by decide +kernel
theorem dX8_isRefused_58 : decode cX8_isRefused 58 = .ok (.lsub, 1) := by decide +kernel
theorem dX8_isRefused_59 : decode cX8_isRefused 59 = .ok (.lcmp, 1) := by decide +kernel
theorem dX8_isRefused_60 : decode cX8_isRefused 60 = .ok (.ifCond .le 7, 3) := by decide +kernel
theorem dX8_isRefused_63 : decode cX8_isRefused 63 = .ok (.iconst 1, 1) := by decide +kernel
theorem dX8_isRefused_64 : decode cX8_isRefused 64 = .ok (.goto 4, 3) := by decide +kernel
theorem dX8_isRefused_67 : decode cX8_isRefused 67 = .ok (.iconst 0, 1) := by decide +kernel
theorem dX8_isRefused_68 : decode cX8_isRefused 68 = .ok (.ireturn, 1) := by decide +kernel
