set_option maxRecDepth 20000 in
theorem ggX8_init_X8_begins : GoodIn wsX8_init wsX8_begins := goodIn_r _ [16, 6, 17, 18, 19, 24, 25, 26, 27, 28, 29, 30, 31, 32, 33, 34, 35, 36, 37, 38, 39, 40, 41] (by decide +kernel) (by decide +kernel)
set_option maxRecDepth 20000 in
theorem gX8_init_X8_begins : GoodIn wsX8_init (wsV RX8 30 RX8 yX8_begins wsX8_begins) := goodIn_app (goodIn_of _ (by decide +kernel)) ggX8_init_X8_begins
set_option maxRecDepth 20000 in
theorem ggX8_init_X8_becomes : GoodIn wsX8_init wsX8_becomes := goodIn_r _ [23, 5, 24, 25, 26, 27, 28, 29, 30, 31, 32, 33, 34, 35, 36, 37, 38, 39, 40, 41] (by decide +kernel) (by decide +kernel)
set_option maxRecDepth 20000 in
theorem gX8_init_X8_becomes : GoodIn wsX8_init (wsV RX8 33 RX8 yX8_becomes wsX8_becomes) := goodIn_app (goodIn_of _ (by decide +kernel)) ggX8_init_X8_becomes
theorem dX8_init_0 : decode cX8_init 0 = .ok (.aload_n 0, 1) := by decide +kernel
theorem dX8_init_1 : decode cX8_init 1 = .ok (.invokespecial 1, 3) := by decide +kernel
theorem dX8_init_4 : decode cX8_init 4 = .ok (.aload_n 0, 1) := by decide +kernel
theorem dX8_init_5 : decode cX8_init 5 = .ok (.sipush 357, 3) := by decide +kernel
theorem dX8_init_8 : decode cX8_init 8 = .ok (.newarray .long, 2) := by decide +kernel
theorem dX8_init_10 : decode cX8_init 10 = .ok (.putfield 7, 3) := by decide +kernel
theorem dX8_init_13 : decode cX8_init 13 = .ok (.aload_n 0, 1) := by decide +kernel
theorem dX8_init_14 : decode cX8_init 14 = .ok (.sipush 357, 3) := by decide +kernel
theorem dX8_init_17 : decode cX8_init 17 = .ok (.newarray .long, 2) := by decide +kernel
theorem dX8_init_19 : decode cX8_init 19 = .ok (.putfield 13, 3) := by decide +kernel
theorem dX8_init_22 : decode cX8_init 22 = .ok (.aload_n 0, 1) := by decide +kernel
theorem dX8_init_23 : decode cX8_init 23 = .ok (.sipush 2856, 3) := by decide +kernel
theorem dX8_init_26 : decode cX8_init 26 = .ok (.newarray .long, 2) := by decide +kernel
theorem dX8_init_28 : decode cX8_init 28 = .ok (.putfield 16, 3) := by decide +kernel
theorem dX8_init_31 : decode cX8_init 31 = .ok (.aload_n 0, 1) := by decide +kernel
theorem dX8_init_32 : decode cX8_init 32 = .ok (.sipush 900, 3) := by decide +kernel
theorem dX8_init_35 : decode cX8_init 35 = .ok (.newarray .int, 2) := by decide +kernel
theorem dX8_init_37 : decode cX8_init 37 = .ok (.putfield 19, 3) := by decide +kernel
theorem dX8_init_40 : decode cX8_init 40 = .ok (.aload_n 0, 1) := by decide +kernel
theorem dX8_init_41 : decode cX8_init 41 = .ok (.iconst (-1), 1) := by decide +kernel
theorem dX8_init_42 : decode cX8_init 42 = .ok (.putfield 23, 3) := by decide +kernel
theorem dX8_init_45 : decode cX8_init 45 = .ok (.aload_n 0, 1) := by decide +kernel
theorem dX8_init_46 : decode cX8_init 46 = .ok (.sipush 400, 3) := by decide +kernel
theorem dX8_init_49 : decode cX8_init 49 = .ok (.newarray .int, 2) := by decide +kernel
theorem dX8_init_51 : decode cX8_init 51 = .ok (.putfield 27, 3) := by decide +kernel
theorem dX8_init_54 : decode cX8_init 54 = .ok (.aload_n 0, 1) := by decide +kernel
theorem dX8_init_55 : decode cX8_init 55 = .ok (.invokevirtual 30, 3) := by decide +kernel
theorem dX8_init_58 : decode cX8_init 58 = .ok (.aload_n 0, 1) := by decide +kernel
theorem dX8_init_59 : decode cX8_init 59 = .ok (.aload_n 0, 1) := by decide +kernel
theorem dX8_init_60 : decode cX8_init 60 = .ok (.getfield 13, 3) := by decide +kernel
theorem dX8_init_63 : decode cX8_init 63 = .ok (.iconst 0, 1) := by decide +kernel
theorem dX8_init_64 : decode cX8_init 64 = .ok (.invokevirtual 33, 3) := by decide +kernel
theorem dX8_init_67 : decode cX8_init 67 = .ok (.return_, 1) := by decide +kernel
theorem dX8_begins_0 : decode cX8_begins 0 = .ok (.iconst 0, 1) := by decide +kernel
theorem dX8_begins_1 : decode cX8_begins 1 = .ok (.istore_n 1, 1) := by decide +kernel
theorem dX8_begins_2 : decode cX8_begins 2 = .ok (.iload_n 1, 1) := by decide +kernel
theorem dX8_begins_3 : decode cX8_begins 3 = .ok (.sipush 357, 3) := by decide +kernel
theorem dX8_begins_6 : decode cX8_begins 6 = .ok (.if_icmp .ge 35, 3) := by decide +kernel
theorem dX8_begins_9 : decode cX8_begins 9 = .ok (.aload_n 0, 1) := by decide +kernel
theorem dX8_begins_10 : decode cX8_begins 10 = .ok (.getfield 13, 3) := by decide +kernel
theorem dX8_begins_13 : decode cX8_begins 13 = .ok (.iload_n 1, 1) := by decide +kernel
theorem dX8_begins_14 : decode cX8_begins 14 = .ok (.iload_n 1, 1) := by decide +kernel
theorem dX8_begins_15 : decode cX8_begins 15 = .ok (.bipush 53, 2) := by decide +kernel
theorem dX8_begins_17 : decode cX8_begins 17 = .ok (.if_icmp .lt 16, 3) := by decide +kernel
theorem dX8_begins_20 : decode cX8_begins 20 = .ok (.iload_n 1, 1) := by decide +kernel
theorem dX8_begins_21 : decode cX8_begins 21 = .ok (.sipush 149, 3) := by decide +kernel
theorem dX8_begins_24 : decode cX8_begins 24 = .ok (.if_icmp .ge 9, 3) := by decide +kernel
theorem dX8_begins_27 : decode cX8_begins 27 = .ok (.ldc2_w 37, 3) := by decide +kernel
theorem dX8_begins_30 : decode cX8_begins 30 = .ok (.goto 4, 3) := by decide +kernel
theorem dX8_begins_33 : decode cX8_begins 33 = .ok (.lconst 0, 1) := by decide +kernel
theorem dX8_begins_34 : decode cX8_begins 34 = .ok (.lastore, 1) := by decide +kernel
theorem dX8_begins_35 : decode cX8_begins 35 = .ok (.iinc 1 1, 3) := by decide +kernel
theorem dX8_begins_38 : decode cX8_begins 38 = .ok (.goto (-36), 3) := by decide +kernel
theorem dX8_begins_41 : decode cX8_begins 41 = .ok (.aload_n 0, 1) := by decide +kernel
theorem dX8_begins_42 : decode cX8_begins 42 = .ok (.getfield 13, 3) := by decide +kernel
theorem dX8_begins_45 : decode cX8_begins 45 = .ok (.iconst 1, 1) := by decide +kernel
theorem dX8_begins_46 : decode cX8_begins 46 = .ok (.ldc2_w 39, 3) := by decide +kernel
theorem dX8_begins_49 : decode cX8_begins 49 = .ok (.lastore, 1) := by decide +kernel
theorem dX8_begins_50 : decode cX8_begins 50 = .ok (.aload_n 0, 1) := by decide +kernel
theorem dX8_begins_51 : decode cX8_begins 51 = .ok (.getfield 13, 3) := by decide +kernel
theorem dX8_begins_54 : decode cX8_begins 54 = .ok (.iconst 2, 1) := by decide +kernel
theorem dX8_begins_55 : decode cX8_begins 55 = .ok (.lconst 1, 1) := by decide +kernel
theorem dX8_begins_56 : decode cX8_begins 56 = .ok (.lastore, 1) := by decide +kernel
theorem dX8_begins_57 : decode cX8_begins 57 = .ok (.aload_n 0, 1) := by decide +kernel
theorem dX8_begins_58 : decode cX8_begins 58 = .ok (.getfield 13, 3) := by decide +kernel
theorem dX8_begins_61 : decode cX8_begins 61 = .ok (.sipush 149, 3) := by decide +kernel
theorem dX8_begins_64 : decode cX8_begins 64 = .ok (.ldc2_w 41, 3) := by decide +kernel
theorem dX8_begins_67 : decode cX8_begins 67 = .ok (.lastore, 1) := by decide +kernel
theorem dX8_begins_68 : decode cX8_begins 68 = .ok (.return_, 1) := by decide +kernel
theorem dX8_becomes_0 : decode cX8_becomes 0 = .ok (.iconst 0, 1) := by decide +kernel
theorem dX8_becomes_1 : decode cX8_becomes 1 = .ok (.istore_n 3, 1) := by decide +kernel
theorem dX8_becomes_2 : decode cX8_becomes 2 = .ok (.iload_n 3, 1) := by decide +kernel
theorem dX8_becomes_3 : decode cX8_becomes 3 = .ok (.sipush 357, 3) := by decide +kernel
theorem dX8_becomes_6 : decode cX8_becomes 6 = .ok (.if_icmp .ge 20, 3) := by decide +kernel
theorem dX8_becomes_9 : decode cX8_becomes 9 = .ok (.aload_n 0, 1) := by decide +kernel
theorem dX8_becomes_10 : decode cX8_becomes 10 = .ok (.getfield 7, 3) := by decide +kernel
theorem dX8_becomes_13 : decode cX8_becomes 13 = .ok (.iload_n 3, 1) := by decide +kernel
theorem dX8_becomes_14 : decode cX8_becomes 14 = .ok (.aload_n 1, 1) := by decide +kernel
theorem dX8_becomes_15 : decode cX8_becomes 15 = .ok (.iload_n 2, 1) := by decide +kernel
theorem dX8_becomes_16 : decode cX8_becomes 16 = .ok (.iload_n 3, 1) := by decide +kernel
theorem dX8_becomes_17 : decode cX8_becomes 17 = .ok (.iadd, 1) := by decide +kernel
theorem dX8_becomes_18 : decode cX8_becomes 18 = .ok (.laload, 1) := by decide +kernel
theorem dX8_becomes_19 : decode cX8_becomes 19 = .ok (.lastore, 1) := by decide +kernel
theorem dX8_becomes_20 : decode cX8_becomes 20 = .ok (.iinc 3 1, 3) := by decide +kernel
theorem dX8_becomes_23 : decode cX8_becomes 23 = .ok (.goto (-21), 3) := by decide +kernel
theorem dX8_becomes_26 : decode cX8_becomes 26 = .ok (.return_, 1) := by decide +kernel
theorem dX8_thrown_0 : decode cX8_thrown 0 = .ok (.aload_n 0, 1) := by decide +kernel
theorem dX8_thrown_1 : decode cX8_thrown 1 = .ok (.getfield 43, 3) := by decide +kernel
theorem dX8_thrown_4 : decode cX8_thrown 4 = .ok (.ireturn, 1) := by decide +kernel
theorem dX8_isIn_0 : decode cX8_isIn 0 = .ok (.lload_n 0, 1) := by decide +kernel
theorem dX8_isIn_1 : decode cX8_isIn 1 = .ok (.lload_n 2, 1) := by decide +kernel
theorem dX8_isIn_2 : decode cX8_isIn 2 = .ok (.lcmp, 1) := by decide +kernel
theorem dX8_isIn_3 : decode cX8_isIn 3 = .ok (.ifCond .lt 14, 3) := by decide +kernel
theorem dX8_isIn_6 : decode cX8_isIn 6 = .ok (.lload_n 0, 1) := by decide +kernel
theorem dX8_isIn_7 : decode cX8_isIn 7 = .ok (.lload 4, 2) := by decide +kernel
theorem dX8_isIn_9 : decode cX8_isIn 9 = .ok (.lcmp, 1) := by decide +kernel
theorem dX8_isIn_10 : decode cX8_isIn 10 = .ok (.ifCond .gt 7, 3) := by decide +kernel
theorem dX8_isIn_13 : decode cX8_isIn 13 = .ok (.iconst 1, 1) := by decide +kernel
theorem dX8_isIn_14 : decode cX8_isIn 14 = .ok (.goto 4, 3) := by decide +kernel
theorem dX8_isIn_17 : decode cX8_isIn 17 = .ok (.iconst 0, 1) := by decide +kernel
theorem dX8_isIn_18 : decode cX8_isIn 18 = .ok (.ireturn, 1) := by decide +kernel
theorem dX8_greater_0 : decode cX8_greater 0 = .ok (.lload_n 0, 1) := by decide +kernel
theorem dX8_greater_1 : decode cX8_greater 1 = .ok (.lload_n 2, 1) := by decide +kernel
theorem dX8_greater_2 : decode cX8_greater 2 = .ok (.lcmp, 1) := by decide +kernel
theorem dX8_greater_3 : decode cX8_greater 3 = .ok (.ifCond .le 7, 3) := by decide +kernel
theorem dX8_greater_6 : decode cX8_greater 6 = .ok (.lload_n 0, 1) := by decide +kernel
theorem dX8_greater_7 : decode cX8_greater 7 = .ok (.goto 4, 3) := by decide +kernel
theorem dX8_greater_10 : decode cX8_greater 10 = .ok (.lload_n 2, 1) := by decide +kernel
theorem dX8_greater_11 : decode cX8_greater 11 = .ok (.lreturn, 1) := by decide +kernel
theorem dX8_keeps_0 : decode cX8_keeps 0 = .ok (.aload_n 0, 1) := by decide +kernel
theorem dX8_keeps_1 : decode cX8_keeps 1 = .ok (.getfield 46, 3) := by decide +kernel
theorem dX8_keeps_4 : decode cX8_keeps 4 = .ok (.bipush 8, 2) := by decide +kernel
theorem dX8_keeps_6 : decode cX8_keeps 6 = .ok (.if_icmp .ne 44, 3) := by decide +kernel
theorem dX8_keeps_9 : decode cX8_keeps 9 = .ok (.iconst 0, 1) := by decide +kernel
theorem dX8_keeps_10 : decode cX8_keeps 10 = .ok (.istore_n 1, 1) := by decide +kernel
theorem dX8_keeps_11 : decode cX8_keeps 11 = .ok (.iload_n 1, 1) := by decide +kernel
theorem dX8_keeps_12 : decode cX8_keeps 12 = .ok (.sipush 2499, 3) := by decide +kernel
theorem dX8_keeps_15 : decode cX8_keeps 15 = .ok (.if_icmp .ge 25, 3) := by decide +kernel
theorem dX8_keeps_18 : decode cX8_keeps 18 = .ok (.aload_n 0, 1) := by decide +kernel
theorem dX8_keeps_19 : decode cX8_keeps 19 = .ok (.getfield 16, 3) := by decide +kernel
theorem dX8_keeps_22 : decode cX8_keeps 22 = .ok (.iload_n 1, 1) := by decide +kernel
theorem dX8_keeps_23 : decode cX8_keeps 23 = .ok (.aload_n 0, 1) := by decide +kernel
theorem dX8_keeps_24 : decode cX8_keeps 24 = .ok (.getfield 16, 3) := by decide +kernel
theorem dX8_keeps_27 : decode cX8_keeps 27 = .ok (.iload_n 1, 1) := by decide +kernel
theorem dX8_keeps_28 : decode cX8_keeps 28 = .ok (.sipush 357, 3) := by decide +kernel
theorem dX8_keeps_31 : decode cX8_keeps 31 = .ok (.iadd, 1) := by decide +kernel
theorem dX8_keeps_32 : decode cX8_keeps 32 = .ok (.laload, 1) := by decide +kernel
theorem dX8_keeps_33 : decode cX8_keeps 33 = .ok (.lastore, 1) := by decide +kernel
theorem dX8_keeps_34 : decode cX8_keeps 34 = .ok (.iinc 1 1, 3) := by decide +kernel
theorem dX8_keeps_37 : decode cX8_keeps 37 = .ok (.goto (-26), 3) := by decide +kernel
theorem dX8_keeps_40 : decode cX8_keeps 40 = .ok (.aload_n 0, 1) := by decide +kernel
theorem dX8_keeps_41 : decode cX8_keeps 41 = .ok (.dup, 1) := by decide +kernel
theorem dX8_keeps_42 : decode cX8_keeps 42 = .ok (.getfield 46, 3) := by decide +kernel
theorem dX8_keeps_45 : decode cX8_keeps 45 = .ok (.iconst 1, 1) := by decide +kernel
theorem dX8_keeps_46 : decode cX8_keeps 46 = .ok (.isub, 1) := by decide +kernel
theorem dX8_keeps_47 : decode cX8_keeps 47 = .ok (.putfield 46, 3) := by decide +kernel
theorem dX8_keeps_50 : decode cX8_keeps 50 = .ok (.iconst 0, 1) := by decide +kernel
theorem dX8_keeps_51 : decode cX8_keeps 51 = .ok (.istore_n 1, 1) := by decide +kernel
theorem dX8_keeps_52 : decode cX8_keeps 52 = .ok (.iload_n 1, 1) := by decide +kernel
theorem dX8_keeps_53 : decode cX8_keeps 53 = .ok (.sipush 357, 3) := by decide +kernel
theorem dX8_keeps_56 : decode cX8_keeps 56 = .ok (.if_icmp .ge 30, 3) := by decide +kernel
theorem dX8_keeps_59 : decode cX8_keeps 59 = .ok (.aload_n 0, 1) := by decide +kernel
theorem dX8_keeps_60 : decode cX8_keeps 60 = .ok (.getfield 16, 3) := by decide +kernel
theorem dX8_keeps_63 : decode cX8_keeps 63 = .ok (.sipush 357, 3) := by decide +kernel
theorem dX8_keeps_66 : decode cX8_keeps 66 = .ok (.aload_n 0, 1) := by decide +kernel
theorem dX8_keeps_67 : decode cX8_keeps 67 = .ok (.getfield 46, 3) := by decide +kernel
theorem dX8_keeps_70 : decode cX8_keeps 70 = .ok (.imul, 1) := by decide +kernel
theorem dX8_keeps_71 : decode cX8_keeps 71 = .ok (.iload_n 1, 1) := by decide +kernel
theorem dX8_keeps_72 : decode cX8_keeps 72 = .ok (.iadd, 1) := by decide +kernel
theorem dX8_keeps_73 : decode cX8_keeps 73 = .ok (.aload_n 0, 1) := by decide +kernel
theorem dX8_keeps_74 : decode cX8_keeps 74 = .ok (.getfield 7, 3) := by decide +kernel
theorem dX8_keeps_77 : decode cX8_keeps 77 = .ok (.iload_n 1, 1) := by decide +kernel
theorem dX8_keeps_78 : decode cX8_keeps 78 = .ok (.laload, 1) := by decide +kernel
theorem dX8_keeps_79 : decode cX8_keeps 79 = .ok (.lastore, 1) := by decide +kernel
theorem dX8_keeps_80 : decode cX8_keeps 80 = .ok (.iinc 1 1, 3) := by decide +kernel
theorem dX8_keeps_83 : decode cX8_keeps 83 = .ok (.goto (-31), 3) := by decide +kernel
theorem dX8_keeps_86 : decode cX8_keeps 86 = .ok (.aload_n 0, 1) := by decide +kernel
theorem dX8_keeps_87 : decode cX8_keeps 87 = .ok (.dup, 1) := by decide +kernel
theorem dX8_keeps_88 : decode cX8_keeps 88 = .ok (.getfield 46, 3) := by decide +kernel
theorem dX8_keeps_91 : decode cX8_keeps 91 = .ok (.iconst 1, 1) := by decide +kernel
theorem dX8_keeps_92 : decode cX8_keeps 92 = .ok (.iadd, 1) := by decide +kernel
theorem dX8_keeps_93 : decode cX8_keeps 93 = .ok (.putfield 46, 3) := by decide +kernel
theorem dX8_keeps_96 : decode cX8_keeps 96 = .ok (.return_, 1) := by decide +kernel
set_option maxRecDepth 20000 in
theorem ggX8_undo_X8_becomes : GoodIn wsX8_undo wsX8_becomes := goodIn_r _ [8, 9, 10, 11, 12, 13, 14, 15, 16, 17, 18, 19, 20, 21, 22, 23, 24, 25, 26, 27] (by decide +kernel) (by decide +kernel)
set_option maxRecDepth 20000 in
theorem gX8_undo_X8_becomes : GoodIn wsX8_undo (wsV RX8 33 RX8 yX8_becomes wsX8_becomes) := goodIn_app (goodIn_of _ (by decide +kernel)) ggX8_undo_X8_becomes
theorem dX8_undo_0 : decode cX8_undo 0 = .ok (.aload_n 0, 1) := by decide +kernel
theorem dX8_undo_1 : decode cX8_undo 1 = .ok (.aload_n 0, 1) := by decide +kernel
theorem dX8_undo_2 : decode cX8_undo 2 = .ok (.getfield 46, 3) := by decide +kernel
theorem dX8_undo_5 : decode cX8_undo 5 = .ok (.ifCond .ne 7, 3) := by decide +kernel
theorem dX8_undo_8 : decode cX8_undo 8 = .ok (.iconst 1, 1) := by decide +kernel
theorem dX8_undo_9 : decode cX8_undo 9 = .ok (.goto 4, 3) := by decide +kernel
theorem dX8_undo_12 : decode cX8_undo 12 = .ok (.iconst 0, 1) := by decide +kernel
theorem dX8_undo_13 : decode cX8_undo 13 = .ok (.putfield 43, 3) := by decide +kernel
theorem dX8_undo_16 : decode cX8_undo 16 = .ok (.aload_n 0, 1) := by decide +kernel
theorem dX8_undo_17 : decode cX8_undo 17 = .ok (.getfield 43, 3) := by decide +kernel
theorem dX8_undo_20 : decode cX8_undo 20 = .ok (.ifCond .le 5, 3) := by decide +kernel
theorem dX8_undo_23 : decode cX8_undo 23 = .ok (.iconst 0, 1) := by decide +kernel
theorem dX8_undo_24 : decode cX8_undo 24 = .ok (.ireturn, 1) := by decide +kernel
theorem dX8_undo_25 : decode cX8_undo 25 = .ok (.aload_n 0, 1) := by decide +kernel
theorem dX8_undo_26 : decode cX8_undo 26 = .ok (.dup, 1) := by decide +kernel
theorem dX8_undo_27 : decode cX8_undo 27 = .ok (.getfield 46, 3) := by decide +kernel
theorem dX8_undo_30 : decode cX8_undo 30 = .ok (.iconst 1, 1) := by decide +kernel
theorem dX8_undo_31 : decode cX8_undo 31 = .ok (.isub, 1) := by decide +kernel
theorem dX8_undo_32 : decode cX8_undo 32 = .ok (.putfield 46, 3) := by decide +kernel
theorem dX8_undo_35 : decode cX8_undo 35 = .ok (.aload_n 0, 1) := by decide +kernel
theorem dX8_undo_36 : decode cX8_undo 36 = .ok (.aload_n 0, 1) := by decide +kernel
theorem dX8_undo_37 : decode cX8_undo 37 = .ok (.getfield 16, 3) := by decide +kernel
theorem dX8_undo_40 : decode cX8_undo 40 = .ok (.sipush 357, 3) := by decide +kernel
theorem dX8_undo_43 : decode cX8_undo 43 = .ok (.aload_n 0, 1) := by decide +kernel
theorem dX8_undo_44 : decode cX8_undo 44 = .ok (.getfield 46, 3) := by decide +kernel
theorem dX8_undo_47 : decode cX8_undo 47 = .ok (.imul, 1) := by decide +kernel
theorem dX8_undo_48 : decode cX8_undo 48 = .ok (.invokevirtual 33, 3) := by decide +kernel
theorem dX8_undo_51 : decode cX8_undo 51 = .ok (.aload_n 0, 1) := by decide +kernel
theorem dX8_undo_52 : decode cX8_undo 52 = .ok (.getfield 46, 3) := by decide +kernel
theorem dX8_undo_55 : decode cX8_undo 55 = .ok (.ireturn, 1) := by decide +kernel
theorem dX8_append_0 : decode cX8_append 0 = .ok (.aload_n 0, 1) := by decide +kernel
theorem dX8_append_1 : decode cX8_append 1 = .ok (.aload_n 0, 1) := by decide +kernel
theorem dX8_append_2 : decode cX8_append 2 = .ok (.getfield 49, 3) := by decide +kernel
theorem dX8_append_5 : decode cX8_append 5 = .ok (.bipush 20, 2) := by decide +kernel
theorem dX8_append_7 : decode cX8_append 7 = .ok (.iadd, 1) := by decide +kernel
theorem dX8_append_8 : decode cX8_append 8 = .ok (.sipush 900, 3) := by decide +kernel
theorem dX8_append_11 : decode cX8_append 11 = .ok (.if_icmp .le 7, 3) := by decide +kernel
theorem dX8_append_14 : decode cX8_append 14 = .ok (.iconst 1, 1) := by decide +kernel
theorem dX8_append_15 : decode cX8_append 15 = .ok (.goto 4, 3) := by decide +kernel
theorem dX8_append_18 : decode cX8_append 18 = .ok (.iconst 0, 1) := by decide +kernel
theorem dX8_append_19 : decode cX8_append 19 = .ok (.putfield 43, 3) := by decide +kernel
theorem dX8_append_22 : decode cX8_append 22 = .ok (.aload_n 0, 1) := by decide +kernel
theorem dX8_append_23 : decode cX8_append 23 = .ok (.getfield 43, 3) := by decide +kernel
theorem dX8_append_26 : decode cX8_append 26 = .ok (.ifCond .le 5, 3) := by decide +kernel
theorem dX8_append_29 : decode cX8_append 29 = .ok (.iconst 0, 1) := by decide +kernel
theorem dX8_append_30 : decode cX8_append 30 = .ok (.ireturn, 1) := by decide +kernel
theorem dX8_append_31 : decode cX8_append 31 = .ok (.iconst 0, 1) := by decide +kernel
theorem dX8_append_32 : decode cX8_append 32 = .ok (.istore 6, 2) := by decide +kernel
theorem dX8_append_34 : decode cX8_append 34 = .ok (.iload 6, 2) := by decide +kernel
theorem dX8_append_36 : decode cX8_append 36 = .ok (.bipush 20, 2) := by decide +kernel
theorem dX8_append_38 : decode cX8_append 38 = .ok (.if_icmp .ge 93, 3) := by decide +kernel
theorem dX8_append_41 : decode cX8_append 41 = .ok (.iload 6, 2) := by decide +kernel
theorem dX8_append_43 : decode cX8_append 43 = .ok (.iconst 4, 1) := by decide +kernel
theorem dX8_append_44 : decode cX8_append 44 = .ok (.if_icmp .ge 7, 3) := by decide +kernel
theorem dX8_append_47 : decode cX8_append 47 = .ok (.iload_n 1, 1) := by decide +kernel
theorem dX8_append_48 : decode cX8_append 48 = .ok (.goto 39, 3) := by decide +kernel
theorem dX8_append_51 : decode cX8_append 51 = .ok (.iload 6, 2) := by decide +kernel
theorem dX8_append_53 : decode cX8_append 53 = .ok (.bipush 8, 2) := by decide +kernel
theorem dX8_append_55 : decode cX8_append 55 = .ok (.if_icmp .ge 7, 3) := by decide +kernel
theorem dX8_append_58 : decode cX8_append 58 = .ok (.iload_n 2, 1) := by decide +kernel
theorem dX8_append_59 : decode cX8_append 59 = .ok (.goto 28, 3) := by decide +kernel
theorem dX8_append_62 : decode cX8_append 62 = .ok (.iload 6, 2) := by decide +kernel
theorem dX8_append_64 : decode cX8_append 64 = .ok (.bipush 12, 2) := by decide +kernel
theorem dX8_append_66 : decode cX8_append 66 = .ok (.if_icmp .ge 7, 3) := by decide +kernel
theorem dX8_append_69 : decode cX8_append 69 = .ok (.iload_n 3, 1) := by decide +kernel
theorem dX8_append_70 : decode cX8_append 70 = .ok (.goto 17, 3) := by decide +kernel
theorem dX8_append_73 : decode cX8_append 73 = .ok (.iload 6, 2) := by decide +kernel
theorem dX8_append_75 : decode cX8_append 75 = .ok (.bipush 16, 2) := by decide +kernel
theorem dX8_append_77 : decode cX8_append 77 = .ok (.if_icmp .ge 8, 3) := by decide +kernel
theorem dX8_append_80 : decode cX8_append 80 = .ok (.iload 4, 2) := by decide +kernel
theorem dX8_append_82 : decode cX8_append 82 = .ok (.goto 5, 3) := by decide +kernel
theorem dX8_append_85 : decode cX8_append 85 = .ok (.iload 5, 2) := by decide +kernel
theorem dX8_append_87 : decode cX8_append 87 = .ok (.istore 7, 2) := by decide +kernel
theorem dX8_append_89 : decode cX8_append 89 = .ok (.aload_n 0, 1) := by decide +kernel
theorem dX8_append_90 : decode cX8_append 90 = .ok (.getfield 19, 3) := by decide +kernel
theorem dX8_append_93 : decode cX8_append 93 = .ok (.aload_n 0, 1) := by decide +kernel
theorem dX8_append_94 : decode cX8_append 94 = .ok (.getfield 49, 3) := by decide +kernel
theorem dX8_append_97 : decode cX8_append 97 = .ok (.iload 7, 2) := by decide +kernel
theorem dX8_append_99 : decode cX8_append 99 = .ok (.bipush 24, 2) := by decide +kernel
theorem dX8_append_101 : decode cX8_append 101 = .ok (.bipush 8, 2) := by decide +kernel
theorem dX8_append_103 : decode cX8_append 103 = .ok (.iload 6, 2) := by decide +kernel
theorem dX8_append_105 : decode cX8_append 105 = .ok (.iconst 4, 1) := by decide +kernel
theorem dX8_append_106 : decode cX8_append 106 = .ok (.irem, 1) := by decide +kernel
theorem dX8_append_107 : decode cX8_append 107 = .ok (.imul, 1) := by decide +kernel
theorem dX8_append_108 : decode cX8_append 108 = .ok (.isub, 1) := by decide +kernel
theorem dX8_append_109 : decode cX8_append 109 = .ok (.ishr, 1) := by decide +kernel
theorem dX8_append_110 : decode cX8_append 110 = .ok (.sipush 255, 3) := by decide +kernel
theorem dX8_append_113 : decode cX8_append 113 = .ok (.iand, 1) := by decide +kernel
theorem dX8_append_114 : decode cX8_append 114 = .ok (.iastore, 1) := by decide +kernel
theorem dX8_append_115 : decode cX8_append 115 = .ok (.aload_n 0, 1) := by decide +kernel
theorem dX8_append_116 : decode cX8_append 116 = .ok (.dup, 1) := by decide +kernel
theorem dX8_append_117 : decode cX8_append 117 = .ok (.getfield 49, 3) := by decide +kernel
theorem dX8_append_120 : decode cX8_append 120 = .ok (.iconst 1, 1) := by decide +kernel
theorem dX8_append_121 : decode cX8_append 121 = .ok (.iadd, 1) := by decide +kernel
theorem dX8_append_122 : decode cX8_append 122 = .ok (.putfield 49, 3) := by decide +kernel
theorem dX8_append_125 : decode cX8_append 125 = .ok (.iinc 6 1, 3) := by decide +kernel
theorem dX8_append_128 : decode cX8_append 128 = .ok (.goto (-94), 3) := by decide +kernel
theorem dX8_append_131 : decode cX8_append 131 = .ok (.aload_n 0, 1) := by decide +kernel
theorem dX8_append_132 : decode cX8_append 132 = .ok (.getfield 49, 3) := by decide +kernel
theorem dX8_append_135 : decode cX8_append 135 = .ok (.ireturn, 1) := by decide +kernel
theorem dX8_see_0 : decode cX8_see 0 = .ok (.iload_n 1, 1) := by decide +kernel
theorem dX8_see_1 : decode cX8_see 1 = .ok (.aload_n 0, 1) := by decide +kernel
theorem dX8_see_2 : decode cX8_see 2 = .ok (.getfield 52, 3) := by decide +kernel
theorem dX8_see_5 : decode cX8_see 5 = .ok (.if_icmp .ge 12, 3) := by decide +kernel
theorem dX8_see_8 : decode cX8_see 8 = .ok (.aload_n 0, 1) := by decide +kernel
theorem dX8_see_9 : decode cX8_see 9 = .ok (.getfield 19, 3) := by decide +kernel
theorem dX8_see_12 : decode cX8_see 12 = .ok (.iload_n 1, 1) := by decide +kernel
theorem dX8_see_13 : decode cX8_see 13 = .ok (.iaload, 1) := by decide +kernel
theorem dX8_see_14 : decode cX8_see 14 = .ok (.goto 4, 3) := by decide +kernel
theorem dX8_see_17 : decode cX8_see 17 = .ok (.iconst (-1), 1) := by decide +kernel
theorem dX8_see_18 : decode cX8_see 18 = .ok (.ireturn, 1) := by decide +kernel
set_option maxRecDepth 20000 in
theorem ggX8_isLetter_X8_isIn : GoodIn wsX8_isLetter wsX8_isIn := goodIn_r _ [6] (by decide +kernel) (by decide +kernel)
set_option maxRecDepth 20000 in
theorem gX8_isLetter_X8_isIn : GoodIn wsX8_isLetter (va_wsS RX8 59 yX8_isIn wsX8_isIn) := goodIn_app (goodIn_of _ (by decide +kernel)) ggX8_isLetter_X8_isIn
theorem dX8_isLetter_0 : decode cX8_isLetter 0 = .ok (.iload_n 0, 1) := by decide +kernel
theorem dX8_isLetter_1 : decode cX8_isLetter 1 = .ok (.i2l, 1) := by decide +kernel
theorem dX8_isLetter_2 : decode cX8_isLetter 2 = .ok (.ldc2_w 55, 3) := by decide +kernel
theorem dX8_isLetter_5 : decode cX8_isLetter 5 = .ok (.ldc2_w 57, 3) := by decide +kernel
theorem dX8_isLetter_8 : decode cX8_isLetter 8 = .ok (.invokestatic 59, 3) := by decide +kernel
theorem dX8_isLetter_11 : decode cX8_isLetter 11 = .ok (.ireturn, 1) := by decide +kernel
set_option maxRecDepth 20000 in
theorem ggX8_isDigit_X8_isIn : GoodIn wsX8_isDigit wsX8_isIn := goodIn_r _ [6] (by decide +kernel) (by decide +kernel)
set_option maxRecDepth 20000 in
theorem gX8_isDigit_X8_isIn : GoodIn wsX8_isDigit (va_wsS RX8 59 yX8_isIn wsX8_isIn) := goodIn_app (goodIn_of _ (by decide +kernel)) ggX8_isDigit_X8_isIn
theorem dX8_isDigit_0 : decode cX8_isDigit 0 = .ok (.iload_n 0, 1) := by decide +kernel
theorem dX8_isDigit_1 : decode cX8_isDigit 1 = .ok (.i2l, 1) := by decide +kernel
theorem dX8_isDigit_2 : decode cX8_isDigit 2 = .ok (.ldc2_w 63, 3) := by decide +kernel
theorem dX8_isDigit_5 : decode cX8_isDigit 5 = .ok (.ldc2_w 65, 3) := by decide +kernel
theorem dX8_isDigit_8 : decode cX8_isDigit 8 = .ok (.invokestatic 59, 3) := by decide +kernel
theorem dX8_isDigit_11 : decode cX8_isDigit 11 = .ok (.ireturn, 1) := by decide +kernel
set_option maxRecDepth 20000 in
theorem ggX8_next_X8_see : GoodIn wsX8_next wsX8_see := goodIn_r _ [12, 4, 13, 27, 28, 29, 30, 31, 32, 33, 34, 35, 36, 37, 38, 39, 40, 41, 42, 43, 44] (by decide +kernel) (by decide +kernel)
set_option maxRecDepth 20000 in
theorem gX8_next_X8_see : GoodIn wsX8_next (wsV RX8 73 RX8 yX8_see wsX8_see) := goodIn_app (goodIn_of _ (by decide +kernel)) ggX8_next_X8_see
set_option maxRecDepth 20000 in
theorem ggX8_next_X8_isLetter : GoodIn wsX8_next wsX8_isLetter := goodIn_r _ [16, 17, 18, 19, 20, 11, 21] (by decide +kernel) (by decide +kernel)
set_option maxRecDepth 20000 in
theorem gX8_next_X8_isLetter : GoodIn wsX8_next (va_wsS RX8 84 yX8_isLetter wsX8_isLetter) := goodIn_app (goodIn_of _ (by decide +kernel)) ggX8_next_X8_isLetter
set_option maxRecDepth 20000 in
theorem ggX8_next_X8_isDigit : GoodIn wsX8_next wsX8_isDigit := goodIn_r _ [24, 25, 26, 19, 20, 11, 21] (by decide +kernel) (by decide +kernel)
set_option maxRecDepth 20000 in
theorem gX8_next_X8_isDigit : GoodIn wsX8_next (va_wsS RX8 88 yX8_isDigit wsX8_isDigit) := goodIn_app (goodIn_of _ (by decide +kernel)) ggX8_next_X8_isDigit
theorem dX8_next_0 : decode cX8_next 0 = .ok (.aload_n 0, 1) := by decide +kernel
theorem dX8_next_1 : decode cX8_next 1 = .ok (.aload_n 0, 1) := by decide +kernel
theorem dX8_next_2 : decode cX8_next 2 = .ok (.getfield 67, 3) := by decide +kernel
theorem dX8_next_5 : decode cX8_next 5 = .ok (.putfield 70, 3) := by decide +kernel
theorem dX8_next_8 : decode cX8_next 8 = .ok (.aload_n 0, 1) := by decide +kernel
theorem dX8_next_9 : decode cX8_next 9 = .ok (.aload_n 0, 1) := by decide +kernel
theorem dX8_next_10 : decode cX8_next 10 = .ok (.getfield 70, 3) := by decide +kernel
theorem dX8_next_13 : decode cX8_next 13 = .ok (.invokevirtual 73, 3) := by decide +kernel
theorem dX8_next_16 : decode cX8_next 16 = .ok (.bipush 32, 2) := by decide +kernel
theorem dX8_next_18 : decode cX8_next 18 = .ok (.if_icmp .ne 16, 3) := by decide +kernel
theorem dX8_next_21 : decode cX8_next 21 = .ok (.aload_n 0, 1) := by decide +kernel
theorem dX8_next_22 : decode cX8_next 22 = .ok (.dup, 1) := by decide +kernel
theorem dX8_next_23 : decode cX8_next 23 = .ok (.getfield 70, 3) := by decide +kernel
theorem dX8_next_26 : decode cX8_next 26 = .ok (.iconst 1, 1) := by decide +kernel
theorem dX8_next_27 : decode cX8_next 27 = .ok (.iadd, 1) := by decide +kernel
theorem dX8_next_28 : decode cX8_next 28 = .ok (.putfield 70, 3) := by decide +kernel
theorem dX8_next_31 : decode cX8_next 31 = .ok (.goto (-23), 3) := by decide +kernel
theorem dX8_next_34 : decode cX8_next 34 = .ok (.aload_n 0, 1) := by decide +kernel
theorem dX8_next_35 : decode cX8_next 35 = .ok (.aload_n 0, 1) := by decide +kernel
theorem dX8_next_36 : decode cX8_next 36 = .ok (.getfield 70, 3) := by decide +kernel
theorem dX8_next_39 : decode cX8_next 39 = .ok (.putfield 67, 3) := by decide +kernel
theorem dX8_next_42 : decode cX8_next 42 = .ok (.aload_n 0, 1) := by decide +kernel
theorem dX8_next_43 : decode cX8_next 43 = .ok (.lconst 0, 1) := by decide +kernel
theorem dX8_next_44 : decode cX8_next 44 = .ok (.putfield 77, 3) := by decide +kernel
theorem dX8_next_47 : decode cX8_next 47 = .ok (.aload_n 0, 1) := by decide +kernel
theorem dX8_next_48 : decode cX8_next 48 = .ok (.getfield 70, 3) := by decide +kernel
theorem dX8_next_51 : decode cX8_next 51 = .ok (.aload_n 0, 1) := by decide +kernel
theorem dX8_next_52 : decode cX8_next 52 = .ok (.getfield 52, 3) := by decide +kernel
theorem dX8_next_55 : decode cX8_next 55 = .ok (.if_icmp .lt 11, 3) := by decide +kernel
theorem dX8_next_58 : decode cX8_next 58 = .ok (.aload_n 0, 1) := by decide +kernel
theorem dX8_next_59 : decode cX8_next 59 = .ok (.iconst 3, 1) := by decide +kernel
theorem dX8_next_60 : decode cX8_next 60 = .ok (.putfield 81, 3) := by decide +kernel
theorem dX8_next_63 : decode cX8_next 63 = .ok (.goto 192, 3) := by decide +kernel
theorem dX8_next_66 : decode cX8_next 66 = .ok (.aload_n 0, 1) := by decide +kernel
theorem dX8_next_67 : decode cX8_next 67 = .ok (.aload_n 0, 1) := by decide +kernel
theorem dX8_next_68 : decode cX8_next 68 = .ok (.getfield 70, 3) := by decide +kernel
theorem dX8_next_71 : decode cX8_next 71 = .ok (.invokevirtual 73, 3) := by decide +kernel
theorem dX8_next_74 : decode cX8_next 74 = .ok (.invokestatic 84, 3) := by decide +kernel
theorem dX8_next_77 : decode cX8_next 77 = .ok (.ifCond .eq 77, 3) := by decide +kernel
theorem dX8_next_80 : decode cX8_next 80 = .ok (.aload_n 0, 1) := by decide +kernel
theorem dX8_next_81 : decode cX8_next 81 = .ok (.aload_n 0, 1) := by decide +kernel
theorem dX8_next_82 : decode cX8_next 82 = .ok (.getfield 67, 3) := by decide +kernel
theorem dX8_next_85 : decode cX8_next 85 = .ok (.invokevirtual 73, 3) := by decide +kernel
theorem dX8_next_88 : decode cX8_next 88 = .ok (.invokestatic 84, 3) := by decide +kernel
theorem dX8_next_91 : decode cX8_next 91 = .ok (.ifCond .eq 55, 3) := by decide +kernel
theorem dX8_next_94 : decode cX8_next 94 = .ok (.aload_n 0, 1) := by decide +kernel
theorem dX8_next_95 : decode cX8_next 95 = .ok (.getfield 67, 3) := by decide +kernel
theorem dX8_next_98 : decode cX8_next 98 = .ok (.aload_n 0, 1) := by decide +kernel
theorem dX8_next_99 : decode cX8_next 99 = .ok (.getfield 70, 3) := by decide +kernel
theorem dX8_next_102 : decode cX8_next 102 = .ok (.isub, 1) := by decide +kernel
theorem dX8_next_103 : decode cX8_next 103 = .ok (.bipush 8, 2) := by decide +kernel
theorem dX8_next_105 : decode cX8_next 105 = .ok (.if_icmp .ge 28, 3) := by decide +kernel
theorem dX8_next_108 : decode cX8_next 108 = .ok (.aload_n 0, 1) := by decide +kernel
theorem dX8_next_109 : decode cX8_next 109 = .ok (.aload_n 0, 1) := by decide +kernel
theorem dX8_next_110 : decode cX8_next 110 = .ok (.getfield 77, 3) := by decide +kernel
theorem dX8_next_113 : decode cX8_next 113 = .ok (.iconst 5, 1) := by decide +kernel
theorem dX8_next_114 : decode cX8_next 114 = .ok (.lshl, 1) := by decide +kernel
theorem dX8_next_115 : decode cX8_next 115 = .ok (.aload_n 0, 1) := by decide +kernel
theorem dX8_next_116 : decode cX8_next 116 = .ok (.aload_n 0, 1) := by decide +kernel
theorem dX8_next_117 : decode cX8_next 117 = .ok (.getfield 67, 3) := by decide +kernel
theorem dX8_next_120 : decode cX8_next 120 = .ok (.invokevirtual 73, 3) := by decide +kernel
theorem dX8_next_123 : decode cX8_next 123 = .ok (.bipush 97, 2) := by decide +kernel
theorem dX8_next_125 : decode cX8_next 125 = .ok (.isub, 1) := by decide +kernel
theorem dX8_next_126 : decode cX8_next 126 = .ok (.iconst 1, 1) := by decide +kernel
theorem dX8_next_127 : decode cX8_next 127 = .ok (.iadd, 1) := by decide +kernel
theorem dX8_next_128 : decode cX8_next 128 = .ok (.i2l, 1) := by decide +kernel
theorem dX8_next_129 : decode cX8_next 129 = .ok (.lor, 1) := by decide +kernel
theorem dX8_next_130 : decode cX8_next 130 = .ok (.putfield 77, 3) := by decide +kernel
theorem dX8_next_133 : decode cX8_next 133 = .ok (.aload_n 0, 1) := by decide +kernel
theorem dX8_next_134 : decode cX8_next 134 = .ok (.dup, 1) := by decide +kernel
theorem dX8_next_135 : decode cX8_next 135 = .ok (.getfield 67, 3) := by decide +kernel
theorem dX8_next_138 : decode cX8_next 138 = .ok (.iconst 1, 1) := by decide +kernel
theorem dX8_next_139 : decode cX8_next 139 = .ok (.iadd, 1) := by decide +kernel
theorem dX8_next_140 : decode cX8_next 140 = .ok (.putfield 67, 3) := by decide +kernel
theorem dX8_next_143 : decode cX8_next 143 = .ok (.goto (-63), 3) := by decide +kernel
theorem dX8_next_146 : decode cX8_next 146 = .ok (.aload_n 0, 1) := by decide +kernel
theorem dX8_next_147 : decode cX8_next 147 = .ok (.iconst 0, 1) := by decide +kernel
theorem dX8_next_148 : decode cX8_next 148 = .ok (.putfield 81, 3) := by decide +kernel
theorem dX8_next_151 : decode cX8_next 151 = .ok (.goto 104, 3) := by decide +kernel
theorem dX8_next_154 : decode cX8_next 154 = .ok (.aload_n 0, 1) := by decide +kernel
theorem dX8_next_155 : decode cX8_next 155 = .ok (.aload_n 0, 1) := by decide +kernel
theorem dX8_next_156 : decode cX8_next 156 = .ok (.getfield 70, 3) := by decide +kernel
theorem dX8_next_159 : decode cX8_next 159 = .ok (.invokevirtual 73, 3) := by decide +kernel
theorem dX8_next_162 : decode cX8_next 162 = .ok (.invokestatic 88, 3) := by decide +kernel
theorem dX8_next_165 : decode cX8_next 165 = .ok (.ifCond .eq 75, 3) := by decide +kernel
theorem dX8_next_168 : decode cX8_next 168 = .ok (.aload_n 0, 1) := by decide +kernel
theorem dX8_next_169 : decode cX8_next 169 = .ok (.iconst 0, 1) := by decide +kernel
theorem dX8_next_170 : decode cX8_next 170 = .ok (.putfield 91, 3) := by decide +kernel
theorem dX8_next_173 : decode cX8_next 173 = .ok (.aload_n 0, 1) := by decide +kernel
theorem dX8_next_174 : decode cX8_next 174 = .ok (.aload_n 0, 1) := by decide +kernel
theorem dX8_next_175 : decode cX8_next 175 = .ok (.getfield 67, 3) := by decide +kernel
theorem dX8_next_178 : decode cX8_next 178 = .ok (.invokevirtual 73, 3) := by decide +kernel
theorem dX8_next_181 : decode cX8_next 181 = .ok (.invokestatic 88, 3) := by decide +kernel
theorem dX8_next_184 : decode cX8_next 184 = .ok (.ifCond .eq 48, 3) := by decide +kernel
theorem dX8_next_187 : decode cX8_next 187 = .ok (.aload_n 0, 1) := by decide +kernel
theorem dX8_next_188 : decode cX8_next 188 = .ok (.getfield 91, 3) := by decide +kernel
theorem dX8_next_191 : decode cX8_next 191 = .ok (.ldc 94, 2) := by decide +kernel
theorem dX8_next_193 : decode cX8_next 193 = .ok (.if_icmp .ge 26, 3) := by decide +kernel
theorem dX8_next_196 : decode cX8_next 196 = .ok (.aload_n 0, 1) := by decide +kernel
theorem dX8_next_197 : decode cX8_next 197 = .ok (.bipush 10, 2) := by decide +kernel
theorem dX8_next_199 : decode cX8_next 199 = .ok (.aload_n 0, 1) := by decide +kernel
theorem dX8_next_200 : decode cX8_next 200 = .ok (.getfield 91, 3) := by decide +kernel
theorem dX8_next_203 : decode cX8_next 203 = .ok (.imul, 1) := by decide +kernel
theorem dX8_next_204 : decode cX8_next 204 = .ok (.aload_n 0, 1) := by decide +kernel
theorem dX8_next_205 : decode cX8_next 205 = .ok (.aload_n 0, 1) := by decide +kernel
theorem dX8_next_206 : decode cX8_next 206 = .ok (.getfield 67, 3) := by decide +kernel
theorem dX8_next_209 : decode cX8_next 209 = .ok (.invokevirtual 73, 3) := by decide +kernel
theorem dX8_next_212 : decode cX8_next 212 = .ok (.iadd, 1) := by decide +kernel
theorem dX8_next_213 : decode cX8_next 213 = .ok (.bipush 48, 2) := by decide +kernel
theorem dX8_next_215 : decode cX8_next 215 = .ok (.isub, 1) := by decide +kernel
theorem dX8_next_216 : decode cX8_next 216 = .ok (.putfield 91, 3) := by decide +kernel
theorem dX8_next_219 : decode cX8_next 219 = .ok (.aload_n 0, 1) := by decide +kernel
theorem dX8_next_220 : decode cX8_next 220 = .ok (.dup, 1) := by decide +kernel
theorem dX8_next_221 : decode cX8_next 221 = .ok (.getfield 67, 3) := by decide +kernel
theorem dX8_next_224 : decode cX8_next 224 = .ok (.iconst 1, 1) := by decide +kernel
theorem dX8_next_225 : decode cX8_next 225 = .ok (.iadd, 1) := by decide +kernel
theorem dX8_next_226 : decode cX8_next 226 = .ok (.putfield 67, 3) := by decide +kernel
theorem dX8_next_229 : decode cX8_next 229 = .ok (.goto (-56), 3) := by decide +kernel
theorem dX8_next_232 : decode cX8_next 232 = .ok (.aload_n 0, 1) := by decide +kernel
theorem dX8_next_233 : decode cX8_next 233 = .ok (.iconst 1, 1) := by decide +kernel
theorem dX8_next_234 : decode cX8_next 234 = .ok (.putfield 81, 3) := by decide +kernel
theorem dX8_next_237 : decode cX8_next 237 = .ok (.goto 18, 3) := by decide +kernel
theorem dX8_next_240 : decode cX8_next 240 = .ok (.aload_n 0, 1) := by decide +kernel
theorem dX8_next_241 : decode cX8_next 241 = .ok (.dup, 1) := by decide +kernel
theorem dX8_next_242 : decode cX8_next 242 = .ok (.getfield 67, 3) := by decide +kernel
theorem dX8_next_245 : decode cX8_next 245 = .ok (.iconst 1, 1) := by decide +kernel
theorem dX8_next_246 : decode cX8_next 246 = .ok (.iadd, 1) := by decide +kernel
theorem dX8_next_247 : decode cX8_next 247 = .ok (.putfield 67, 3) := by decide +kernel
theorem dX8_next_250 : decode cX8_next 250 = .ok (.aload_n 0, 1) := by decide +kernel
theorem dX8_next_251 : decode cX8_next 251 = .ok (.iconst 2, 1) := by decide +kernel
theorem dX8_next_252 : decode cX8_next 252 = .ok (.putfield 81, 3) := by decide +kernel
theorem dX8_next_255 : decode cX8_next 255 = .ok (.return_, 1) := by decide +kernel
set_option maxRecDepth 20000 in
theorem ggX8_isWord_J0_length_8abf5 : GoodIn wsX8_isWord wsJ0_length_8abf5 := goodIn_r _ [10, 11, 12, 13, 14, 9, 15, 16, 17] (by decide +kernel) (by decide +kernel)
set_option maxRecDepth 20000 in
theorem gX8_isWord_J0_length_8abf5 : GoodIn wsX8_isWord (wsV RX8 98 RJ0 yJ0_length_8abf5 wsJ0_length_8abf5) := goodIn_app (goodIn_of _ (by decide +kernel)) ggX8_isWord_J0_length_8abf5
set_option maxRecDepth 20000 in
theorem ggX8_isWord_J0_charAt_5068e : GoodIn wsX8_isWord wsJ0_charAt_5068e := goodIn_r _ [21, 11, 22, 23, 24, 9, 25, 16, 17, 26, 27, 28, 29, 30, 31, 32, 33, 34, 35, 36, 37, 38, 39, 40, 41, 42, 43, 44, 45, 46, 47, 48, 49, 50, 51, 52, 53, 54] (by decide +kernel) (by decide +kernel)
set_option maxRecDepth 20000 in
theorem gX8_isWord_J0_charAt_5068e : GoodIn wsX8_isWord (wsV RX8 104 RJ0 yJ0_charAt_5068e wsJ0_charAt_5068e) := goodIn_app (goodIn_of _ (by decide +kernel)) ggX8_isWord_J0_charAt_5068e
theorem dX8_isWord_0 : decode cX8_isWord 0 = .ok (.aload_n 0, 1) := by decide +kernel
theorem dX8_isWord_1 : decode cX8_isWord 1 = .ok (.getfield 95, 3) := by decide +kernel
theorem dX8_isWord_4 : decode cX8_isWord 4 = .ok (.ifCond .ne 26, 3) := by decide +kernel
theorem dX8_isWord_7 : decode cX8_isWord 7 = .ok (.aload_n 0, 1) := by decide +kernel
theorem dX8_isWord_8 : decode cX8_isWord 8 = .ok (.getfield 81, 3) := by decide +kernel
theorem dX8_isWord_11 : decode cX8_isWord 11 = .ok (.ifCond .ne 19, 3) := by decide +kernel
theorem dX8_isWord_14 : decode cX8_isWord 14 = .ok (.aload_n 0, 1) := by decide +kernel
theorem dX8_isWord_15 : decode cX8_isWord 15 = .ok (.getfield 67, 3) := by decide +kernel
theorem dX8_isWord_18 : decode cX8_isWord 18 = .ok (.aload_n 0, 1) := by decide +kernel
theorem dX8_isWord_19 : decode cX8_isWord 19 = .ok (.getfield 70, 3) := by decide +kernel
theorem dX8_isWord_22 : decode cX8_isWord 22 = .ok (.isub, 1) := by decide +kernel
theorem dX8_isWord_23 : decode cX8_isWord 23 = .ok (.aload_n 1, 1) := by decide +kernel
theorem dX8_isWord_24 : decode cX8_isWord 24 = .ok (.invokevirtual 98, 3) := by decide +kernel
theorem dX8_isWord_27 : decode cX8_isWord 27 = .ok (.if_icmp .eq 5, 3) := by decide +kernel
theorem dX8_isWord_30 : decode cX8_isWord 30 = .ok (.iconst 0, 1) := by decide +kernel
theorem dX8_isWord_31 : decode cX8_isWord 31 = .ok (.ireturn, 1) := by decide +kernel
theorem dX8_isWord_32 : decode cX8_isWord 32 = .ok (.iconst 0, 1) := by decide +kernel
theorem dX8_isWord_33 : decode cX8_isWord 33 = .ok (.istore_n 2, 1) := by decide +kernel
theorem dX8_isWord_34 : decode cX8_isWord 34 = .ok (.iload_n 2, 1) := by decide +kernel
theorem dX8_isWord_35 : decode cX8_isWord 35 = .ok (.aload_n 1, 1) := by decide +kernel
theorem dX8_isWord_36 : decode cX8_isWord 36 = .ok (.invokevirtual 98, 3) := by decide +kernel
theorem dX8_isWord_39 : decode cX8_isWord 39 = .ok (.if_icmp .ge 30, 3) := by decide +kernel
theorem dX8_isWord_42 : decode cX8_isWord 42 = .ok (.aload_n 0, 1) := by decide +kernel
theorem dX8_isWord_43 : decode cX8_isWord 43 = .ok (.getfield 19, 3) := by decide +kernel
theorem dX8_isWord_46 : decode cX8_isWord 46 = .ok (.aload_n 0, 1) := by decide +kernel
theorem dX8_isWord_47 : decode cX8_isWord 47 = .ok (.getfield 70, 3) := by decide +kernel
theorem dX8_isWord_50 : decode cX8_isWord 50 = .ok (.iload_n 2, 1) := by decide +kernel
theorem dX8_isWord_51 : decode cX8_isWord 51 = .ok (.iadd, 1) := by decide +kernel
theorem dX8_isWord_52 : decode cX8_isWord 52 = .ok (.iaload, 1) := by decide +kernel
theorem dX8_isWord_53 : decode cX8_isWord 53 = .ok (.aload_n 1, 1) := by decide +kernel
theorem dX8_isWord_54 : decode cX8_isWord 54 = .ok (.iload_n 2, 1) := by decide +kernel
theorem dX8_isWord_55 : decode cX8_isWord 55 = .ok (.invokevirtual 104, 3) := by decide +kernel
theorem dX8_isWord_58 : decode cX8_isWord 58 = .ok (.if_icmp .eq 5, 3) := by decide +kernel
theorem dX8_isWord_61 : decode cX8_isWord 61 = .ok (.iconst 0, 1) := by decide +kernel
theorem dX8_isWord_62 : decode cX8_isWord 62 = .ok (.ireturn, 1) := by decide +kernel
theorem dX8_isWord_63 : decode cX8_isWord 63 = .ok (.iinc 2 1, 3) := by decide +kernel
theorem dX8_isWord_66 : decode cX8_isWord 66 = .ok (.goto (-32), 3) := by decide +kernel
theorem dX8_isWord_69 : decode cX8_isWord 69 = .ok (.iconst 1, 1) := by decide +kernel
theorem dX8_isWord_70 : decode cX8_isWord 70 = .ok (.ireturn, 1) := by decide +kernel
theorem dX8_fails_0 : decode cX8_fails 0 = .ok (.aload_n 0, 1) := by decide +kernel
theorem dX8_fails_1 : decode cX8_fails 1 = .ok (.getfield 95, 3) := by decide +kernel
theorem dX8_fails_4 : decode cX8_fails 4 = .ok (.ifCond .eq 4, 3) := by decide +kernel
theorem dX8_fails_7 : decode cX8_fails 7 = .ok (.return_, 1) := by decide +kernel
theorem dX8_fails_8 : decode cX8_fails 8 = .ok (.aload_n 0, 1) := by decide +kernel
theorem dX8_fails_9 : decode cX8_fails 9 = .ok (.iload_n 1, 1) := by decide +kernel
theorem dX8_fails_10 : decode cX8_fails 10 = .ok (.putfield 95, 3) := by decide +kernel
theorem dX8_fails_13 : decode cX8_fails 13 = .ok (.aload_n 0, 1) := by decide +kernel
theorem dX8_fails_14 : decode cX8_fails 14 = .ok (.aload_n 0, 1) := by decide +kernel
theorem dX8_fails_15 : decode cX8_fails 15 = .ok (.getfield 70, 3) := by decide +kernel
theorem dX8_fails_18 : decode cX8_fails 18 = .ok (.putfield 108, 3) := by decide +kernel
theorem dX8_fails_21 : decode cX8_fails 21 = .ok (.return_, 1) := by decide +kernel
set_option maxRecDepth 20000 in
theorem ggX8_must_X8_fails : GoodIn wsX8_must wsX8_fails := goodIn_r _ [6, 1, 7, 8, 37, 38, 39, 40, 41, 42, 43, 44, 45, 46, 47, 48, 49, 50, 51, 52, 53, 54] (by decide +kernel) (by decide +kernel)
set_option maxRecDepth 20000 in
theorem gX8_must_X8_fails : GoodIn wsX8_must (wsV RX8 111 RX8 yX8_fails wsX8_fails) := goodIn_app (goodIn_of _ (by decide +kernel)) ggX8_must_X8_fails
set_option maxRecDepth 20000 in
theorem ggX8_must_X8_next : GoodIn wsX8_must wsX8_next := goodIn_r _ [12, 13, 7, 14, 15, 16, 17, 18, 19, 20, 21, 5, 22, 23, 24, 25, 26, 27, 28, 29, 30, 31, 32, 33, 34, 35, 36, 37, 38, 39, 40, 41, 42, 43, 44, 45, 46, 47, 48, 49, 50, 51, 52, 53, 54] (by decide +kernel) (by decide +kernel)
set_option maxRecDepth 20000 in
theorem gX8_must_X8_next : GoodIn wsX8_must (wsV RX8 115 RX8 yX8_next wsX8_next) := goodIn_app (goodIn_of _ (by decide +kernel)) ggX8_must_X8_next
theorem dX8_must_0 : decode cX8_must 0 = .ok (.iload_n 1, 1) := by decide +kernel
theorem dX8_must_1 : decode cX8_must 1 = .ok (.ifCond .ne 9, 3) := by decide +kernel
theorem dX8_must_4 : decode cX8_must 4 = .ok (.aload_n 0, 1) := by decide +kernel
theorem dX8_must_5 : decode cX8_must 5 = .ok (.bipush (-2), 2) := by decide +kernel
theorem dX8_must_7 : decode cX8_must 7 = .ok (.invokevirtual 111, 3) := by decide +kernel
theorem dX8_must_10 : decode cX8_must 10 = .ok (.aload_n 0, 1) := by decide +kernel
theorem dX8_must_11 : decode cX8_must 11 = .ok (.getfield 95, 3) := by decide +kernel
theorem dX8_must_14 : decode cX8_must 14 = .ok (.ifCond .ne 7, 3) := by decide +kernel
theorem dX8_must_17 : decode cX8_must 17 = .ok (.aload_n 0, 1) := by decide +kernel
theorem dX8_must_18 : decode cX8_must 18 = .ok (.invokevirtual 115, 3) := by decide +kernel
theorem dX8_must_21 : decode cX8_must 21 = .ok (.return_, 1) := by decide +kernel
set_option maxRecDepth 20000 in
theorem ggX8_takes_X8_fails : GoodIn wsX8_takes wsX8_fails := goodIn_r _ [8, 1, 9, 10, 37, 38, 39, 40, 41, 42, 43, 44, 45, 46, 47, 48, 49, 50, 51, 52, 53, 54] (by decide +kernel) (by decide +kernel)
set_option maxRecDepth 20000 in
theorem gX8_takes_X8_fails : GoodIn wsX8_takes (wsV RX8 111 RX8 yX8_fails wsX8_fails) := goodIn_app (goodIn_of _ (by decide +kernel)) ggX8_takes_X8_fails
set_option maxRecDepth 20000 in
theorem ggX8_takes_X8_isIn : GoodIn wsX8_takes wsX8_isIn := goodIn_r _ [13] (by decide +kernel) (by decide +kernel)
set_option maxRecDepth 20000 in
theorem gX8_takes_X8_isIn : GoodIn wsX8_takes (va_wsS RX8 59 yX8_isIn wsX8_isIn) := goodIn_app (goodIn_of _ (by decide +kernel)) ggX8_takes_X8_isIn
set_option maxRecDepth 20000 in
theorem ggX8_takes_X8_next : GoodIn wsX8_takes wsX8_next := goodIn_r _ [17, 18, 9, 19, 20, 2, 3, 21, 22, 23, 24, 7, 25, 26, 27, 28, 29, 30, 31, 11, 12, 13, 32, 33, 34, 35, 36, 37, 38, 39, 40, 41, 42, 43, 44, 45, 46, 47, 48, 49, 50, 51, 52, 53, 54] (by decide +kernel) (by decide +kernel)
set_option maxRecDepth 20000 in
theorem gX8_takes_X8_next : GoodIn wsX8_takes (wsV RX8 115 RX8 yX8_next wsX8_next) := goodIn_app (goodIn_of _ (by decide +kernel)) ggX8_takes_X8_next
theorem dX8_takes_0 : decode cX8_takes 0 = .ok (.aload_n 0, 1) := by decide +kernel
theorem dX8_takes_1 : decode cX8_takes 1 = .ok (.getfield 95, 3) := by decide +kernel
theorem dX8_takes_4 : decode cX8_takes 4 = .ok (.ifCond .ne 20, 3) := by decide +kernel
theorem dX8_takes_7 : decode cX8_takes 7 = .ok (.aload_n 0, 1) := by decide +kernel
theorem dX8_takes_8 : decode cX8_takes 8 = .ok (.getfield 81, 3) := by decide +kernel
theorem dX8_takes_11 : decode cX8_takes 11 = .ok (.iconst 1, 1) := by decide +kernel
theorem dX8_takes_12 : decode cX8_takes 12 = .ok (.if_icmp .eq 12, 3) := by decide +kernel
theorem dX8_takes_15 : decode cX8_takes 15 = .ok (.aload_n 0, 1) := by decide +kernel
theorem dX8_takes_16 : decode cX8_takes 16 = .ok (.bipush (-2), 2) := by decide +kernel
theorem dX8_takes_18 : decode cX8_takes 18 = .ok (.invokevirtual 111, 3) := by decide +kernel
theorem dX8_takes_21 : decode cX8_takes 21 = .ok (.goto 31, 3) := by decide +kernel
theorem dX8_takes_24 : decode cX8_takes 24 = .ok (.aload_n 0, 1) := by decide +kernel
theorem dX8_takes_25 : decode cX8_takes 25 = .ok (.getfield 95, 3) := by decide +kernel
theorem dX8_takes_28 : decode cX8_takes 28 = .ok (.ifCond .ne 24, 3) := by decide +kernel
theorem dX8_takes_31 : decode cX8_takes 31 = .ok (.aload_n 0, 1) := by decide +kernel
theorem dX8_takes_32 : decode cX8_takes 32 = .ok (.getfield 91, 3) := by decide +kernel
theorem dX8_takes_35 : decode cX8_takes 35 = .ok (.i2l, 1) := by decide +kernel
theorem dX8_takes_36 : decode cX8_takes 36 = .ok (.iload_n 1, 1) := by decide +kernel
theorem dX8_takes_37 : decode cX8_takes 37 = .ok (.i2l, 1) := by decide +kernel
theorem dX8_takes_38 : decode cX8_takes 38 = .ok (.iload_n 2, 1) := by decide +kernel
theorem dX8_takes_39 : decode cX8_takes 39 = .ok (.i2l, 1) := by decide +kernel
theorem dX8_takes_40 : decode cX8_takes 40 = .ok (.invokestatic 59, 3) := by decide +kernel
theorem dX8_takes_43 : decode cX8_takes 43 = .ok (.ifCond .ne 9, 3) := by decide +kernel
theorem dX8_takes_46 : decode cX8_takes 46 = .ok (.aload_n 0, 1) := by decide +kernel
theorem dX8_takes_47 : decode cX8_takes 47 = .ok (.bipush (-3), 2) := by decide +kernel
theorem dX8_takes_49 : decode cX8_takes 49 = .ok (.invokevirtual 111, 3) := by decide +kernel
theorem dX8_takes_52 : decode cX8_takes 52 = .ok (.aload_n 0, 1) := by decide +kernel
theorem dX8_takes_53 : decode cX8_takes 53 = .ok (.getfield 95, 3) := by decide +kernel
theorem dX8_takes_56 : decode cX8_takes 56 = .ok (.ifCond .ne 10, 3) := by decide +kernel
theorem dX8_takes_59 : decode cX8_takes 59 = .ok (.aload_n 0, 1) := by decide +kernel
theorem dX8_takes_60 : decode cX8_takes 60 = .ok (.getfield 91, 3) := by decide +kernel
theorem dX8_takes_63 : decode cX8_takes 63 = .ok (.goto 4, 3) := by decide +kernel
theorem dX8_takes_66 : decode cX8_takes 66 = .ok (.iconst 0, 1) := by decide +kernel
theorem dX8_takes_67 : decode cX8_takes 67 = .ok (.istore_n 3, 1) := by decide +kernel
theorem dX8_takes_68 : decode cX8_takes 68 = .ok (.aload_n 0, 1) := by decide +kernel
theorem dX8_takes_69 : decode cX8_takes 69 = .ok (.getfield 95, 3) := by decide +kernel
theorem dX8_takes_72 : decode cX8_takes 72 = .ok (.ifCond .ne 7, 3) := by decide +kernel
theorem dX8_takes_75 : decode cX8_takes 75 = .ok (.aload_n 0, 1) := by decide +kernel
theorem dX8_takes_76 : decode cX8_takes 76 = .ok (.invokevirtual 115, 3) := by decide +kernel
theorem dX8_takes_79 : decode cX8_takes 79 = .ok (.iload_n 3, 1) := by decide +kernel
theorem dX8_takes_80 : decode cX8_takes 80 = .ok (.ireturn, 1) := by decide +kernel
theorem dX8_named_0 : decode cX8_named 0 = .ok (.iconst 0, 1) := by decide +kernel
theorem dX8_named_1 : decode cX8_named 1 = .ok (.istore_n 3, 1) := by decide +kernel
theorem dX8_named_2 : decode cX8_named 2 = .ok (.iload_n 3, 1) := by decide +kernel
theorem dX8_named_3 : decode cX8_named 3 = .ok (.i2l, 1) := by decide +kernel
theorem dX8_named_4 : decode cX8_named 4 = .ok (.aload_n 0, 1) := by decide +kernel
theorem dX8_named_5 : decode cX8_named 5 = .ok (.iconst 2, 1) := by decide +kernel
theorem dX8_named_6 : decode cX8_named 6 = .ok (.laload, 1) := by decide +kernel
theorem dX8_named_7 : decode cX8_named 7 = .ok (.lcmp, 1) := by decide +kernel
theorem dX8_named_8 : decode cX8_named 8 = .ok (.ifCond .ge 23, 3) := by decide +kernel
theorem dX8_named_11 : decode cX8_named 11 = .ok (.aload_n 0, 1) := by decide +kernel
theorem dX8_named_12 : decode cX8_named 12 = .ok (.sipush 149, 3) := by decide +kernel
theorem dX8_named_15 : decode cX8_named 15 = .ok (.iload_n 3, 1) := by decide +kernel
theorem dX8_named_16 : decode cX8_named 16 = .ok (.iadd, 1) := by decide +kernel
theorem dX8_named_17 : decode cX8_named 17 = .ok (.laload, 1) := by decide +kernel
theorem dX8_named_18 : decode cX8_named 18 = .ok (.lload_n 1, 1) := by decide +kernel
theorem dX8_named_19 : decode cX8_named 19 = .ok (.lcmp, 1) := by decide +kernel
theorem dX8_named_20 : decode cX8_named 20 = .ok (.ifCond .ne 5, 3) := by decide +kernel
theorem dX8_named_23 : decode cX8_named 23 = .ok (.iload_n 3, 1) := by decide +kernel
theorem dX8_named_24 : decode cX8_named 24 = .ok (.ireturn, 1) := by decide +kernel
theorem dX8_named_25 : decode cX8_named 25 = .ok (.iinc 3 1, 3) := by decide +kernel
theorem dX8_named_28 : decode cX8_named 28 = .ok (.goto (-26), 3) := by decide +kernel
theorem dX8_named_31 : decode cX8_named 31 = .ok (.iconst (-1), 1) := by decide +kernel
theorem dX8_named_32 : decode cX8_named 32 = .ok (.ireturn, 1) := by decide +kernel
set_option maxRecDepth 20000 in
theorem ggX8_takesName_X8_fails : GoodIn wsX8_takesName wsX8_fails := goodIn_r _ [11, 1, 4, 12, 41, 42, 43, 44, 45, 46, 47, 48, 49, 50, 51, 52, 53, 54, 55, 56, 57, 58] (by decide +kernel) (by decide +kernel)
set_option maxRecDepth 20000 in
theorem gX8_takesName_X8_fails : GoodIn wsX8_takesName (wsV RX8 111 RX8 yX8_fails wsX8_fails) := goodIn_app (goodIn_of _ (by decide +kernel)) ggX8_takesName_X8_fails
set_option maxRecDepth 20000 in
theorem ggX8_takesName_X8_named : GoodIn wsX8_takesName wsX8_named := goodIn_r _ [15] (by decide +kernel) (by decide +kernel)
set_option maxRecDepth 20000 in
theorem gX8_takesName_X8_named : GoodIn wsX8_takesName (va_wsS RX8 118 yX8_named wsX8_named) := goodIn_app (goodIn_of _ (by decide +kernel)) ggX8_takesName_X8_named
set_option maxRecDepth 20000 in
theorem ggX8_takesName_X8_next : GoodIn wsX8_takesName wsX8_next := goodIn_r _ [19, 3, 4, 6, 20, 2, 21, 22, 23, 24, 25, 10, 26, 27, 28, 29, 30, 31, 32, 33, 34, 35, 36, 37, 38, 39, 40, 41, 42, 43, 44, 45, 46, 47, 48, 49, 50, 51, 52, 53, 54, 55, 56, 57, 58] (by decide +kernel) (by decide +kernel)
set_option maxRecDepth 20000 in
theorem gX8_takesName_X8_next : GoodIn wsX8_takesName (wsV RX8 115 RX8 yX8_next wsX8_next) := goodIn_app (goodIn_of _ (by decide +kernel)) ggX8_takesName_X8_next
theorem dX8_takesName_0 : decode cX8_takesName 0 = .ok (.aload_n 0, 1) := by decide +kernel
theorem dX8_takesName_1 : decode cX8_takesName 1 = .ok (.getfield 95, 3) := by decide +kernel
theorem dX8_takesName_4 : decode cX8_takesName 4 = .ok (.ifCond .ne 30, 3) := by decide +kernel
theorem dX8_takesName_7 : decode cX8_takesName 7 = .ok (.aload_n 0, 1) := by decide +kernel
theorem dX8_takesName_8 : decode cX8_takesName 8 = .ok (.getfield 81, 3) := by decide +kernel
theorem dX8_takesName_11 : decode cX8_takesName 11 = .ok (.ifCond .ne 17, 3) := by decide +kernel
theorem dX8_takesName_14 : decode cX8_takesName 14 = .ok (.aload_n 0, 1) := by decide +kernel
theorem dX8_takesName_15 : decode cX8_takesName 15 = .ok (.getfield 67, 3) := by decide +kernel
theorem dX8_takesName_18 : decode cX8_takesName 18 = .ok (.aload_n 0, 1) := by decide +kernel
theorem dX8_takesName_19 : decode cX8_takesName 19 = .ok (.getfield 70, 3) := by decide +kernel
theorem dX8_takesName_22 : decode cX8_takesName 22 = .ok (.isub, 1) := by decide +kernel
theorem dX8_takesName_23 : decode cX8_takesName 23 = .ok (.bipush 8, 2) := by decide +kernel
theorem dX8_takesName_25 : decode cX8_takesName 25 = .ok (.if_icmp .le 9, 3) := by decide +kernel
theorem dX8_takesName_28 : decode cX8_takesName 28 = .ok (.aload_n 0, 1) := by decide +kernel
theorem dX8_takesName_29 : decode cX8_takesName 29 = .ok (.bipush (-2), 2) := by decide +kernel
theorem dX8_takesName_31 : decode cX8_takesName 31 = .ok (.invokevirtual 111, 3) := by decide +kernel
theorem dX8_takesName_34 : decode cX8_takesName 34 = .ok (.aload_n 0, 1) := by decide +kernel
theorem dX8_takesName_35 : decode cX8_takesName 35 = .ok (.getfield 95, 3) := by decide +kernel
theorem dX8_takesName_38 : decode cX8_takesName 38 = .ok (.ifCond .ne 33, 3) := by decide +kernel
theorem dX8_takesName_41 : decode cX8_takesName 41 = .ok (.aload_n 0, 1) := by decide +kernel
theorem dX8_takesName_42 : decode cX8_takesName 42 = .ok (.getfield 13, 3) := by decide +kernel
theorem dX8_takesName_45 : decode cX8_takesName 45 = .ok (.aload_n 0, 1) := by decide +kernel
theorem dX8_takesName_46 : decode cX8_takesName 46 = .ok (.getfield 77, 3) := by decide +kernel
theorem dX8_takesName_49 : decode cX8_takesName 49 = .ok (.invokestatic 118, 3) := by decide +kernel
theorem dX8_takesName_52 : decode cX8_takesName 52 = .ok (.iconst (-1), 1) := by decide +kernel
theorem dX8_takesName_53 : decode cX8_takesName 53 = .ok (.if_icmp .eq 7, 3) := by decide +kernel
theorem dX8_takesName_56 : decode cX8_takesName 56 = .ok (.iconst 1, 1) := by decide +kernel
theorem dX8_takesName_57 : decode cX8_takesName 57 = .ok (.goto 4, 3) := by decide +kernel
theorem dX8_takesName_60 : decode cX8_takesName 60 = .ok (.iconst 0, 1) := by decide +kernel
theorem dX8_takesName_61 : decode cX8_takesName 61 = .ok (.iload_n 1, 1) := by decide +kernel
theorem dX8_takesName_62 : decode cX8_takesName 62 = .ok (.if_icmp .eq 9, 3) := by decide +kernel
theorem dX8_takesName_65 : decode cX8_takesName 65 = .ok (.aload_n 0, 1) := by decide +kernel
theorem dX8_takesName_66 : decode cX8_takesName 66 = .ok (.bipush (-3), 2) := by decide +kernel
theorem dX8_takesName_68 : decode cX8_takesName 68 = .ok (.invokevirtual 111, 3) := by decide +kernel
theorem dX8_takesName_71 : decode cX8_takesName 71 = .ok (.aload_n 0, 1) := by decide +kernel
theorem dX8_takesName_72 : decode cX8_takesName 72 = .ok (.getfield 77, 3) := by decide +kernel
theorem dX8_takesName_75 : decode cX8_takesName 75 = .ok (.lstore_n 2, 1) := by decide +kernel
theorem dX8_takesName_76 : decode cX8_takesName 76 = .ok (.aload_n 0, 1) := by decide +kernel
theorem dX8_takesName_77 : decode cX8_takesName 77 = .ok (.getfield 95, 3) := by decide +kernel
theorem dX8_takesName_80 : decode cX8_takesName 80 = .ok (.ifCond .ne 7, 3) := by decide +kernel
theorem dX8_takesName_83 : decode cX8_takesName 83 = .ok (.aload_n 0, 1) := by decide +kernel
theorem dX8_takesName_84 : decode cX8_takesName 84 = .ok (.invokevirtual 115, 3) := by decide +kernel
theorem dX8_takesName_87 : decode cX8_takesName 87 = .ok (.lload_n 2, 1) := by decide +kernel
theorem dX8_takesName_88 : decode cX8_takesName 88 = .ok (.lreturn, 1) := by decide +kernel
set_option maxRecDepth 20000 in
theorem ggX8_takesFolder_X8_takesName : GoodIn wsX8_takesFolder wsX8_takesName := goodIn_r _ [6, 7, 8, 9, 10, 1, 11, 12, 13, 14, 5, 15, 16, 17, 18, 19, 20, 21, 22, 23, 24, 25, 26, 27, 28, 29, 30, 31, 32, 33, 34, 35, 36, 37, 38, 39, 40, 41, 42, 43, 44, 45, 46, 47, 48, 49, 50, 51, 52, 53, 54, 55, 56, 57, 58, 59, 60, 61, 62] (by decide +kernel) (by decide +kernel)
set_option maxRecDepth 20000 in
theorem gX8_takesFolder_X8_takesName : GoodIn wsX8_takesFolder (wsV RX8 122 RX8 yX8_takesName wsX8_takesName) := goodIn_app (goodIn_of _ (by decide +kernel)) ggX8_takesFolder_X8_takesName
set_option maxRecDepth 20000 in
theorem ggX8_takesFolder_X8_named : GoodIn wsX8_takesFolder wsX8_named := goodIn_r _ [19] (by decide +kernel) (by decide +kernel)
set_option maxRecDepth 20000 in
theorem gX8_takesFolder_X8_named : GoodIn wsX8_takesFolder (va_wsS RX8 118 yX8_named wsX8_named) := goodIn_app (goodIn_of _ (by decide +kernel)) ggX8_takesFolder_X8_named
theorem dX8_takesFolder_0 : decode cX8_takesFolder 0 = .ok (.aload_n 0, 1) := by decide +kernel
theorem dX8_takesFolder_1 : decode cX8_takesFolder 1 = .ok (.getfield 13, 3) := by decide +kernel
theorem dX8_takesFolder_4 : decode cX8_takesFolder 4 = .ok (.aload_n 0, 1) := by decide +kernel
theorem dX8_takesFolder_5 : decode cX8_takesFolder 5 = .ok (.iconst 1, 1) := by decide +kernel
theorem dX8_takesFolder_6 : decode cX8_takesFolder 6 = .ok (.invokevirtual 122, 3) := by decide +kernel
theorem dX8_takesFolder_9 : decode cX8_takesFolder 9 = .ok (.invokestatic 118, 3) := by decide +kernel
theorem dX8_takesFolder_12 : decode cX8_takesFolder 12 = .ok (.ireturn, 1) := by decide +kernel
set_option maxRecDepth 20000 in
theorem ggX8_readsLimits_X8_must : GoodIn wsX8_readsLimits wsX8_must := goodIn_r _ [10, 2, 11, 12, 13, 9, 14, 15, 16, 17, 18, 19, 20, 21, 22, 23, 3, 4, 24, 25, 26, 27, 28, 29, 30, 31, 32, 33, 34, 35, 36, 37, 38, 39, 40, 41, 42, 47, 48, 49, 50, 51, 52, 53, 54, 55, 56, 57, 58, 59, 60, 61, 62, 63, 64] (by decide +kernel) (by decide +kernel)
set_option maxRecDepth 20000 in
theorem gX8_readsLimits_X8_must : GoodIn wsX8_readsLimits (wsV RX8 126 RX8 yX8_must wsX8_must) := goodIn_app (goodIn_of _ (by decide +kernel)) ggX8_readsLimits_X8_must
set_option maxRecDepth 20000 in
theorem ggX8_readsLimits_X8_takes : GoodIn wsX8_readsLimits wsX8_takes := goodIn_r _ [46, 2, 3, 4, 11, 12, 13, 9, 14, 15, 16, 35, 36, 37, 17, 18, 19, 20, 21, 22, 23, 24, 25, 26, 27, 28, 29, 30, 31, 32, 33, 34, 38, 39, 40, 41, 42, 47, 48, 49, 50, 51, 52, 53, 54, 55, 56, 57, 58, 59, 60, 61, 62, 63, 64] (by decide +kernel) (by decide +kernel)
set_option maxRecDepth 20000 in
theorem gX8_readsLimits_X8_takes : GoodIn wsX8_readsLimits (wsV RX8 130 RX8 yX8_takes wsX8_takes) := goodIn_app (goodIn_of _ (by decide +kernel)) ggX8_readsLimits_X8_takes
set_option maxRecDepth 20000 in
theorem ggX8_readsLimits_X8_fails : GoodIn wsX8_readsLimits wsX8_fails := goodIn_r _ [14, 2, 15, 16, 47, 48, 49, 50, 51, 52, 53, 54, 55, 56, 57, 58, 59, 60, 61, 62, 63, 64] (by decide +kernel) (by decide +kernel)
set_option maxRecDepth 20000 in
theorem gX8_readsLimits_X8_fails : GoodIn wsX8_readsLimits (wsV RX8 111 RX8 yX8_fails wsX8_fails) := goodIn_app (goodIn_of _ (by decide +kernel)) ggX8_readsLimits_X8_fails
theorem dX8_readsLimits_0 : decode cX8_readsLimits 0 = .ok (.aload_n 0, 1) := by decide +kernel
theorem dX8_readsLimits_1 : decode cX8_readsLimits 1 = .ok (.iconst 1, 1) := by decide +kernel
theorem dX8_readsLimits_2 : decode cX8_readsLimits 2 = .ok (.invokevirtual 126, 3) := by decide +kernel
theorem dX8_readsLimits_5 : decode cX8_readsLimits 5 = .ok (.aload_n 0, 1) := by decide +kernel
theorem dX8_readsLimits_6 : decode cX8_readsLimits 6 = .ok (.iconst 0, 1) := by decide +kernel
theorem dX8_readsLimits_7 : decode cX8_readsLimits 7 = .ok (.bipush 7, 2) := by decide +kernel
theorem dX8_readsLimits_9 : decode cX8_readsLimits 9 = .ok (.invokevirtual 130, 3) := by decide +kernel
theorem dX8_readsLimits_12 : decode cX8_readsLimits 12 = .ok (.istore_n 1, 1) := by decide +kernel
theorem dX8_readsLimits_13 : decode cX8_readsLimits 13 = .ok (.iconst 0, 1) := by decide +kernel
theorem dX8_readsLimits_14 : decode cX8_readsLimits 14 = .ok (.istore_n 2, 1) := by decide +kernel
theorem dX8_readsLimits_15 : decode cX8_readsLimits 15 = .ok (.iload_n 2, 1) := by decide +kernel
theorem dX8_readsLimits_16 : decode cX8_readsLimits 16 = .ok (.iconst 2, 1) := by decide +kernel
theorem dX8_readsLimits_17 : decode cX8_readsLimits 17 = .ok (.if_icmp .ge 92, 3) := by decide +kernel
theorem dX8_readsLimits_20 : decode cX8_readsLimits 20 = .ok (.aload_n 0, 1) := by decide +kernel
theorem dX8_readsLimits_21 : decode cX8_readsLimits 21 = .ok (.iconst 0, 1) := by decide +kernel
theorem dX8_readsLimits_22 : decode cX8_readsLimits 22 = .ok (.ldc 134, 2) := by decide +kernel
theorem dX8_readsLimits_24 : decode cX8_readsLimits 24 = .ok (.invokevirtual 130, 3) := by decide +kernel
theorem dX8_readsLimits_27 : decode cX8_readsLimits 27 = .ok (.istore_n 3, 1) := by decide +kernel
theorem dX8_readsLimits_28 : decode cX8_readsLimits 28 = .ok (.aload_n 0, 1) := by decide +kernel
theorem dX8_readsLimits_29 : decode cX8_readsLimits 29 = .ok (.getfield 95, 3) := by decide +kernel
theorem dX8_readsLimits_32 : decode cX8_readsLimits 32 = .ok (.ifCond .ne 32, 3) := by decide +kernel
theorem dX8_readsLimits_35 : decode cX8_readsLimits 35 = .ok (.aload_n 0, 1) := by decide +kernel
theorem dX8_readsLimits_36 : decode cX8_readsLimits 36 = .ok (.getfield 81, 3) := by decide +kernel
theorem dX8_readsLimits_39 : decode cX8_readsLimits 39 = .ok (.iconst 1, 1) := by decide +kernel
theorem dX8_readsLimits_40 : decode cX8_readsLimits 40 = .ok (.if_icmp .ne 24, 3) := by decide +kernel
theorem dX8_readsLimits_43 : decode cX8_readsLimits 43 = .ok (.aload_n 0, 1) := by decide +kernel
theorem dX8_readsLimits_44 : decode cX8_readsLimits 44 = .ok (.getfield 91, 3) := by decide +kernel
theorem dX8_readsLimits_47 : decode cX8_readsLimits 47 = .ok (.ifCond .le 17, 3) := by decide +kernel
theorem dX8_readsLimits_50 : decode cX8_readsLimits 50 = .ok (.aload_n 0, 1) := by decide +kernel
theorem dX8_readsLimits_51 : decode cX8_readsLimits 51 = .ok (.getfield 91, 3) := by decide +kernel
theorem dX8_readsLimits_54 : decode cX8_readsLimits 54 = .ok (.iload_n 3, 1) := by decide +kernel
theorem dX8_readsLimits_55 : decode cX8_readsLimits 55 = .ok (.if_icmp .ge 9, 3) := by decide +kernel
theorem dX8_readsLimits_58 : decode cX8_readsLimits 58 = .ok (.aload_n 0, 1) := by decide +kernel
theorem dX8_readsLimits_59 : decode cX8_readsLimits 59 = .ok (.bipush (-3), 2) := by decide +kernel
theorem dX8_readsLimits_61 : decode cX8_readsLimits 61 = .ok (.invokevirtual 111, 3) := by decide +kernel
theorem dX8_readsLimits_64 : decode cX8_readsLimits 64 = .ok (.aload_n 0, 1) := by decide +kernel
theorem dX8_readsLimits_65 : decode cX8_readsLimits 65 = .ok (.iconst 0, 1) := by decide +kernel
theorem dX8_readsLimits_66 : decode cX8_readsLimits 66 = .ok (.ldc 134, 2) := by decide +kernel
theorem dX8_readsLimits_68 : decode cX8_readsLimits 68 = .ok (.invokevirtual 130, 3) := by decide +kernel
theorem dX8_readsLimits_71 : decode cX8_readsLimits 71 = .ok (.istore 4, 2) := by decide +kernel
theorem dX8_readsLimits_73 : decode cX8_readsLimits 73 = .ok (.aload_n 0, 1) := by decide +kernel
theorem dX8_readsLimits_74 : decode cX8_readsLimits 74 = .ok (.getfield 13, 3) := by decide +kernel
theorem dX8_readsLimits_77 : decode cX8_readsLimits 77 = .ok (.iconst 5, 1) := by decide +kernel
theorem dX8_readsLimits_78 : decode cX8_readsLimits 78 = .ok (.iconst 2, 1) := by decide +kernel
theorem dX8_readsLimits_79 : decode cX8_readsLimits 79 = .ok (.iload_n 1, 1) := by decide +kernel
theorem dX8_readsLimits_80 : decode cX8_readsLimits 80 = .ok (.imul, 1) := by decide +kernel
theorem dX8_readsLimits_81 : decode cX8_readsLimits 81 = .ok (.iadd, 1) := by decide +kernel
theorem dX8_readsLimits_82 : decode cX8_readsLimits 82 = .ok (.iload_n 2, 1) := by decide +kernel
theorem dX8_readsLimits_83 : decode cX8_readsLimits 83 = .ok (.iadd, 1) := by decide +kernel
theorem dX8_readsLimits_84 : decode cX8_readsLimits 84 = .ok (.iload_n 3, 1) := by decide +kernel
theorem dX8_readsLimits_85 : decode cX8_readsLimits 85 = .ok (.i2l, 1) := by decide +kernel
theorem dX8_readsLimits_86 : decode cX8_readsLimits 86 = .ok (.lastore, 1) := by decide +kernel
theorem dX8_readsLimits_87 : decode cX8_readsLimits 87 = .ok (.aload_n 0, 1) := by decide +kernel
theorem dX8_readsLimits_88 : decode cX8_readsLimits 88 = .ok (.getfield 13, 3) := by decide +kernel
theorem dX8_readsLimits_91 : decode cX8_readsLimits 91 = .ok (.bipush 21, 2) := by decide +kernel
theorem dX8_readsLimits_93 : decode cX8_readsLimits 93 = .ok (.iconst 2, 1) := by decide +kernel
theorem dX8_readsLimits_94 : decode cX8_readsLimits 94 = .ok (.iload_n 1, 1) := by decide +kernel
theorem dX8_readsLimits_95 : decode cX8_readsLimits 95 = .ok (.imul, 1) := by decide +kernel
theorem dX8_readsLimits_96 : decode cX8_readsLimits 96 = .ok (.iadd, 1) := by decide +kernel
theorem dX8_readsLimits_97 : decode cX8_readsLimits 97 = .ok (.iload_n 2, 1) := by decide +kernel
theorem dX8_readsLimits_98 : decode cX8_readsLimits 98 = .ok (.iadd, 1) := by decide +kernel
theorem dX8_readsLimits_99 : decode cX8_readsLimits 99 = .ok (.iload 4, 2) := by decide +kernel
theorem dX8_readsLimits_101 : decode cX8_readsLimits 101 = .ok (.i2l, 1) := by decide +kernel
theorem dX8_readsLimits_102 : decode cX8_readsLimits 102 = .ok (.lastore, 1) := by decide +kernel
theorem dX8_readsLimits_103 : decode cX8_readsLimits 103 = .ok (.iinc 2 1, 3) := by decide +kernel
theorem dX8_readsLimits_106 : decode cX8_readsLimits 106 = .ok (.goto (-91), 3) := by decide +kernel
theorem dX8_readsLimits_109 : decode cX8_readsLimits 109 = .ok (.return_, 1) := by decide +kernel
set_option maxRecDepth 20000 in
theorem ggX8_readsFolder_X8_fails : GoodIn wsX8_readsFolder wsX8_fails := goodIn_r _ [8, 3, 9, 10, 58, 59, 60, 61, 62, 63, 64, 65, 66, 67, 68, 69, 70, 71, 72, 73, 74, 75] (by decide +kernel) (by decide +kernel)
set_option maxRecDepth 20000 in
theorem gX8_readsFolder_X8_fails : GoodIn wsX8_readsFolder (wsV RX8 111 RX8 yX8_fails wsX8_fails) := goodIn_app (goodIn_of _ (by decide +kernel)) ggX8_readsFolder_X8_fails
set_option maxRecDepth 20000 in
theorem ggX8_readsFolder_X8_must : GoodIn wsX8_readsFolder wsX8_must := goodIn_r _ [14, 3, 4, 5, 6, 7, 8, 9, 10, 15, 16, 17, 18, 19, 20, 21, 22, 23, 24, 25, 26, 27, 28, 29, 30, 31, 32, 33, 34, 35, 36, 37, 38, 39, 40, 41, 42, 58, 59, 60, 61, 62, 63, 64, 65, 66, 67, 68, 69, 70, 71, 72, 73, 74, 75] (by decide +kernel) (by decide +kernel)
set_option maxRecDepth 20000 in
theorem gX8_readsFolder_X8_must : GoodIn wsX8_readsFolder (wsV RX8 126 RX8 yX8_must wsX8_must) := goodIn_app (goodIn_of _ (by decide +kernel)) ggX8_readsFolder_X8_must
set_option maxRecDepth 20000 in
theorem ggX8_readsFolder_X8_takesName : GoodIn wsX8_readsFolder wsX8_takesName := goodIn_r _ [46, 3, 22, 19, 9, 1, 20, 4, 5, 6, 7, 8, 10, 47, 48, 49, 15, 16, 17, 18, 21, 23, 24, 25, 26, 27, 28, 29, 30, 31, 32, 33, 34, 35, 36, 37, 38, 39, 40, 41, 42, 58, 59, 60, 61, 62, 63, 64, 65, 66, 67, 68, 69, 70, 71, 72, 73, 74, 75] (by decide +kernel) (by decide +kernel)
set_option maxRecDepth 20000 in
theorem gX8_readsFolder_X8_takesName : GoodIn wsX8_readsFolder (wsV RX8 122 RX8 yX8_takesName wsX8_takesName) := goodIn_app (goodIn_of _ (by decide +kernel)) ggX8_readsFolder_X8_takesName
set_option maxRecDepth 20000 in
theorem ggX8_readsFolder_X8_takesFolder : GoodIn wsX8_readsFolder wsX8_takesFolder := goodIn_r _ [53, 1, 43, 44, 45, 7, 46, 3, 22, 19, 9, 20, 4, 5, 6, 8, 10, 47, 48, 49, 15, 16, 17, 18, 21, 23, 24, 25, 26, 27, 28, 29, 30, 31, 32, 33, 34, 35, 36, 37, 38, 39, 40, 41, 42, 58, 59, 60, 61, 62, 63, 64, 65, 66, 67, 68, 69, 70, 71, 72, 73, 74, 75] (by decide +kernel) (by decide +kernel)
set_option maxRecDepth 20000 in
theorem gX8_readsFolder_X8_takesFolder : GoodIn wsX8_readsFolder (wsV RX8 137 RX8 yX8_takesFolder wsX8_takesFolder) := goodIn_app (goodIn_of _ (by decide +kernel)) ggX8_readsFolder_X8_takesFolder
set_option maxRecDepth 20000 in
theorem ggX8_readsFolder_X8_addsFolder : GoodIn wsX8_readsFolder wsX8_addsFolder := goodIn_r _ [56, 57] (by decide +kernel) (by decide +kernel)
set_option maxRecDepth 20000 in
theorem gX8_readsFolder_X8_addsFolder : GoodIn wsX8_readsFolder (va_wsS RX8 140 yX8_addsFolder wsX8_addsFolder) := goodIn_app (goodIn_of _ (by decide +kernel)) ggX8_readsFolder_X8_addsFolder
theorem dX8_readsFolder_0 : decode cX8_readsFolder 0 = .ok (.aload_n 0, 1) := by decide +kernel
theorem dX8_readsFolder_1 : decode cX8_readsFolder 1 = .ok (.getfield 13, 3) := by decide +kernel
theorem dX8_readsFolder_4 : decode cX8_readsFolder 4 = .ok (.iconst 2, 1) := by decide +kernel
theorem dX8_readsFolder_5 : decode cX8_readsFolder 5 = .ok (.laload, 1) := by decide +kernel
theorem dX8_readsFolder_6 : decode cX8_readsFolder 6 = .ok (.ldc2_w 135, 3) := by decide +kernel
theorem dX8_readsFolder_9 : decode cX8_readsFolder 9 = .ok (.lcmp, 1) := by decide +kernel
theorem dX8_readsFolder_10 : decode cX8_readsFolder 10 = .ok (.ifCond .ne 9, 3) := by decide +kernel
theorem dX8_readsFolder_13 : decode cX8_readsFolder 13 = .ok (.aload_n 0, 1) := by decide +kernel
theorem dX8_readsFolder_14 : decode cX8_readsFolder 14 = .ok (.bipush (-4), 2) := by decide +kernel
theorem dX8_readsFolder_16 : decode cX8_readsFolder 16 = .ok (.invokevirtual 111, 3) := by decide +kernel
theorem dX8_readsFolder_19 : decode cX8_readsFolder 19 = .ok (.aload_n 0, 1) := by decide +kernel
theorem dX8_readsFolder_20 : decode cX8_readsFolder 20 = .ok (.iconst 1, 1) := by decide +kernel
theorem dX8_readsFolder_21 : decode cX8_readsFolder 21 = .ok (.invokevirtual 126, 3) := by decide +kernel
theorem dX8_readsFolder_24 : decode cX8_readsFolder 24 = .ok (.aload_n 0, 1) := by decide +kernel
theorem dX8_readsFolder_25 : decode cX8_readsFolder 25 = .ok (.iconst 0, 1) := by decide +kernel
theorem dX8_readsFolder_26 : decode cX8_readsFolder 26 = .ok (.invokevirtual 122, 3) := by decide +kernel
theorem dX8_readsFolder_29 : decode cX8_readsFolder 29 = .ok (.lstore_n 1, 1) := by decide +kernel
theorem dX8_readsFolder_30 : decode cX8_readsFolder 30 = .ok (.aload_n 0, 1) := by decide +kernel
theorem dX8_readsFolder_31 : decode cX8_readsFolder 31 = .ok (.invokevirtual 137, 3) := by decide +kernel
theorem dX8_readsFolder_34 : decode cX8_readsFolder 34 = .ok (.istore_n 3, 1) := by decide +kernel
theorem dX8_readsFolder_35 : decode cX8_readsFolder 35 = .ok (.aload_n 0, 1) := by decide +kernel
theorem dX8_readsFolder_36 : decode cX8_readsFolder 36 = .ok (.getfield 95, 3) := by decide +kernel
theorem dX8_readsFolder_39 : decode cX8_readsFolder 39 = .ok (.ifCond .ne 12, 3) := by decide +kernel
theorem dX8_readsFolder_42 : decode cX8_readsFolder 42 = .ok (.aload_n 0, 1) := by decide +kernel
theorem dX8_readsFolder_43 : decode cX8_readsFolder 43 = .ok (.getfield 13, 3) := by decide +kernel
theorem dX8_readsFolder_46 : decode cX8_readsFolder 46 = .ok (.iload_n 3, 1) := by decide +kernel
theorem dX8_readsFolder_47 : decode cX8_readsFolder 47 = .ok (.lload_n 1, 1) := by decide +kernel
theorem dX8_readsFolder_48 : decode cX8_readsFolder 48 = .ok (.invokestatic 140, 3) := by decide +kernel
theorem dX8_readsFolder_51 : decode cX8_readsFolder 51 = .ok (.return_, 1) := by decide +kernel
set_option maxRecDepth 20000 in
theorem ggX8_readsTag_X8_must : GoodIn wsX8_readsTag wsX8_must := goodIn_r _ [7, 1, 8, 9, 10, 6, 11, 12, 13, 14, 15, 16, 17, 18, 19, 20, 21, 22, 23, 24, 25, 26, 27, 28, 29, 30, 31, 32, 33, 34, 35, 36, 37, 38, 39, 40, 41, 57, 58, 59, 60, 61, 62, 63, 64, 65, 66, 67, 68, 69, 70, 71, 72, 73, 74] (by decide +kernel) (by decide +kernel)
set_option maxRecDepth 20000 in
theorem gX8_readsTag_X8_must : GoodIn wsX8_readsTag (wsV RX8 126 RX8 yX8_must wsX8_must) := goodIn_app (goodIn_of _ (by decide +kernel)) ggX8_readsTag_X8_must
set_option maxRecDepth 20000 in
theorem ggX8_readsTag_X8_takesFolder : GoodIn wsX8_readsTag wsX8_takesFolder := goodIn_r _ [45, 2, 46, 47, 48, 6, 49, 1, 21, 18, 12, 19, 8, 9, 10, 11, 13, 50, 51, 52, 14, 15, 16, 17, 20, 22, 23, 24, 25, 26, 27, 28, 29, 30, 31, 32, 33, 34, 35, 36, 37, 38, 39, 40, 41, 57, 58, 59, 60, 61, 62, 63, 64, 65, 66, 67, 68, 69, 70, 71, 72, 73, 74] (by decide +kernel) (by decide +kernel)
set_option maxRecDepth 20000 in
theorem gX8_readsTag_X8_takesFolder : GoodIn wsX8_readsTag (wsV RX8 137 RX8 yX8_takesFolder wsX8_takesFolder) := goodIn_app (goodIn_of _ (by decide +kernel)) ggX8_readsTag_X8_takesFolder
set_option maxRecDepth 20000 in
theorem ggX8_readsTag_X8_takes : GoodIn wsX8_readsTag wsX8_takes := goodIn_r _ [56, 1, 21, 22, 8, 9, 10, 6, 11, 12, 13, 34, 35, 36, 14, 15, 16, 17, 18, 19, 20, 23, 24, 25, 26, 27, 28, 29, 30, 31, 32, 33, 37, 38, 39, 40, 41, 57, 58, 59, 60, 61, 62, 63, 64, 65, 66, 67, 68, 69, 70, 71, 72, 73, 74] (by decide +kernel) (by decide +kernel)
set_option maxRecDepth 20000 in
theorem gX8_readsTag_X8_takes : GoodIn wsX8_readsTag (wsV RX8 130 RX8 yX8_takes wsX8_takes) := goodIn_app (goodIn_of _ (by decide +kernel)) ggX8_readsTag_X8_takes
theorem dX8_readsTag_0 : decode cX8_readsTag 0 = .ok (.aload_n 0, 1) := by decide +kernel
theorem dX8_readsTag_1 : decode cX8_readsTag 1 = .ok (.iconst 1, 1) := by decide +kernel
theorem dX8_readsTag_2 : decode cX8_readsTag 2 = .ok (.invokevirtual 126, 3) := by decide +kernel
theorem dX8_readsTag_5 : decode cX8_readsTag 5 = .ok (.aload_n 0, 1) := by decide +kernel
theorem dX8_readsTag_6 : decode cX8_readsTag 6 = .ok (.invokevirtual 137, 3) := by decide +kernel
theorem dX8_readsTag_9 : decode cX8_readsTag 9 = .ok (.istore_n 1, 1) := by decide +kernel
theorem dX8_readsTag_10 : decode cX8_readsTag 10 = .ok (.aload_n 0, 1) := by decide +kernel
theorem dX8_readsTag_11 : decode cX8_readsTag 11 = .ok (.iconst 0, 1) := by decide +kernel
theorem dX8_readsTag_12 : decode cX8_readsTag 12 = .ok (.bipush 7, 2) := by decide +kernel
theorem dX8_readsTag_14 : decode cX8_readsTag 14 = .ok (.invokevirtual 130, 3) := by decide +kernel
theorem dX8_readsTag_17 : decode cX8_readsTag 17 = .ok (.istore_n 2, 1) := by decide +kernel
theorem dX8_readsTag_18 : decode cX8_readsTag 18 = .ok (.aload_n 0, 1) := by decide +kernel
theorem dX8_readsTag_19 : decode cX8_readsTag 19 = .ok (.getfield 95, 3) := by decide +kernel
theorem dX8_readsTag_22 : decode cX8_readsTag 22 = .ok (.ifCond .ne 14, 3) := by decide +kernel
theorem dX8_readsTag_25 : decode cX8_readsTag 25 = .ok (.aload_n 0, 1) := by decide +kernel
theorem dX8_readsTag_26 : decode cX8_readsTag 26 = .ok (.getfield 13, 3) := by decide +kernel
theorem dX8_readsTag_29 : decode cX8_readsTag 29 = .ok (.bipush 109, 2) := by decide +kernel
theorem dX8_readsTag_31 : decode cX8_readsTag 31 = .ok (.iload_n 1, 1) := by decide +kernel
theorem dX8_readsTag_32 : decode cX8_readsTag 32 = .ok (.iadd, 1) := by decide +kernel
theorem dX8_readsTag_33 : decode cX8_readsTag 33 = .ok (.iload_n 2, 1) := by decide +kernel
theorem dX8_readsTag_34 : decode cX8_readsTag 34 = .ok (.i2l, 1) := by decide +kernel
theorem dX8_readsTag_35 : decode cX8_readsTag 35 = .ok (.lastore, 1) := by decide +kernel
theorem dX8_readsTag_36 : decode cX8_readsTag 36 = .ok (.return_, 1) := by decide +kernel
set_option maxRecDepth 20000 in
theorem ggX8_readsFile_X8_fails : GoodIn wsX8_readsFile wsX8_fails := goodIn_r _ [8, 3, 9, 10, 61, 62, 63, 64, 65, 66, 67, 68, 69, 70, 71, 72, 73, 74, 75, 76, 77, 78] (by decide +kernel) (by decide +kernel)
set_option maxRecDepth 20000 in
theorem gX8_readsFile_X8_fails : GoodIn wsX8_readsFile (wsV RX8 111 RX8 yX8_fails wsX8_fails) := goodIn_app (goodIn_of _ (by decide +kernel)) ggX8_readsFile_X8_fails
set_option maxRecDepth 20000 in
theorem ggX8_readsFile_X8_must : GoodIn wsX8_readsFile wsX8_must := goodIn_r _ [14, 3, 4, 5, 6, 7, 8, 9, 10, 15, 16, 17, 18, 19, 20, 21, 22, 23, 24, 25, 26, 27, 28, 29, 30, 31, 32, 33, 34, 35, 36, 37, 38, 39, 40, 41, 42, 61, 62, 63, 64, 65, 66, 67, 68, 69, 70, 71, 72, 73, 74, 75, 76, 77, 78] (by decide +kernel) (by decide +kernel)
set_option maxRecDepth 20000 in
theorem gX8_readsFile_X8_must : GoodIn wsX8_readsFile (wsV RX8 126 RX8 yX8_must wsX8_must) := goodIn_app (goodIn_of _ (by decide +kernel)) ggX8_readsFile_X8_must
set_option maxRecDepth 20000 in
theorem ggX8_readsFile_X8_takesFolder : GoodIn wsX8_readsFile wsX8_takesFolder := goodIn_r _ [46, 1, 47, 48, 49, 7, 50, 3, 22, 19, 9, 20, 4, 5, 6, 8, 10, 51, 52, 53, 15, 16, 17, 18, 21, 23, 24, 25, 26, 27, 28, 29, 30, 31, 32, 33, 34, 35, 36, 37, 38, 39, 40, 41, 42, 61, 62, 63, 64, 65, 66, 67, 68, 69, 70, 71, 72, 73, 74, 75, 76, 77, 78] (by decide +kernel) (by decide +kernel)
set_option maxRecDepth 20000 in
theorem gX8_readsFile_X8_takesFolder : GoodIn wsX8_readsFile (wsV RX8 137 RX8 yX8_takesFolder wsX8_takesFolder) := goodIn_app (goodIn_of _ (by decide +kernel)) ggX8_readsFile_X8_takesFolder
set_option maxRecDepth 20000 in
theorem ggX8_readsFile_X8_takes : GoodIn wsX8_readsFile wsX8_takes := goodIn_r _ [57, 3, 22, 23, 4, 5, 6, 7, 8, 9, 10, 35, 36, 37, 15, 16, 17, 18, 19, 20, 21, 24, 25, 26, 27, 28, 29, 30, 31, 32, 33, 34, 38, 39, 40, 41, 42, 61, 62, 63, 64, 65, 66, 67, 68, 69, 70, 71, 72, 73, 74, 75, 76, 77, 78] (by decide +kernel) (by decide +kernel)
set_option maxRecDepth 20000 in
theorem gX8_readsFile_X8_takes : GoodIn wsX8_readsFile (wsV RX8 130 RX8 yX8_takes wsX8_takes) := goodIn_app (goodIn_of _ (by decide +kernel)) ggX8_readsFile_X8_takes
set_option maxRecDepth 20000 in
theorem ggX8_readsFile_X8_addsFile : GoodIn wsX8_readsFile wsX8_addsFile := goodIn_r _ [60] (by decide +kernel) (by decide +kernel)
set_option maxRecDepth 20000 in
theorem gX8_readsFile_X8_addsFile : GoodIn wsX8_readsFile (va_wsS RX8 146 yX8_addsFile wsX8_addsFile) := goodIn_app (goodIn_of _ (by decide +kernel)) ggX8_readsFile_X8_addsFile
theorem dX8_readsFile_0 : decode cX8_readsFile 0 = .ok (.aload_n 0, 1) := by decide +kernel
theorem dX8_readsFile_1 : decode cX8_readsFile 1 = .ok (.getfield 13, 3) := by decide +kernel
theorem dX8_readsFile_4 : decode cX8_readsFile 4 = .ok (.iconst 3, 1) := by decide +kernel
theorem dX8_readsFile_5 : decode cX8_readsFile 5 = .ok (.laload, 1) := by decide +kernel
theorem dX8_readsFile_6 : decode cX8_readsFile 6 = .ok (.ldc2_w 144, 3) := by decide +kernel
theorem dX8_readsFile_9 : decode cX8_readsFile 9 = .ok (.lcmp, 1) := by decide +kernel
theorem dX8_readsFile_10 : decode cX8_readsFile 10 = .ok (.ifCond .ne 9, 3) := by decide +kernel
theorem dX8_readsFile_13 : decode cX8_readsFile 13 = .ok (.aload_n 0, 1) := by decide +kernel
theorem dX8_readsFile_14 : decode cX8_readsFile 14 = .ok (.bipush (-4), 2) := by decide +kernel
theorem dX8_readsFile_16 : decode cX8_readsFile 16 = .ok (.invokevirtual 111, 3) := by decide +kernel
theorem dX8_readsFile_19 : decode cX8_readsFile 19 = .ok (.aload_n 0, 1) := by decide +kernel
theorem dX8_readsFile_20 : decode cX8_readsFile 20 = .ok (.iconst 1, 1) := by decide +kernel
theorem dX8_readsFile_21 : decode cX8_readsFile 21 = .ok (.invokevirtual 126, 3) := by decide +kernel
theorem dX8_readsFile_24 : decode cX8_readsFile 24 = .ok (.aload_n 0, 1) := by decide +kernel
theorem dX8_readsFile_25 : decode cX8_readsFile 25 = .ok (.invokevirtual 137, 3) := by decide +kernel
theorem dX8_readsFile_28 : decode cX8_readsFile 28 = .ok (.istore_n 1, 1) := by decide +kernel
theorem dX8_readsFile_29 : decode cX8_readsFile 29 = .ok (.aload_n 0, 1) := by decide +kernel
theorem dX8_readsFile_30 : decode cX8_readsFile 30 = .ok (.iconst 0, 1) := by decide +kernel
theorem dX8_readsFile_31 : decode cX8_readsFile 31 = .ok (.sipush 9999, 3) := by decide +kernel
theorem dX8_readsFile_34 : decode cX8_readsFile 34 = .ok (.invokevirtual 130, 3) := by decide +kernel
theorem dX8_readsFile_37 : decode cX8_readsFile 37 = .ok (.istore_n 2, 1) := by decide +kernel
theorem dX8_readsFile_38 : decode cX8_readsFile 38 = .ok (.aload_n 0, 1) := by decide +kernel
theorem dX8_readsFile_39 : decode cX8_readsFile 39 = .ok (.getfield 95, 3) := by decide +kernel
theorem dX8_readsFile_42 : decode cX8_readsFile 42 = .ok (.ifCond .ne 12, 3) := by decide +kernel
theorem dX8_readsFile_45 : decode cX8_readsFile 45 = .ok (.aload_n 0, 1) := by decide +kernel
theorem dX8_readsFile_46 : decode cX8_readsFile 46 = .ok (.getfield 13, 3) := by decide +kernel
theorem dX8_readsFile_49 : decode cX8_readsFile 49 = .ok (.iload_n 1, 1) := by decide +kernel
theorem dX8_readsFile_50 : decode cX8_readsFile 50 = .ok (.iload_n 2, 1) := by decide +kernel
theorem dX8_readsFile_51 : decode cX8_readsFile 51 = .ok (.invokestatic 146, 3) := by decide +kernel
theorem dX8_readsFile_54 : decode cX8_readsFile 54 = .ok (.return_, 1) := by decide +kernel
set_option maxRecDepth 20000 in
theorem ggX8_readsStatement_X8_isWord : GoodIn wsX8_readsStatement wsX8_isWord := goodIn_r _ [8, 9, 2, 10, 3, 11, 12, 13, 14, 15, 16, 17, 18, 19, 20, 21, 22, 23, 24, 25, 26, 27, 28, 29, 30, 31, 32, 33, 34, 35, 36, 37, 38, 39, 40, 41, 42, 43, 44, 45, 46, 47, 48, 49, 50, 51, 52, 53, 54, 55, 56, 57, 58, 59, 60, 136, 137, 138, 139, 140, 141, 142, 143, 144, 145, 146, 147, 148, 149, 150, 151, 152, 153] (by decide +kernel) (by decide +kernel)
set_option maxRecDepth 20000 in
theorem gX8_readsStatement_X8_isWord : GoodIn wsX8_readsStatement (wsV RX8 152 RX8 yX8_isWord wsX8_isWord) := goodIn_app (goodIn_of _ (by decide +kernel)) ggX8_readsStatement_X8_isWord
set_option maxRecDepth 20000 in
theorem ggX8_readsStatement_X8_must : GoodIn wsX8_readsStatement wsX8_must := goodIn_r _ [64, 9, 65, 66, 67, 7, 68, 3, 69, 70, 71, 72, 73, 10, 74, 75, 2, 76, 77, 78, 79, 80, 81, 11, 82, 83, 84, 85, 86, 87, 88, 89, 90, 91, 92, 93, 94, 136, 137, 138, 139, 140, 141, 142, 143, 144, 145, 146, 147, 148, 149, 150, 151, 152, 153] (by decide +kernel) (by decide +kernel)
set_option maxRecDepth 20000 in
theorem gX8_readsStatement_X8_must : GoodIn wsX8_readsStatement (wsV RX8 126 RX8 yX8_must wsX8_must) := goodIn_app (goodIn_of _ (by decide +kernel)) ggX8_readsStatement_X8_must
set_option maxRecDepth 20000 in
theorem ggX8_readsStatement_X8_takes : GoodIn wsX8_readsStatement wsX8_takes := goodIn_r _ [98, 9, 2, 76, 65, 66, 67, 7, 68, 3, 69, 87, 88, 89, 70, 71, 72, 73, 10, 74, 75, 77, 78, 79, 80, 81, 11, 82, 83, 84, 85, 86, 90, 91, 92, 93, 94, 136, 137, 138, 139, 140, 141, 142, 143, 144, 145, 146, 147, 148, 149, 150, 151, 152, 153] (by decide +kernel) (by decide +kernel)
set_option maxRecDepth 20000 in
theorem gX8_readsStatement_X8_takes : GoodIn wsX8_readsStatement (wsV RX8 130 RX8 yX8_takes wsX8_takes) := goodIn_app (goodIn_of _ (by decide +kernel)) ggX8_readsStatement_X8_takes
set_option maxRecDepth 20000 in
theorem ggX8_readsStatement_X8_readsLimits : GoodIn wsX8_readsStatement wsX8_readsLimits := goodIn_r _ [102, 103, 9, 2, 76, 1, 61, 62, 63, 7, 64, 65, 66, 67, 68, 3, 69, 70, 71, 72, 73, 10, 74, 75, 77, 78, 79, 80, 81, 11, 82, 83, 84, 85, 86, 87, 88, 89, 90, 91, 92, 93, 94, 95, 96, 97, 98, 136, 137, 138, 139, 140, 141, 142, 143, 144, 145, 146, 147, 148, 149, 150, 151, 152, 153] (by decide +kernel) (by decide +kernel)
set_option maxRecDepth 20000 in
theorem gX8_readsStatement_X8_readsLimits : GoodIn wsX8_readsStatement (wsV RX8 158 RX8 yX8_readsLimits wsX8_readsLimits) := goodIn_app (goodIn_of _ (by decide +kernel)) ggX8_readsStatement_X8_readsLimits
set_option maxRecDepth 20000 in
theorem ggX8_readsStatement_X8_readsFolder : GoodIn wsX8_readsStatement wsX8_readsFolder := goodIn_r _ [107, 1, 108, 9, 65, 66, 67, 7, 68, 3, 69, 61, 62, 63, 64, 70, 71, 72, 73, 10, 74, 75, 2, 76, 77, 78, 79, 80, 81, 11, 82, 83, 84, 85, 86, 87, 88, 89, 90, 91, 92, 93, 94, 109, 110, 111, 112, 113, 114, 115, 116, 117, 118, 119, 120, 121, 122, 123, 136, 137, 138, 139, 140, 141, 142, 143, 144, 145, 146, 147, 148, 149, 150, 151, 152, 153] (by decide +kernel) (by decide +kernel)
set_option maxRecDepth 20000 in
theorem gX8_readsStatement_X8_readsFolder : GoodIn wsX8_readsStatement (wsV RX8 163 RX8 yX8_readsFolder wsX8_readsFolder) := goodIn_app (goodIn_of _ (by decide +kernel)) ggX8_readsStatement_X8_readsFolder
set_option maxRecDepth 20000 in
theorem ggX8_readsStatement_X8_readsTag : GoodIn wsX8_readsStatement wsX8_readsTag := goodIn_r _ [127, 9, 1, 61, 62, 63, 7, 64, 65, 66, 67, 68, 3, 69, 70, 71, 72, 73, 10, 74, 75, 2, 76, 77, 78, 79, 80, 81, 11, 82, 83, 84, 85, 86, 87, 88, 89, 90, 91, 92, 93, 94, 116, 117, 118, 119, 109, 110, 111, 112, 113, 114, 115, 95, 96, 97, 98, 136, 137, 138, 139, 140, 141, 142, 143, 144, 145, 146, 147, 148, 149, 150, 151, 152, 153] (by decide +kernel) (by decide +kernel)
set_option maxRecDepth 20000 in
theorem gX8_readsStatement_X8_readsTag : GoodIn wsX8_readsStatement (wsV RX8 168 RX8 yX8_readsTag wsX8_readsTag) := goodIn_app (goodIn_of _ (by decide +kernel)) ggX8_readsStatement_X8_readsTag
set_option maxRecDepth 20000 in
theorem ggX8_readsStatement_X8_readsFile : GoodIn wsX8_readsStatement wsX8_readsFile := goodIn_r _ [131, 1, 132, 9, 65, 66, 67, 7, 68, 3, 69, 61, 62, 63, 64, 70, 71, 72, 73, 10, 74, 75, 2, 76, 77, 78, 79, 80, 81, 11, 82, 83, 84, 85, 86, 87, 88, 89, 90, 91, 92, 93, 94, 116, 117, 118, 119, 109, 110, 111, 112, 113, 114, 115, 95, 96, 97, 98, 133, 134, 135, 136, 137, 138, 139, 140, 141, 142, 143, 144, 145, 146, 147, 148, 149, 150, 151, 152, 153] (by decide +kernel) (by decide +kernel)
set_option maxRecDepth 20000 in
theorem gX8_readsStatement_X8_readsFile : GoodIn wsX8_readsStatement (wsV RX8 173 RX8 yX8_readsFile wsX8_readsFile) := goodIn_app (goodIn_of _ (by decide +kernel)) ggX8_readsStatement_X8_readsFile
set_option maxRecDepth 20000 in
theorem ggX8_readsStatement_X8_fails : GoodIn wsX8_readsStatement wsX8_fails := goodIn_r _ [68, 9, 3, 69, 136, 137, 138, 139, 140, 141, 142, 143, 144, 145, 146, 147, 148, 149, 150, 151, 152, 153] (by decide +kernel) (by decide +kernel)
set_option maxRecDepth 20000 in
theorem gX8_readsStatement_X8_fails : GoodIn wsX8_readsStatement (wsV RX8 111 RX8 yX8_fails wsX8_fails) := goodIn_app (goodIn_of _ (by decide +kernel)) ggX8_readsStatement_X8_fails
set_option maxRecDepth 20000 in
theorem ggX8_readsStatement_X8_see : GoodIn wsX8_readsStatement wsX8_see := goodIn_r _ [81, 75, 11, 136, 137, 138, 139, 140, 141, 142, 143, 144, 145, 146, 147, 148, 149, 150, 151, 152, 153] (by decide +kernel) (by decide +kernel)
set_option maxRecDepth 20000 in
theorem gX8_readsStatement_X8_see : GoodIn wsX8_readsStatement (wsV RX8 73 RX8 yX8_see wsX8_see) := goodIn_app (goodIn_of _ (by decide +kernel)) ggX8_readsStatement_X8_see
theorem dX8_readsStatement_0 : decode cX8_readsStatement 0 = .ok (.aload_n 0, 1) := by decide +kernel
theorem dX8_readsStatement_1 : decode cX8_readsStatement 1 = .ok (.ldc 150, 2) := by decide +kernel
theorem dX8_readsStatement_3 : decode cX8_readsStatement 3 = .ok (.invokevirtual 152, 3) := by decide +kernel
theorem dX8_readsStatement_6 : decode cX8_readsStatement 6 = .ok (.ifCond .eq 25, 3) := by decide +kernel
theorem dX8_readsStatement_9 : decode cX8_readsStatement 9 = .ok (.aload_n 0, 1) := by decide +kernel
theorem dX8_readsStatement_10 : decode cX8_readsStatement 10 = .ok (.iconst 1, 1) := by decide +kernel
theorem dX8_readsStatement_11 : decode cX8_readsStatement 11 = .ok (.invokevirtual 126, 3) := by decide +kernel
theorem dX8_readsStatement_14 : decode cX8_readsStatement 14 = .ok (.aload_n 0, 1) := by decide +kernel
theorem dX8_readsStatement_15 : decode cX8_readsStatement 15 = .ok (.getfield 13, 3) := by decide +kernel
theorem dX8_readsStatement_18 : decode cX8_readsStatement 18 = .ok (.iconst 1, 1) := by decide +kernel
theorem dX8_readsStatement_19 : decode cX8_readsStatement 19 = .ok (.aload_n 0, 1) := by decide +kernel
theorem dX8_readsStatement_20 : decode cX8_readsStatement 20 = .ok (.iconst 1, 1) := by decide +kernel
theorem dX8_readsStatement_21 : decode cX8_readsStatement 21 = .ok (.bipush 99, 2) := by decide +kernel
theorem dX8_readsStatement_23 : decode cX8_readsStatement 23 = .ok (.invokevirtual 130, 3) := by decide +kernel
theorem dX8_readsStatement_26 : decode cX8_readsStatement 26 = .ok (.i2l, 1) := by decide +kernel
theorem dX8_readsStatement_27 : decode cX8_readsStatement 27 = .ok (.lastore, 1) := by decide +kernel
theorem dX8_readsStatement_28 : decode cX8_readsStatement 28 = .ok (.goto 73, 3) := by decide +kernel
theorem dX8_readsStatement_31 : decode cX8_readsStatement 31 = .ok (.aload_n 0, 1) := by decide +kernel
theorem dX8_readsStatement_32 : decode cX8_readsStatement 32 = .ok (.ldc 156, 2) := by decide +kernel
theorem dX8_readsStatement_34 : decode cX8_readsStatement 34 = .ok (.invokevirtual 152, 3) := by decide +kernel
theorem dX8_readsStatement_37 : decode cX8_readsStatement 37 = .ok (.ifCond .eq 10, 3) := by decide +kernel
theorem dX8_readsStatement_40 : decode cX8_readsStatement 40 = .ok (.aload_n 0, 1) := by decide +kernel
theorem dX8_readsStatement_41 : decode cX8_readsStatement 41 = .ok (.invokevirtual 158, 3) := by decide +kernel
theorem dX8_readsStatement_44 : decode cX8_readsStatement 44 = .ok (.goto 57, 3) := by decide +kernel
theorem dX8_readsStatement_47 : decode cX8_readsStatement 47 = .ok (.aload_n 0, 1) := by decide +kernel
theorem dX8_readsStatement_48 : decode cX8_readsStatement 48 = .ok (.ldc 161, 2) := by decide +kernel
theorem dX8_readsStatement_50 : decode cX8_readsStatement 50 = .ok (.invokevirtual 152, 3) := by decide +kernel
theorem dX8_readsStatement_53 : decode cX8_readsStatement 53 = .ok (.ifCond .eq 10, 3) := by decide +kernel
theorem dX8_readsStatement_56 : decode cX8_readsStatement 56 = .ok (.aload_n 0, 1) := by decide +kernel
theorem dX8_readsStatement_57 : decode cX8_readsStatement 57 = .ok (.invokevirtual 163, 3) := by decide +kernel
theorem dX8_readsStatement_60 : decode cX8_readsStatement 60 = .ok (.goto 41, 3) := by decide +kernel
theorem dX8_readsStatement_63 : decode cX8_readsStatement 63 = .ok (.aload_n 0, 1) := by decide +kernel
theorem dX8_readsStatement_64 : decode cX8_readsStatement 64 = .ok (.ldc 166, 2) := by decide +kernel
theorem dX8_readsStatement_66 : decode cX8_readsStatement 66 = .ok (.invokevirtual 152, 3) := by decide +kernel
theorem dX8_readsStatement_69 : decode cX8_readsStatement 69 = .ok (.ifCond .eq 10, 3) := by decide +kernel
theorem dX8_readsStatement_72 : decode cX8_readsStatement 72 = .ok (.aload_n 0, 1) := by decide +kernel
theorem dX8_readsStatement_73 : decode cX8_readsStatement 73 = .ok (.invokevirtual 168, 3) := by decide +kernel
theorem dX8_readsStatement_76 : decode cX8_readsStatement 76 = .ok (.goto 25, 3) := by decide +kernel
theorem dX8_readsStatement_79 : decode cX8_readsStatement 79 = .ok (.aload_n 0, 1) := by decide +kernel
theorem dX8_readsStatement_80 : decode cX8_readsStatement 80 = .ok (.ldc 171, 2) := by decide +kernel
theorem dX8_readsStatement_82 : decode cX8_readsStatement 82 = .ok (.invokevirtual 152, 3) := by decide +kernel
theorem dX8_readsStatement_85 : decode cX8_readsStatement 85 = .ok (.ifCond .eq 10, 3) := by decide +kernel
theorem dX8_readsStatement_88 : decode cX8_readsStatement 88 = .ok (.aload_n 0, 1) := by decide +kernel
theorem dX8_readsStatement_89 : decode cX8_readsStatement 89 = .ok (.invokevirtual 173, 3) := by decide +kernel
theorem dX8_readsStatement_92 : decode cX8_readsStatement 92 = .ok (.goto 9, 3) := by decide +kernel
theorem dX8_readsStatement_95 : decode cX8_readsStatement 95 = .ok (.aload_n 0, 1) := by decide +kernel
theorem dX8_readsStatement_96 : decode cX8_readsStatement 96 = .ok (.bipush (-2), 2) := by decide +kernel
theorem dX8_readsStatement_98 : decode cX8_readsStatement 98 = .ok (.invokevirtual 111, 3) := by decide +kernel
theorem dX8_readsStatement_101 : decode cX8_readsStatement 101 = .ok (.aload_n 0, 1) := by decide +kernel
theorem dX8_readsStatement_102 : decode cX8_readsStatement 102 = .ok (.aload_n 0, 1) := by decide +kernel
theorem dX8_readsStatement_103 : decode cX8_readsStatement 103 = .ok (.getfield 81, 3) := by decide +kernel
theorem dX8_readsStatement_106 : decode cX8_readsStatement 106 = .ok (.iconst 2, 1) := by decide +kernel
theorem dX8_readsStatement_107 : decode cX8_readsStatement 107 = .ok (.if_icmp .ne 20, 3) := by decide +kernel
theorem dX8_readsStatement_110 : decode cX8_readsStatement 110 = .ok (.aload_n 0, 1) := by decide +kernel
theorem dX8_readsStatement_111 : decode cX8_readsStatement 111 = .ok (.aload_n 0, 1) := by decide +kernel
theorem dX8_readsStatement_112 : decode cX8_readsStatement 112 = .ok (.getfield 70, 3) := by decide +kernel
theorem dX8_readsStatement_115 : decode cX8_readsStatement 115 = .ok (.invokevirtual 73, 3) := by decide +kernel
theorem dX8_readsStatement_118 : decode cX8_readsStatement 118 = .ok (.bipush 59, 2) := by decide +kernel
theorem dX8_readsStatement_120 : decode cX8_readsStatement 120 = .ok (.if_icmp .ne 7, 3) := by decide +kernel
theorem dX8_readsStatement_123 : decode cX8_readsStatement 123 = .ok (.iconst 1, 1) := by decide +kernel
theorem dX8_readsStatement_124 : decode cX8_readsStatement 124 = .ok (.goto 4, 3) := by decide +kernel
theorem dX8_readsStatement_127 : decode cX8_readsStatement 127 = .ok (.iconst 0, 1) := by decide +kernel
theorem dX8_readsStatement_128 : decode cX8_readsStatement 128 = .ok (.invokevirtual 126, 3) := by decide +kernel
theorem dX8_readsStatement_131 : decode cX8_readsStatement 131 = .ok (.return_, 1) := by decide +kernel
set_option maxRecDepth 20000 in
theorem ggX8_load_X8_isIn : GoodIn wsX8_load wsX8_isIn := goodIn_r _ [14] (by decide +kernel) (by decide +kernel)
set_option maxRecDepth 20000 in
theorem gX8_load_X8_isIn : GoodIn wsX8_load (va_wsS RX8 59 yX8_isIn wsX8_isIn) := goodIn_app (goodIn_of _ (by decide +kernel)) ggX8_load_X8_isIn
set_option maxRecDepth 20000 in
theorem ggX8_load_X8_begins : GoodIn wsX8_load wsX8_begins := goodIn_r _ [18, 9, 19, 20, 21, 198, 199, 200, 201, 202, 203, 204, 205, 206, 207, 208, 209, 210, 211, 212, 213, 214, 215] (by decide +kernel) (by decide +kernel)
set_option maxRecDepth 20000 in
theorem gX8_load_X8_begins : GoodIn wsX8_load (wsV RX8 30 RX8 yX8_begins wsX8_begins) := goodIn_app (goodIn_of _ (by decide +kernel)) ggX8_load_X8_begins
set_option maxRecDepth 20000 in
theorem ggX8_load_X8_next : GoodIn wsX8_load wsX8_next := goodIn_r _ [25, 4, 26, 27, 3, 6, 28, 29, 30, 31, 32, 13, 33, 34, 35, 36, 37, 38, 39, 11, 12, 14, 40, 41, 42, 43, 44, 198, 199, 200, 201, 202, 203, 204, 205, 206, 207, 208, 209, 210, 211, 212, 213, 214, 215] (by decide +kernel) (by decide +kernel)
set_option maxRecDepth 20000 in
theorem gX8_load_X8_next : GoodIn wsX8_load (wsV RX8 115 RX8 yX8_next wsX8_next) := goodIn_app (goodIn_of _ (by decide +kernel)) ggX8_load_X8_next
set_option maxRecDepth 20000 in
theorem ggX8_load_X8_readsStatement : GoodIn wsX8_load wsX8_readsStatement := goodIn_r _ [48, 9, 6, 26, 49, 50, 51, 13, 52, 5, 4, 34, 53, 54, 55, 56, 57, 58, 59, 60, 61, 62, 63, 64, 65, 66, 67, 68, 69, 70, 71, 72, 73, 74, 75, 76, 77, 78, 79, 80, 81, 82, 83, 84, 85, 86, 87, 88, 89, 90, 91, 92, 93, 94, 95, 96, 97, 98, 99, 100, 101, 102, 103, 104, 105, 106, 107, 108, 109, 7, 22, 23, 24, 25, 27, 3, 28, 29, 30, 31, 32, 33, 35, 36, 37, 38, 39, 11, 12, 14, 40, 41, 42, 43, 44, 110, 111, 112, 113, 114, 115, 116, 117, 118, 119, 120, 121, 122, 123, 124, 125, 126, 127, 128, 129, 130, 131, 132, 133, 134, 135, 136, 137, 19, 138, 139, 140, 141, 142, 143, 144, 145, 146, 147, 148, 149, 198, 199, 200, 201, 202, 203, 204, 205, 206, 207, 208, 209, 210, 211, 212, 213, 214, 215] (by decide +kernel) (by decide +kernel)
set_option maxRecDepth 20000 in
theorem gX8_load_X8_readsStatement : GoodIn wsX8_load (wsV RX8 176 RX8 yX8_readsStatement wsX8_readsStatement) := goodIn_app (goodIn_of _ (by decide +kernel)) ggX8_load_X8_readsStatement
set_option maxRecDepth 20000 in
theorem ggX8_load_X8_keeps : GoodIn wsX8_load wsX8_keeps := goodIn_r _ [153, 154, 155, 10, 198, 199, 200, 201, 202, 203, 204, 205, 206, 207, 208, 209, 210, 211, 212, 213, 214, 215] (by decide +kernel) (by decide +kernel)
set_option maxRecDepth 20000 in
theorem gX8_load_X8_keeps : GoodIn wsX8_load (wsV RX8 179 RX8 yX8_keeps wsX8_keeps) := goodIn_app (goodIn_of _ (by decide +kernel)) ggX8_load_X8_keeps
set_option maxRecDepth 20000 in
theorem ggX8_load_X8_becomes : GoodIn wsX8_load wsX8_becomes := goodIn_r _ [159, 10, 198, 199, 200, 201, 202, 203, 204, 205, 206, 207, 208, 209, 210, 211, 212, 213, 214, 215] (by decide +kernel) (by decide +kernel)
set_option maxRecDepth 20000 in
theorem gX8_load_X8_becomes : GoodIn wsX8_load (wsV RX8 33 RX8 yX8_becomes wsX8_becomes) := goodIn_app (goodIn_of _ (by decide +kernel)) ggX8_load_X8_becomes
set_option maxRecDepth 20000 in
theorem ggX8_load_X8_countedOf : GoodIn wsX8_load wsX8_countedOf := goodIn_r _ [163, 10, 164, 165, 166, 13, 167, 168, 169, 170, 171, 172, 173, 174, 175, 176, 177, 178, 179, 198, 199, 200, 201, 202, 203, 204, 205, 206, 207, 208, 209, 210, 211, 212, 213, 214, 215] (by decide +kernel) (by decide +kernel)
set_option maxRecDepth 20000 in
theorem gX8_load_X8_countedOf : GoodIn wsX8_load (wsV RX8 182 RX8 yX8_countedOf wsX8_countedOf) := goodIn_app (goodIn_of _ (by decide +kernel)) ggX8_load_X8_countedOf
set_option maxRecDepth 20000 in
theorem ggX8_load_X8_setsClocks : GoodIn wsX8_load wsX8_setsClocks := goodIn_r _ [183, 19, 10, 184, 185, 186, 13, 187, 188, 189, 190, 191, 192, 193, 194, 195, 196, 197, 198, 199, 200, 201, 202, 203, 204, 205, 206, 207, 208, 209, 210, 211, 212, 213, 214, 215] (by decide +kernel) (by decide +kernel)
set_option maxRecDepth 20000 in
theorem gX8_load_X8_setsClocks : GoodIn wsX8_load (wsV RX8 186 RX8 yX8_setsClocks wsX8_setsClocks) := goodIn_app (goodIn_of _ (by decide +kernel)) ggX8_load_X8_setsClocks
theorem dX8_load_0 : decode cX8_load 0 = .ok (.aload_n 0, 1) := by decide +kernel
theorem dX8_load_1 : decode cX8_load 1 = .ok (.iload_n 1, 1) := by decide +kernel
theorem dX8_load_2 : decode cX8_load 2 = .ok (.i2l, 1) := by decide +kernel
theorem dX8_load_3 : decode cX8_load 3 = .ok (.lconst 0, 1) := by decide +kernel
theorem dX8_load_4 : decode cX8_load 4 = .ok (.aload_n 0, 1) := by decide +kernel
theorem dX8_load_5 : decode cX8_load 5 = .ok (.getfield 49, 3) := by decide +kernel
theorem dX8_load_8 : decode cX8_load 8 = .ok (.i2l, 1) := by decide +kernel
theorem dX8_load_9 : decode cX8_load 9 = .ok (.invokestatic 59, 3) := by decide +kernel
theorem dX8_load_12 : decode cX8_load 12 = .ok (.ifCond .eq 7, 3) := by decide +kernel
theorem dX8_load_15 : decode cX8_load 15 = .ok (.iconst 0, 1) := by decide +kernel
theorem dX8_load_16 : decode cX8_load 16 = .ok (.goto 4, 3) := by decide +kernel
theorem dX8_load_19 : decode cX8_load 19 = .ok (.iconst 1, 1) := by decide +kernel
theorem dX8_load_20 : decode cX8_load 20 = .ok (.putfield 43, 3) := by decide +kernel
theorem dX8_load_23 : decode cX8_load 23 = .ok (.aload_n 0, 1) := by decide +kernel
theorem dX8_load_24 : decode cX8_load 24 = .ok (.getfield 43, 3) := by decide +kernel
theorem dX8_load_27 : decode cX8_load 27 = .ok (.ifCond .le 5, 3) := by decide +kernel
theorem dX8_load_30 : decode cX8_load 30 = .ok (.iconst 0, 1) := by decide +kernel
theorem dX8_load_31 : decode cX8_load 31 = .ok (.ireturn, 1) := by decide +kernel
theorem dX8_load_32 : decode cX8_load 32 = .ok (.aload_n 0, 1) := by decide +kernel
theorem dX8_load_33 : decode cX8_load 33 = .ok (.iload_n 1, 1) := by decide +kernel
theorem dX8_load_34 : decode cX8_load 34 = .ok (.putfield 52, 3) := by decide +kernel
theorem dX8_load_37 : decode cX8_load 37 = .ok (.aload_n 0, 1) := by decide +kernel
theorem dX8_load_38 : decode cX8_load 38 = .ok (.iconst 0, 1) := by decide +kernel
theorem dX8_load_39 : decode cX8_load 39 = .ok (.putfield 49, 3) := by decide +kernel
theorem dX8_load_42 : decode cX8_load 42 = .ok (.aload_n 0, 1) := by decide +kernel
theorem dX8_load_43 : decode cX8_load 43 = .ok (.iconst 0, 1) := by decide +kernel
theorem dX8_load_44 : decode cX8_load 44 = .ok (.putfield 67, 3) := by decide +kernel
theorem dX8_load_47 : decode cX8_load 47 = .ok (.aload_n 0, 1) := by decide +kernel
theorem dX8_load_48 : decode cX8_load 48 = .ok (.iconst 0, 1) := by decide +kernel
theorem dX8_load_49 : decode cX8_load 49 = .ok (.putfield 95, 3) := by decide +kernel
theorem dX8_load_52 : decode cX8_load 52 = .ok (.aload_n 0, 1) := by decide +kernel
theorem dX8_load_53 : decode cX8_load 53 = .ok (.invokevirtual 30, 3) := by decide +kernel
theorem dX8_load_56 : decode cX8_load 56 = .ok (.aload_n 0, 1) := by decide +kernel
theorem dX8_load_57 : decode cX8_load 57 = .ok (.invokevirtual 115, 3) := by decide +kernel
theorem dX8_load_60 : decode cX8_load 60 = .ok (.aload_n 0, 1) := by decide +kernel
theorem dX8_load_61 : decode cX8_load 61 = .ok (.getfield 95, 3) := by decide +kernel
theorem dX8_load_64 : decode cX8_load 64 = .ok (.ifCond .ne 18, 3) := by decide +kernel
theorem dX8_load_67 : decode cX8_load 67 = .ok (.aload_n 0, 1) := by decide +kernel
theorem dX8_load_68 : decode cX8_load 68 = .ok (.getfield 81, 3) := by decide +kernel
theorem dX8_load_71 : decode cX8_load 71 = .ok (.iconst 3, 1) := by decide +kernel
theorem dX8_load_72 : decode cX8_load 72 = .ok (.if_icmp .eq 10, 3) := by decide +kernel
theorem dX8_load_75 : decode cX8_load 75 = .ok (.aload_n 0, 1) := by decide +kernel
theorem dX8_load_76 : decode cX8_load 76 = .ok (.invokevirtual 176, 3) := by decide +kernel
theorem dX8_load_79 : decode cX8_load 79 = .ok (.goto (-19), 3) := by decide +kernel
theorem dX8_load_82 : decode cX8_load 82 = .ok (.aload_n 0, 1) := by decide +kernel
theorem dX8_load_83 : decode cX8_load 83 = .ok (.aload_n 0, 1) := by decide +kernel
theorem dX8_load_84 : decode cX8_load 84 = .ok (.getfield 95, 3) := by decide +kernel
theorem dX8_load_87 : decode cX8_load 87 = .ok (.ifCond .ne 7, 3) := by decide +kernel
theorem dX8_load_90 : decode cX8_load 90 = .ok (.iconst (-1), 1) := by decide +kernel
theorem dX8_load_91 : decode cX8_load 91 = .ok (.goto 7, 3) := by decide +kernel
theorem dX8_load_94 : decode cX8_load 94 = .ok (.aload_n 0, 1) := by decide +kernel
theorem dX8_load_95 : decode cX8_load 95 = .ok (.getfield 108, 3) := by decide +kernel
theorem dX8_load_98 : decode cX8_load 98 = .ok (.putfield 23, 3) := by decide +kernel
theorem dX8_load_101 : decode cX8_load 101 = .ok (.aload_n 0, 1) := by decide +kernel
theorem dX8_load_102 : decode cX8_load 102 = .ok (.getfield 95, 3) := by decide +kernel
theorem dX8_load_105 : decode cX8_load 105 = .ok (.ifCond .eq 8, 3) := by decide +kernel
theorem dX8_load_108 : decode cX8_load 108 = .ok (.aload_n 0, 1) := by decide +kernel
theorem dX8_load_109 : decode cX8_load 109 = .ok (.getfield 95, 3) := by decide +kernel
theorem dX8_load_112 : decode cX8_load 112 = .ok (.ireturn, 1) := by decide +kernel
theorem dX8_load_113 : decode cX8_load 113 = .ok (.aload_n 0, 1) := by decide +kernel
theorem dX8_load_114 : decode cX8_load 114 = .ok (.invokevirtual 179, 3) := by decide +kernel
theorem dX8_load_117 : decode cX8_load 117 = .ok (.aload_n 0, 1) := by decide +kernel
theorem dX8_load_118 : decode cX8_load 118 = .ok (.aload_n 0, 1) := by decide +kernel
theorem dX8_load_119 : decode cX8_load 119 = .ok (.getfield 13, 3) := by decide +kernel
theorem dX8_load_122 : decode cX8_load 122 = .ok (.iconst 0, 1) := by decide +kernel
theorem dX8_load_123 : decode cX8_load 123 = .ok (.invokevirtual 33, 3) := by decide +kernel
theorem dX8_load_126 : decode cX8_load 126 = .ok (.iconst 0, 1) := by decide +kernel
theorem dX8_load_127 : decode cX8_load 127 = .ok (.istore_n 2, 1) := by decide +kernel
theorem dX8_load_128 : decode cX8_load 128 = .ok (.iload_n 2, 1) := by decide +kernel
theorem dX8_load_129 : decode cX8_load 129 = .ok (.bipush 16, 2) := by decide +kernel
theorem dX8_load_131 : decode cX8_load 131 = .ok (.if_icmp .ge 28, 3) := by decide +kernel
theorem dX8_load_134 : decode cX8_load 134 = .ok (.aload_n 0, 1) := by decide +kernel
theorem dX8_load_135 : decode cX8_load 135 = .ok (.getfield 7, 3) := by decide +kernel
theorem dX8_load_138 : decode cX8_load 138 = .ok (.bipush 37, 2) := by decide +kernel
theorem dX8_load_140 : decode cX8_load 140 = .ok (.iload_n 2, 1) := by decide +kernel
theorem dX8_load_141 : decode cX8_load 141 = .ok (.iadd, 1) := by decide +kernel
theorem dX8_load_142 : decode cX8_load 142 = .ok (.aload_n 0, 1) := by decide +kernel
theorem dX8_load_143 : decode cX8_load 143 = .ok (.iload_n 2, 1) := by decide +kernel
theorem dX8_load_144 : decode cX8_load 144 = .ok (.iconst 2, 1) := by decide +kernel
theorem dX8_load_145 : decode cX8_load 145 = .ok (.idiv, 1) := by decide +kernel
theorem dX8_load_146 : decode cX8_load 146 = .ok (.iload_n 2, 1) := by decide +kernel
theorem dX8_load_147 : decode cX8_load 147 = .ok (.iconst 2, 1) := by decide +kernel
theorem dX8_load_148 : decode cX8_load 148 = .ok (.irem, 1) := by decide +kernel
theorem dX8_load_149 : decode cX8_load 149 = .ok (.invokevirtual 182, 3) := by decide +kernel
theorem dX8_load_152 : decode cX8_load 152 = .ok (.lastore, 1) := by decide +kernel
theorem dX8_load_153 : decode cX8_load 153 = .ok (.iinc 2 1, 3) := by decide +kernel
theorem dX8_load_156 : decode cX8_load 156 = .ok (.goto (-28), 3) := by decide +kernel
theorem dX8_load_159 : decode cX8_load 159 = .ok (.aload_n 0, 1) := by decide +kernel
theorem dX8_load_160 : decode cX8_load 160 = .ok (.invokevirtual 186, 3) := by decide +kernel
theorem dX8_load_163 : decode cX8_load 163 = .ok (.aload_n 0, 1) := by decide +kernel
theorem dX8_load_164 : decode cX8_load 164 = .ok (.getfield 7, 3) := by decide +kernel
theorem dX8_load_167 : decode cX8_load 167 = .ok (.iconst 3, 1) := by decide +kernel
theorem dX8_load_168 : decode cX8_load 168 = .ok (.laload, 1) := by decide +kernel
theorem dX8_load_169 : decode cX8_load 169 = .ok (.l2i, 1) := by decide +kernel
theorem dX8_load_170 : decode cX8_load 170 = .ok (.ireturn, 1) := by decide +kernel
theorem dX8_errorPosition_0 : decode cX8_errorPosition 0 = .ok (.aload_n 0, 1) := by decide +kernel
theorem dX8_errorPosition_1 : decode cX8_errorPosition 1 = .ok (.iconst 0, 1) := by decide +kernel
theorem dX8_errorPosition_2 : decode cX8_errorPosition 2 = .ok (.putfield 43, 3) := by decide +kernel
theorem dX8_errorPosition_5 : decode cX8_errorPosition 5 = .ok (.aload_n 0, 1) := by decide +kernel
theorem dX8_errorPosition_6 : decode cX8_errorPosition 6 = .ok (.getfield 23, 3) := by decide +kernel
theorem dX8_errorPosition_9 : decode cX8_errorPosition 9 = .ok (.ireturn, 1) := by decide +kernel
theorem dX8_addsFolder_0 : decode cX8_addsFolder 0 = .ok (.aload_n 0, 1) := by decide +kernel
theorem dX8_addsFolder_1 : decode cX8_addsFolder 1 = .ok (.iconst 2, 1) := by decide +kernel
theorem dX8_addsFolder_2 : decode cX8_addsFolder 2 = .ok (.laload, 1) := by decide +kernel
theorem dX8_addsFolder_3 : decode cX8_addsFolder 3 = .ok (.l2i, 1) := by decide +kernel
theorem dX8_addsFolder_4 : decode cX8_addsFolder 4 = .ok (.istore 4, 2) := by decide +kernel
theorem dX8_addsFolder_6 : decode cX8_addsFolder 6 = .ok (.aload_n 0, 1) := by decide +kernel
theorem dX8_addsFolder_7 : decode cX8_addsFolder 7 = .ok (.bipush 69, 2) := by decide +kernel
theorem dX8_addsFolder_9 : decode cX8_addsFolder 9 = .ok (.iload 4, 2) := by decide +kernel
theorem dX8_addsFolder_11 : decode cX8_addsFolder 11 = .ok (.iadd, 1) := by decide +kernel
theorem dX8_addsFolder_12 : decode cX8_addsFolder 12 = .ok (.iload_n 1, 1) := by decide +kernel
theorem dX8_addsFolder_13 : decode cX8_addsFolder 13 = .ok (.i2l, 1) := by decide +kernel
theorem dX8_addsFolder_14 : decode cX8_addsFolder 14 = .ok (.lastore, 1) := by decide +kernel
theorem dX8_addsFolder_15 : decode cX8_addsFolder 15 = .ok (.aload_n 0, 1) := by decide +kernel
theorem dX8_addsFolder_16 : decode cX8_addsFolder 16 = .ok (.bipush 109, 2) := by decide +kernel
theorem dX8_addsFolder_18 : decode cX8_addsFolder 18 = .ok (.iload 4, 2) := by decide +kernel
theorem dX8_addsFolder_20 : decode cX8_addsFolder 20 = .ok (.iadd, 1) := by decide +kernel
theorem dX8_addsFolder_21 : decode cX8_addsFolder 21 = .ok (.ldc2_w 37, 3) := by decide +kernel
theorem dX8_addsFolder_24 : decode cX8_addsFolder 24 = .ok (.lastore, 1) := by decide +kernel
theorem dX8_addsFolder_25 : decode cX8_addsFolder 25 = .ok (.aload_n 0, 1) := by decide +kernel
theorem dX8_addsFolder_26 : decode cX8_addsFolder 26 = .ok (.sipush 149, 3) := by decide +kernel
theorem dX8_addsFolder_29 : decode cX8_addsFolder 29 = .ok (.iload 4, 2) := by decide +kernel
theorem dX8_addsFolder_31 : decode cX8_addsFolder 31 = .ok (.iadd, 1) := by decide +kernel
theorem dX8_addsFolder_32 : decode cX8_addsFolder 32 = .ok (.lload_n 2, 1) := by decide +kernel
theorem dX8_addsFolder_33 : decode cX8_addsFolder 33 = .ok (.lastore, 1) := by decide +kernel
theorem dX8_addsFolder_34 : decode cX8_addsFolder 34 = .ok (.aload_n 0, 1) := by decide +kernel
theorem dX8_addsFolder_35 : decode cX8_addsFolder 35 = .ok (.iconst 2, 1) := by decide +kernel
theorem dX8_addsFolder_36 : decode cX8_addsFolder 36 = .ok (.dup2, 1) := by decide +kernel
theorem dX8_addsFolder_37 : decode cX8_addsFolder 37 = .ok (.laload, 1) := by decide +kernel
theorem dX8_addsFolder_38 : decode cX8_addsFolder 38 = .ok (.lconst 1, 1) := by decide +kernel
theorem dX8_addsFolder_39 : decode cX8_addsFolder 39 = .ok (.ladd, 1) := by decide +kernel
theorem dX8_addsFolder_40 : decode cX8_addsFolder 40 = .ok (.lastore, 1) := by decide +kernel
theorem dX8_addsFolder_41 : decode cX8_addsFolder 41 = .ok (.return_, 1) := by decide +kernel
theorem dX8_addsFile_0 : decode cX8_addsFile 0 = .ok (.aload_n 0, 1) := by decide +kernel
theorem dX8_addsFile_1 : decode cX8_addsFile 1 = .ok (.sipush 189, 3) := by decide +kernel
theorem dX8_addsFile_4 : decode cX8_addsFile 4 = .ok (.aload_n 0, 1) := by decide +kernel
theorem dX8_addsFile_5 : decode cX8_addsFile 5 = .ok (.iconst 3, 1) := by decide +kernel
theorem dX8_addsFile_6 : decode cX8_addsFile 6 = .ok (.laload, 1) := by decide +kernel
theorem dX8_addsFile_7 : decode cX8_addsFile 7 = .ok (.l2i, 1) := by decide +kernel
theorem dX8_addsFile_8 : decode cX8_addsFile 8 = .ok (.iadd, 1) := by decide +kernel
theorem dX8_addsFile_9 : decode cX8_addsFile 9 = .ok (.iload_n 1, 1) := by decide +kernel
theorem dX8_addsFile_10 : decode cX8_addsFile 10 = .ok (.i2l, 1) := by decide +kernel
theorem dX8_addsFile_11 : decode cX8_addsFile 11 = .ok (.lastore, 1) := by decide +kernel
theorem dX8_addsFile_12 : decode cX8_addsFile 12 = .ok (.aload_n 0, 1) := by decide +kernel
theorem dX8_addsFile_13 : decode cX8_addsFile 13 = .ok (.sipush 249, 3) := by decide +kernel
theorem dX8_addsFile_16 : decode cX8_addsFile 16 = .ok (.aload_n 0, 1) := by decide +kernel
theorem dX8_addsFile_17 : decode cX8_addsFile 17 = .ok (.iconst 3, 1) := by decide +kernel
theorem dX8_addsFile_18 : decode cX8_addsFile 18 = .ok (.laload, 1) := by decide +kernel
theorem dX8_addsFile_19 : decode cX8_addsFile 19 = .ok (.l2i, 1) := by decide +kernel
theorem dX8_addsFile_20 : decode cX8_addsFile 20 = .ok (.iadd, 1) := by decide +kernel
theorem dX8_addsFile_21 : decode cX8_addsFile 21 = .ok (.iload_n 2, 1) := by decide +kernel
theorem dX8_addsFile_22 : decode cX8_addsFile 22 = .ok (.i2l, 1) := by decide +kernel
theorem dX8_addsFile_23 : decode cX8_addsFile 23 = .ok (.lastore, 1) := by decide +kernel
theorem dX8_addsFile_24 : decode cX8_addsFile 24 = .ok (.aload_n 0, 1) := by decide +kernel
theorem dX8_addsFile_25 : decode cX8_addsFile 25 = .ok (.iconst 3, 1) := by decide +kernel
theorem dX8_addsFile_26 : decode cX8_addsFile 26 = .ok (.dup2, 1) := by decide +kernel
theorem dX8_addsFile_27 : decode cX8_addsFile 27 = .ok (.laload, 1) := by decide +kernel
theorem dX8_addsFile_28 : decode cX8_addsFile 28 = .ok (.lconst 1, 1) := by decide +kernel
theorem dX8_addsFile_29 : decode cX8_addsFile 29 = .ok (.ladd, 1) := by decide +kernel
theorem dX8_addsFile_30 : decode cX8_addsFile 30 = .ok (.lastore, 1) := by decide +kernel
theorem dX8_addsFile_31 : decode cX8_addsFile 31 = .ok (.return_, 1) := by decide +kernel
set_option maxRecDepth 20000 in
theorem ggX8_isFolder_X8_isIn : GoodIn wsX8_isFolder wsX8_isIn := goodIn_r _ [5] (by decide +kernel) (by decide +kernel)
set_option maxRecDepth 20000 in
theorem gX8_isFolder_X8_isIn : GoodIn wsX8_isFolder (va_wsS RX8 59 yX8_isIn wsX8_isIn) := goodIn_app (goodIn_of _ (by decide +kernel)) ggX8_isFolder_X8_isIn
theorem dX8_isFolder_0 : decode cX8_isFolder 0 = .ok (.iload_n 1, 1) := by decide +kernel
theorem dX8_isFolder_1 : decode cX8_isFolder 1 = .ok (.i2l, 1) := by decide +kernel
theorem dX8_isFolder_2 : decode cX8_isFolder 2 = .ok (.lconst 0, 1) := by decide +kernel
theorem dX8_isFolder_3 : decode cX8_isFolder 3 = .ok (.aload_n 0, 1) := by decide +kernel
theorem dX8_isFolder_4 : decode cX8_isFolder 4 = .ok (.getfield 7, 3) := by decide +kernel
theorem dX8_isFolder_7 : decode cX8_isFolder 7 = .ok (.iconst 2, 1) := by decide +kernel
theorem dX8_isFolder_8 : decode cX8_isFolder 8 = .ok (.laload, 1) := by decide +kernel
theorem dX8_isFolder_9 : decode cX8_isFolder 9 = .ok (.lconst 1, 1) := by decide +kernel
theorem dX8_isFolder_10 : decode cX8_isFolder 10 = .ok (.lsub, 1) := by decide +kernel
theorem dX8_isFolder_11 : decode cX8_isFolder 11 = .ok (.invokestatic 59, 3) := by decide +kernel
theorem dX8_isFolder_14 : decode cX8_isFolder 14 = .ok (.ireturn, 1) := by decide +kernel
set_option maxRecDepth 20000 in
theorem ggX8_isFile_X8_isIn : GoodIn wsX8_isFile wsX8_isIn := goodIn_r _ [5] (by decide +kernel) (by decide +kernel)
set_option maxRecDepth 20000 in
theorem gX8_isFile_X8_isIn : GoodIn wsX8_isFile (va_wsS RX8 59 yX8_isIn wsX8_isIn) := goodIn_app (goodIn_of _ (by decide +kernel)) ggX8_isFile_X8_isIn
theorem dX8_isFile_0 : decode cX8_isFile 0 = .ok (.iload_n 1, 1) := by decide +kernel
theorem dX8_isFile_1 : decode cX8_isFile 1 = .ok (.i2l, 1) := by decide +kernel
theorem dX8_isFile_2 : decode cX8_isFile 2 = .ok (.lconst 0, 1) := by decide +kernel
theorem dX8_isFile_3 : decode cX8_isFile 3 = .ok (.aload_n 0, 1) := by decide +kernel
theorem dX8_isFile_4 : decode cX8_isFile 4 = .ok (.getfield 7, 3) := by decide +kernel
theorem dX8_isFile_7 : decode cX8_isFile 7 = .ok (.iconst 3, 1) := by decide +kernel
theorem dX8_isFile_8 : decode cX8_isFile 8 = .ok (.laload, 1) := by decide +kernel
theorem dX8_isFile_9 : decode cX8_isFile 9 = .ok (.lconst 1, 1) := by decide +kernel
theorem dX8_isFile_10 : decode cX8_isFile 10 = .ok (.lsub, 1) := by decide +kernel
theorem dX8_isFile_11 : decode cX8_isFile 11 = .ok (.invokestatic 59, 3) := by decide +kernel
theorem dX8_isFile_14 : decode cX8_isFile 14 = .ok (.ireturn, 1) := by decide +kernel
set_option maxRecDepth 20000 in
theorem ggX8_isProject_X8_isIn : GoodIn wsX8_isProject wsX8_isIn := goodIn_r _ [5] (by decide +kernel) (by decide +kernel)
set_option maxRecDepth 20000 in
theorem gX8_isProject_X8_isIn : GoodIn wsX8_isProject (va_wsS RX8 59 yX8_isIn wsX8_isIn) := goodIn_app (goodIn_of _ (by decide +kernel)) ggX8_isProject_X8_isIn
theorem dX8_isProject_0 : decode cX8_isProject 0 = .ok (.iload_n 0, 1) := by decide +kernel
theorem dX8_isProject_1 : decode cX8_isProject 1 = .ok (.i2l, 1) := by decide +kernel
theorem dX8_isProject_2 : decode cX8_isProject 2 = .ok (.lconst 0, 1) := by decide +kernel
theorem dX8_isProject_3 : decode cX8_isProject 3 = .ok (.ldc2_w 189, 3) := by decide +kernel
theorem dX8_isProject_6 : decode cX8_isProject 6 = .ok (.invokestatic 59, 3) := by decide +kernel
theorem dX8_isProject_9 : decode cX8_isProject 9 = .ok (.ireturn, 1) := by decide +kernel
set_option maxRecDepth 20000 in
theorem ggX8_isKind_X8_isIn : GoodIn wsX8_isKind wsX8_isIn := goodIn_r _ [4] (by decide +kernel) (by decide +kernel)
set_option maxRecDepth 20000 in
theorem gX8_isKind_X8_isIn : GoodIn wsX8_isKind (va_wsS RX8 59 yX8_isIn wsX8_isIn) := goodIn_app (goodIn_of _ (by decide +kernel)) ggX8_isKind_X8_isIn
theorem dX8_isKind_0 : decode cX8_isKind 0 = .ok (.iload_n 0, 1) := by decide +kernel
theorem dX8_isKind_1 : decode cX8_isKind 1 = .ok (.i2l, 1) := by decide +kernel
theorem dX8_isKind_2 : decode cX8_isKind 2 = .ok (.lconst 0, 1) := by decide +kernel
theorem dX8_isKind_3 : decode cX8_isKind 3 = .ok (.lconst 1, 1) := by decide +kernel
theorem dX8_isKind_4 : decode cX8_isKind 4 = .ok (.invokestatic 59, 3) := by decide +kernel
theorem dX8_isKind_7 : decode cX8_isKind 7 = .ok (.ireturn, 1) := by decide +kernel
theorem dX8_parentOf_0 : decode cX8_parentOf 0 = .ok (.aload_n 0, 1) := by decide +kernel
theorem dX8_parentOf_1 : decode cX8_parentOf 1 = .ok (.getfield 7, 3) := by decide +kernel
theorem dX8_parentOf_4 : decode cX8_parentOf 4 = .ok (.bipush 69, 2) := by decide +kernel
theorem dX8_parentOf_6 : decode cX8_parentOf 6 = .ok (.iload_n 1, 1) := by decide +kernel
theorem dX8_parentOf_7 : decode cX8_parentOf 7 = .ok (.iadd, 1) := by decide +kernel
theorem dX8_parentOf_8 : decode cX8_parentOf 8 = .ok (.laload, 1) := by decide +kernel
theorem dX8_parentOf_9 : decode cX8_parentOf 9 = .ok (.l2i, 1) := by decide +kernel
theorem dX8_parentOf_10 : decode cX8_parentOf 10 = .ok (.ireturn, 1) := by decide +kernel
theorem dX8_tagOf_0 : decode cX8_tagOf 0 = .ok (.aload_n 0, 1) := by decide +kernel
theorem dX8_tagOf_1 : decode cX8_tagOf 1 = .ok (.getfield 7, 3) := by decide +kernel
theorem dX8_tagOf_4 : decode cX8_tagOf 4 = .ok (.bipush 109, 2) := by decide +kernel
theorem dX8_tagOf_6 : decode cX8_tagOf 6 = .ok (.iload_n 1, 1) := by decide +kernel
theorem dX8_tagOf_7 : decode cX8_tagOf 7 = .ok (.iadd, 1) := by decide +kernel
theorem dX8_tagOf_8 : decode cX8_tagOf 8 = .ok (.laload, 1) := by decide +kernel
theorem dX8_tagOf_9 : decode cX8_tagOf 9 = .ok (.l2i, 1) := by decide +kernel
theorem dX8_tagOf_10 : decode cX8_tagOf 10 = .ok (.ireturn, 1) := by decide +kernel
set_option maxRecDepth 20000 in
theorem ggX8_projectOf_X8_tagOf : GoodIn wsX8_projectOf wsX8_tagOf := goodIn_r _ [5, 6, 11, 12, 13, 14, 15, 16, 17, 18, 19, 20, 21, 22, 23, 24, 25, 26, 27, 28] (by decide +kernel) (by decide +kernel)
set_option maxRecDepth 20000 in
theorem gX8_projectOf_X8_tagOf : GoodIn wsX8_projectOf (wsV RX8 191 RX8 yX8_tagOf wsX8_tagOf) := goodIn_app (goodIn_of _ (by decide +kernel)) ggX8_projectOf_X8_tagOf
set_option maxRecDepth 20000 in
theorem ggX8_projectOf_X8_parentOf : GoodIn wsX8_projectOf wsX8_parentOf := goodIn_r _ [10, 6, 11, 12, 13, 14, 15, 16, 17, 18, 19, 20, 21, 22, 23, 24, 25, 26, 27, 28] (by decide +kernel) (by decide +kernel)
set_option maxRecDepth 20000 in
theorem gX8_projectOf_X8_parentOf : GoodIn wsX8_projectOf (wsV RX8 194 RX8 yX8_parentOf wsX8_parentOf) := goodIn_app (goodIn_of _ (by decide +kernel)) ggX8_projectOf_X8_parentOf
theorem dX8_projectOf_0 : decode cX8_projectOf 0 = .ok (.iload_n 1, 1) := by decide +kernel
theorem dX8_projectOf_1 : decode cX8_projectOf 1 = .ok (.istore_n 2, 1) := by decide +kernel
theorem dX8_projectOf_2 : decode cX8_projectOf 2 = .ok (.iload_n 2, 1) := by decide +kernel
theorem dX8_projectOf_3 : decode cX8_projectOf 3 = .ok (.iconst (-1), 1) := by decide +kernel
theorem dX8_projectOf_4 : decode cX8_projectOf 4 = .ok (.if_icmp .eq 21, 3) := by decide +kernel
theorem dX8_projectOf_7 : decode cX8_projectOf 7 = .ok (.aload_n 0, 1) := by decide +kernel
theorem dX8_projectOf_8 : decode cX8_projectOf 8 = .ok (.iload_n 2, 1) := by decide +kernel
theorem dX8_projectOf_9 : decode cX8_projectOf 9 = .ok (.invokevirtual 191, 3) := by decide +kernel
theorem dX8_projectOf_12 : decode cX8_projectOf 12 = .ok (.iconst (-1), 1) := by decide +kernel
theorem dX8_projectOf_13 : decode cX8_projectOf 13 = .ok (.if_icmp .ne 12, 3) := by decide +kernel
theorem dX8_projectOf_16 : decode cX8_projectOf 16 = .ok (.aload_n 0, 1) := by decide +kernel
theorem dX8_projectOf_17 : decode cX8_projectOf 17 = .ok (.iload_n 2, 1) := by decide +kernel
theorem dX8_projectOf_18 : decode cX8_projectOf 18 = .ok (.invokevirtual 194, 3) := by decide +kernel
theorem dX8_projectOf_21 : decode cX8_projectOf 21 = .ok (.istore_n 2, 1) := by decide +kernel
theorem dX8_projectOf_22 : decode cX8_projectOf 22 = .ok (.goto (-20), 3) := by decide +kernel
theorem dX8_projectOf_25 : decode cX8_projectOf 25 = .ok (.iload_n 2, 1) := by decide +kernel
theorem dX8_projectOf_26 : decode cX8_projectOf 26 = .ok (.iconst (-1), 1) := by decide +kernel
theorem dX8_projectOf_27 : decode cX8_projectOf 27 = .ok (.if_icmp .ne 7, 3) := by decide +kernel
theorem dX8_projectOf_30 : decode cX8_projectOf 30 = .ok (.iconst (-1), 1) := by decide +kernel
theorem dX8_projectOf_31 : decode cX8_projectOf 31 = .ok (.goto 8, 3) := by decide +kernel
theorem dX8_projectOf_34 : decode cX8_projectOf 34 = .ok (.aload_n 0, 1) := by decide +kernel
theorem dX8_projectOf_35 : decode cX8_projectOf 35 = .ok (.iload_n 2, 1) := by decide +kernel
theorem dX8_projectOf_36 : decode cX8_projectOf 36 = .ok (.invokevirtual 191, 3) := by decide +kernel
theorem dX8_projectOf_39 : decode cX8_projectOf 39 = .ok (.ireturn, 1) := by decide +kernel
theorem dX8_folderOf_0 : decode cX8_folderOf 0 = .ok (.aload_n 0, 1) := by decide +kernel
theorem dX8_folderOf_1 : decode cX8_folderOf 1 = .ok (.getfield 7, 3) := by decide +kernel
theorem dX8_folderOf_4 : decode cX8_folderOf 4 = .ok (.sipush 189, 3) := by decide +kernel
theorem dX8_folderOf_7 : decode cX8_folderOf 7 = .ok (.iload_n 1, 1) := by decide +kernel
theorem dX8_folderOf_8 : decode cX8_folderOf 8 = .ok (.iadd, 1) := by decide +kernel
theorem dX8_folderOf_9 : decode cX8_folderOf 9 = .ok (.laload, 1) := by decide +kernel
theorem dX8_folderOf_10 : decode cX8_folderOf 10 = .ok (.l2i, 1) := by decide +kernel
theorem dX8_folderOf_11 : decode cX8_folderOf 11 = .ok (.ireturn, 1) := by decide +kernel
set_option maxRecDepth 20000 in
theorem ggX8_isBelow_X8_parentOf : GoodIn wsX8_isBelow wsX8_parentOf := goodIn_r _ [5, 6, 7, 8, 9, 10, 11, 12, 13, 14, 15, 16, 17, 18, 19, 20, 21, 22, 23, 24] (by decide +kernel) (by decide +kernel)
set_option maxRecDepth 20000 in
theorem gX8_isBelow_X8_parentOf : GoodIn wsX8_isBelow (wsV RX8 194 RX8 yX8_parentOf wsX8_parentOf) := goodIn_app (goodIn_of _ (by decide +kernel)) ggX8_isBelow_X8_parentOf
theorem dX8_isBelow_0 : decode cX8_isBelow 0 = .ok (.iload_n 1, 1) := by decide +kernel
theorem dX8_isBelow_1 : decode cX8_isBelow 1 = .ok (.istore_n 3, 1) := by decide +kernel
theorem dX8_isBelow_2 : decode cX8_isBelow 2 = .ok (.iload_n 3, 1) := by decide +kernel
theorem dX8_isBelow_3 : decode cX8_isBelow 3 = .ok (.iconst (-1), 1) := by decide +kernel
theorem dX8_isBelow_4 : decode cX8_isBelow 4 = .ok (.if_icmp .eq 17, 3) := by decide +kernel
theorem dX8_isBelow_7 : decode cX8_isBelow 7 = .ok (.iload_n 3, 1) := by decide +kernel
theorem dX8_isBelow_8 : decode cX8_isBelow 8 = .ok (.iload_n 2, 1) := by decide +kernel
theorem dX8_isBelow_9 : decode cX8_isBelow 9 = .ok (.if_icmp .eq 12, 3) := by decide +kernel
theorem dX8_isBelow_12 : decode cX8_isBelow 12 = .ok (.aload_n 0, 1) := by decide +kernel
theorem dX8_isBelow_13 : decode cX8_isBelow 13 = .ok (.iload_n 3, 1) := by decide +kernel
theorem dX8_isBelow_14 : decode cX8_isBelow 14 = .ok (.invokevirtual 194, 3) := by decide +kernel
theorem dX8_isBelow_17 : decode cX8_isBelow 17 = .ok (.istore_n 3, 1) := by decide +kernel
theorem dX8_isBelow_18 : decode cX8_isBelow 18 = .ok (.goto (-16), 3) := by decide +kernel
theorem dX8_isBelow_21 : decode cX8_isBelow 21 = .ok (.iload_n 3, 1) := by decide +kernel
theorem dX8_isBelow_22 : decode cX8_isBelow 22 = .ok (.iload_n 2, 1) := by decide +kernel
theorem dX8_isBelow_23 : decode cX8_isBelow 23 = .ok (.if_icmp .ne 7, 3) := by decide +kernel
theorem dX8_isBelow_26 : decode cX8_isBelow 26 = .ok (.iconst 1, 1) := by decide +kernel
theorem dX8_isBelow_27 : decode cX8_isBelow 27 = .ok (.goto 4, 3) := by decide +kernel
theorem dX8_isBelow_30 : decode cX8_isBelow 30 = .ok (.iconst 0, 1) := by decide +kernel
theorem dX8_isBelow_31 : decode cX8_isBelow 31 = .ok (.ireturn, 1) := by decide +kernel
set_option maxRecDepth 20000 in
theorem ggX8_isOpenTo_X8_tagOf : GoodIn wsX8_isOpenTo wsX8_tagOf := goodIn_r _ [5, 6, 11, 12, 13, 14, 15, 16, 17, 18, 19, 20, 21, 22, 23, 24, 25, 26, 27, 28] (by decide +kernel) (by decide +kernel)
set_option maxRecDepth 20000 in
theorem gX8_isOpenTo_X8_tagOf : GoodIn wsX8_isOpenTo (wsV RX8 191 RX8 yX8_tagOf wsX8_tagOf) := goodIn_app (goodIn_of _ (by decide +kernel)) ggX8_isOpenTo_X8_tagOf
set_option maxRecDepth 20000 in
theorem ggX8_isOpenTo_X8_parentOf : GoodIn wsX8_isOpenTo wsX8_parentOf := goodIn_r _ [10, 6, 11, 12, 13, 14, 15, 16, 17, 18, 19, 20, 21, 22, 23, 24, 25, 26, 27, 28] (by decide +kernel) (by decide +kernel)
set_option maxRecDepth 20000 in
theorem gX8_isOpenTo_X8_parentOf : GoodIn wsX8_isOpenTo (wsV RX8 194 RX8 yX8_parentOf wsX8_parentOf) := goodIn_app (goodIn_of _ (by decide +kernel)) ggX8_isOpenTo_X8_parentOf
theorem dX8_isOpenTo_0 : decode cX8_isOpenTo 0 = .ok (.iload_n 1, 1) := by decide +kernel
theorem dX8_isOpenTo_1 : decode cX8_isOpenTo 1 = .ok (.istore_n 3, 1) := by decide +kernel
theorem dX8_isOpenTo_2 : decode cX8_isOpenTo 2 = .ok (.iload_n 3, 1) := by decide +kernel
theorem dX8_isOpenTo_3 : decode cX8_isOpenTo 3 = .ok (.iconst (-1), 1) := by decide +kernel
theorem dX8_isOpenTo_4 : decode cX8_isOpenTo 4 = .ok (.if_icmp .eq 26, 3) := by decide +kernel
theorem dX8_isOpenTo_7 : decode cX8_isOpenTo 7 = .ok (.iload_n 3, 1) := by decide +kernel
theorem dX8_isOpenTo_8 : decode cX8_isOpenTo 8 = .ok (.iload_n 2, 1) := by decide +kernel
theorem dX8_isOpenTo_9 : decode cX8_isOpenTo 9 = .ok (.if_icmp .eq 21, 3) := by decide +kernel
theorem dX8_isOpenTo_12 : decode cX8_isOpenTo 12 = .ok (.aload_n 0, 1) := by decide +kernel
theorem dX8_isOpenTo_13 : decode cX8_isOpenTo 13 = .ok (.iload_n 3, 1) := by decide +kernel
theorem dX8_isOpenTo_14 : decode cX8_isOpenTo 14 = .ok (.invokevirtual 191, 3) := by decide +kernel
theorem dX8_isOpenTo_17 : decode cX8_isOpenTo 17 = .ok (.iconst (-1), 1) := by decide +kernel
theorem dX8_isOpenTo_18 : decode cX8_isOpenTo 18 = .ok (.if_icmp .ne 12, 3) := by decide +kernel
theorem dX8_isOpenTo_21 : decode cX8_isOpenTo 21 = .ok (.aload_n 0, 1) := by decide +kernel
theorem dX8_isOpenTo_22 : decode cX8_isOpenTo 22 = .ok (.iload_n 3, 1) := by decide +kernel
theorem dX8_isOpenTo_23 : decode cX8_isOpenTo 23 = .ok (.invokevirtual 194, 3) := by decide +kernel
theorem dX8_isOpenTo_26 : decode cX8_isOpenTo 26 = .ok (.istore_n 3, 1) := by decide +kernel
theorem dX8_isOpenTo_27 : decode cX8_isOpenTo 27 = .ok (.goto (-25), 3) := by decide +kernel
theorem dX8_isOpenTo_30 : decode cX8_isOpenTo 30 = .ok (.iload_n 3, 1) := by decide +kernel
theorem dX8_isOpenTo_31 : decode cX8_isOpenTo 31 = .ok (.iload_n 2, 1) := by decide +kernel
theorem dX8_isOpenTo_32 : decode cX8_isOpenTo 32 = .ok (.if_icmp .ne 7, 3) := by decide +kernel
theorem dX8_isOpenTo_35 : decode cX8_isOpenTo 35 = .ok (.iconst 1, 1) := by decide +kernel
theorem dX8_isOpenTo_36 : decode cX8_isOpenTo 36 = .ok (.goto 4, 3) := by decide +kernel
theorem dX8_isOpenTo_39 : decode cX8_isOpenTo 39 = .ok (.iconst 0, 1) := by decide +kernel
theorem dX8_isOpenTo_40 : decode cX8_isOpenTo 40 = .ok (.ireturn, 1) := by decide +kernel
set_option maxRecDepth 20000 in
theorem ggX8_openOf_X8_folderOf : GoodIn wsX8_openOf wsX8_folderOf := goodIn_r _ [6, 1, 19, 20, 21, 22, 23, 24, 25, 26, 27, 28, 29, 30, 31, 32, 33, 34, 35, 36] (by decide +kernel) (by decide +kernel)
set_option maxRecDepth 20000 in
theorem gX8_openOf_X8_folderOf : GoodIn wsX8_openOf (wsV RX8 197 RX8 yX8_folderOf wsX8_folderOf) := goodIn_app (goodIn_of _ (by decide +kernel)) ggX8_openOf_X8_folderOf
set_option maxRecDepth 20000 in
theorem ggX8_openOf_X8_isOpenTo : GoodIn wsX8_openOf wsX8_isOpenTo := goodIn_r _ [10, 11, 12, 13, 5, 14, 1, 15, 16, 17, 18, 19, 20, 21, 22, 23, 24, 25, 26, 27, 28, 29, 30, 31, 32, 33, 34, 35, 36] (by decide +kernel) (by decide +kernel)
set_option maxRecDepth 20000 in
theorem gX8_openOf_X8_isOpenTo : GoodIn wsX8_openOf (wsV RX8 200 RX8 yX8_isOpenTo wsX8_isOpenTo) := goodIn_app (goodIn_of _ (by decide +kernel)) ggX8_openOf_X8_isOpenTo
theorem dX8_openOf_0 : decode cX8_openOf 0 = .ok (.lconst 0, 1) := by decide +kernel
theorem dX8_openOf_1 : decode cX8_openOf 1 = .ok (.lstore_n 3, 1) := by decide +kernel
theorem dX8_openOf_2 : decode cX8_openOf 2 = .ok (.iconst 0, 1) := by decide +kernel
theorem dX8_openOf_3 : decode cX8_openOf 3 = .ok (.istore 5, 2) := by decide +kernel
theorem dX8_openOf_5 : decode cX8_openOf 5 = .ok (.iload 5, 2) := by decide +kernel
theorem dX8_openOf_7 : decode cX8_openOf 7 = .ok (.i2l, 1) := by decide +kernel
theorem dX8_openOf_8 : decode cX8_openOf 8 = .ok (.aload_n 0, 1) := by decide +kernel
theorem dX8_openOf_9 : decode cX8_openOf 9 = .ok (.getfield 7, 3) := by decide +kernel
theorem dX8_openOf_12 : decode cX8_openOf 12 = .ok (.iconst 3, 1) := by decide +kernel
theorem dX8_openOf_13 : decode cX8_openOf 13 = .ok (.laload, 1) := by decide +kernel
theorem dX8_openOf_14 : decode cX8_openOf 14 = .ok (.lcmp, 1) := by decide +kernel
theorem dX8_openOf_15 : decode cX8_openOf 15 = .ok (.ifCond .ge 49, 3) := by decide +kernel
theorem dX8_openOf_18 : decode cX8_openOf 18 = .ok (.lload_n 3, 1) := by decide +kernel
theorem dX8_openOf_19 : decode cX8_openOf 19 = .ok (.aload_n 0, 1) := by decide +kernel
theorem dX8_openOf_20 : decode cX8_openOf 20 = .ok (.aload_n 0, 1) := by decide +kernel
theorem dX8_openOf_21 : decode cX8_openOf 21 = .ok (.iload 5, 2) := by decide +kernel
theorem dX8_openOf_23 : decode cX8_openOf 23 = .ok (.invokevirtual 197, 3) := by decide +kernel
theorem dX8_openOf_26 : decode cX8_openOf 26 = .ok (.iload_n 1, 1) := by decide +kernel
theorem dX8_openOf_27 : decode cX8_openOf 27 = .ok (.invokevirtual 200, 3) := by decide +kernel
theorem dX8_openOf_30 : decode cX8_openOf 30 = .ok (.ifCond .eq 25, 3) := by decide +kernel
theorem dX8_openOf_33 : decode cX8_openOf 33 = .ok (.iload_n 2, 1) := by decide +kernel
theorem dX8_openOf_34 : decode cX8_openOf 34 = .ok (.ifCond .eq 17, 3) := by decide +kernel
theorem dX8_openOf_37 : decode cX8_openOf 37 = .ok (.aload_n 0, 1) := by decide +kernel
theorem dX8_openOf_38 : decode cX8_openOf 38 = .ok (.getfield 7, 3) := by decide +kernel
theorem dX8_openOf_41 : decode cX8_openOf 41 = .ok (.sipush 249, 3) := by decide +kernel
theorem dX8_openOf_44 : decode cX8_openOf 44 = .ok (.iload 5, 2) := by decide +kernel
theorem dX8_openOf_46 : decode cX8_openOf 46 = .ok (.iadd, 1) := by decide +kernel
theorem dX8_openOf_47 : decode cX8_openOf 47 = .ok (.laload, 1) := by decide +kernel
theorem dX8_openOf_48 : decode cX8_openOf 48 = .ok (.goto 8, 3) := by decide +kernel
theorem dX8_openOf_51 : decode cX8_openOf 51 = .ok (.lconst 1, 1) := by decide +kernel
theorem dX8_openOf_52 : decode cX8_openOf 52 = .ok (.goto 4, 3) := by decide +kernel
theorem dX8_openOf_55 : decode cX8_openOf 55 = .ok (.lconst 0, 1) := by decide +kernel
theorem dX8_openOf_56 : decode cX8_openOf 56 = .ok (.ladd, 1) := by decide +kernel
theorem dX8_openOf_57 : decode cX8_openOf 57 = .ok (.lstore_n 3, 1) := by decide +kernel
theorem dX8_openOf_58 : decode cX8_openOf 58 = .ok (.iinc 5 1, 3) := by decide +kernel
theorem dX8_openOf_61 : decode cX8_openOf 61 = .ok (.goto (-56), 3) := by decide +kernel
theorem dX8_openOf_64 : decode cX8_openOf 64 = .ok (.lload_n 3, 1) := by decide +kernel
theorem dX8_openOf_65 : decode cX8_openOf 65 = .ok (.lreturn, 1) := by decide +kernel
set_option maxRecDepth 20000 in
theorem ggX8_depthOf_X8_parentOf : GoodIn wsX8_depthOf wsX8_parentOf := goodIn_r _ [5, 6, 7, 8, 9, 10, 11, 12, 13, 14, 15, 16, 17, 18, 19, 20, 21, 22, 23, 24] (by decide +kernel) (by decide +kernel)
set_option maxRecDepth 20000 in
theorem gX8_depthOf_X8_parentOf : GoodIn wsX8_depthOf (wsV RX8 194 RX8 yX8_parentOf wsX8_parentOf) := goodIn_app (goodIn_of _ (by decide +kernel)) ggX8_depthOf_X8_parentOf
theorem dX8_depthOf_0 : decode cX8_depthOf 0 = .ok (.iconst 0, 1) := by decide +kernel
theorem dX8_depthOf_1 : decode cX8_depthOf 1 = .ok (.istore_n 2, 1) := by decide +kernel
theorem dX8_depthOf_2 : decode cX8_depthOf 2 = .ok (.aload_n 0, 1) := by decide +kernel
theorem dX8_depthOf_3 : decode cX8_depthOf 3 = .ok (.iload_n 1, 1) := by decide +kernel
theorem dX8_depthOf_4 : decode cX8_depthOf 4 = .ok (.invokevirtual 194, 3) := by decide +kernel
theorem dX8_depthOf_7 : decode cX8_depthOf 7 = .ok (.istore_n 3, 1) := by decide +kernel
theorem dX8_depthOf_8 : decode cX8_depthOf 8 = .ok (.iload_n 3, 1) := by decide +kernel
theorem dX8_depthOf_9 : decode cX8_depthOf 9 = .ok (.iconst (-1), 1) := by decide +kernel
theorem dX8_depthOf_10 : decode cX8_depthOf 10 = .ok (.if_icmp .eq 15, 3) := by decide +kernel
theorem dX8_depthOf_13 : decode cX8_depthOf 13 = .ok (.iinc 2 1, 3) := by decide +kernel
theorem dX8_depthOf_16 : decode cX8_depthOf 16 = .ok (.aload_n 0, 1) := by decide +kernel
theorem dX8_depthOf_17 : decode cX8_depthOf 17 = .ok (.iload_n 3, 1) := by decide +kernel
theorem dX8_depthOf_18 : decode cX8_depthOf 18 = .ok (.invokevirtual 194, 3) := by decide +kernel
theorem dX8_depthOf_21 : decode cX8_depthOf 21 = .ok (.istore_n 3, 1) := by decide +kernel
theorem dX8_depthOf_22 : decode cX8_depthOf 22 = .ok (.goto (-14), 3) := by decide +kernel
theorem dX8_depthOf_25 : decode cX8_depthOf 25 = .ok (.iload_n 2, 1) := by decide +kernel
theorem dX8_depthOf_26 : decode cX8_depthOf 26 = .ok (.ireturn, 1) := by decide +kernel
set_option maxRecDepth 20000 in
theorem ggX8_childrenOf_X8_parentOf : GoodIn wsX8_childrenOf wsX8_parentOf := goodIn_r _ [6, 1, 7, 8, 9, 10, 11, 12, 13, 14, 15, 16, 17, 18, 19, 20, 21, 22, 23, 24] (by decide +kernel) (by decide +kernel)
set_option maxRecDepth 20000 in
theorem gX8_childrenOf_X8_parentOf : GoodIn wsX8_childrenOf (wsV RX8 194 RX8 yX8_parentOf wsX8_parentOf) := goodIn_app (goodIn_of _ (by decide +kernel)) ggX8_childrenOf_X8_parentOf
theorem dX8_childrenOf_0 : decode cX8_childrenOf 0 = .ok (.iconst 0, 1) := by decide +kernel
theorem dX8_childrenOf_1 : decode cX8_childrenOf 1 = .ok (.istore_n 2, 1) := by decide +kernel
theorem dX8_childrenOf_2 : decode cX8_childrenOf 2 = .ok (.iconst 0, 1) := by decide +kernel
theorem dX8_childrenOf_3 : decode cX8_childrenOf 3 = .ok (.istore_n 3, 1) := by decide +kernel
theorem dX8_childrenOf_4 : decode cX8_childrenOf 4 = .ok (.iload_n 3, 1) := by decide +kernel
theorem dX8_childrenOf_5 : decode cX8_childrenOf 5 = .ok (.i2l, 1) := by decide +kernel
theorem dX8_childrenOf_6 : decode cX8_childrenOf 6 = .ok (.aload_n 0, 1) := by decide +kernel
theorem dX8_childrenOf_7 : decode cX8_childrenOf 7 = .ok (.getfield 7, 3) := by decide +kernel
theorem dX8_childrenOf_10 : decode cX8_childrenOf 10 = .ok (.iconst 2, 1) := by decide +kernel
theorem dX8_childrenOf_11 : decode cX8_childrenOf 11 = .ok (.laload, 1) := by decide +kernel
theorem dX8_childrenOf_12 : decode cX8_childrenOf 12 = .ok (.lcmp, 1) := by decide +kernel
theorem dX8_childrenOf_13 : decode cX8_childrenOf 13 = .ok (.ifCond .ge 26, 3) := by decide +kernel
theorem dX8_childrenOf_16 : decode cX8_childrenOf 16 = .ok (.iload_n 2, 1) := by decide +kernel
theorem dX8_childrenOf_17 : decode cX8_childrenOf 17 = .ok (.aload_n 0, 1) := by decide +kernel
theorem dX8_childrenOf_18 : decode cX8_childrenOf 18 = .ok (.iload_n 3, 1) := by decide +kernel
theorem dX8_childrenOf_19 : decode cX8_childrenOf 19 = .ok (.invokevirtual 194, 3) := by decide +kernel
theorem dX8_childrenOf_22 : decode cX8_childrenOf 22 = .ok (.iload_n 1, 1) := by decide +kernel
theorem dX8_childrenOf_23 : decode cX8_childrenOf 23 = .ok (.if_icmp .ne 7, 3) := by decide +kernel
theorem dX8_childrenOf_26 : decode cX8_childrenOf 26 = .ok (.iconst 1, 1) := by decide +kernel
theorem dX8_childrenOf_27 : decode cX8_childrenOf 27 = .ok (.goto 4, 3) := by decide +kernel
theorem dX8_childrenOf_30 : decode cX8_childrenOf 30 = .ok (.iconst 0, 1) := by decide +kernel
theorem dX8_childrenOf_31 : decode cX8_childrenOf 31 = .ok (.iadd, 1) := by decide +kernel
theorem dX8_childrenOf_32 : decode cX8_childrenOf 32 = .ok (.istore_n 2, 1) := by decide +kernel
theorem dX8_childrenOf_33 : decode cX8_childrenOf 33 = .ok (.iinc 3 1, 3) := by decide +kernel
theorem dX8_childrenOf_36 : decode cX8_childrenOf 36 = .ok (.goto (-32), 3) := by decide +kernel
theorem dX8_childrenOf_39 : decode cX8_childrenOf 39 = .ok (.iload_n 2, 1) := by decide +kernel
theorem dX8_childrenOf_40 : decode cX8_childrenOf 40 = .ok (.ireturn, 1) := by decide +kernel
set_option maxRecDepth 20000 in
theorem ggX8_filesIn_X8_folderOf : GoodIn wsX8_filesIn wsX8_folderOf := goodIn_r _ [6, 1, 7, 8, 9, 10, 11, 12, 13, 14, 15, 16, 17, 18, 19, 20, 21, 22, 23, 24] (by decide +kernel) (by decide +kernel)
set_option maxRecDepth 20000 in
theorem gX8_filesIn_X8_folderOf : GoodIn wsX8_filesIn (wsV RX8 197 RX8 yX8_folderOf wsX8_folderOf) := goodIn_app (goodIn_of _ (by decide +kernel)) ggX8_filesIn_X8_folderOf
theorem dX8_filesIn_0 : decode cX8_filesIn 0 = .ok (.iconst 0, 1) := by decide +kernel
theorem dX8_filesIn_1 : decode cX8_filesIn 1 = .ok (.istore_n 2, 1) := by decide +kernel
theorem dX8_filesIn_2 : decode cX8_filesIn 2 = .ok (.iconst 0, 1) := by decide +kernel
theorem dX8_filesIn_3 : decode cX8_filesIn 3 = .ok (.istore_n 3, 1) := by decide +kernel
theorem dX8_filesIn_4 : decode cX8_filesIn 4 = .ok (.iload_n 3, 1) := by decide +kernel
theorem dX8_filesIn_5 : decode cX8_filesIn 5 = .ok (.i2l, 1) := by decide +kernel
theorem dX8_filesIn_6 : decode cX8_filesIn 6 = .ok (.aload_n 0, 1) := by decide +kernel
theorem dX8_filesIn_7 : decode cX8_filesIn 7 = .ok (.getfield 7, 3) := by decide +kernel
theorem dX8_filesIn_10 : decode cX8_filesIn 10 = .ok (.iconst 3, 1) := by decide +kernel
theorem dX8_filesIn_11 : decode cX8_filesIn 11 = .ok (.laload, 1) := by decide +kernel
theorem dX8_filesIn_12 : decode cX8_filesIn 12 = .ok (.lcmp, 1) := by decide +kernel
theorem dX8_filesIn_13 : decode cX8_filesIn 13 = .ok (.ifCond .ge 26, 3) := by decide +kernel
theorem dX8_filesIn_16 : decode cX8_filesIn 16 = .ok (.iload_n 2, 1) := by decide +kernel
theorem dX8_filesIn_17 : decode cX8_filesIn 17 = .ok (.aload_n 0, 1) := by decide +kernel
theorem dX8_filesIn_18 : decode cX8_filesIn 18 = .ok (.iload_n 3, 1) := by decide +kernel
theorem dX8_filesIn_19 : decode cX8_filesIn 19 = .ok (.invokevirtual 197, 3) := by decide +kernel
theorem dX8_filesIn_22 : decode cX8_filesIn 22 = .ok (.iload_n 1, 1) := by decide +kernel
theorem dX8_filesIn_23 : decode cX8_filesIn 23 = .ok (.if_icmp .ne 7, 3) := by decide +kernel
theorem dX8_filesIn_26 : decode cX8_filesIn 26 = .ok (.iconst 1, 1) := by decide +kernel
theorem dX8_filesIn_27 : decode cX8_filesIn 27 = .ok (.goto 4, 3) := by decide +kernel
theorem dX8_filesIn_30 : decode cX8_filesIn 30 = .ok (.iconst 0, 1) := by decide +kernel
theorem dX8_filesIn_31 : decode cX8_filesIn 31 = .ok (.iadd, 1) := by decide +kernel
theorem dX8_filesIn_32 : decode cX8_filesIn 32 = .ok (.istore_n 2, 1) := by decide +kernel
theorem dX8_filesIn_33 : decode cX8_filesIn 33 = .ok (.iinc 3 1, 3) := by decide +kernel
theorem dX8_filesIn_36 : decode cX8_filesIn 36 = .ok (.goto (-32), 3) := by decide +kernel
theorem dX8_filesIn_39 : decode cX8_filesIn 39 = .ok (.iload_n 2, 1) := by decide +kernel
theorem dX8_filesIn_40 : decode cX8_filesIn 40 = .ok (.ireturn, 1) := by decide +kernel
set_option maxRecDepth 20000 in
theorem ggX8_foldersBelow_X8_isBelow : GoodIn wsX8_foldersBelow wsX8_isBelow := goodIn_r _ [6, 7, 8, 9, 5, 10, 1, 11, 12, 13, 14, 15, 16, 17, 18, 19, 20, 21, 22, 23, 24, 25, 26, 27, 28] (by decide +kernel) (by decide +kernel)
set_option maxRecDepth 20000 in
theorem gX8_foldersBelow_X8_isBelow : GoodIn wsX8_foldersBelow (wsV RX8 204 RX8 yX8_isBelow wsX8_isBelow) := goodIn_app (goodIn_of _ (by decide +kernel)) ggX8_foldersBelow_X8_isBelow
theorem dX8_foldersBelow_0 : decode cX8_foldersBelow 0 = .ok (.iconst 0, 1) := by decide +kernel
theorem dX8_foldersBelow_1 : decode cX8_foldersBelow 1 = .ok (.istore_n 2, 1) := by decide +kernel
theorem dX8_foldersBelow_2 : decode cX8_foldersBelow 2 = .ok (.iconst 0, 1) := by decide +kernel
theorem dX8_foldersBelow_3 : decode cX8_foldersBelow 3 = .ok (.istore_n 3, 1) := by decide +kernel
theorem dX8_foldersBelow_4 : decode cX8_foldersBelow 4 = .ok (.iload_n 3, 1) := by decide +kernel
theorem dX8_foldersBelow_5 : decode cX8_foldersBelow 5 = .ok (.i2l, 1) := by decide +kernel
theorem dX8_foldersBelow_6 : decode cX8_foldersBelow 6 = .ok (.aload_n 0, 1) := by decide +kernel
theorem dX8_foldersBelow_7 : decode cX8_foldersBelow 7 = .ok (.getfield 7, 3) := by decide +kernel
theorem dX8_foldersBelow_10 : decode cX8_foldersBelow 10 = .ok (.iconst 2, 1) := by decide +kernel
theorem dX8_foldersBelow_11 : decode cX8_foldersBelow 11 = .ok (.laload, 1) := by decide +kernel
theorem dX8_foldersBelow_12 : decode cX8_foldersBelow 12 = .ok (.lcmp, 1) := by decide +kernel
theorem dX8_foldersBelow_13 : decode cX8_foldersBelow 13 = .ok (.ifCond .ge 26, 3) := by decide +kernel
theorem dX8_foldersBelow_16 : decode cX8_foldersBelow 16 = .ok (.iload_n 2, 1) := by decide +kernel
theorem dX8_foldersBelow_17 : decode cX8_foldersBelow 17 = .ok (.aload_n 0, 1) := by decide +kernel
theorem dX8_foldersBelow_18 : decode cX8_foldersBelow 18 = .ok (.iload_n 3, 1) := by decide +kernel
theorem dX8_foldersBelow_19 : decode cX8_foldersBelow 19 = .ok (.iload_n 1, 1) := by decide +kernel
theorem dX8_foldersBelow_20 : decode cX8_foldersBelow 20 = .ok (.invokevirtual 204, 3) := by decide +kernel
theorem dX8_foldersBelow_23 : decode cX8_foldersBelow 23 = .ok (.ifCond .eq 7, 3) := by decide +kernel
theorem dX8_foldersBelow_26 : decode cX8_foldersBelow 26 = .ok (.iconst 1, 1) := by decide +kernel
theorem dX8_foldersBelow_27 : decode cX8_foldersBelow 27 = .ok (.goto 4, 3) := by decide +kernel
theorem dX8_foldersBelow_30 : decode cX8_foldersBelow 30 = .ok (.iconst 0, 1) := by decide +kernel
theorem dX8_foldersBelow_31 : decode cX8_foldersBelow 31 = .ok (.iadd, 1) := by decide +kernel
theorem dX8_foldersBelow_32 : decode cX8_foldersBelow 32 = .ok (.istore_n 2, 1) := by decide +kernel
theorem dX8_foldersBelow_33 : decode cX8_foldersBelow 33 = .ok (.iinc 3 1, 3) := by decide +kernel
theorem dX8_foldersBelow_36 : decode cX8_foldersBelow 36 = .ok (.goto (-32), 3) := by decide +kernel
theorem dX8_foldersBelow_39 : decode cX8_foldersBelow 39 = .ok (.iload_n 2, 1) := by decide +kernel
theorem dX8_foldersBelow_40 : decode cX8_foldersBelow 40 = .ok (.ireturn, 1) := by decide +kernel
set_option maxRecDepth 20000 in
theorem ggX8_filesBelow_X8_folderOf : GoodIn wsX8_filesBelow wsX8_folderOf := goodIn_r _ [6, 1, 15, 16, 17, 18, 19, 20, 21, 22, 23, 24, 25, 26, 27, 28, 29, 30, 31, 32] (by decide +kernel) (by decide +kernel)
set_option maxRecDepth 20000 in
theorem gX8_filesBelow_X8_folderOf : GoodIn wsX8_filesBelow (wsV RX8 197 RX8 yX8_folderOf wsX8_folderOf) := goodIn_app (goodIn_of _ (by decide +kernel)) ggX8_filesBelow_X8_folderOf
set_option maxRecDepth 20000 in
theorem ggX8_filesBelow_X8_isBelow : GoodIn wsX8_filesBelow wsX8_isBelow := goodIn_r _ [10, 11, 12, 13, 5, 14, 1, 15, 16, 17, 18, 19, 20, 21, 22, 23, 24, 25, 26, 27, 28, 29, 30, 31, 32] (by decide +kernel) (by decide +kernel)
set_option maxRecDepth 20000 in
theorem gX8_filesBelow_X8_isBelow : GoodIn wsX8_filesBelow (wsV RX8 204 RX8 yX8_isBelow wsX8_isBelow) := goodIn_app (goodIn_of _ (by decide +kernel)) ggX8_filesBelow_X8_isBelow
theorem dX8_filesBelow_0 : decode cX8_filesBelow 0 = .ok (.lconst 0, 1) := by decide +kernel
theorem dX8_filesBelow_1 : decode cX8_filesBelow 1 = .ok (.lstore_n 3, 1) := by decide +kernel
theorem dX8_filesBelow_2 : decode cX8_filesBelow 2 = .ok (.iconst 0, 1) := by decide +kernel
theorem dX8_filesBelow_3 : decode cX8_filesBelow 3 = .ok (.istore 5, 2) := by decide +kernel
theorem dX8_filesBelow_5 : decode cX8_filesBelow 5 = .ok (.iload 5, 2) := by decide +kernel
theorem dX8_filesBelow_7 : decode cX8_filesBelow 7 = .ok (.i2l, 1) := by decide +kernel
theorem dX8_filesBelow_8 : decode cX8_filesBelow 8 = .ok (.aload_n 0, 1) := by decide +kernel
theorem dX8_filesBelow_9 : decode cX8_filesBelow 9 = .ok (.getfield 7, 3) := by decide +kernel
theorem dX8_filesBelow_12 : decode cX8_filesBelow 12 = .ok (.iconst 3, 1) := by decide +kernel
theorem dX8_filesBelow_13 : decode cX8_filesBelow 13 = .ok (.laload, 1) := by decide +kernel
theorem dX8_filesBelow_14 : decode cX8_filesBelow 14 = .ok (.lcmp, 1) := by decide +kernel
theorem dX8_filesBelow_15 : decode cX8_filesBelow 15 = .ok (.ifCond .ge 49, 3) := by decide +kernel
theorem dX8_filesBelow_18 : decode cX8_filesBelow 18 = .ok (.lload_n 3, 1) := by decide +kernel
theorem dX8_filesBelow_19 : decode cX8_filesBelow 19 = .ok (.aload_n 0, 1) := by decide +kernel
theorem dX8_filesBelow_20 : decode cX8_filesBelow 20 = .ok (.aload_n 0, 1) := by decide +kernel
theorem dX8_filesBelow_21 : decode cX8_filesBelow 21 = .ok (.iload 5, 2) := by decide +kernel
theorem dX8_filesBelow_23 : decode cX8_filesBelow 23 = .ok (.invokevirtual 197, 3) := by decide +kernel
theorem dX8_filesBelow_26 : decode cX8_filesBelow 26 = .ok (.iload_n 1, 1) := by decide +kernel
theorem dX8_filesBelow_27 : decode cX8_filesBelow 27 = .ok (.invokevirtual 204, 3) := by decide +kernel
theorem dX8_filesBelow_30 : decode cX8_filesBelow 30 = .ok (.ifCond .eq 25, 3) := by decide +kernel
theorem dX8_filesBelow_33 : decode cX8_filesBelow 33 = .ok (.iload_n 2, 1) := by decide +kernel
theorem dX8_filesBelow_34 : decode cX8_filesBelow 34 = .ok (.ifCond .eq 17, 3) := by decide +kernel
theorem dX8_filesBelow_37 : decode cX8_filesBelow 37 = .ok (.aload_n 0, 1) := by decide +kernel
theorem dX8_filesBelow_38 : decode cX8_filesBelow 38 = .ok (.getfield 7, 3) := by decide +kernel
theorem dX8_filesBelow_41 : decode cX8_filesBelow 41 = .ok (.sipush 249, 3) := by decide +kernel
theorem dX8_filesBelow_44 : decode cX8_filesBelow 44 = .ok (.iload 5, 2) := by decide +kernel
theorem dX8_filesBelow_46 : decode cX8_filesBelow 46 = .ok (.iadd, 1) := by decide +kernel
theorem dX8_filesBelow_47 : decode cX8_filesBelow 47 = .ok (.laload, 1) := by decide +kernel
theorem dX8_filesBelow_48 : decode cX8_filesBelow 48 = .ok (.goto 8, 3) := by decide +kernel
theorem dX8_filesBelow_51 : decode cX8_filesBelow 51 = .ok (.lconst 1, 1) := by decide +kernel
theorem dX8_filesBelow_52 : decode cX8_filesBelow 52 = .ok (.goto 4, 3) := by decide +kernel
theorem dX8_filesBelow_55 : decode cX8_filesBelow 55 = .ok (.lconst 0, 1) := by decide +kernel
theorem dX8_filesBelow_56 : decode cX8_filesBelow 56 = .ok (.ladd, 1) := by decide +kernel
theorem dX8_filesBelow_57 : decode cX8_filesBelow 57 = .ok (.lstore_n 3, 1) := by decide +kernel
theorem dX8_filesBelow_58 : decode cX8_filesBelow 58 = .ok (.iinc 5 1, 3) := by decide +kernel
theorem dX8_filesBelow_61 : decode cX8_filesBelow 61 = .ok (.goto (-56), 3) := by decide +kernel
theorem dX8_filesBelow_64 : decode cX8_filesBelow 64 = .ok (.lload_n 3, 1) := by decide +kernel
theorem dX8_filesBelow_65 : decode cX8_filesBelow 65 = .ok (.lreturn, 1) := by decide +kernel
set_option maxRecDepth 20000 in
theorem ggX8_taggedNow_X8_tagOf : GoodIn wsX8_taggedNow wsX8_tagOf := goodIn_r _ [6, 1, 7, 8, 9, 10, 11, 12, 13, 14, 15, 16, 17, 18, 19, 20, 21, 22, 23, 24] (by decide +kernel) (by decide +kernel)
set_option maxRecDepth 20000 in
theorem gX8_taggedNow_X8_tagOf : GoodIn wsX8_taggedNow (wsV RX8 191 RX8 yX8_tagOf wsX8_tagOf) := goodIn_app (goodIn_of _ (by decide +kernel)) ggX8_taggedNow_X8_tagOf
theorem dX8_taggedNow_0 : decode cX8_taggedNow 0 = .ok (.iconst 0, 1) := by decide +kernel
theorem dX8_taggedNow_1 : decode cX8_taggedNow 1 = .ok (.istore_n 1, 1) := by decide +kernel
theorem dX8_taggedNow_2 : decode cX8_taggedNow 2 = .ok (.iconst 0, 1) := by decide +kernel
theorem dX8_taggedNow_3 : decode cX8_taggedNow 3 = .ok (.istore_n 2, 1) := by decide +kernel
theorem dX8_taggedNow_4 : decode cX8_taggedNow 4 = .ok (.iload_n 2, 1) := by decide +kernel
theorem dX8_taggedNow_5 : decode cX8_taggedNow 5 = .ok (.i2l, 1) := by decide +kernel
theorem dX8_taggedNow_6 : decode cX8_taggedNow 6 = .ok (.aload_n 0, 1) := by decide +kernel
theorem dX8_taggedNow_7 : decode cX8_taggedNow 7 = .ok (.getfield 7, 3) := by decide +kernel
theorem dX8_taggedNow_10 : decode cX8_taggedNow 10 = .ok (.iconst 2, 1) := by decide +kernel
theorem dX8_taggedNow_11 : decode cX8_taggedNow 11 = .ok (.laload, 1) := by decide +kernel
theorem dX8_taggedNow_12 : decode cX8_taggedNow 12 = .ok (.lcmp, 1) := by decide +kernel
theorem dX8_taggedNow_13 : decode cX8_taggedNow 13 = .ok (.ifCond .ge 26, 3) := by decide +kernel
theorem dX8_taggedNow_16 : decode cX8_taggedNow 16 = .ok (.iload_n 1, 1) := by decide +kernel
theorem dX8_taggedNow_17 : decode cX8_taggedNow 17 = .ok (.aload_n 0, 1) := by decide +kernel
theorem dX8_taggedNow_18 : decode cX8_taggedNow 18 = .ok (.iload_n 2, 1) := by decide +kernel
theorem dX8_taggedNow_19 : decode cX8_taggedNow 19 = .ok (.invokevirtual 191, 3) := by decide +kernel
theorem dX8_taggedNow_22 : decode cX8_taggedNow 22 = .ok (.iconst (-1), 1) := by decide +kernel
theorem dX8_taggedNow_23 : decode cX8_taggedNow 23 = .ok (.if_icmp .ne 7, 3) := by decide +kernel
theorem dX8_taggedNow_26 : decode cX8_taggedNow 26 = .ok (.iconst 0, 1) := by decide +kernel
theorem dX8_taggedNow_27 : decode cX8_taggedNow 27 = .ok (.goto 4, 3) := by decide +kernel
theorem dX8_taggedNow_30 : decode cX8_taggedNow 30 = .ok (.iconst 1, 1) := by decide +kernel
theorem dX8_taggedNow_31 : decode cX8_taggedNow 31 = .ok (.iadd, 1) := by decide +kernel
theorem dX8_taggedNow_32 : decode cX8_taggedNow 32 = .ok (.istore_n 1, 1) := by decide +kernel
theorem dX8_taggedNow_33 : decode cX8_taggedNow 33 = .ok (.iinc 2 1, 3) := by decide +kernel
theorem dX8_taggedNow_36 : decode cX8_taggedNow 36 = .ok (.goto (-32), 3) := by decide +kernel
theorem dX8_taggedNow_39 : decode cX8_taggedNow 39 = .ok (.iload_n 1, 1) := by decide +kernel
theorem dX8_taggedNow_40 : decode cX8_taggedNow 40 = .ok (.ireturn, 1) := by decide +kernel
set_option maxRecDepth 20000 in
theorem ggX8_withoutProject_X8_folderOf : GoodIn wsX8_withoutProject wsX8_folderOf := goodIn_r _ [6, 1, 19, 20, 21, 22, 23, 24, 25, 26, 27, 28, 29, 30, 31, 32, 33, 34, 35, 36] (by decide +kernel) (by decide +kernel)
set_option maxRecDepth 20000 in
theorem gX8_withoutProject_X8_folderOf : GoodIn wsX8_withoutProject (wsV RX8 197 RX8 yX8_folderOf wsX8_folderOf) := goodIn_app (goodIn_of _ (by decide +kernel)) ggX8_withoutProject_X8_folderOf
set_option maxRecDepth 20000 in
theorem ggX8_withoutProject_X8_projectOf : GoodIn wsX8_withoutProject wsX8_projectOf := goodIn_r _ [10, 11, 12, 13, 5, 14, 1, 15, 16, 17, 18, 19, 20, 21, 22, 23, 24, 25, 26, 27, 28, 29, 30, 31, 32, 33, 34, 35, 36] (by decide +kernel) (by decide +kernel)
set_option maxRecDepth 20000 in
theorem gX8_withoutProject_X8_projectOf : GoodIn wsX8_withoutProject (wsV RX8 207 RX8 yX8_projectOf wsX8_projectOf) := goodIn_app (goodIn_of _ (by decide +kernel)) ggX8_withoutProject_X8_projectOf
theorem dX8_withoutProject_0 : decode cX8_withoutProject 0 = .ok (.iconst 0, 1) := by decide +kernel
theorem dX8_withoutProject_1 : decode cX8_withoutProject 1 = .ok (.istore_n 1, 1) := by decide +kernel
theorem dX8_withoutProject_2 : decode cX8_withoutProject 2 = .ok (.iconst 0, 1) := by decide +kernel
theorem dX8_withoutProject_3 : decode cX8_withoutProject 3 = .ok (.istore_n 2, 1) := by decide +kernel
theorem dX8_withoutProject_4 : decode cX8_withoutProject 4 = .ok (.iload_n 2, 1) := by decide +kernel
theorem dX8_withoutProject_5 : decode cX8_withoutProject 5 = .ok (.i2l, 1) := by decide +kernel
theorem dX8_withoutProject_6 : decode cX8_withoutProject 6 = .ok (.aload_n 0, 1) := by decide +kernel
theorem dX8_withoutProject_7 : decode cX8_withoutProject 7 = .ok (.getfield 7, 3) := by decide +kernel
theorem dX8_withoutProject_10 : decode cX8_withoutProject 10 = .ok (.iconst 3, 1) := by decide +kernel
theorem dX8_withoutProject_11 : decode cX8_withoutProject 11 = .ok (.laload, 1) := by decide +kernel
theorem dX8_withoutProject_12 : decode cX8_withoutProject 12 = .ok (.lcmp, 1) := by decide +kernel
theorem dX8_withoutProject_13 : decode cX8_withoutProject 13 = .ok (.ifCond .ge 30, 3) := by decide +kernel
theorem dX8_withoutProject_16 : decode cX8_withoutProject 16 = .ok (.iload_n 1, 1) := by decide +kernel
theorem dX8_withoutProject_17 : decode cX8_withoutProject 17 = .ok (.aload_n 0, 1) := by decide +kernel
theorem dX8_withoutProject_18 : decode cX8_withoutProject 18 = .ok (.aload_n 0, 1) := by decide +kernel
theorem dX8_withoutProject_19 : decode cX8_withoutProject 19 = .ok (.iload_n 2, 1) := by decide +kernel
theorem dX8_withoutProject_20 : decode cX8_withoutProject 20 = .ok (.invokevirtual 197, 3) := by decide +kernel
theorem dX8_withoutProject_23 : decode cX8_withoutProject 23 = .ok (.invokevirtual 207, 3) := by decide +kernel
theorem dX8_withoutProject_26 : decode cX8_withoutProject 26 = .ok (.iconst (-1), 1) := by decide +kernel
theorem dX8_withoutProject_27 : decode cX8_withoutProject 27 = .ok (.if_icmp .ne 7, 3) := by decide +kernel
theorem dX8_withoutProject_30 : decode cX8_withoutProject 30 = .ok (.iconst 1, 1) := by decide +kernel
theorem dX8_withoutProject_31 : decode cX8_withoutProject 31 = .ok (.goto 4, 3) := by decide +kernel
theorem dX8_withoutProject_34 : decode cX8_withoutProject 34 = .ok (.iconst 0, 1) := by decide +kernel
theorem dX8_withoutProject_35 : decode cX8_withoutProject 35 = .ok (.iadd, 1) := by decide +kernel
theorem dX8_withoutProject_36 : decode cX8_withoutProject 36 = .ok (.istore_n 1, 1) := by decide +kernel
theorem dX8_withoutProject_37 : decode cX8_withoutProject 37 = .ok (.iinc 2 1, 3) := by decide +kernel
theorem dX8_withoutProject_40 : decode cX8_withoutProject 40 = .ok (.goto (-36), 3) := by decide +kernel
theorem dX8_withoutProject_43 : decode cX8_withoutProject 43 = .ok (.iload_n 1, 1) := by decide +kernel
theorem dX8_withoutProject_44 : decode cX8_withoutProject 44 = .ok (.ireturn, 1) := by decide +kernel
set_option maxRecDepth 20000 in
theorem ggX8_count_X8_isIn : GoodIn wsX8_count wsX8_isIn := goodIn_r _ [7] (by decide +kernel) (by decide +kernel)
set_option maxRecDepth 20000 in
theorem gX8_count_X8_isIn : GoodIn wsX8_count (va_wsS RX8 59 yX8_isIn wsX8_isIn) := goodIn_app (goodIn_of _ (by decide +kernel)) ggX8_count_X8_isIn
set_option maxRecDepth 20000 in
theorem ggX8_count_X8_filesBelow : GoodIn wsX8_count wsX8_filesBelow := goodIn_r _ [11, 3, 12, 13, 14, 6, 15, 16, 17, 18, 19, 20, 21, 22, 23, 40, 41, 42, 43, 44, 45, 46, 47, 48, 49, 50, 51, 52, 53, 54, 55, 56, 57] (by decide +kernel) (by decide +kernel)
set_option maxRecDepth 20000 in
theorem gX8_count_X8_filesBelow : GoodIn wsX8_count (wsV RX8 210 RX8 yX8_filesBelow wsX8_filesBelow) := goodIn_app (goodIn_of _ (by decide +kernel)) ggX8_count_X8_filesBelow
set_option maxRecDepth 20000 in
theorem ggX8_count_X8_taggedNow : GoodIn wsX8_count wsX8_taggedNow := goodIn_r _ [27, 3, 28, 29, 30, 6, 31, 40, 41, 42, 43, 44, 45, 46, 47, 48, 49, 50, 51, 52, 53, 54, 55, 56, 57] (by decide +kernel) (by decide +kernel)
set_option maxRecDepth 20000 in
theorem gX8_count_X8_taggedNow : GoodIn wsX8_count (wsV RX8 214 RX8 yX8_taggedNow wsX8_taggedNow) := goodIn_app (goodIn_of _ (by decide +kernel)) ggX8_count_X8_taggedNow
set_option maxRecDepth 20000 in
theorem ggX8_count_X8_withoutProject : GoodIn wsX8_count wsX8_withoutProject := goodIn_r _ [35, 3, 12, 13, 14, 6, 15, 36, 37, 38, 39, 28, 29, 30, 31, 20, 21, 22, 23, 40, 41, 42, 43, 44, 45, 46, 47, 48, 49, 50, 51, 52, 53, 54, 55, 56, 57] (by decide +kernel) (by decide +kernel)
set_option maxRecDepth 20000 in
theorem gX8_count_X8_withoutProject : GoodIn wsX8_count (wsV RX8 217 RX8 yX8_withoutProject wsX8_withoutProject) := goodIn_app (goodIn_of _ (by decide +kernel)) ggX8_count_X8_withoutProject
theorem dX8_count_0 : decode cX8_count 0 = .ok (.aload_n 0, 1) := by decide +kernel
theorem dX8_count_1 : decode cX8_count 1 = .ok (.iload_n 1, 1) := by decide +kernel
theorem dX8_count_2 : decode cX8_count 2 = .ok (.i2l, 1) := by decide +kernel
theorem dX8_count_3 : decode cX8_count 3 = .ok (.lconst 0, 1) := by decide +kernel
theorem dX8_count_4 : decode cX8_count 4 = .ok (.ldc2_w 189, 3) := by decide +kernel
theorem dX8_count_7 : decode cX8_count 7 = .ok (.invokestatic 59, 3) := by decide +kernel
theorem dX8_count_10 : decode cX8_count 10 = .ok (.ifCond .eq 7, 3) := by decide +kernel
theorem dX8_count_13 : decode cX8_count 13 = .ok (.iconst 0, 1) := by decide +kernel
theorem dX8_count_14 : decode cX8_count 14 = .ok (.goto 4, 3) := by decide +kernel
theorem dX8_count_17 : decode cX8_count 17 = .ok (.iconst 1, 1) := by decide +kernel
theorem dX8_count_18 : decode cX8_count 18 = .ok (.putfield 43, 3) := by decide +kernel
theorem dX8_count_21 : decode cX8_count 21 = .ok (.aload_n 0, 1) := by decide +kernel
theorem dX8_count_22 : decode cX8_count 22 = .ok (.getfield 43, 3) := by decide +kernel
theorem dX8_count_25 : decode cX8_count 25 = .ok (.ifCond .le 5, 3) := by decide +kernel
theorem dX8_count_28 : decode cX8_count 28 = .ok (.iconst 0, 1) := by decide +kernel
theorem dX8_count_29 : decode cX8_count 29 = .ok (.ireturn, 1) := by decide +kernel
theorem dX8_count_30 : decode cX8_count 30 = .ok (.iload_n 1, 1) := by decide +kernel
theorem dX8_count_31 : decode cX8_count 31 = .ok (.tableswitch 94 0 6 #[41, 49, 57, 65, 73, 81, 89], 41) := by decide +kernel
theorem dX8_count_72 : decode cX8_count 72 = .ok (.aload_n 0, 1) := by decide +kernel
theorem dX8_count_73 : decode cX8_count 73 = .ok (.getfield 7, 3) := by decide +kernel
theorem dX8_count_76 : decode cX8_count 76 = .ok (.iconst 2, 1) := by decide +kernel
theorem dX8_count_77 : decode cX8_count 77 = .ok (.laload, 1) := by decide +kernel
theorem dX8_count_78 : decode cX8_count 78 = .ok (.l2i, 1) := by decide +kernel
theorem dX8_count_79 : decode cX8_count 79 = .ok (.ireturn, 1) := by decide +kernel
theorem dX8_count_80 : decode cX8_count 80 = .ok (.aload_n 0, 1) := by decide +kernel
theorem dX8_count_81 : decode cX8_count 81 = .ok (.getfield 7, 3) := by decide +kernel
theorem dX8_count_84 : decode cX8_count 84 = .ok (.iconst 3, 1) := by decide +kernel
theorem dX8_count_85 : decode cX8_count 85 = .ok (.laload, 1) := by decide +kernel
theorem dX8_count_86 : decode cX8_count 86 = .ok (.l2i, 1) := by decide +kernel
theorem dX8_count_87 : decode cX8_count 87 = .ok (.ireturn, 1) := by decide +kernel
theorem dX8_count_88 : decode cX8_count 88 = .ok (.aload_n 0, 1) := by decide +kernel
theorem dX8_count_89 : decode cX8_count 89 = .ok (.iconst 0, 1) := by decide +kernel
theorem dX8_count_90 : decode cX8_count 90 = .ok (.iconst 1, 1) := by decide +kernel
theorem dX8_count_91 : decode cX8_count 91 = .ok (.invokevirtual 210, 3) := by decide +kernel
theorem dX8_count_94 : decode cX8_count 94 = .ok (.l2i, 1) := by decide +kernel
theorem dX8_count_95 : decode cX8_count 95 = .ok (.ireturn, 1) := by decide +kernel
theorem dX8_count_96 : decode cX8_count 96 = .ok (.aload_n 0, 1) := by decide +kernel
theorem dX8_count_97 : decode cX8_count 97 = .ok (.getfield 7, 3) := by decide +kernel
theorem dX8_count_100 : decode cX8_count 100 = .ok (.iconst 0, 1) := by decide +kernel
theorem dX8_count_101 : decode cX8_count 101 = .ok (.laload, 1) := by decide +kernel
theorem dX8_count_102 : decode cX8_count 102 = .ok (.l2i, 1) := by decide +kernel
theorem dX8_count_103 : decode cX8_count 103 = .ok (.ireturn, 1) := by decide +kernel
theorem dX8_count_104 : decode cX8_count 104 = .ok (.aload_n 0, 1) := by decide +kernel
theorem dX8_count_105 : decode cX8_count 105 = .ok (.getfield 7, 3) := by decide +kernel
theorem dX8_count_108 : decode cX8_count 108 = .ok (.iconst 1, 1) := by decide +kernel
theorem dX8_count_109 : decode cX8_count 109 = .ok (.laload, 1) := by decide +kernel
theorem dX8_count_110 : decode cX8_count 110 = .ok (.l2i, 1) := by decide +kernel
theorem dX8_count_111 : decode cX8_count 111 = .ok (.ireturn, 1) := by decide +kernel
theorem dX8_count_112 : decode cX8_count 112 = .ok (.aload_n 0, 1) := by decide +kernel
theorem dX8_count_113 : decode cX8_count 113 = .ok (.getfield 7, 3) := by decide +kernel
theorem dX8_count_116 : decode cX8_count 116 = .ok (.iconst 4, 1) := by decide +kernel
theorem dX8_count_117 : decode cX8_count 117 = .ok (.laload, 1) := by decide +kernel
theorem dX8_count_118 : decode cX8_count 118 = .ok (.l2i, 1) := by decide +kernel
theorem dX8_count_119 : decode cX8_count 119 = .ok (.ireturn, 1) := by decide +kernel
theorem dX8_count_120 : decode cX8_count 120 = .ok (.aload_n 0, 1) := by decide +kernel
theorem dX8_count_121 : decode cX8_count 121 = .ok (.invokevirtual 214, 3) := by decide +kernel
theorem dX8_count_124 : decode cX8_count 124 = .ok (.ireturn, 1) := by decide +kernel
theorem dX8_count_125 : decode cX8_count 125 = .ok (.aload_n 0, 1) := by decide +kernel
theorem dX8_count_126 : decode cX8_count 126 = .ok (.invokevirtual 217, 3) := by decide +kernel
theorem dX8_count_129 : decode cX8_count 129 = .ok (.ireturn, 1) := by decide +kernel
set_option maxRecDepth 20000 in
theorem ggX8_find_X8_named : GoodIn wsX8_find wsX8_named := goodIn_r _ [6] (by decide +kernel) (by decide +kernel)
set_option maxRecDepth 20000 in
theorem gX8_find_X8_named : GoodIn wsX8_find (va_wsS RX8 118 yX8_named wsX8_named) := goodIn_app (goodIn_of _ (by decide +kernel)) ggX8_find_X8_named
theorem dX8_find_0 : decode cX8_find 0 = .ok (.aload_n 0, 1) := by decide +kernel
theorem dX8_find_1 : decode cX8_find 1 = .ok (.iconst 0, 1) := by decide +kernel
theorem dX8_find_2 : decode cX8_find 2 = .ok (.putfield 43, 3) := by decide +kernel
theorem dX8_find_5 : decode cX8_find 5 = .ok (.aload_n 0, 1) := by decide +kernel
theorem dX8_find_6 : decode cX8_find 6 = .ok (.getfield 7, 3) := by decide +kernel
theorem dX8_find_9 : decode cX8_find 9 = .ok (.lload_n 1, 1) := by decide +kernel
theorem dX8_find_10 : decode cX8_find 10 = .ok (.invokestatic 118, 3) := by decide +kernel
theorem dX8_find_13 : decode cX8_find 13 = .ok (.ireturn, 1) := by decide +kernel
set_option maxRecDepth 20000 in
theorem ggX8_folder_X8_isFolder : GoodIn wsX8_folder wsX8_isFolder := goodIn_r _ [7, 8, 9, 10, 6, 11, 60, 61, 62, 63, 64, 65, 66, 67, 68, 69, 70, 71, 72, 73, 74, 75, 76, 77] (by decide +kernel) (by decide +kernel)
set_option maxRecDepth 20000 in
theorem gX8_folder_X8_isFolder : GoodIn wsX8_folder (wsV RX8 220 RX8 yX8_isFolder wsX8_isFolder) := goodIn_app (goodIn_of _ (by decide +kernel)) ggX8_folder_X8_isFolder
set_option maxRecDepth 20000 in
theorem ggX8_folder_X8_isIn : GoodIn wsX8_folder wsX8_isIn := goodIn_r _ [11] (by decide +kernel) (by decide +kernel)
set_option maxRecDepth 20000 in
theorem gX8_folder_X8_isIn : GoodIn wsX8_folder (va_wsS RX8 59 yX8_isIn wsX8_isIn) := goodIn_app (goodIn_of _ (by decide +kernel)) ggX8_folder_X8_isIn
set_option maxRecDepth 20000 in
theorem ggX8_folder_X8_parentOf : GoodIn wsX8_folder wsX8_parentOf := goodIn_r _ [15, 8, 60, 61, 62, 63, 64, 65, 66, 67, 68, 69, 70, 71, 72, 73, 74, 75, 76, 77] (by decide +kernel) (by decide +kernel)
set_option maxRecDepth 20000 in
theorem gX8_folder_X8_parentOf : GoodIn wsX8_folder (wsV RX8 194 RX8 yX8_parentOf wsX8_parentOf) := goodIn_app (goodIn_of _ (by decide +kernel)) ggX8_folder_X8_parentOf
set_option maxRecDepth 20000 in
theorem ggX8_folder_X8_tagOf : GoodIn wsX8_folder wsX8_tagOf := goodIn_r _ [19, 8, 60, 61, 62, 63, 64, 65, 66, 67, 68, 69, 70, 71, 72, 73, 74, 75, 76, 77] (by decide +kernel) (by decide +kernel)
set_option maxRecDepth 20000 in
theorem gX8_folder_X8_tagOf : GoodIn wsX8_folder (wsV RX8 191 RX8 yX8_tagOf wsX8_tagOf) := goodIn_app (goodIn_of _ (by decide +kernel)) ggX8_folder_X8_tagOf
set_option maxRecDepth 20000 in
theorem ggX8_folder_X8_projectOf : GoodIn wsX8_folder wsX8_projectOf := goodIn_r _ [23, 16, 17, 18, 6, 19, 8, 12, 13, 14, 15, 60, 61, 62, 63, 64, 65, 66, 67, 68, 69, 70, 71, 72, 73, 74, 75, 76, 77] (by decide +kernel) (by decide +kernel)
set_option maxRecDepth 20000 in
theorem gX8_folder_X8_projectOf : GoodIn wsX8_folder (wsV RX8 207 RX8 yX8_projectOf wsX8_projectOf) := goodIn_app (goodIn_of _ (by decide +kernel)) ggX8_folder_X8_projectOf
set_option maxRecDepth 20000 in
theorem ggX8_folder_X8_childrenOf : GoodIn wsX8_folder wsX8_childrenOf := goodIn_r _ [27, 8, 12, 13, 14, 6, 15, 60, 61, 62, 63, 64, 65, 66, 67, 68, 69, 70, 71, 72, 73, 74, 75, 76, 77] (by decide +kernel) (by decide +kernel)
set_option maxRecDepth 20000 in
theorem gX8_folder_X8_childrenOf : GoodIn wsX8_folder (wsV RX8 225 RX8 yX8_childrenOf wsX8_childrenOf) := goodIn_app (goodIn_of _ (by decide +kernel)) ggX8_folder_X8_childrenOf
set_option maxRecDepth 20000 in
theorem ggX8_folder_X8_filesIn : GoodIn wsX8_folder wsX8_filesIn := goodIn_r _ [31, 8, 32, 33, 34, 6, 35, 60, 61, 62, 63, 64, 65, 66, 67, 68, 69, 70, 71, 72, 73, 74, 75, 76, 77] (by decide +kernel) (by decide +kernel)
set_option maxRecDepth 20000 in
theorem gX8_folder_X8_filesIn : GoodIn wsX8_folder (wsV RX8 228 RX8 yX8_filesIn wsX8_filesIn) := goodIn_app (goodIn_of _ (by decide +kernel)) ggX8_folder_X8_filesIn
set_option maxRecDepth 20000 in
theorem ggX8_folder_X8_depthOf : GoodIn wsX8_folder wsX8_depthOf := goodIn_r _ [39, 12, 13, 14, 6, 15, 8, 60, 61, 62, 63, 64, 65, 66, 67, 68, 69, 70, 71, 72, 73, 74, 75, 76, 77] (by decide +kernel) (by decide +kernel)
set_option maxRecDepth 20000 in
theorem gX8_folder_X8_depthOf : GoodIn wsX8_folder (wsV RX8 231 RX8 yX8_depthOf wsX8_depthOf) := goodIn_app (goodIn_of _ (by decide +kernel)) ggX8_folder_X8_depthOf
set_option maxRecDepth 20000 in
theorem ggX8_folder_X8_foldersBelow : GoodIn wsX8_folder wsX8_foldersBelow := goodIn_r _ [43, 8, 44, 45, 46, 6, 47, 12, 13, 14, 15, 60, 61, 62, 63, 64, 65, 66, 67, 68, 69, 70, 71, 72, 73, 74, 75, 76, 77] (by decide +kernel) (by decide +kernel)
set_option maxRecDepth 20000 in
theorem gX8_folder_X8_foldersBelow : GoodIn wsX8_folder (wsV RX8 234 RX8 yX8_foldersBelow wsX8_foldersBelow) := goodIn_app (goodIn_of _ (by decide +kernel)) ggX8_folder_X8_foldersBelow
set_option maxRecDepth 20000 in
theorem ggX8_folder_X8_filesBelow : GoodIn wsX8_folder wsX8_filesBelow := goodIn_r _ [51, 8, 32, 33, 34, 6, 35, 44, 45, 46, 47, 12, 13, 14, 15, 60, 61, 62, 63, 64, 65, 66, 67, 68, 69, 70, 71, 72, 73, 74, 75, 76, 77] (by decide +kernel) (by decide +kernel)
set_option maxRecDepth 20000 in
theorem gX8_folder_X8_filesBelow : GoodIn wsX8_folder (wsV RX8 210 RX8 yX8_filesBelow wsX8_filesBelow) := goodIn_app (goodIn_of _ (by decide +kernel)) ggX8_folder_X8_filesBelow
set_option maxRecDepth 20000 in
theorem ggX8_folder_X8_openOf : GoodIn wsX8_folder wsX8_openOf := goodIn_r _ [55, 8, 32, 33, 34, 6, 35, 56, 57, 58, 59, 16, 17, 18, 19, 12, 13, 14, 15, 60, 61, 62, 63, 64, 65, 66, 67, 68, 69, 70, 71, 72, 73, 74, 75, 76, 77] (by decide +kernel) (by decide +kernel)
set_option maxRecDepth 20000 in
theorem gX8_folder_X8_openOf : GoodIn wsX8_folder (wsV RX8 237 RX8 yX8_openOf wsX8_openOf) := goodIn_app (goodIn_of _ (by decide +kernel)) ggX8_folder_X8_openOf
theorem dX8_folder_0 : decode cX8_folder 0 = .ok (.aload_n 0, 1) := by decide +kernel
theorem dX8_folder_1 : decode cX8_folder 1 = .ok (.aload_n 0, 1) := by decide +kernel
theorem dX8_folder_2 : decode cX8_folder 2 = .ok (.iload_n 1, 1) := by decide +kernel
theorem dX8_folder_3 : decode cX8_folder 3 = .ok (.invokevirtual 220, 3) := by decide +kernel
theorem dX8_folder_6 : decode cX8_folder 6 = .ok (.ifCond .ne 7, 3) := by decide +kernel
theorem dX8_folder_9 : decode cX8_folder 9 = .ok (.iconst 1, 1) := by decide +kernel
theorem dX8_folder_10 : decode cX8_folder 10 = .ok (.goto 20, 3) := by decide +kernel
theorem dX8_folder_13 : decode cX8_folder 13 = .ok (.iload_n 2, 1) := by decide +kernel
theorem dX8_folder_14 : decode cX8_folder 14 = .ok (.i2l, 1) := by decide +kernel
theorem dX8_folder_15 : decode cX8_folder 15 = .ok (.lconst 0, 1) := by decide +kernel
theorem dX8_folder_16 : decode cX8_folder 16 = .ok (.ldc2_w 223, 3) := by decide +kernel
theorem dX8_folder_19 : decode cX8_folder 19 = .ok (.invokestatic 59, 3) := by decide +kernel
theorem dX8_folder_22 : decode cX8_folder 22 = .ok (.ifCond .eq 7, 3) := by decide +kernel
theorem dX8_folder_25 : decode cX8_folder 25 = .ok (.iconst 0, 1) := by decide +kernel
theorem dX8_folder_26 : decode cX8_folder 26 = .ok (.goto 4, 3) := by decide +kernel
theorem dX8_folder_29 : decode cX8_folder 29 = .ok (.iconst 2, 1) := by decide +kernel
theorem dX8_folder_30 : decode cX8_folder 30 = .ok (.putfield 43, 3) := by decide +kernel
theorem dX8_folder_33 : decode cX8_folder 33 = .ok (.aload_n 0, 1) := by decide +kernel
theorem dX8_folder_34 : decode cX8_folder 34 = .ok (.getfield 43, 3) := by decide +kernel
theorem dX8_folder_37 : decode cX8_folder 37 = .ok (.ifCond .le 5, 3) := by decide +kernel
theorem dX8_folder_40 : decode cX8_folder 40 = .ok (.iconst 0, 1) := by decide +kernel
theorem dX8_folder_41 : decode cX8_folder 41 = .ok (.ireturn, 1) := by decide +kernel
theorem dX8_folder_42 : decode cX8_folder 42 = .ok (.iload_n 2, 1) := by decide +kernel
theorem dX8_folder_43 : decode cX8_folder 43 = .ok (.tableswitch 107 0 8 #[49, 55, 61, 67, 73, 79, 85, 91, 99], 49) := by decide +kernel
theorem dX8_folder_92 : decode cX8_folder 92 = .ok (.aload_n 0, 1) := by decide +kernel
theorem dX8_folder_93 : decode cX8_folder 93 = .ok (.iload_n 1, 1) := by decide +kernel
theorem dX8_folder_94 : decode cX8_folder 94 = .ok (.invokevirtual 194, 3) := by decide +kernel
theorem dX8_folder_97 : decode cX8_folder 97 = .ok (.ireturn, 1) := by decide +kernel
theorem dX8_folder_98 : decode cX8_folder 98 = .ok (.aload_n 0, 1) := by decide +kernel
theorem dX8_folder_99 : decode cX8_folder 99 = .ok (.iload_n 1, 1) := by decide +kernel
theorem dX8_folder_100 : decode cX8_folder 100 = .ok (.invokevirtual 191, 3) := by decide +kernel
theorem dX8_folder_103 : decode cX8_folder 103 = .ok (.ireturn, 1) := by decide +kernel
theorem dX8_folder_104 : decode cX8_folder 104 = .ok (.aload_n 0, 1) := by decide +kernel
theorem dX8_folder_105 : decode cX8_folder 105 = .ok (.iload_n 1, 1) := by decide +kernel
theorem dX8_folder_106 : decode cX8_folder 106 = .ok (.invokevirtual 207, 3) := by decide +kernel
theorem dX8_folder_109 : decode cX8_folder 109 = .ok (.ireturn, 1) := by decide +kernel
theorem dX8_folder_110 : decode cX8_folder 110 = .ok (.aload_n 0, 1) := by decide +kernel
theorem dX8_folder_111 : decode cX8_folder 111 = .ok (.iload_n 1, 1) := by decide +kernel
theorem dX8_folder_112 : decode cX8_folder 112 = .ok (.invokevirtual 225, 3) := by decide +kernel
theorem dX8_folder_115 : decode cX8_folder 115 = .ok (.ireturn, 1) := by decide +kernel
theorem dX8_folder_116 : decode cX8_folder 116 = .ok (.aload_n 0, 1) := by decide +kernel
theorem dX8_folder_117 : decode cX8_folder 117 = .ok (.iload_n 1, 1) := by decide +kernel
theorem dX8_folder_118 : decode cX8_folder 118 = .ok (.invokevirtual 228, 3) := by decide +kernel
theorem dX8_folder_121 : decode cX8_folder 121 = .ok (.ireturn, 1) := by decide +kernel
theorem dX8_folder_122 : decode cX8_folder 122 = .ok (.aload_n 0, 1) := by decide +kernel
theorem dX8_folder_123 : decode cX8_folder 123 = .ok (.iload_n 1, 1) := by decide +kernel
theorem dX8_folder_124 : decode cX8_folder 124 = .ok (.invokevirtual 231, 3) := by decide +kernel
theorem dX8_folder_127 : decode cX8_folder 127 = .ok (.ireturn, 1) := by decide +kernel
theorem dX8_folder_128 : decode cX8_folder 128 = .ok (.aload_n 0, 1) := by decide +kernel
theorem dX8_folder_129 : decode cX8_folder 129 = .ok (.iload_n 1, 1) := by decide +kernel
theorem dX8_folder_130 : decode cX8_folder 130 = .ok (.invokevirtual 234, 3) := by decide +kernel
theorem dX8_folder_133 : decode cX8_folder 133 = .ok (.ireturn, 1) := by decide +kernel
theorem dX8_folder_134 : decode cX8_folder 134 = .ok (.aload_n 0, 1) := by decide +kernel
theorem dX8_folder_135 : decode cX8_folder 135 = .ok (.iload_n 1, 1) := by decide +kernel
theorem dX8_folder_136 : decode cX8_folder 136 = .ok (.iconst 0, 1) := by decide +kernel
theorem dX8_folder_137 : decode cX8_folder 137 = .ok (.invokevirtual 210, 3) := by decide +kernel
theorem dX8_folder_140 : decode cX8_folder 140 = .ok (.l2i, 1) := by decide +kernel
theorem dX8_folder_141 : decode cX8_folder 141 = .ok (.ireturn, 1) := by decide +kernel
theorem dX8_folder_142 : decode cX8_folder 142 = .ok (.aload_n 0, 1) := by decide +kernel
theorem dX8_folder_143 : decode cX8_folder 143 = .ok (.iload_n 1, 1) := by decide +kernel
theorem dX8_folder_144 : decode cX8_folder 144 = .ok (.iconst 1, 1) := by decide +kernel
theorem dX8_folder_145 : decode cX8_folder 145 = .ok (.invokevirtual 210, 3) := by decide +kernel
theorem dX8_folder_148 : decode cX8_folder 148 = .ok (.l2i, 1) := by decide +kernel
theorem dX8_folder_149 : decode cX8_folder 149 = .ok (.ireturn, 1) := by decide +kernel
theorem dX8_folder_150 : decode cX8_folder 150 = .ok (.aload_n 0, 1) := by decide +kernel
theorem dX8_folder_151 : decode cX8_folder 151 = .ok (.iload_n 1, 1) := by decide +kernel
theorem dX8_folder_152 : decode cX8_folder 152 = .ok (.iconst 0, 1) := by decide +kernel
theorem dX8_folder_153 : decode cX8_folder 153 = .ok (.invokevirtual 237, 3) := by decide +kernel
theorem dX8_folder_156 : decode cX8_folder 156 = .ok (.l2i, 1) := by decide +kernel
theorem dX8_folder_157 : decode cX8_folder 157 = .ok (.ireturn, 1) := by decide +kernel
set_option maxRecDepth 20000 in
theorem ggX8_childBehind_X8_parentOf : GoodIn wsX8_childBehind wsX8_parentOf := goodIn_r _ [6, 1, 7, 8, 9, 10, 11, 12, 13, 14, 15, 16, 17, 18, 19, 20, 21, 22, 23, 24] (by decide +kernel) (by decide +kernel)
set_option maxRecDepth 20000 in
theorem gX8_childBehind_X8_parentOf : GoodIn wsX8_childBehind (wsV RX8 194 RX8 yX8_parentOf wsX8_parentOf) := goodIn_app (goodIn_of _ (by decide +kernel)) ggX8_childBehind_X8_parentOf
theorem dX8_childBehind_0 : decode cX8_childBehind 0 = .ok (.iload_n 2, 1) := by decide +kernel
theorem dX8_childBehind_1 : decode cX8_childBehind 1 = .ok (.iconst 1, 1) := by decide +kernel
theorem dX8_childBehind_2 : decode cX8_childBehind 2 = .ok (.iadd, 1) := by decide +kernel
theorem dX8_childBehind_3 : decode cX8_childBehind 3 = .ok (.istore_n 3, 1) := by decide +kernel
theorem dX8_childBehind_4 : decode cX8_childBehind 4 = .ok (.iload_n 3, 1) := by decide +kernel
theorem dX8_childBehind_5 : decode cX8_childBehind 5 = .ok (.i2l, 1) := by decide +kernel
theorem dX8_childBehind_6 : decode cX8_childBehind 6 = .ok (.aload_n 0, 1) := by decide +kernel
theorem dX8_childBehind_7 : decode cX8_childBehind 7 = .ok (.getfield 7, 3) := by decide +kernel
theorem dX8_childBehind_10 : decode cX8_childBehind 10 = .ok (.iconst 2, 1) := by decide +kernel
theorem dX8_childBehind_11 : decode cX8_childBehind 11 = .ok (.laload, 1) := by decide +kernel
theorem dX8_childBehind_12 : decode cX8_childBehind 12 = .ok (.lcmp, 1) := by decide +kernel
theorem dX8_childBehind_13 : decode cX8_childBehind 13 = .ok (.ifCond .ge 20, 3) := by decide +kernel
theorem dX8_childBehind_16 : decode cX8_childBehind 16 = .ok (.aload_n 0, 1) := by decide +kernel
theorem dX8_childBehind_17 : decode cX8_childBehind 17 = .ok (.iload_n 3, 1) := by decide +kernel
theorem dX8_childBehind_18 : decode cX8_childBehind 18 = .ok (.invokevirtual 194, 3) := by decide +kernel
theorem dX8_childBehind_21 : decode cX8_childBehind 21 = .ok (.iload_n 1, 1) := by decide +kernel
theorem dX8_childBehind_22 : decode cX8_childBehind 22 = .ok (.if_icmp .ne 5, 3) := by decide +kernel
theorem dX8_childBehind_25 : decode cX8_childBehind 25 = .ok (.iload_n 3, 1) := by decide +kernel
theorem dX8_childBehind_26 : decode cX8_childBehind 26 = .ok (.ireturn, 1) := by decide +kernel
theorem dX8_childBehind_27 : decode cX8_childBehind 27 = .ok (.iinc 3 1, 3) := by decide +kernel
theorem dX8_childBehind_30 : decode cX8_childBehind 30 = .ok (.goto (-26), 3) := by decide +kernel
theorem dX8_childBehind_33 : decode cX8_childBehind 33 = .ok (.iconst (-1), 1) := by decide +kernel
theorem dX8_childBehind_34 : decode cX8_childBehind 34 = .ok (.ireturn, 1) := by decide +kernel
set_option maxRecDepth 20000 in
theorem ggX8_walked_X8_isFolder : GoodIn wsX8_walked wsX8_isFolder := goodIn_r _ [6, 7, 8, 9, 5, 10, 19, 20, 21, 22, 23, 24, 25, 26, 27, 28, 29, 30, 31, 32, 33, 34, 35, 36] (by decide +kernel) (by decide +kernel)
set_option maxRecDepth 20000 in
theorem gX8_walked_X8_isFolder : GoodIn wsX8_walked (wsV RX8 220 RX8 yX8_isFolder wsX8_isFolder) := goodIn_app (goodIn_of _ (by decide +kernel)) ggX8_walked_X8_isFolder
set_option maxRecDepth 20000 in
theorem ggX8_walked_X8_childBehind : GoodIn wsX8_walked wsX8_childBehind := goodIn_r _ [14, 7, 15, 16, 17, 5, 18, 19, 20, 21, 22, 23, 24, 25, 26, 27, 28, 29, 30, 31, 32, 33, 34, 35, 36] (by decide +kernel) (by decide +kernel)
set_option maxRecDepth 20000 in
theorem gX8_walked_X8_childBehind : GoodIn wsX8_walked (wsV RX8 240 RX8 yX8_childBehind wsX8_childBehind) := goodIn_app (goodIn_of _ (by decide +kernel)) ggX8_walked_X8_childBehind
set_option maxRecDepth 20000 in
theorem ggX8_walked_X8_parentOf : GoodIn wsX8_walked wsX8_parentOf := goodIn_r _ [18, 7, 19, 20, 21, 22, 23, 24, 25, 26, 27, 28, 29, 30, 31, 32, 33, 34, 35, 36] (by decide +kernel) (by decide +kernel)
set_option maxRecDepth 20000 in
theorem gX8_walked_X8_parentOf : GoodIn wsX8_walked (wsV RX8 194 RX8 yX8_parentOf wsX8_parentOf) := goodIn_app (goodIn_of _ (by decide +kernel)) ggX8_walked_X8_parentOf
theorem dX8_walked_0 : decode cX8_walked 0 = .ok (.aload_n 0, 1) := by decide +kernel
theorem dX8_walked_1 : decode cX8_walked 1 = .ok (.aload_n 0, 1) := by decide +kernel
theorem dX8_walked_2 : decode cX8_walked 2 = .ok (.iload_n 1, 1) := by decide +kernel
theorem dX8_walked_3 : decode cX8_walked 3 = .ok (.invokevirtual 220, 3) := by decide +kernel
theorem dX8_walked_6 : decode cX8_walked 6 = .ok (.ifCond .eq 7, 3) := by decide +kernel
theorem dX8_walked_9 : decode cX8_walked 9 = .ok (.iconst 0, 1) := by decide +kernel
theorem dX8_walked_10 : decode cX8_walked 10 = .ok (.goto 4, 3) := by decide +kernel
theorem dX8_walked_13 : decode cX8_walked 13 = .ok (.iconst 1, 1) := by decide +kernel
theorem dX8_walked_14 : decode cX8_walked 14 = .ok (.putfield 43, 3) := by decide +kernel
theorem dX8_walked_17 : decode cX8_walked 17 = .ok (.iconst 0, 1) := by decide +kernel
theorem dX8_walked_18 : decode cX8_walked 18 = .ok (.istore_n 2, 1) := by decide +kernel
theorem dX8_walked_19 : decode cX8_walked 19 = .ok (.iload_n 1, 1) := by decide +kernel
theorem dX8_walked_20 : decode cX8_walked 20 = .ok (.istore_n 3, 1) := by decide +kernel
theorem dX8_walked_21 : decode cX8_walked 21 = .ok (.iload_n 3, 1) := by decide +kernel
theorem dX8_walked_22 : decode cX8_walked 22 = .ok (.ifCond .le 54, 3) := by decide +kernel
theorem dX8_walked_25 : decode cX8_walked 25 = .ok (.aload_n 0, 1) := by decide +kernel
theorem dX8_walked_26 : decode cX8_walked 26 = .ok (.getfield 43, 3) := by decide +kernel
theorem dX8_walked_29 : decode cX8_walked 29 = .ok (.ifCond .ne 47, 3) := by decide +kernel
theorem dX8_walked_32 : decode cX8_walked 32 = .ok (.aload_n 0, 1) := by decide +kernel
theorem dX8_walked_33 : decode cX8_walked 33 = .ok (.iload_n 2, 1) := by decide +kernel
theorem dX8_walked_34 : decode cX8_walked 34 = .ok (.iconst 0, 1) := by decide +kernel
theorem dX8_walked_35 : decode cX8_walked 35 = .ok (.invokevirtual 240, 3) := by decide +kernel
theorem dX8_walked_38 : decode cX8_walked 38 = .ok (.istore 4, 2) := by decide +kernel
theorem dX8_walked_40 : decode cX8_walked 40 = .ok (.iload 4, 2) := by decide +kernel
theorem dX8_walked_42 : decode cX8_walked 42 = .ok (.iconst (-1), 1) := by decide +kernel
theorem dX8_walked_43 : decode cX8_walked 43 = .ok (.if_icmp .ne 24, 3) := by decide +kernel
theorem dX8_walked_46 : decode cX8_walked 46 = .ok (.aload_n 0, 1) := by decide +kernel
theorem dX8_walked_47 : decode cX8_walked 47 = .ok (.aload_n 0, 1) := by decide +kernel
theorem dX8_walked_48 : decode cX8_walked 48 = .ok (.iload_n 2, 1) := by decide +kernel
theorem dX8_walked_49 : decode cX8_walked 49 = .ok (.invokevirtual 194, 3) := by decide +kernel
theorem dX8_walked_52 : decode cX8_walked 52 = .ok (.iload_n 2, 1) := by decide +kernel
theorem dX8_walked_53 : decode cX8_walked 53 = .ok (.invokevirtual 240, 3) := by decide +kernel
theorem dX8_walked_56 : decode cX8_walked 56 = .ok (.istore 4, 2) := by decide +kernel
theorem dX8_walked_58 : decode cX8_walked 58 = .ok (.aload_n 0, 1) := by decide +kernel
theorem dX8_walked_59 : decode cX8_walked 59 = .ok (.iload_n 2, 1) := by decide +kernel
theorem dX8_walked_60 : decode cX8_walked 60 = .ok (.invokevirtual 194, 3) := by decide +kernel
theorem dX8_walked_63 : decode cX8_walked 63 = .ok (.istore_n 2, 1) := by decide +kernel
theorem dX8_walked_64 : decode cX8_walked 64 = .ok (.goto (-24), 3) := by decide +kernel
theorem dX8_walked_67 : decode cX8_walked 67 = .ok (.iload 4, 2) := by decide +kernel
theorem dX8_walked_69 : decode cX8_walked 69 = .ok (.istore_n 2, 1) := by decide +kernel
theorem dX8_walked_70 : decode cX8_walked 70 = .ok (.iinc 3 (-1), 3) := by decide +kernel
theorem dX8_walked_73 : decode cX8_walked 73 = .ok (.goto (-52), 3) := by decide +kernel
theorem dX8_walked_76 : decode cX8_walked 76 = .ok (.iload_n 2, 1) := by decide +kernel
theorem dX8_walked_77 : decode cX8_walked 77 = .ok (.ireturn, 1) := by decide +kernel
set_option maxRecDepth 20000 in
theorem ggX8_heaviest_X8_isFolder : GoodIn wsX8_heaviest wsX8_isFolder := goodIn_r _ [6, 7, 8, 9, 5, 10, 35, 36, 37, 38, 39, 40, 41, 42, 43, 44, 45, 46, 47, 48, 49, 50, 51, 52] (by decide +kernel) (by decide +kernel)
set_option maxRecDepth 20000 in
theorem gX8_heaviest_X8_isFolder : GoodIn wsX8_heaviest (wsV RX8 220 RX8 yX8_isFolder wsX8_isFolder) := goodIn_app (goodIn_of _ (by decide +kernel)) ggX8_heaviest_X8_isFolder
set_option maxRecDepth 20000 in
theorem ggX8_heaviest_X8_childrenOf : GoodIn wsX8_heaviest wsX8_childrenOf := goodIn_r _ [14, 7, 15, 16, 17, 5, 18, 35, 36, 37, 38, 39, 40, 41, 42, 43, 44, 45, 46, 47, 48, 49, 50, 51, 52] (by decide +kernel) (by decide +kernel)
set_option maxRecDepth 20000 in
theorem gX8_heaviest_X8_childrenOf : GoodIn wsX8_heaviest (wsV RX8 225 RX8 yX8_childrenOf wsX8_childrenOf) := goodIn_app (goodIn_of _ (by decide +kernel)) ggX8_heaviest_X8_childrenOf
set_option maxRecDepth 20000 in
theorem ggX8_heaviest_X8_childBehind : GoodIn wsX8_heaviest wsX8_childBehind := goodIn_r _ [22, 7, 15, 16, 17, 5, 18, 35, 36, 37, 38, 39, 40, 41, 42, 43, 44, 45, 46, 47, 48, 49, 50, 51, 52] (by decide +kernel) (by decide +kernel)
set_option maxRecDepth 20000 in
theorem gX8_heaviest_X8_childBehind : GoodIn wsX8_heaviest (wsV RX8 240 RX8 yX8_childBehind wsX8_childBehind) := goodIn_app (goodIn_of _ (by decide +kernel)) ggX8_heaviest_X8_childBehind
set_option maxRecDepth 20000 in
theorem ggX8_heaviest_X8_filesBelow : GoodIn wsX8_heaviest wsX8_filesBelow := goodIn_r _ [26, 7, 27, 28, 29, 5, 30, 31, 32, 33, 34, 15, 16, 17, 18, 35, 36, 37, 38, 39, 40, 41, 42, 43, 44, 45, 46, 47, 48, 49, 50, 51, 52] (by decide +kernel) (by decide +kernel)
set_option maxRecDepth 20000 in
theorem gX8_heaviest_X8_filesBelow : GoodIn wsX8_heaviest (wsV RX8 210 RX8 yX8_filesBelow wsX8_filesBelow) := goodIn_app (goodIn_of _ (by decide +kernel)) ggX8_heaviest_X8_filesBelow
theorem dX8_heaviest_0 : decode cX8_heaviest 0 = .ok (.aload_n 0, 1) := by decide +kernel
theorem dX8_heaviest_1 : decode cX8_heaviest 1 = .ok (.aload_n 0, 1) := by decide +kernel
theorem dX8_heaviest_2 : decode cX8_heaviest 2 = .ok (.iload_n 1, 1) := by decide +kernel
theorem dX8_heaviest_3 : decode cX8_heaviest 3 = .ok (.invokevirtual 220, 3) := by decide +kernel
theorem dX8_heaviest_6 : decode cX8_heaviest 6 = .ok (.ifCond .ne 7, 3) := by decide +kernel
theorem dX8_heaviest_9 : decode cX8_heaviest 9 = .ok (.iconst 1, 1) := by decide +kernel
theorem dX8_heaviest_10 : decode cX8_heaviest 10 = .ok (.goto 16, 3) := by decide +kernel
theorem dX8_heaviest_13 : decode cX8_heaviest 13 = .ok (.aload_n 0, 1) := by decide +kernel
theorem dX8_heaviest_14 : decode cX8_heaviest 14 = .ok (.iload_n 1, 1) := by decide +kernel
theorem dX8_heaviest_15 : decode cX8_heaviest 15 = .ok (.invokevirtual 225, 3) := by decide +kernel
theorem dX8_heaviest_18 : decode cX8_heaviest 18 = .ok (.ifCond .ne 7, 3) := by decide +kernel
theorem dX8_heaviest_21 : decode cX8_heaviest 21 = .ok (.iconst 2, 1) := by decide +kernel
theorem dX8_heaviest_22 : decode cX8_heaviest 22 = .ok (.goto 4, 3) := by decide +kernel
theorem dX8_heaviest_25 : decode cX8_heaviest 25 = .ok (.iconst 0, 1) := by decide +kernel
theorem dX8_heaviest_26 : decode cX8_heaviest 26 = .ok (.putfield 43, 3) := by decide +kernel
theorem dX8_heaviest_29 : decode cX8_heaviest 29 = .ok (.aload_n 0, 1) := by decide +kernel
theorem dX8_heaviest_30 : decode cX8_heaviest 30 = .ok (.getfield 43, 3) := by decide +kernel
theorem dX8_heaviest_33 : decode cX8_heaviest 33 = .ok (.ifCond .le 5, 3) := by decide +kernel
theorem dX8_heaviest_36 : decode cX8_heaviest 36 = .ok (.iconst 0, 1) := by decide +kernel
theorem dX8_heaviest_37 : decode cX8_heaviest 37 = .ok (.ireturn, 1) := by decide +kernel
theorem dX8_heaviest_38 : decode cX8_heaviest 38 = .ok (.aload_n 0, 1) := by decide +kernel
theorem dX8_heaviest_39 : decode cX8_heaviest 39 = .ok (.iload_n 1, 1) := by decide +kernel
theorem dX8_heaviest_40 : decode cX8_heaviest 40 = .ok (.iconst 0, 1) := by decide +kernel
theorem dX8_heaviest_41 : decode cX8_heaviest 41 = .ok (.invokevirtual 240, 3) := by decide +kernel
theorem dX8_heaviest_44 : decode cX8_heaviest 44 = .ok (.istore_n 2, 1) := by decide +kernel
theorem dX8_heaviest_45 : decode cX8_heaviest 45 = .ok (.iload_n 2, 1) := by decide +kernel
theorem dX8_heaviest_46 : decode cX8_heaviest 46 = .ok (.istore_n 3, 1) := by decide +kernel
theorem dX8_heaviest_47 : decode cX8_heaviest 47 = .ok (.iload_n 3, 1) := by decide +kernel
theorem dX8_heaviest_48 : decode cX8_heaviest 48 = .ok (.iconst (-1), 1) := by decide +kernel
theorem dX8_heaviest_49 : decode cX8_heaviest 49 = .ok (.if_icmp .eq 35, 3) := by decide +kernel
theorem dX8_heaviest_52 : decode cX8_heaviest 52 = .ok (.aload_n 0, 1) := by decide +kernel
theorem dX8_heaviest_53 : decode cX8_heaviest 53 = .ok (.iload_n 3, 1) := by decide +kernel
theorem dX8_heaviest_54 : decode cX8_heaviest 54 = .ok (.iconst 1, 1) := by decide +kernel
theorem dX8_heaviest_55 : decode cX8_heaviest 55 = .ok (.invokevirtual 210, 3) := by decide +kernel
theorem dX8_heaviest_58 : decode cX8_heaviest 58 = .ok (.aload_n 0, 1) := by decide +kernel
theorem dX8_heaviest_59 : decode cX8_heaviest 59 = .ok (.iload_n 2, 1) := by decide +kernel
theorem dX8_heaviest_60 : decode cX8_heaviest 60 = .ok (.iconst 1, 1) := by decide +kernel
theorem dX8_heaviest_61 : decode cX8_heaviest 61 = .ok (.invokevirtual 210, 3) := by decide +kernel
theorem dX8_heaviest_64 : decode cX8_heaviest 64 = .ok (.lcmp, 1) := by decide +kernel
theorem dX8_heaviest_65 : decode cX8_heaviest 65 = .ok (.ifCond .le 7, 3) := by decide +kernel
theorem dX8_heaviest_68 : decode cX8_heaviest 68 = .ok (.iload_n 3, 1) := by decide +kernel
theorem dX8_heaviest_69 : decode cX8_heaviest 69 = .ok (.goto 4, 3) := by decide +kernel
theorem dX8_heaviest_72 : decode cX8_heaviest 72 = .ok (.iload_n 2, 1) := by decide +kernel
theorem dX8_heaviest_73 : decode cX8_heaviest 73 = .ok (.istore_n 2, 1) := by decide +kernel
theorem dX8_heaviest_74 : decode cX8_heaviest 74 = .ok (.aload_n 0, 1) := by decide +kernel
theorem dX8_heaviest_75 : decode cX8_heaviest 75 = .ok (.iload_n 1, 1) := by decide +kernel
theorem dX8_heaviest_76 : decode cX8_heaviest 76 = .ok (.iload_n 3, 1) := by decide +kernel
theorem dX8_heaviest_77 : decode cX8_heaviest 77 = .ok (.invokevirtual 240, 3) := by decide +kernel
theorem dX8_heaviest_80 : decode cX8_heaviest 80 = .ok (.istore_n 3, 1) := by decide +kernel
theorem dX8_heaviest_81 : decode cX8_heaviest 81 = .ok (.goto (-34), 3) := by decide +kernel
theorem dX8_heaviest_84 : decode cX8_heaviest 84 = .ok (.iload_n 2, 1) := by decide +kernel
theorem dX8_heaviest_85 : decode cX8_heaviest 85 = .ok (.ireturn, 1) := by decide +kernel
set_option maxRecDepth 20000 in
theorem ggX8_isName_X8_isIn : GoodIn wsX8_isName wsX8_isIn := goodIn_r _ [6] (by decide +kernel) (by decide +kernel)
set_option maxRecDepth 20000 in
theorem gX8_isName_X8_isIn : GoodIn wsX8_isName (va_wsS RX8 59 yX8_isIn wsX8_isIn) := goodIn_app (goodIn_of _ (by decide +kernel)) ggX8_isName_X8_isIn
theorem dX8_isName_0 : decode cX8_isName 0 = .ok (.lload_n 0, 1) := by decide +kernel
theorem dX8_isName_1 : decode cX8_isName 1 = .ok (.lstore_n 2, 1) := by decide +kernel
theorem dX8_isName_2 : decode cX8_isName 2 = .ok (.iconst 0, 1) := by decide +kernel
theorem dX8_isName_3 : decode cX8_isName 3 = .ok (.istore 4, 2) := by decide +kernel
theorem dX8_isName_5 : decode cX8_isName 5 = .ok (.lload_n 2, 1) := by decide +kernel
theorem dX8_isName_6 : decode cX8_isName 6 = .ok (.ldc2_w 243, 3) := by decide +kernel
theorem dX8_isName_9 : decode cX8_isName 9 = .ok (.land, 1) := by decide +kernel
theorem dX8_isName_10 : decode cX8_isName 10 = .ok (.lconst 1, 1) := by decide +kernel
theorem dX8_isName_11 : decode cX8_isName 11 = .ok (.ldc2_w 245, 3) := by decide +kernel
theorem dX8_isName_14 : decode cX8_isName 14 = .ok (.invokestatic 59, 3) := by decide +kernel
theorem dX8_isName_17 : decode cX8_isName 17 = .ok (.ifCond .eq 20, 3) := by decide +kernel
theorem dX8_isName_20 : decode cX8_isName 20 = .ok (.iload 4, 2) := by decide +kernel
theorem dX8_isName_22 : decode cX8_isName 22 = .ok (.bipush 8, 2) := by decide +kernel
theorem dX8_isName_24 : decode cX8_isName 24 = .ok (.if_icmp .ge 13, 3) := by decide +kernel
theorem dX8_isName_27 : decode cX8_isName 27 = .ok (.lload_n 2, 1) := by decide +kernel
theorem dX8_isName_28 : decode cX8_isName 28 = .ok (.iconst 5, 1) := by decide +kernel
theorem dX8_isName_29 : decode cX8_isName 29 = .ok (.lshr, 1) := by decide +kernel
theorem dX8_isName_30 : decode cX8_isName 30 = .ok (.lstore_n 2, 1) := by decide +kernel
theorem dX8_isName_31 : decode cX8_isName 31 = .ok (.iinc 4 1, 3) := by decide +kernel
theorem dX8_isName_34 : decode cX8_isName 34 = .ok (.goto (-29), 3) := by decide +kernel
theorem dX8_isName_37 : decode cX8_isName 37 = .ok (.lload_n 2, 1) := by decide +kernel
theorem dX8_isName_38 : decode cX8_isName 38 = .ok (.lconst 0, 1) := by decide +kernel
theorem dX8_isName_39 : decode cX8_isName 39 = .ok (.lcmp, 1) := by decide +kernel
theorem dX8_isName_40 : decode cX8_isName 40 = .ok (.ifCond .ne 12, 3) := by decide +kernel
theorem dX8_isName_43 : decode cX8_isName 43 = .ok (.iload 4, 2) := by decide +kernel
theorem dX8_isName_45 : decode cX8_isName 45 = .ok (.ifCond .le 7, 3) := by decide +kernel
theorem dX8_isName_48 : decode cX8_isName 48 = .ok (.iconst 1, 1) := by decide +kernel
theorem dX8_isName_49 : decode cX8_isName 49 = .ok (.goto 4, 3) := by decide +kernel
theorem dX8_isName_52 : decode cX8_isName 52 = .ok (.iconst 0, 1) := by decide +kernel
theorem dX8_isName_53 : decode cX8_isName 53 = .ok (.ireturn, 1) := by decide +kernel
set_option maxRecDepth 20000 in
theorem ggX8_addFolder_X8_isFolder : GoodIn wsX8_addFolder wsX8_isFolder := goodIn_r _ [8, 1, 9, 10, 7, 11, 48, 49, 50, 51, 52, 53, 54, 55, 56, 57, 58, 59, 60, 61, 62, 63, 64, 65] (by decide +kernel) (by decide +kernel)
set_option maxRecDepth 20000 in
theorem gX8_addFolder_X8_isFolder : GoodIn wsX8_addFolder (wsV RX8 220 RX8 yX8_isFolder wsX8_isFolder) := goodIn_app (goodIn_of _ (by decide +kernel)) ggX8_addFolder_X8_isFolder
set_option maxRecDepth 20000 in
theorem ggX8_addFolder_X8_isName : GoodIn wsX8_addFolder wsX8_isName := goodIn_r _ [14, 15, 16, 9, 10, 7, 11] (by decide +kernel) (by decide +kernel)
set_option maxRecDepth 20000 in
theorem gX8_addFolder_X8_isName : GoodIn wsX8_addFolder (va_wsS RX8 247 yX8_isName wsX8_isName) := goodIn_app (goodIn_of _ (by decide +kernel)) ggX8_addFolder_X8_isName
set_option maxRecDepth 20000 in
theorem ggX8_addFolder_X8_named : GoodIn wsX8_addFolder wsX8_named := goodIn_r _ [19] (by decide +kernel) (by decide +kernel)
set_option maxRecDepth 20000 in
theorem gX8_addFolder_X8_named : GoodIn wsX8_addFolder (va_wsS RX8 118 yX8_named wsX8_named) := goodIn_app (goodIn_of _ (by decide +kernel)) ggX8_addFolder_X8_named
set_option maxRecDepth 20000 in
theorem ggX8_addFolder_X8_keeps : GoodIn wsX8_addFolder wsX8_keeps := goodIn_r _ [23, 24, 25, 1, 48, 49, 50, 51, 52, 53, 54, 55, 56, 57, 58, 59, 60, 61, 62, 63, 64, 65] (by decide +kernel) (by decide +kernel)
set_option maxRecDepth 20000 in
theorem gX8_addFolder_X8_keeps : GoodIn wsX8_addFolder (wsV RX8 179 RX8 yX8_keeps wsX8_keeps) := goodIn_app (goodIn_of _ (by decide +kernel)) ggX8_addFolder_X8_keeps
set_option maxRecDepth 20000 in
theorem ggX8_addFolder_X8_addsFolder : GoodIn wsX8_addFolder wsX8_addsFolder := goodIn_r _ [28, 29] (by decide +kernel) (by decide +kernel)
set_option maxRecDepth 20000 in
theorem gX8_addFolder_X8_addsFolder : GoodIn wsX8_addFolder (va_wsS RX8 140 yX8_addsFolder wsX8_addsFolder) := goodIn_app (goodIn_of _ (by decide +kernel)) ggX8_addFolder_X8_addsFolder
set_option maxRecDepth 20000 in
theorem ggX8_addFolder_X8_setsClocks : GoodIn wsX8_addFolder wsX8_setsClocks := goodIn_r _ [33, 29, 1, 34, 35, 36, 7, 37, 38, 39, 40, 41, 42, 43, 44, 45, 46, 47, 48, 49, 50, 51, 52, 53, 54, 55, 56, 57, 58, 59, 60, 61, 62, 63, 64, 65] (by decide +kernel) (by decide +kernel)
set_option maxRecDepth 20000 in
theorem gX8_addFolder_X8_setsClocks : GoodIn wsX8_addFolder (wsV RX8 186 RX8 yX8_setsClocks wsX8_setsClocks) := goodIn_app (goodIn_of _ (by decide +kernel)) ggX8_addFolder_X8_setsClocks
theorem dX8_addFolder_0 : decode cX8_addFolder 0 = .ok (.aload_n 0, 1) := by decide +kernel
theorem dX8_addFolder_1 : decode cX8_addFolder 1 = .ok (.aload_n 0, 1) := by decide +kernel
theorem dX8_addFolder_2 : decode cX8_addFolder 2 = .ok (.iload_n 1, 1) := by decide +kernel
theorem dX8_addFolder_3 : decode cX8_addFolder 3 = .ok (.invokevirtual 220, 3) := by decide +kernel
theorem dX8_addFolder_6 : decode cX8_addFolder 6 = .ok (.ifCond .ne 7, 3) := by decide +kernel
theorem dX8_addFolder_9 : decode cX8_addFolder 9 = .ok (.iconst 1, 1) := by decide +kernel
theorem dX8_addFolder_10 : decode cX8_addFolder 10 = .ok (.goto 44, 3) := by decide +kernel
theorem dX8_addFolder_13 : decode cX8_addFolder 13 = .ok (.lload_n 2, 1) := by decide +kernel
theorem dX8_addFolder_14 : decode cX8_addFolder 14 = .ok (.invokestatic 247, 3) := by decide +kernel
theorem dX8_addFolder_17 : decode cX8_addFolder 17 = .ok (.ifCond .eq 15, 3) := by decide +kernel
theorem dX8_addFolder_20 : decode cX8_addFolder 20 = .ok (.aload_n 0, 1) := by decide +kernel
theorem dX8_addFolder_21 : decode cX8_addFolder 21 = .ok (.getfield 7, 3) := by decide +kernel
theorem dX8_addFolder_24 : decode cX8_addFolder 24 = .ok (.lload_n 2, 1) := by decide +kernel
theorem dX8_addFolder_25 : decode cX8_addFolder 25 = .ok (.invokestatic 118, 3) := by decide +kernel
theorem dX8_addFolder_28 : decode cX8_addFolder 28 = .ok (.iconst (-1), 1) := by decide +kernel
theorem dX8_addFolder_29 : decode cX8_addFolder 29 = .ok (.if_icmp .eq 7, 3) := by decide +kernel
theorem dX8_addFolder_32 : decode cX8_addFolder 32 = .ok (.iconst 2, 1) := by decide +kernel
theorem dX8_addFolder_33 : decode cX8_addFolder 33 = .ok (.goto 21, 3) := by decide +kernel
theorem dX8_addFolder_36 : decode cX8_addFolder 36 = .ok (.aload_n 0, 1) := by decide +kernel
theorem dX8_addFolder_37 : decode cX8_addFolder 37 = .ok (.getfield 7, 3) := by decide +kernel
theorem dX8_addFolder_40 : decode cX8_addFolder 40 = .ok (.iconst 2, 1) := by decide +kernel
theorem dX8_addFolder_41 : decode cX8_addFolder 41 = .ok (.laload, 1) := by decide +kernel
theorem dX8_addFolder_42 : decode cX8_addFolder 42 = .ok (.ldc2_w 135, 3) := by decide +kernel
theorem dX8_addFolder_45 : decode cX8_addFolder 45 = .ok (.lcmp, 1) := by decide +kernel
theorem dX8_addFolder_46 : decode cX8_addFolder 46 = .ok (.ifCond .ne 7, 3) := by decide +kernel
theorem dX8_addFolder_49 : decode cX8_addFolder 49 = .ok (.iconst 3, 1) := by decide +kernel
theorem dX8_addFolder_50 : decode cX8_addFolder 50 = .ok (.goto 4, 3) := by decide +kernel
theorem dX8_addFolder_53 : decode cX8_addFolder 53 = .ok (.iconst 0, 1) := by decide +kernel
theorem dX8_addFolder_54 : decode cX8_addFolder 54 = .ok (.putfield 43, 3) := by decide +kernel
theorem dX8_addFolder_57 : decode cX8_addFolder 57 = .ok (.aload_n 0, 1) := by decide +kernel
theorem dX8_addFolder_58 : decode cX8_addFolder 58 = .ok (.getfield 43, 3) := by decide +kernel
theorem dX8_addFolder_61 : decode cX8_addFolder 61 = .ok (.ifCond .le 5, 3) := by decide +kernel
theorem dX8_addFolder_64 : decode cX8_addFolder 64 = .ok (.iconst 0, 1) := by decide +kernel
theorem dX8_addFolder_65 : decode cX8_addFolder 65 = .ok (.ireturn, 1) := by decide +kernel
theorem dX8_addFolder_66 : decode cX8_addFolder 66 = .ok (.aload_n 0, 1) := by decide +kernel
theorem dX8_addFolder_67 : decode cX8_addFolder 67 = .ok (.invokevirtual 179, 3) := by decide +kernel
theorem dX8_addFolder_70 : decode cX8_addFolder 70 = .ok (.aload_n 0, 1) := by decide +kernel
theorem dX8_addFolder_71 : decode cX8_addFolder 71 = .ok (.getfield 7, 3) := by decide +kernel
theorem dX8_addFolder_74 : decode cX8_addFolder 74 = .ok (.iload_n 1, 1) := by decide +kernel
theorem dX8_addFolder_75 : decode cX8_addFolder 75 = .ok (.lload_n 2, 1) := by decide +kernel
theorem dX8_addFolder_76 : decode cX8_addFolder 76 = .ok (.invokestatic 140, 3) := by decide +kernel
theorem dX8_addFolder_79 : decode cX8_addFolder 79 = .ok (.aload_n 0, 1) := by decide +kernel
theorem dX8_addFolder_80 : decode cX8_addFolder 80 = .ok (.invokevirtual 186, 3) := by decide +kernel
theorem dX8_addFolder_83 : decode cX8_addFolder 83 = .ok (.aload_n 0, 1) := by decide +kernel
theorem dX8_addFolder_84 : decode cX8_addFolder 84 = .ok (.getfield 7, 3) := by decide +kernel
theorem dX8_addFolder_87 : decode cX8_addFolder 87 = .ok (.iconst 2, 1) := by decide +kernel
theorem dX8_addFolder_88 : decode cX8_addFolder 88 = .ok (.laload, 1) := by decide +kernel
theorem dX8_addFolder_89 : decode cX8_addFolder 89 = .ok (.l2i, 1) := by decide +kernel
theorem dX8_addFolder_90 : decode cX8_addFolder 90 = .ok (.iconst 1, 1) := by decide +kernel
theorem dX8_addFolder_91 : decode cX8_addFolder 91 = .ok (.isub, 1) := by decide +kernel
theorem dX8_addFolder_92 : decode cX8_addFolder 92 = .ok (.ireturn, 1) := by decide +kernel
theorem dX8_closesUp_0 : decode cX8_closesUp 0 = .ok (.iload_n 2, 1) := by decide +kernel
theorem dX8_closesUp_1 : decode cX8_closesUp 1 = .ok (.istore 4, 2) := by decide +kernel
theorem dX8_closesUp_3 : decode cX8_closesUp 3 = .ok (.iload 4, 2) := by decide +kernel
theorem dX8_closesUp_5 : decode cX8_closesUp 5 = .ok (.iload_n 3, 1) := by decide +kernel
theorem dX8_closesUp_6 : decode cX8_closesUp 6 = .ok (.if_icmp .ge 29, 3) := by decide +kernel
theorem dX8_closesUp_9 : decode cX8_closesUp 9 = .ok (.aload_n 0, 1) := by decide +kernel
theorem dX8_closesUp_10 : decode cX8_closesUp 10 = .ok (.getfield 7, 3) := by decide +kernel
theorem dX8_closesUp_13 : decode cX8_closesUp 13 = .ok (.iload_n 1, 1) := by decide +kernel
theorem dX8_closesUp_14 : decode cX8_closesUp 14 = .ok (.iload 4, 2) := by decide +kernel
theorem dX8_closesUp_16 : decode cX8_closesUp 16 = .ok (.iadd, 1) := by decide +kernel
theorem dX8_closesUp_17 : decode cX8_closesUp 17 = .ok (.aload_n 0, 1) := by decide +kernel
theorem dX8_closesUp_18 : decode cX8_closesUp 18 = .ok (.getfield 7, 3) := by decide +kernel
theorem dX8_closesUp_21 : decode cX8_closesUp 21 = .ok (.iload_n 1, 1) := by decide +kernel
theorem dX8_closesUp_22 : decode cX8_closesUp 22 = .ok (.iload 4, 2) := by decide +kernel
theorem dX8_closesUp_24 : decode cX8_closesUp 24 = .ok (.iadd, 1) := by decide +kernel
theorem dX8_closesUp_25 : decode cX8_closesUp 25 = .ok (.iconst 1, 1) := by decide +kernel
theorem dX8_closesUp_26 : decode cX8_closesUp 26 = .ok (.iadd, 1) := by decide +kernel
theorem dX8_closesUp_27 : decode cX8_closesUp 27 = .ok (.laload, 1) := by decide +kernel
theorem dX8_closesUp_28 : decode cX8_closesUp 28 = .ok (.lastore, 1) := by decide +kernel
theorem dX8_closesUp_29 : decode cX8_closesUp 29 = .ok (.iinc 4 1, 3) := by decide +kernel
theorem dX8_closesUp_32 : decode cX8_closesUp 32 = .ok (.goto (-29), 3) := by decide +kernel
theorem dX8_closesUp_35 : decode cX8_closesUp 35 = .ok (.return_, 1) := by decide +kernel
set_option maxRecDepth 20000 in
theorem ggX8_removeFolder_X8_isFolder : GoodIn wsX8_removeFolder wsX8_isFolder := goodIn_r _ [7, 2, 8, 9, 6, 10, 56, 57, 58, 59, 60, 61, 62, 63, 64, 65, 66, 67, 68, 69, 70, 71, 72, 73] (by decide +kernel) (by decide +kernel)
set_option maxRecDepth 20000 in
theorem gX8_removeFolder_X8_isFolder : GoodIn wsX8_removeFolder (wsV RX8 220 RX8 yX8_isFolder wsX8_isFolder) := goodIn_app (goodIn_of _ (by decide +kernel)) ggX8_removeFolder_X8_isFolder
set_option maxRecDepth 20000 in
theorem ggX8_removeFolder_X8_childrenOf : GoodIn wsX8_removeFolder wsX8_childrenOf := goodIn_r _ [14, 2, 15, 16, 17, 6, 18, 56, 57, 58, 59, 60, 61, 62, 63, 64, 65, 66, 67, 68, 69, 70, 71, 72, 73] (by decide +kernel) (by decide +kernel)
set_option maxRecDepth 20000 in
theorem gX8_removeFolder_X8_childrenOf : GoodIn wsX8_removeFolder (wsV RX8 225 RX8 yX8_childrenOf wsX8_childrenOf) := goodIn_app (goodIn_of _ (by decide +kernel)) ggX8_removeFolder_X8_childrenOf
set_option maxRecDepth 20000 in
theorem ggX8_removeFolder_X8_filesIn : GoodIn wsX8_removeFolder wsX8_filesIn := goodIn_r _ [22, 2, 23, 24, 25, 6, 26, 56, 57, 58, 59, 60, 61, 62, 63, 64, 65, 66, 67, 68, 69, 70, 71, 72, 73] (by decide +kernel) (by decide +kernel)
set_option maxRecDepth 20000 in
theorem gX8_removeFolder_X8_filesIn : GoodIn wsX8_removeFolder (wsV RX8 228 RX8 yX8_filesIn wsX8_filesIn) := goodIn_app (goodIn_of _ (by decide +kernel)) ggX8_removeFolder_X8_filesIn
set_option maxRecDepth 20000 in
theorem ggX8_removeFolder_X8_keeps : GoodIn wsX8_removeFolder wsX8_keeps := goodIn_r _ [30, 31, 32, 2, 56, 57, 58, 59, 60, 61, 62, 63, 64, 65, 66, 67, 68, 69, 70, 71, 72, 73] (by decide +kernel) (by decide +kernel)
set_option maxRecDepth 20000 in
theorem gX8_removeFolder_X8_keeps : GoodIn wsX8_removeFolder (wsV RX8 179 RX8 yX8_keeps wsX8_keeps) := goodIn_app (goodIn_of _ (by decide +kernel)) ggX8_removeFolder_X8_keeps
set_option maxRecDepth 20000 in
theorem ggX8_removeFolder_X8_closesUp : GoodIn wsX8_removeFolder wsX8_closesUp := goodIn_r _ [36, 2, 56, 57, 58, 59, 60, 61, 62, 63, 64, 65, 66, 67, 68, 69, 70, 71, 72, 73] (by decide +kernel) (by decide +kernel)
set_option maxRecDepth 20000 in
theorem gX8_removeFolder_X8_closesUp : GoodIn wsX8_removeFolder (wsV RX8 251 RX8 yX8_closesUp wsX8_closesUp) := goodIn_app (goodIn_of _ (by decide +kernel)) ggX8_removeFolder_X8_closesUp
set_option maxRecDepth 20000 in
theorem ggX8_removeFolder_X8_setsClocks : GoodIn wsX8_removeFolder wsX8_setsClocks := goodIn_r _ [40, 41, 2, 42, 43, 44, 6, 45, 46, 47, 48, 49, 50, 51, 52, 53, 54, 55, 56, 57, 58, 59, 60, 61, 62, 63, 64, 65, 66, 67, 68, 69, 70, 71, 72, 73] (by decide +kernel) (by decide +kernel)
set_option maxRecDepth 20000 in
theorem gX8_removeFolder_X8_setsClocks : GoodIn wsX8_removeFolder (wsV RX8 186 RX8 yX8_setsClocks wsX8_setsClocks) := goodIn_app (goodIn_of _ (by decide +kernel)) ggX8_removeFolder_X8_setsClocks
theorem dX8_removeFolder_0 : decode cX8_removeFolder 0 = .ok (.aload_n 0, 1) := by decide +kernel
theorem dX8_removeFolder_1 : decode cX8_removeFolder 1 = .ok (.aload_n 0, 1) := by decide +kernel
theorem dX8_removeFolder_2 : decode cX8_removeFolder 2 = .ok (.iload_n 1, 1) := by decide +kernel
theorem dX8_removeFolder_3 : decode cX8_removeFolder 3 = .ok (.invokevirtual 220, 3) := by decide +kernel
theorem dX8_removeFolder_6 : decode cX8_removeFolder 6 = .ok (.ifCond .ne 7, 3) := by decide +kernel
theorem dX8_removeFolder_9 : decode cX8_removeFolder 9 = .ok (.iconst 1, 1) := by decide +kernel
theorem dX8_removeFolder_10 : decode cX8_removeFolder 10 = .ok (.goto 28, 3) := by decide +kernel
theorem dX8_removeFolder_13 : decode cX8_removeFolder 13 = .ok (.iload_n 1, 1) := by decide +kernel
theorem dX8_removeFolder_14 : decode cX8_removeFolder 14 = .ok (.ifCond .eq 19, 3) := by decide +kernel
theorem dX8_removeFolder_17 : decode cX8_removeFolder 17 = .ok (.aload_n 0, 1) := by decide +kernel
theorem dX8_removeFolder_18 : decode cX8_removeFolder 18 = .ok (.iload_n 1, 1) := by decide +kernel
theorem dX8_removeFolder_19 : decode cX8_removeFolder 19 = .ok (.invokevirtual 225, 3) := by decide +kernel
theorem dX8_removeFolder_22 : decode cX8_removeFolder 22 = .ok (.ifCond .gt 11, 3) := by decide +kernel
theorem dX8_removeFolder_25 : decode cX8_removeFolder 25 = .ok (.aload_n 0, 1) := by decide +kernel
theorem dX8_removeFolder_26 : decode cX8_removeFolder 26 = .ok (.iload_n 1, 1) := by decide +kernel
theorem dX8_removeFolder_27 : decode cX8_removeFolder 27 = .ok (.invokevirtual 228, 3) := by decide +kernel
theorem dX8_removeFolder_30 : decode cX8_removeFolder 30 = .ok (.ifCond .le 7, 3) := by decide +kernel
theorem dX8_removeFolder_33 : decode cX8_removeFolder 33 = .ok (.iconst 2, 1) := by decide +kernel
theorem dX8_removeFolder_34 : decode cX8_removeFolder 34 = .ok (.goto 4, 3) := by decide +kernel
theorem dX8_removeFolder_37 : decode cX8_removeFolder 37 = .ok (.iconst 0, 1) := by decide +kernel
theorem dX8_removeFolder_38 : decode cX8_removeFolder 38 = .ok (.putfield 43, 3) := by decide +kernel
theorem dX8_removeFolder_41 : decode cX8_removeFolder 41 = .ok (.aload_n 0, 1) := by decide +kernel
theorem dX8_removeFolder_42 : decode cX8_removeFolder 42 = .ok (.getfield 43, 3) := by decide +kernel
theorem dX8_removeFolder_45 : decode cX8_removeFolder 45 = .ok (.ifCond .le 5, 3) := by decide +kernel
theorem dX8_removeFolder_48 : decode cX8_removeFolder 48 = .ok (.iconst 0, 1) := by decide +kernel
theorem dX8_removeFolder_49 : decode cX8_removeFolder 49 = .ok (.ireturn, 1) := by decide +kernel
theorem dX8_removeFolder_50 : decode cX8_removeFolder 50 = .ok (.aload_n 0, 1) := by decide +kernel
theorem dX8_removeFolder_51 : decode cX8_removeFolder 51 = .ok (.invokevirtual 179, 3) := by decide +kernel
theorem dX8_removeFolder_54 : decode cX8_removeFolder 54 = .ok (.aload_n 0, 1) := by decide +kernel
theorem dX8_removeFolder_55 : decode cX8_removeFolder 55 = .ok (.getfield 7, 3) := by decide +kernel
theorem dX8_removeFolder_58 : decode cX8_removeFolder 58 = .ok (.iconst 2, 1) := by decide +kernel
theorem dX8_removeFolder_59 : decode cX8_removeFolder 59 = .ok (.dup2, 1) := by decide +kernel
theorem dX8_removeFolder_60 : decode cX8_removeFolder 60 = .ok (.laload, 1) := by decide +kernel
theorem dX8_removeFolder_61 : decode cX8_removeFolder 61 = .ok (.lconst 1, 1) := by decide +kernel
theorem dX8_removeFolder_62 : decode cX8_removeFolder 62 = .ok (.lsub, 1) := by decide +kernel
theorem dX8_removeFolder_63 : decode cX8_removeFolder 63 = .ok (.lastore, 1) := by decide +kernel
theorem dX8_removeFolder_64 : decode cX8_removeFolder 64 = .ok (.aload_n 0, 1) := by decide +kernel
theorem dX8_removeFolder_65 : decode cX8_removeFolder 65 = .ok (.getfield 7, 3) := by decide +kernel
theorem dX8_removeFolder_68 : decode cX8_removeFolder 68 = .ok (.iconst 2, 1) := by decide +kernel
theorem dX8_removeFolder_69 : decode cX8_removeFolder 69 = .ok (.laload, 1) := by decide +kernel
theorem dX8_removeFolder_70 : decode cX8_removeFolder 70 = .ok (.l2i, 1) := by decide +kernel
theorem dX8_removeFolder_71 : decode cX8_removeFolder 71 = .ok (.istore_n 2, 1) := by decide +kernel
theorem dX8_removeFolder_72 : decode cX8_removeFolder 72 = .ok (.aload_n 0, 1) := by decide +kernel
theorem dX8_removeFolder_73 : decode cX8_removeFolder 73 = .ok (.bipush 69, 2) := by decide +kernel
theorem dX8_removeFolder_75 : decode cX8_removeFolder 75 = .ok (.iload_n 1, 1) := by decide +kernel
theorem dX8_removeFolder_76 : decode cX8_removeFolder 76 = .ok (.iload_n 2, 1) := by decide +kernel
theorem dX8_removeFolder_77 : decode cX8_removeFolder 77 = .ok (.invokevirtual 251, 3) := by decide +kernel
theorem dX8_removeFolder_80 : decode cX8_removeFolder 80 = .ok (.aload_n 0, 1) := by decide +kernel
theorem dX8_removeFolder_81 : decode cX8_removeFolder 81 = .ok (.bipush 109, 2) := by decide +kernel
theorem dX8_removeFolder_83 : decode cX8_removeFolder 83 = .ok (.iload_n 1, 1) := by decide +kernel
theorem dX8_removeFolder_84 : decode cX8_removeFolder 84 = .ok (.iload_n 2, 1) := by decide +kernel
theorem dX8_removeFolder_85 : decode cX8_removeFolder 85 = .ok (.invokevirtual 251, 3) := by decide +kernel
theorem dX8_removeFolder_88 : decode cX8_removeFolder 88 = .ok (.aload_n 0, 1) := by decide +kernel
theorem dX8_removeFolder_89 : decode cX8_removeFolder 89 = .ok (.sipush 149, 3) := by decide +kernel
theorem dX8_removeFolder_92 : decode cX8_removeFolder 92 = .ok (.iload_n 1, 1) := by decide +kernel
theorem dX8_removeFolder_93 : decode cX8_removeFolder 93 = .ok (.iload_n 2, 1) := by decide +kernel
theorem dX8_removeFolder_94 : decode cX8_removeFolder 94 = .ok (.invokevirtual 251, 3) := by decide +kernel
theorem dX8_removeFolder_97 : decode cX8_removeFolder 97 = .ok (.iconst 0, 1) := by decide +kernel
theorem dX8_removeFolder_98 : decode cX8_removeFolder 98 = .ok (.istore_n 3, 1) := by decide +kernel
theorem dX8_removeFolder_99 : decode cX8_removeFolder 99 = .ok (.iload_n 3, 1) := by decide +kernel
theorem dX8_removeFolder_100 : decode cX8_removeFolder 100 = .ok (.iload_n 2, 1) := by decide +kernel
theorem dX8_removeFolder_101 : decode cX8_removeFolder 101 = .ok (.if_icmp .ge 41, 3) := by decide +kernel
theorem dX8_removeFolder_104 : decode cX8_removeFolder 104 = .ok (.aload_n 0, 1) := by decide +kernel
theorem dX8_removeFolder_105 : decode cX8_removeFolder 105 = .ok (.getfield 7, 3) := by decide +kernel
theorem dX8_removeFolder_108 : decode cX8_removeFolder 108 = .ok (.bipush 69, 2) := by decide +kernel
theorem dX8_removeFolder_110 : decode cX8_removeFolder 110 = .ok (.iload_n 3, 1) := by decide +kernel
theorem dX8_removeFolder_111 : decode cX8_removeFolder 111 = .ok (.iadd, 1) := by decide +kernel
theorem dX8_removeFolder_112 : decode cX8_removeFolder 112 = .ok (.dup2, 1) := by decide +kernel
theorem dX8_removeFolder_113 : decode cX8_removeFolder 113 = .ok (.laload, 1) := by decide +kernel
theorem dX8_removeFolder_114 : decode cX8_removeFolder 114 = .ok (.aload_n 0, 1) := by decide +kernel
theorem dX8_removeFolder_115 : decode cX8_removeFolder 115 = .ok (.getfield 7, 3) := by decide +kernel
theorem dX8_removeFolder_118 : decode cX8_removeFolder 118 = .ok (.bipush 69, 2) := by decide +kernel
theorem dX8_removeFolder_120 : decode cX8_removeFolder 120 = .ok (.iload_n 3, 1) := by decide +kernel
theorem dX8_removeFolder_121 : decode cX8_removeFolder 121 = .ok (.iadd, 1) := by decide +kernel
theorem dX8_removeFolder_122 : decode cX8_removeFolder 122 = .ok (.laload, 1) := by decide +kernel
theorem dX8_removeFolder_123 : decode cX8_removeFolder 123 = .ok (.iload_n 1, 1) := by decide +kernel
theorem dX8_removeFolder_124 : decode cX8_removeFolder 124 = .ok (.i2l, 1) := by decide +kernel
theorem dX8_removeFolder_125 : decode cX8_removeFolder 125 = .ok (.lcmp, 1) := by decide +kernel
theorem dX8_removeFolder_126 : decode cX8_removeFolder 126 = .ok (.ifCond .le 7, 3) := by decide +kernel
theorem dX8_removeFolder_129 : decode cX8_removeFolder 129 = .ok (.lconst 1, 1) := by decide +kernel
theorem dX8_removeFolder_130 : decode cX8_removeFolder 130 = .ok (.goto 4, 3) := by decide +kernel
theorem dX8_removeFolder_133 : decode cX8_removeFolder 133 = .ok (.lconst 0, 1) := by decide +kernel
theorem dX8_removeFolder_134 : decode cX8_removeFolder 134 = .ok (.lsub, 1) := by decide +kernel
theorem dX8_removeFolder_135 : decode cX8_removeFolder 135 = .ok (.lastore, 1) := by decide +kernel
theorem dX8_removeFolder_136 : decode cX8_removeFolder 136 = .ok (.iinc 3 1, 3) := by decide +kernel
theorem dX8_removeFolder_139 : decode cX8_removeFolder 139 = .ok (.goto (-40), 3) := by decide +kernel
theorem dX8_removeFolder_142 : decode cX8_removeFolder 142 = .ok (.iconst 0, 1) := by decide +kernel
theorem dX8_removeFolder_143 : decode cX8_removeFolder 143 = .ok (.istore_n 3, 1) := by decide +kernel
theorem dX8_removeFolder_144 : decode cX8_removeFolder 144 = .ok (.iload_n 3, 1) := by decide +kernel
theorem dX8_removeFolder_145 : decode cX8_removeFolder 145 = .ok (.i2l, 1) := by decide +kernel
theorem dX8_removeFolder_146 : decode cX8_removeFolder 146 = .ok (.aload_n 0, 1) := by decide +kernel
theorem dX8_removeFolder_147 : decode cX8_removeFolder 147 = .ok (.getfield 7, 3) := by decide +kernel
theorem dX8_removeFolder_150 : decode cX8_removeFolder 150 = .ok (.iconst 3, 1) := by decide +kernel
theorem dX8_removeFolder_151 : decode cX8_removeFolder 151 = .ok (.laload, 1) := by decide +kernel
theorem dX8_removeFolder_152 : decode cX8_removeFolder 152 = .ok (.lcmp, 1) := by decide +kernel
theorem dX8_removeFolder_153 : decode cX8_removeFolder 153 = .ok (.ifCond .ge 43, 3) := by decide +kernel
theorem dX8_removeFolder_156 : decode cX8_removeFolder 156 = .ok (.aload_n 0, 1) := by decide +kernel
theorem dX8_removeFolder_157 : decode cX8_removeFolder 157 = .ok (.getfield 7, 3) := by decide +kernel
theorem dX8_removeFolder_160 : decode cX8_removeFolder 160 = .ok (.sipush 189, 3) := by decide +kernel
theorem dX8_removeFolder_163 : decode cX8_removeFolder 163 = .ok (.iload_n 3, 1) := by decide +kernel
theorem dX8_removeFolder_164 : decode cX8_removeFolder 164 = .ok (.iadd, 1) := by decide +kernel
theorem dX8_removeFolder_165 : decode cX8_removeFolder 165 = .ok (.dup2, 1) := by decide +kernel
theorem dX8_removeFolder_166 : decode cX8_removeFolder 166 = .ok (.laload, 1) := by decide +kernel
theorem dX8_removeFolder_167 : decode cX8_removeFolder 167 = .ok (.aload_n 0, 1) := by decide +kernel
theorem dX8_removeFolder_168 : decode cX8_removeFolder 168 = .ok (.getfield 7, 3) := by decide +kernel
theorem dX8_removeFolder_171 : decode cX8_removeFolder 171 = .ok (.sipush 189, 3) := by decide +kernel
theorem dX8_removeFolder_174 : decode cX8_removeFolder 174 = .ok (.iload_n 3, 1) := by decide +kernel
theorem dX8_removeFolder_175 : decode cX8_removeFolder 175 = .ok (.iadd, 1) := by decide +kernel
theorem dX8_removeFolder_176 : decode cX8_removeFolder 176 = .ok (.laload, 1) := by decide +kernel
theorem dX8_removeFolder_177 : decode cX8_removeFolder 177 = .ok (.iload_n 1, 1) := by decide +kernel
theorem dX8_removeFolder_178 : decode cX8_removeFolder 178 = .ok (.i2l, 1) := by decide +kernel
theorem dX8_removeFolder_179 : decode cX8_removeFolder 179 = .ok (.lcmp, 1) := by decide +kernel
theorem dX8_removeFolder_180 : decode cX8_removeFolder 180 = .ok (.ifCond .le 7, 3) := by decide +kernel
theorem dX8_removeFolder_183 : decode cX8_removeFolder 183 = .ok (.lconst 1, 1) := by decide +kernel
theorem dX8_removeFolder_184 : decode cX8_removeFolder 184 = .ok (.goto 4, 3) := by decide +kernel
theorem dX8_removeFolder_187 : decode cX8_removeFolder 187 = .ok (.lconst 0, 1) := by decide +kernel
theorem dX8_removeFolder_188 : decode cX8_removeFolder 188 = .ok (.lsub, 1) := by decide +kernel
theorem dX8_removeFolder_189 : decode cX8_removeFolder 189 = .ok (.lastore, 1) := by decide +kernel
theorem dX8_removeFolder_190 : decode cX8_removeFolder 190 = .ok (.iinc 3 1, 3) := by decide +kernel
theorem dX8_removeFolder_193 : decode cX8_removeFolder 193 = .ok (.goto (-49), 3) := by decide +kernel
theorem dX8_removeFolder_196 : decode cX8_removeFolder 196 = .ok (.aload_n 0, 1) := by decide +kernel
theorem dX8_removeFolder_197 : decode cX8_removeFolder 197 = .ok (.invokevirtual 186, 3) := by decide +kernel
theorem dX8_removeFolder_200 : decode cX8_removeFolder 200 = .ok (.iload_n 2, 1) := by decide +kernel
theorem dX8_removeFolder_201 : decode cX8_removeFolder 201 = .ok (.ireturn, 1) := by decide +kernel
theorem dX8_place_0 : decode cX8_place 0 = .ok (.iconst 2, 1) := by decide +kernel
theorem dX8_place_1 : decode cX8_place 1 = .ok (.iload_n 0, 1) := by decide +kernel
theorem dX8_place_2 : decode cX8_place 2 = .ok (.imul, 1) := by decide +kernel
theorem dX8_place_3 : decode cX8_place 3 = .ok (.iload_n 1, 1) := by decide +kernel
theorem dX8_place_4 : decode cX8_place 4 = .ok (.iadd, 1) := by decide +kernel
theorem dX8_place_5 : decode cX8_place 5 = .ok (.ireturn, 1) := by decide +kernel
theorem dX8_giftsOf_0 : decode cX8_giftsOf 0 = .ok (.lconst 0, 1) := by decide +kernel
theorem dX8_giftsOf_1 : decode cX8_giftsOf 1 = .ok (.lstore_n 2, 1) := by decide +kernel
theorem dX8_giftsOf_2 : decode cX8_giftsOf 2 = .ok (.iconst 0, 1) := by decide +kernel
theorem dX8_giftsOf_3 : decode cX8_giftsOf 3 = .ok (.istore 4, 2) := by decide +kernel
theorem dX8_giftsOf_5 : decode cX8_giftsOf 5 = .ok (.iload 4, 2) := by decide +kernel
theorem dX8_giftsOf_7 : decode cX8_giftsOf 7 = .ok (.i2l, 1) := by decide +kernel
theorem dX8_giftsOf_8 : decode cX8_giftsOf 8 = .ok (.aload_n 0, 1) := by decide +kernel
theorem dX8_giftsOf_9 : decode cX8_giftsOf 9 = .ok (.getfield 7, 3) := by decide +kernel
theorem dX8_giftsOf_12 : decode cX8_giftsOf 12 = .ok (.iconst 4, 1) := by decide +kernel
theorem dX8_giftsOf_13 : decode cX8_giftsOf 13 = .ok (.laload, 1) := by decide +kernel
theorem dX8_giftsOf_14 : decode cX8_giftsOf 14 = .ok (.lcmp, 1) := by decide +kernel
theorem dX8_giftsOf_15 : decode cX8_giftsOf 15 = .ok (.ifCond .ge 81, 3) := by decide +kernel
theorem dX8_giftsOf_18 : decode cX8_giftsOf 18 = .ok (.sipush 309, 3) := by decide +kernel
theorem dX8_giftsOf_21 : decode cX8_giftsOf 21 = .ok (.iconst 4, 1) := by decide +kernel
theorem dX8_giftsOf_22 : decode cX8_giftsOf 22 = .ok (.iload 4, 2) := by decide +kernel
theorem dX8_giftsOf_24 : decode cX8_giftsOf 24 = .ok (.imul, 1) := by decide +kernel
theorem dX8_giftsOf_25 : decode cX8_giftsOf 25 = .ok (.iadd, 1) := by decide +kernel
theorem dX8_giftsOf_26 : decode cX8_giftsOf 26 = .ok (.istore 5, 2) := by decide +kernel
theorem dX8_giftsOf_28 : decode cX8_giftsOf 28 = .ok (.lload_n 2, 1) := by decide +kernel
theorem dX8_giftsOf_29 : decode cX8_giftsOf 29 = .ok (.aload_n 0, 1) := by decide +kernel
theorem dX8_giftsOf_30 : decode cX8_giftsOf 30 = .ok (.getfield 7, 3) := by decide +kernel
theorem dX8_giftsOf_33 : decode cX8_giftsOf 33 = .ok (.iload 5, 2) := by decide +kernel
theorem dX8_giftsOf_35 : decode cX8_giftsOf 35 = .ok (.iconst 1, 1) := by decide +kernel
theorem dX8_giftsOf_36 : decode cX8_giftsOf 36 = .ok (.iadd, 1) := by decide +kernel
theorem dX8_giftsOf_37 : decode cX8_giftsOf 37 = .ok (.laload, 1) := by decide +kernel
theorem dX8_giftsOf_38 : decode cX8_giftsOf 38 = .ok (.iload_n 1, 1) := by decide +kernel
theorem dX8_giftsOf_39 : decode cX8_giftsOf 39 = .ok (.i2l, 1) := by decide +kernel
theorem dX8_giftsOf_40 : decode cX8_giftsOf 40 = .ok (.lcmp, 1) := by decide +kernel
theorem dX8_giftsOf_41 : decode cX8_giftsOf 41 = .ok (.ifCond .ne 15, 3) := by decide +kernel
theorem dX8_giftsOf_44 : decode cX8_giftsOf 44 = .ok (.aload_n 0, 1) := by decide +kernel
theorem dX8_giftsOf_45 : decode cX8_giftsOf 45 = .ok (.getfield 7, 3) := by decide +kernel
theorem dX8_giftsOf_48 : decode cX8_giftsOf 48 = .ok (.iload 5, 2) := by decide +kernel
theorem dX8_giftsOf_50 : decode cX8_giftsOf 50 = .ok (.iconst 2, 1) := by decide +kernel
theorem dX8_giftsOf_51 : decode cX8_giftsOf 51 = .ok (.iadd, 1) := by decide +kernel
theorem dX8_giftsOf_52 : decode cX8_giftsOf 52 = .ok (.laload, 1) := by decide +kernel
theorem dX8_giftsOf_53 : decode cX8_giftsOf 53 = .ok (.goto 4, 3) := by decide +kernel
theorem dX8_giftsOf_56 : decode cX8_giftsOf 56 = .ok (.lconst 0, 1) := by decide +kernel
theorem dX8_giftsOf_57 : decode cX8_giftsOf 57 = .ok (.ladd, 1) := by decide +kernel
theorem dX8_giftsOf_58 : decode cX8_giftsOf 58 = .ok (.lstore_n 2, 1) := by decide +kernel
theorem dX8_giftsOf_59 : decode cX8_giftsOf 59 = .ok (.lload_n 2, 1) := by decide +kernel
theorem dX8_giftsOf_60 : decode cX8_giftsOf 60 = .ok (.aload_n 0, 1) := by decide +kernel
theorem dX8_giftsOf_61 : decode cX8_giftsOf 61 = .ok (.getfield 7, 3) := by decide +kernel
theorem dX8_giftsOf_64 : decode cX8_giftsOf 64 = .ok (.iload 5, 2) := by decide +kernel
theorem dX8_giftsOf_66 : decode cX8_giftsOf 66 = .ok (.iconst 0, 1) := by decide +kernel
theorem dX8_giftsOf_67 : decode cX8_giftsOf 67 = .ok (.iadd, 1) := by decide +kernel
theorem dX8_giftsOf_68 : decode cX8_giftsOf 68 = .ok (.laload, 1) := by decide +kernel
theorem dX8_giftsOf_69 : decode cX8_giftsOf 69 = .ok (.iload_n 1, 1) := by decide +kernel
theorem dX8_giftsOf_70 : decode cX8_giftsOf 70 = .ok (.i2l, 1) := by decide +kernel
theorem dX8_giftsOf_71 : decode cX8_giftsOf 71 = .ok (.lcmp, 1) := by decide +kernel
theorem dX8_giftsOf_72 : decode cX8_giftsOf 72 = .ok (.ifCond .ne 15, 3) := by decide +kernel
theorem dX8_giftsOf_75 : decode cX8_giftsOf 75 = .ok (.aload_n 0, 1) := by decide +kernel
theorem dX8_giftsOf_76 : decode cX8_giftsOf 76 = .ok (.getfield 7, 3) := by decide +kernel
theorem dX8_giftsOf_79 : decode cX8_giftsOf 79 = .ok (.iload 5, 2) := by decide +kernel
theorem dX8_giftsOf_81 : decode cX8_giftsOf 81 = .ok (.iconst 2, 1) := by decide +kernel
theorem dX8_giftsOf_82 : decode cX8_giftsOf 82 = .ok (.iadd, 1) := by decide +kernel
theorem dX8_giftsOf_83 : decode cX8_giftsOf 83 = .ok (.laload, 1) := by decide +kernel
theorem dX8_giftsOf_84 : decode cX8_giftsOf 84 = .ok (.goto 4, 3) := by decide +kernel
theorem dX8_giftsOf_87 : decode cX8_giftsOf 87 = .ok (.lconst 0, 1) := by decide +kernel
theorem dX8_giftsOf_88 : decode cX8_giftsOf 88 = .ok (.lsub, 1) := by decide +kernel
theorem dX8_giftsOf_89 : decode cX8_giftsOf 89 = .ok (.lstore_n 2, 1) := by decide +kernel
theorem dX8_giftsOf_90 : decode cX8_giftsOf 90 = .ok (.iinc 4 1, 3) := by decide +kernel
theorem dX8_giftsOf_93 : decode cX8_giftsOf 93 = .ok (.goto (-88), 3) := by decide +kernel
theorem dX8_giftsOf_96 : decode cX8_giftsOf 96 = .ok (.lload_n 2, 1) := by decide +kernel
theorem dX8_giftsOf_97 : decode cX8_giftsOf 97 = .ok (.lreturn, 1) := by decide +kernel
set_option maxRecDepth 20000 in
theorem ggX8_limitOf_X8_place : GoodIn wsX8_limitOf wsX8_place := goodIn_r _ [6] (by decide +kernel) (by decide +kernel)
set_option maxRecDepth 20000 in
theorem gX8_limitOf_X8_place : GoodIn wsX8_limitOf (va_wsS RX8 255 yX8_place wsX8_place) := goodIn_app (goodIn_of _ (by decide +kernel)) ggX8_limitOf_X8_place
set_option maxRecDepth 20000 in
theorem ggX8_limitOf_X8_giftsOf : GoodIn wsX8_limitOf wsX8_giftsOf := goodIn_r _ [10, 1, 14, 15, 16, 17, 18, 19, 20, 21, 22, 23, 24, 25, 26, 27, 28, 29, 30, 31] (by decide +kernel) (by decide +kernel)
set_option maxRecDepth 20000 in
theorem gX8_limitOf_X8_giftsOf : GoodIn wsX8_limitOf (wsV RX8 258 RX8 yX8_giftsOf wsX8_giftsOf) := goodIn_app (goodIn_of _ (by decide +kernel)) ggX8_limitOf_X8_giftsOf
set_option maxRecDepth 20000 in
theorem ggX8_limitOf_X8_greater : GoodIn wsX8_limitOf wsX8_greater := goodIn_r _ [13] (by decide +kernel) (by decide +kernel)
set_option maxRecDepth 20000 in
theorem gX8_limitOf_X8_greater : GoodIn wsX8_limitOf (va_wsS RX8 262 yX8_greater wsX8_greater) := goodIn_app (goodIn_of _ (by decide +kernel)) ggX8_limitOf_X8_greater
theorem dX8_limitOf_0 : decode cX8_limitOf 0 = .ok (.aload_n 0, 1) := by decide +kernel
theorem dX8_limitOf_1 : decode cX8_limitOf 1 = .ok (.getfield 7, 3) := by decide +kernel
theorem dX8_limitOf_4 : decode cX8_limitOf 4 = .ok (.iload_n 3, 1) := by decide +kernel
theorem dX8_limitOf_5 : decode cX8_limitOf 5 = .ok (.ifCond .eq 8, 3) := by decide +kernel
theorem dX8_limitOf_8 : decode cX8_limitOf 8 = .ok (.bipush 21, 2) := by decide +kernel
theorem dX8_limitOf_10 : decode cX8_limitOf 10 = .ok (.goto 4, 3) := by decide +kernel
theorem dX8_limitOf_13 : decode cX8_limitOf 13 = .ok (.iconst 5, 1) := by decide +kernel
theorem dX8_limitOf_14 : decode cX8_limitOf 14 = .ok (.iload_n 1, 1) := by decide +kernel
theorem dX8_limitOf_15 : decode cX8_limitOf 15 = .ok (.iload_n 2, 1) := by decide +kernel
theorem dX8_limitOf_16 : decode cX8_limitOf 16 = .ok (.invokestatic 255, 3) := by decide +kernel
theorem dX8_limitOf_19 : decode cX8_limitOf 19 = .ok (.iadd, 1) := by decide +kernel
theorem dX8_limitOf_20 : decode cX8_limitOf 20 = .ok (.laload, 1) := by decide +kernel
theorem dX8_limitOf_21 : decode cX8_limitOf 21 = .ok (.lstore 4, 2) := by decide +kernel
theorem dX8_limitOf_23 : decode cX8_limitOf 23 = .ok (.lload 4, 2) := by decide +kernel
theorem dX8_limitOf_25 : decode cX8_limitOf 25 = .ok (.lconst 0, 1) := by decide +kernel
theorem dX8_limitOf_26 : decode cX8_limitOf 26 = .ok (.lcmp, 1) := by decide +kernel
theorem dX8_limitOf_27 : decode cX8_limitOf 27 = .ok (.ifCond .ne 9, 3) := by decide +kernel
theorem dX8_limitOf_30 : decode cX8_limitOf 30 = .ok (.ldc2_w 37, 3) := by decide +kernel
theorem dX8_limitOf_33 : decode cX8_limitOf 33 = .ok (.goto 25, 3) := by decide +kernel
theorem dX8_limitOf_36 : decode cX8_limitOf 36 = .ok (.iload_n 2, 1) := by decide +kernel
theorem dX8_limitOf_37 : decode cX8_limitOf 37 = .ok (.iconst 1, 1) := by decide +kernel
theorem dX8_limitOf_38 : decode cX8_limitOf 38 = .ok (.if_icmp .ne 8, 3) := by decide +kernel
theorem dX8_limitOf_41 : decode cX8_limitOf 41 = .ok (.lload 4, 2) := by decide +kernel
theorem dX8_limitOf_43 : decode cX8_limitOf 43 = .ok (.goto 15, 3) := by decide +kernel
theorem dX8_limitOf_46 : decode cX8_limitOf 46 = .ok (.lconst 0, 1) := by decide +kernel
theorem dX8_limitOf_47 : decode cX8_limitOf 47 = .ok (.lload 4, 2) := by decide +kernel
theorem dX8_limitOf_49 : decode cX8_limitOf 49 = .ok (.aload_n 0, 1) := by decide +kernel
theorem dX8_limitOf_50 : decode cX8_limitOf 50 = .ok (.iload_n 1, 1) := by decide +kernel
theorem dX8_limitOf_51 : decode cX8_limitOf 51 = .ok (.invokevirtual 258, 3) := by decide +kernel
theorem dX8_limitOf_54 : decode cX8_limitOf 54 = .ok (.ladd, 1) := by decide +kernel
theorem dX8_limitOf_55 : decode cX8_limitOf 55 = .ok (.invokestatic 262, 3) := by decide +kernel
theorem dX8_limitOf_58 : decode cX8_limitOf 58 = .ok (.lreturn, 1) := by decide +kernel
set_option maxRecDepth 20000 in
theorem ggX8_usedOf_X8_place : GoodIn wsX8_usedOf wsX8_place := goodIn_r _ [5] (by decide +kernel) (by decide +kernel)
set_option maxRecDepth 20000 in
theorem gX8_usedOf_X8_place : GoodIn wsX8_usedOf (va_wsS RX8 255 yX8_place wsX8_place) := goodIn_app (goodIn_of _ (by decide +kernel)) ggX8_usedOf_X8_place
theorem dX8_usedOf_0 : decode cX8_usedOf 0 = .ok (.aload_n 0, 1) := by decide +kernel
theorem dX8_usedOf_1 : decode cX8_usedOf 1 = .ok (.getfield 7, 3) := by decide +kernel
theorem dX8_usedOf_4 : decode cX8_usedOf 4 = .ok (.bipush 37, 2) := by decide +kernel
theorem dX8_usedOf_6 : decode cX8_usedOf 6 = .ok (.iload_n 1, 1) := by decide +kernel
theorem dX8_usedOf_7 : decode cX8_usedOf 7 = .ok (.iload_n 2, 1) := by decide +kernel
theorem dX8_usedOf_8 : decode cX8_usedOf 8 = .ok (.invokestatic 255, 3) := by decide +kernel
theorem dX8_usedOf_11 : decode cX8_usedOf 11 = .ok (.iadd, 1) := by decide +kernel
theorem dX8_usedOf_12 : decode cX8_usedOf 12 = .ok (.laload, 1) := by decide +kernel
theorem dX8_usedOf_13 : decode cX8_usedOf 13 = .ok (.lreturn, 1) := by decide +kernel
set_option maxRecDepth 20000 in
theorem ggX8_setsClocks_X8_limitOf : GoodIn wsX8_setsClocks wsX8_limitOf := goodIn_r _ [7, 2, 1, 8, 9, 6, 10, 11, 12, 13, 14, 15, 16, 17, 18, 19, 20, 21, 22, 23, 24, 25, 26, 27, 28, 29, 30, 31, 32, 33, 34, 35] (by decide +kernel) (by decide +kernel)
set_option maxRecDepth 20000 in
theorem gX8_setsClocks_X8_limitOf : GoodIn wsX8_setsClocks (wsV RX8 266 RX8 yX8_limitOf wsX8_limitOf) := goodIn_app (goodIn_of _ (by decide +kernel)) ggX8_setsClocks_X8_limitOf
theorem dX8_setsClocks_0 : decode cX8_setsClocks 0 = .ok (.iconst 0, 1) := by decide +kernel
theorem dX8_setsClocks_1 : decode cX8_setsClocks 1 = .ok (.istore_n 1, 1) := by decide +kernel
theorem dX8_setsClocks_2 : decode cX8_setsClocks 2 = .ok (.iload_n 1, 1) := by decide +kernel
theorem dX8_setsClocks_3 : decode cX8_setsClocks 3 = .ok (.bipush 16, 2) := by decide +kernel
theorem dX8_setsClocks_5 : decode cX8_setsClocks 5 = .ok (.if_icmp .ge 104, 3) := by decide +kernel
theorem dX8_setsClocks_8 : decode cX8_setsClocks 8 = .ok (.aload_n 0, 1) := by decide +kernel
theorem dX8_setsClocks_9 : decode cX8_setsClocks 9 = .ok (.iload_n 1, 1) := by decide +kernel
theorem dX8_setsClocks_10 : decode cX8_setsClocks 10 = .ok (.iconst 2, 1) := by decide +kernel
theorem dX8_setsClocks_11 : decode cX8_setsClocks 11 = .ok (.idiv, 1) := by decide +kernel
theorem dX8_setsClocks_12 : decode cX8_setsClocks 12 = .ok (.iload_n 1, 1) := by decide +kernel
theorem dX8_setsClocks_13 : decode cX8_setsClocks 13 = .ok (.iconst 2, 1) := by decide +kernel
theorem dX8_setsClocks_14 : decode cX8_setsClocks 14 = .ok (.irem, 1) := by decide +kernel
theorem dX8_setsClocks_15 : decode cX8_setsClocks 15 = .ok (.iconst 0, 1) := by decide +kernel
theorem dX8_setsClocks_16 : decode cX8_setsClocks 16 = .ok (.invokevirtual 266, 3) := by decide +kernel
theorem dX8_setsClocks_19 : decode cX8_setsClocks 19 = .ok (.lstore_n 2, 1) := by decide +kernel
theorem dX8_setsClocks_20 : decode cX8_setsClocks 20 = .ok (.lload_n 2, 1) := by decide +kernel
theorem dX8_setsClocks_21 : decode cX8_setsClocks 21 = .ok (.ldc2_w 37, 3) := by decide +kernel
theorem dX8_setsClocks_24 : decode cX8_setsClocks 24 = .ok (.lcmp, 1) := by decide +kernel
theorem dX8_setsClocks_25 : decode cX8_setsClocks 25 = .ok (.ifCond .eq 21, 3) := by decide +kernel
theorem dX8_setsClocks_28 : decode cX8_setsClocks 28 = .ok (.aload_n 0, 1) := by decide +kernel
theorem dX8_setsClocks_29 : decode cX8_setsClocks 29 = .ok (.getfield 7, 3) := by decide +kernel
theorem dX8_setsClocks_32 : decode cX8_setsClocks 32 = .ok (.bipush 37, 2) := by decide +kernel
theorem dX8_setsClocks_34 : decode cX8_setsClocks 34 = .ok (.iload_n 1, 1) := by decide +kernel
theorem dX8_setsClocks_35 : decode cX8_setsClocks 35 = .ok (.iadd, 1) := by decide +kernel
theorem dX8_setsClocks_36 : decode cX8_setsClocks 36 = .ok (.laload, 1) := by decide +kernel
theorem dX8_setsClocks_37 : decode cX8_setsClocks 37 = .ok (.lload_n 2, 1) := by decide +kernel
theorem dX8_setsClocks_38 : decode cX8_setsClocks 38 = .ok (.lcmp, 1) := by decide +kernel
theorem dX8_setsClocks_39 : decode cX8_setsClocks 39 = .ok (.ifCond .le 7, 3) := by decide +kernel
theorem dX8_setsClocks_42 : decode cX8_setsClocks 42 = .ok (.iconst 1, 1) := by decide +kernel
theorem dX8_setsClocks_43 : decode cX8_setsClocks 43 = .ok (.goto 4, 3) := by decide +kernel
theorem dX8_setsClocks_46 : decode cX8_setsClocks 46 = .ok (.iconst 0, 1) := by decide +kernel
theorem dX8_setsClocks_47 : decode cX8_setsClocks 47 = .ok (.istore 4, 2) := by decide +kernel
theorem dX8_setsClocks_49 : decode cX8_setsClocks 49 = .ok (.aload_n 0, 1) := by decide +kernel
theorem dX8_setsClocks_50 : decode cX8_setsClocks 50 = .ok (.getfield 7, 3) := by decide +kernel
theorem dX8_setsClocks_53 : decode cX8_setsClocks 53 = .ok (.bipush 53, 2) := by decide +kernel
theorem dX8_setsClocks_55 : decode cX8_setsClocks 55 = .ok (.iload_n 1, 1) := by decide +kernel
theorem dX8_setsClocks_56 : decode cX8_setsClocks 56 = .ok (.iadd, 1) := by decide +kernel
theorem dX8_setsClocks_57 : decode cX8_setsClocks 57 = .ok (.iload 4, 2) := by decide +kernel
theorem dX8_setsClocks_59 : decode cX8_setsClocks 59 = .ok (.ifCond .ne 9, 3) := by decide +kernel
theorem dX8_setsClocks_62 : decode cX8_setsClocks 62 = .ok (.ldc2_w 37, 3) := by decide +kernel
theorem dX8_setsClocks_65 : decode cX8_setsClocks 65 = .ok (.goto 37, 3) := by decide +kernel
theorem dX8_setsClocks_68 : decode cX8_setsClocks 68 = .ok (.aload_n 0, 1) := by decide +kernel
theorem dX8_setsClocks_69 : decode cX8_setsClocks 69 = .ok (.getfield 7, 3) := by decide +kernel
theorem dX8_setsClocks_72 : decode cX8_setsClocks 72 = .ok (.bipush 53, 2) := by decide +kernel
theorem dX8_setsClocks_74 : decode cX8_setsClocks 74 = .ok (.iload_n 1, 1) := by decide +kernel
theorem dX8_setsClocks_75 : decode cX8_setsClocks 75 = .ok (.iadd, 1) := by decide +kernel
theorem dX8_setsClocks_76 : decode cX8_setsClocks 76 = .ok (.laload, 1) := by decide +kernel
theorem dX8_setsClocks_77 : decode cX8_setsClocks 77 = .ok (.ldc2_w 37, 3) := by decide +kernel
theorem dX8_setsClocks_80 : decode cX8_setsClocks 80 = .ok (.lcmp, 1) := by decide +kernel
theorem dX8_setsClocks_81 : decode cX8_setsClocks 81 = .ok (.ifCond .ne 12, 3) := by decide +kernel
theorem dX8_setsClocks_84 : decode cX8_setsClocks 84 = .ok (.aload_n 0, 1) := by decide +kernel
theorem dX8_setsClocks_85 : decode cX8_setsClocks 85 = .ok (.getfield 7, 3) := by decide +kernel
theorem dX8_setsClocks_88 : decode cX8_setsClocks 88 = .ok (.iconst 0, 1) := by decide +kernel
theorem dX8_setsClocks_89 : decode cX8_setsClocks 89 = .ok (.laload, 1) := by decide +kernel
theorem dX8_setsClocks_90 : decode cX8_setsClocks 90 = .ok (.goto 12, 3) := by decide +kernel
theorem dX8_setsClocks_93 : decode cX8_setsClocks 93 = .ok (.aload_n 0, 1) := by decide +kernel
theorem dX8_setsClocks_94 : decode cX8_setsClocks 94 = .ok (.getfield 7, 3) := by decide +kernel
theorem dX8_setsClocks_97 : decode cX8_setsClocks 97 = .ok (.bipush 53, 2) := by decide +kernel
theorem dX8_setsClocks_99 : decode cX8_setsClocks 99 = .ok (.iload_n 1, 1) := by decide +kernel
theorem dX8_setsClocks_100 : decode cX8_setsClocks 100 = .ok (.iadd, 1) := by decide +kernel
theorem dX8_setsClocks_101 : decode cX8_setsClocks 101 = .ok (.laload, 1) := by decide +kernel
theorem dX8_setsClocks_102 : decode cX8_setsClocks 102 = .ok (.lastore, 1) := by decide +kernel
theorem dX8_setsClocks_103 : decode cX8_setsClocks 103 = .ok (.iinc 1 1, 3) := by decide +kernel
theorem dX8_setsClocks_106 : decode cX8_setsClocks 106 = .ok (.goto (-104), 3) := by decide +kernel
theorem dX8_setsClocks_109 : decode cX8_setsClocks 109 = .ok (.return_, 1) := by decide +kernel
set_option maxRecDepth 20000 in
theorem ggX8_doesRun_X8_place : GoodIn wsX8_doesRun wsX8_place := goodIn_r _ [6] (by decide +kernel) (by decide +kernel)
set_option maxRecDepth 20000 in
theorem gX8_doesRun_X8_place : GoodIn wsX8_doesRun (va_wsS RX8 255 yX8_place wsX8_place) := goodIn_app (goodIn_of _ (by decide +kernel)) ggX8_doesRun_X8_place
theorem dX8_doesRun_0 : decode cX8_doesRun 0 = .ok (.aload_n 0, 1) := by decide +kernel
theorem dX8_doesRun_1 : decode cX8_doesRun 1 = .ok (.getfield 7, 3) := by decide +kernel
theorem dX8_doesRun_4 : decode cX8_doesRun 4 = .ok (.bipush 53, 2) := by decide +kernel
theorem dX8_doesRun_6 : decode cX8_doesRun 6 = .ok (.iload_n 1, 1) := by decide +kernel
theorem dX8_doesRun_7 : decode cX8_doesRun 7 = .ok (.iload_n 2, 1) := by decide +kernel
theorem dX8_doesRun_8 : decode cX8_doesRun 8 = .ok (.invokestatic 255, 3) := by decide +kernel
theorem dX8_doesRun_11 : decode cX8_doesRun 11 = .ok (.iadd, 1) := by decide +kernel
theorem dX8_doesRun_12 : decode cX8_doesRun 12 = .ok (.laload, 1) := by decide +kernel
theorem dX8_doesRun_13 : decode cX8_doesRun 13 = .ok (.ldc2_w 37, 3) := by decide +kernel
theorem dX8_doesRun_16 : decode cX8_doesRun 16 = .ok (.lcmp, 1) := by decide +kernel
theorem dX8_doesRun_17 : decode cX8_doesRun 17 = .ok (.ifCond .eq 7, 3) := by decide +kernel
theorem dX8_doesRun_20 : decode cX8_doesRun 20 = .ok (.iconst 1, 1) := by decide +kernel
theorem dX8_doesRun_21 : decode cX8_doesRun 21 = .ok (.goto 4, 3) := by decide +kernel
theorem dX8_doesRun_24 : decode cX8_doesRun 24 = .ok (.iconst 0, 1) := by decide +kernel
theorem dX8_doesRun_25 : decode cX8_doesRun 25 = .ok (.ireturn, 1) := by decide +kernel
set_option maxRecDepth 20000 in
theorem ggX8_isOver_X8_doesRun : GoodIn wsX8_isOver wsX8_doesRun := goodIn_r _ [6, 1, 7, 8, 9, 5, 10, 11, 12, 13, 14, 15, 16, 17, 18, 19, 20, 21, 22, 23, 24, 25, 26, 27, 28] (by decide +kernel) (by decide +kernel)
set_option maxRecDepth 20000 in
theorem gX8_isOver_X8_doesRun : GoodIn wsX8_isOver (wsV RX8 270 RX8 yX8_doesRun wsX8_doesRun) := goodIn_app (goodIn_of _ (by decide +kernel)) ggX8_isOver_X8_doesRun
set_option maxRecDepth 20000 in
theorem ggX8_isOver_X8_place : GoodIn wsX8_isOver wsX8_place := goodIn_r _ [10] (by decide +kernel) (by decide +kernel)
set_option maxRecDepth 20000 in
theorem gX8_isOver_X8_place : GoodIn wsX8_isOver (va_wsS RX8 255 yX8_place wsX8_place) := goodIn_app (goodIn_of _ (by decide +kernel)) ggX8_isOver_X8_place
theorem dX8_isOver_0 : decode cX8_isOver 0 = .ok (.aload_n 0, 1) := by decide +kernel
theorem dX8_isOver_1 : decode cX8_isOver 1 = .ok (.iload_n 1, 1) := by decide +kernel
theorem dX8_isOver_2 : decode cX8_isOver 2 = .ok (.iload_n 2, 1) := by decide +kernel
theorem dX8_isOver_3 : decode cX8_isOver 3 = .ok (.invokevirtual 270, 3) := by decide +kernel
theorem dX8_isOver_6 : decode cX8_isOver 6 = .ok (.ifCond .eq 37, 3) := by decide +kernel
theorem dX8_isOver_9 : decode cX8_isOver 9 = .ok (.aload_n 0, 1) := by decide +kernel
theorem dX8_isOver_10 : decode cX8_isOver 10 = .ok (.getfield 7, 3) := by decide +kernel
theorem dX8_isOver_13 : decode cX8_isOver 13 = .ok (.iconst 0, 1) := by decide +kernel
theorem dX8_isOver_14 : decode cX8_isOver 14 = .ok (.laload, 1) := by decide +kernel
theorem dX8_isOver_15 : decode cX8_isOver 15 = .ok (.aload_n 0, 1) := by decide +kernel
theorem dX8_isOver_16 : decode cX8_isOver 16 = .ok (.getfield 7, 3) := by decide +kernel
theorem dX8_isOver_19 : decode cX8_isOver 19 = .ok (.bipush 53, 2) := by decide +kernel
theorem dX8_isOver_21 : decode cX8_isOver 21 = .ok (.iload_n 1, 1) := by decide +kernel
theorem dX8_isOver_22 : decode cX8_isOver 22 = .ok (.iload_n 2, 1) := by decide +kernel
theorem dX8_isOver_23 : decode cX8_isOver 23 = .ok (.invokestatic 255, 3) := by decide +kernel
theorem dX8_isOver_26 : decode cX8_isOver 26 = .ok (.iadd, 1) := by decide +kernel
theorem dX8_isOver_27 : decode cX8_isOver 27 = .ok (.laload, 1) := by decide +kernel
theorem dX8_isOver_28 : decode cX8_isOver 28 = .ok (.lsub, 1) := by decide +kernel
theorem dX8_isOver_29 : decode cX8_isOver 29 = .ok (.aload_n 0, 1) := by decide +kernel
theorem dX8_isOver_30 : decode cX8_isOver 30 = .ok (.getfield 7, 3) := by decide +kernel
theorem dX8_isOver_33 : decode cX8_isOver 33 = .ok (.iconst 1, 1) := by decide +kernel
theorem dX8_isOver_34 : decode cX8_isOver 34 = .ok (.laload, 1) := by decide +kernel
theorem dX8_isOver_35 : decode cX8_isOver 35 = .ok (.lcmp, 1) := by decide +kernel
theorem dX8_isOver_36 : decode cX8_isOver 36 = .ok (.ifCond .lt 7, 3) := by decide +kernel
theorem dX8_isOver_39 : decode cX8_isOver 39 = .ok (.iconst 1, 1) := by decide +kernel
theorem dX8_isOver_40 : decode cX8_isOver 40 = .ok (.goto 4, 3) := by decide +kernel
theorem dX8_isOver_43 : decode cX8_isOver 43 = .ok (.iconst 0, 1) := by decide +kernel
theorem dX8_isOver_44 : decode cX8_isOver 44 = .ok (.ireturn, 1) := by decide +kernel
set_option maxRecDepth 20000 in
theorem ggX8_isTooMuch_X8_limitOf : GoodIn wsX8_isTooMuch wsX8_limitOf := goodIn_r _ [6, 7, 1, 8, 9, 5, 10, 11, 12, 13, 14, 15, 16, 17, 22, 23, 24, 25, 26, 27, 28, 29, 30, 31, 32, 33, 34, 35, 36, 37, 38, 39] (by decide +kernel) (by decide +kernel)
set_option maxRecDepth 20000 in
theorem gX8_isTooMuch_X8_limitOf : GoodIn wsX8_isTooMuch (wsV RX8 266 RX8 yX8_limitOf wsX8_limitOf) := goodIn_app (goodIn_of _ (by decide +kernel)) ggX8_isTooMuch_X8_limitOf
set_option maxRecDepth 20000 in
theorem ggX8_isTooMuch_X8_usedOf : GoodIn wsX8_isTooMuch wsX8_usedOf := goodIn_r _ [21, 7, 8, 9, 5, 10, 22, 23, 24, 25, 26, 27, 28, 29, 30, 31, 32, 33, 34, 35, 36, 37, 38, 39] (by decide +kernel) (by decide +kernel)
set_option maxRecDepth 20000 in
theorem gX8_isTooMuch_X8_usedOf : GoodIn wsX8_isTooMuch (wsV RX8 273 RX8 yX8_usedOf wsX8_usedOf) := goodIn_app (goodIn_of _ (by decide +kernel)) ggX8_isTooMuch_X8_usedOf
theorem dX8_isTooMuch_0 : decode cX8_isTooMuch 0 = .ok (.aload_n 0, 1) := by decide +kernel
theorem dX8_isTooMuch_1 : decode cX8_isTooMuch 1 = .ok (.iload_n 1, 1) := by decide +kernel
theorem dX8_isTooMuch_2 : decode cX8_isTooMuch 2 = .ok (.iload_n 2, 1) := by decide +kernel
theorem dX8_isTooMuch_3 : decode cX8_isTooMuch 3 = .ok (.iconst 1, 1) := by decide +kernel
theorem dX8_isTooMuch_4 : decode cX8_isTooMuch 4 = .ok (.invokevirtual 266, 3) := by decide +kernel
theorem dX8_isTooMuch_7 : decode cX8_isTooMuch 7 = .ok (.lstore 5, 2) := by decide +kernel
theorem dX8_isTooMuch_9 : decode cX8_isTooMuch 9 = .ok (.lload 5, 2) := by decide +kernel
theorem dX8_isTooMuch_11 : decode cX8_isTooMuch 11 = .ok (.ldc2_w 37, 3) := by decide +kernel
theorem dX8_isTooMuch_14 : decode cX8_isTooMuch 14 = .ok (.lcmp, 1) := by decide +kernel
theorem dX8_isTooMuch_15 : decode cX8_isTooMuch 15 = .ok (.ifCond .eq 21, 3) := by decide +kernel
theorem dX8_isTooMuch_18 : decode cX8_isTooMuch 18 = .ok (.aload_n 0, 1) := by decide +kernel
theorem dX8_isTooMuch_19 : decode cX8_isTooMuch 19 = .ok (.iload_n 1, 1) := by decide +kernel
theorem dX8_isTooMuch_20 : decode cX8_isTooMuch 20 = .ok (.iload_n 2, 1) := by decide +kernel
theorem dX8_isTooMuch_21 : decode cX8_isTooMuch 21 = .ok (.invokevirtual 273, 3) := by decide +kernel
theorem dX8_isTooMuch_24 : decode cX8_isTooMuch 24 = .ok (.lload_n 3, 1) := by decide +kernel
theorem dX8_isTooMuch_25 : decode cX8_isTooMuch 25 = .ok (.ladd, 1) := by decide +kernel
theorem dX8_isTooMuch_26 : decode cX8_isTooMuch 26 = .ok (.lload 5, 2) := by decide +kernel
theorem dX8_isTooMuch_28 : decode cX8_isTooMuch 28 = .ok (.lcmp, 1) := by decide +kernel
theorem dX8_isTooMuch_29 : decode cX8_isTooMuch 29 = .ok (.ifCond .le 7, 3) := by decide +kernel
theorem dX8_isTooMuch_32 : decode cX8_isTooMuch 32 = .ok (.iconst 1, 1) := by decide +kernel
theorem dX8_isTooMuch_33 : decode cX8_isTooMuch 33 = .ok (.goto 4, 3) := by decide +kernel
theorem dX8_isTooMuch_36 : decode cX8_isTooMuch 36 = .ok (.iconst 0, 1) := by decide +kernel
theorem dX8_isTooMuch_37 : decode cX8_isTooMuch 37 = .ok (.ireturn, 1) := by decide +kernel
set_option maxRecDepth 20000 in
theorem ggX8_reasonFor_X8_isTooMuch : GoodIn wsX8_reasonFor wsX8_isTooMuch := goodIn_r _ [5, 6, 7, 8, 9, 4, 10, 11, 12, 13, 14, 15, 16, 17, 18, 19, 20, 21, 22, 23, 24, 25, 34, 35, 36, 37, 38, 39, 40, 41, 42, 43, 44, 45, 46, 47, 48, 49, 50, 51] (by decide +kernel) (by decide +kernel)
set_option maxRecDepth 20000 in
theorem gX8_reasonFor_X8_isTooMuch : GoodIn wsX8_reasonFor (wsV RX8 276 RX8 yX8_isTooMuch wsX8_isTooMuch) := goodIn_app (goodIn_of _ (by decide +kernel)) ggX8_reasonFor_X8_isTooMuch
set_option maxRecDepth 20000 in
theorem ggX8_reasonFor_X8_isOver : GoodIn wsX8_reasonFor wsX8_isOver := goodIn_r _ [29, 11, 30, 31, 32, 4, 33, 6, 12, 13, 14, 34, 35, 36, 37, 38, 39, 40, 41, 42, 43, 44, 45, 46, 47, 48, 49, 50, 51] (by decide +kernel) (by decide +kernel)
set_option maxRecDepth 20000 in
theorem gX8_reasonFor_X8_isOver : GoodIn wsX8_reasonFor (wsV RX8 280 RX8 yX8_isOver wsX8_isOver) := goodIn_app (goodIn_of _ (by decide +kernel)) ggX8_reasonFor_X8_isOver
theorem dX8_reasonFor_0 : decode cX8_reasonFor 0 = .ok (.iload_n 1, 1) := by decide +kernel
theorem dX8_reasonFor_1 : decode cX8_reasonFor 1 = .ok (.iconst (-1), 1) := by decide +kernel
theorem dX8_reasonFor_2 : decode cX8_reasonFor 2 = .ok (.if_icmp .ne 5, 3) := by decide +kernel
theorem dX8_reasonFor_5 : decode cX8_reasonFor 5 = .ok (.iconst 0, 1) := by decide +kernel
theorem dX8_reasonFor_6 : decode cX8_reasonFor 6 = .ok (.ireturn, 1) := by decide +kernel
theorem dX8_reasonFor_7 : decode cX8_reasonFor 7 = .ok (.lload_n 2, 1) := by decide +kernel
theorem dX8_reasonFor_8 : decode cX8_reasonFor 8 = .ok (.lconst 0, 1) := by decide +kernel
theorem dX8_reasonFor_9 : decode cX8_reasonFor 9 = .ok (.lcmp, 1) := by decide +kernel
theorem dX8_reasonFor_10 : decode cX8_reasonFor 10 = .ok (.ifCond .le 15, 3) := by decide +kernel
theorem dX8_reasonFor_13 : decode cX8_reasonFor 13 = .ok (.aload_n 0, 1) := by decide +kernel
theorem dX8_reasonFor_14 : decode cX8_reasonFor 14 = .ok (.iload_n 1, 1) := by decide +kernel
theorem dX8_reasonFor_15 : decode cX8_reasonFor 15 = .ok (.iconst 0, 1) := by decide +kernel
theorem dX8_reasonFor_16 : decode cX8_reasonFor 16 = .ok (.lload_n 2, 1) := by decide +kernel
theorem dX8_reasonFor_17 : decode cX8_reasonFor 17 = .ok (.invokevirtual 276, 3) := by decide +kernel
theorem dX8_reasonFor_20 : decode cX8_reasonFor 20 = .ok (.ifCond .eq 5, 3) := by decide +kernel
theorem dX8_reasonFor_23 : decode cX8_reasonFor 23 = .ok (.iconst 1, 1) := by decide +kernel
theorem dX8_reasonFor_24 : decode cX8_reasonFor 24 = .ok (.ireturn, 1) := by decide +kernel
theorem dX8_reasonFor_25 : decode cX8_reasonFor 25 = .ok (.lload 4, 2) := by decide +kernel
theorem dX8_reasonFor_27 : decode cX8_reasonFor 27 = .ok (.lconst 0, 1) := by decide +kernel
theorem dX8_reasonFor_28 : decode cX8_reasonFor 28 = .ok (.lcmp, 1) := by decide +kernel
theorem dX8_reasonFor_29 : decode cX8_reasonFor 29 = .ok (.ifCond .le 16, 3) := by decide +kernel
theorem dX8_reasonFor_32 : decode cX8_reasonFor 32 = .ok (.aload_n 0, 1) := by decide +kernel
theorem dX8_reasonFor_33 : decode cX8_reasonFor 33 = .ok (.iload_n 1, 1) := by decide +kernel
theorem dX8_reasonFor_34 : decode cX8_reasonFor 34 = .ok (.iconst 1, 1) := by decide +kernel
theorem dX8_reasonFor_35 : decode cX8_reasonFor 35 = .ok (.lload 4, 2) := by decide +kernel
theorem dX8_reasonFor_37 : decode cX8_reasonFor 37 = .ok (.invokevirtual 276, 3) := by decide +kernel
theorem dX8_reasonFor_40 : decode cX8_reasonFor 40 = .ok (.ifCond .eq 5, 3) := by decide +kernel
theorem dX8_reasonFor_43 : decode cX8_reasonFor 43 = .ok (.iconst 2, 1) := by decide +kernel
theorem dX8_reasonFor_44 : decode cX8_reasonFor 44 = .ok (.ireturn, 1) := by decide +kernel
theorem dX8_reasonFor_45 : decode cX8_reasonFor 45 = .ok (.lload_n 2, 1) := by decide +kernel
theorem dX8_reasonFor_46 : decode cX8_reasonFor 46 = .ok (.lconst 0, 1) := by decide +kernel
theorem dX8_reasonFor_47 : decode cX8_reasonFor 47 = .ok (.lcmp, 1) := by decide +kernel
theorem dX8_reasonFor_48 : decode cX8_reasonFor 48 = .ok (.ifCond .le 14, 3) := by decide +kernel
theorem dX8_reasonFor_51 : decode cX8_reasonFor 51 = .ok (.aload_n 0, 1) := by decide +kernel
theorem dX8_reasonFor_52 : decode cX8_reasonFor 52 = .ok (.iload_n 1, 1) := by decide +kernel
theorem dX8_reasonFor_53 : decode cX8_reasonFor 53 = .ok (.iconst 0, 1) := by decide +kernel
theorem dX8_reasonFor_54 : decode cX8_reasonFor 54 = .ok (.invokevirtual 280, 3) := by decide +kernel
theorem dX8_reasonFor_57 : decode cX8_reasonFor 57 = .ok (.ifCond .eq 5, 3) := by decide +kernel
theorem dX8_reasonFor_60 : decode cX8_reasonFor 60 = .ok (.iconst 3, 1) := by decide +kernel
theorem dX8_reasonFor_61 : decode cX8_reasonFor 61 = .ok (.ireturn, 1) := by decide +kernel
theorem dX8_reasonFor_62 : decode cX8_reasonFor 62 = .ok (.lload 4, 2) := by decide +kernel
theorem dX8_reasonFor_64 : decode cX8_reasonFor 64 = .ok (.lconst 0, 1) := by decide +kernel
theorem dX8_reasonFor_65 : decode cX8_reasonFor 65 = .ok (.lcmp, 1) := by decide +kernel
theorem dX8_reasonFor_66 : decode cX8_reasonFor 66 = .ok (.ifCond .le 16, 3) := by decide +kernel
theorem dX8_reasonFor_69 : decode cX8_reasonFor 69 = .ok (.aload_n 0, 1) := by decide +kernel
theorem dX8_reasonFor_70 : decode cX8_reasonFor 70 = .ok (.iload_n 1, 1) := by decide +kernel
theorem dX8_reasonFor_71 : decode cX8_reasonFor 71 = .ok (.iconst 1, 1) := by decide +kernel
theorem dX8_reasonFor_72 : decode cX8_reasonFor 72 = .ok (.invokevirtual 280, 3) := by decide +kernel
theorem dX8_reasonFor_75 : decode cX8_reasonFor 75 = .ok (.ifCond .eq 7, 3) := by decide +kernel
theorem dX8_reasonFor_78 : decode cX8_reasonFor 78 = .ok (.iconst 4, 1) := by decide +kernel
theorem dX8_reasonFor_79 : decode cX8_reasonFor 79 = .ok (.goto 4, 3) := by decide +kernel
theorem dX8_reasonFor_82 : decode cX8_reasonFor 82 = .ok (.iconst 0, 1) := by decide +kernel
theorem dX8_reasonFor_83 : decode cX8_reasonFor 83 = .ok (.ireturn, 1) := by decide +kernel
set_option maxRecDepth 20000 in
theorem ggX8_counts_X8_place : GoodIn wsX8_counts wsX8_place := goodIn_r _ [5] (by decide +kernel) (by decide +kernel)
set_option maxRecDepth 20000 in
theorem gX8_counts_X8_place : GoodIn wsX8_counts (va_wsS RX8 255 yX8_place wsX8_place) := goodIn_app (goodIn_of _ (by decide +kernel)) ggX8_counts_X8_place
set_option maxRecDepth 20000 in
theorem ggX8_counts_X8_usedOf : GoodIn wsX8_counts wsX8_usedOf := goodIn_r _ [9, 1, 2, 3, 4, 5, 13, 14, 15, 16, 17, 18, 19, 20, 21, 22, 23, 24, 25, 26, 27, 28, 29, 30] (by decide +kernel) (by decide +kernel)
set_option maxRecDepth 20000 in
theorem gX8_counts_X8_usedOf : GoodIn wsX8_counts (wsV RX8 273 RX8 yX8_usedOf wsX8_usedOf) := goodIn_app (goodIn_of _ (by decide +kernel)) ggX8_counts_X8_usedOf
set_option maxRecDepth 20000 in
theorem ggX8_counts_X8_greater : GoodIn wsX8_counts wsX8_greater := goodIn_r _ [12] (by decide +kernel) (by decide +kernel)
set_option maxRecDepth 20000 in
theorem gX8_counts_X8_greater : GoodIn wsX8_counts (va_wsS RX8 262 yX8_greater wsX8_greater) := goodIn_app (goodIn_of _ (by decide +kernel)) ggX8_counts_X8_greater
theorem dX8_counts_0 : decode cX8_counts 0 = .ok (.iload_n 1, 1) := by decide +kernel
theorem dX8_counts_1 : decode cX8_counts 1 = .ok (.iconst (-1), 1) := by decide +kernel
theorem dX8_counts_2 : decode cX8_counts 2 = .ok (.if_icmp .ne 4, 3) := by decide +kernel
theorem dX8_counts_5 : decode cX8_counts 5 = .ok (.return_, 1) := by decide +kernel
theorem dX8_counts_6 : decode cX8_counts 6 = .ok (.aload_n 0, 1) := by decide +kernel
theorem dX8_counts_7 : decode cX8_counts 7 = .ok (.getfield 7, 3) := by decide +kernel
theorem dX8_counts_10 : decode cX8_counts 10 = .ok (.bipush 37, 2) := by decide +kernel
theorem dX8_counts_12 : decode cX8_counts 12 = .ok (.iload_n 1, 1) := by decide +kernel
theorem dX8_counts_13 : decode cX8_counts 13 = .ok (.iconst 0, 1) := by decide +kernel
theorem dX8_counts_14 : decode cX8_counts 14 = .ok (.invokestatic 255, 3) := by decide +kernel
theorem dX8_counts_17 : decode cX8_counts 17 = .ok (.iadd, 1) := by decide +kernel
theorem dX8_counts_18 : decode cX8_counts 18 = .ok (.lconst 0, 1) := by decide +kernel
theorem dX8_counts_19 : decode cX8_counts 19 = .ok (.aload_n 0, 1) := by decide +kernel
theorem dX8_counts_20 : decode cX8_counts 20 = .ok (.iload_n 1, 1) := by decide +kernel
theorem dX8_counts_21 : decode cX8_counts 21 = .ok (.iconst 0, 1) := by decide +kernel
theorem dX8_counts_22 : decode cX8_counts 22 = .ok (.invokevirtual 273, 3) := by decide +kernel
theorem dX8_counts_25 : decode cX8_counts 25 = .ok (.lload_n 2, 1) := by decide +kernel
theorem dX8_counts_26 : decode cX8_counts 26 = .ok (.ladd, 1) := by decide +kernel
theorem dX8_counts_27 : decode cX8_counts 27 = .ok (.invokestatic 262, 3) := by decide +kernel
theorem dX8_counts_30 : decode cX8_counts 30 = .ok (.lastore, 1) := by decide +kernel
theorem dX8_counts_31 : decode cX8_counts 31 = .ok (.aload_n 0, 1) := by decide +kernel
theorem dX8_counts_32 : decode cX8_counts 32 = .ok (.getfield 7, 3) := by decide +kernel
theorem dX8_counts_35 : decode cX8_counts 35 = .ok (.bipush 37, 2) := by decide +kernel
theorem dX8_counts_37 : decode cX8_counts 37 = .ok (.iload_n 1, 1) := by decide +kernel
theorem dX8_counts_38 : decode cX8_counts 38 = .ok (.iconst 1, 1) := by decide +kernel
theorem dX8_counts_39 : decode cX8_counts 39 = .ok (.invokestatic 255, 3) := by decide +kernel
theorem dX8_counts_42 : decode cX8_counts 42 = .ok (.iadd, 1) := by decide +kernel
theorem dX8_counts_43 : decode cX8_counts 43 = .ok (.lconst 0, 1) := by decide +kernel
theorem dX8_counts_44 : decode cX8_counts 44 = .ok (.aload_n 0, 1) := by decide +kernel
theorem dX8_counts_45 : decode cX8_counts 45 = .ok (.iload_n 1, 1) := by decide +kernel
theorem dX8_counts_46 : decode cX8_counts 46 = .ok (.iconst 1, 1) := by decide +kernel
theorem dX8_counts_47 : decode cX8_counts 47 = .ok (.invokevirtual 273, 3) := by decide +kernel
theorem dX8_counts_50 : decode cX8_counts 50 = .ok (.lload 4, 2) := by decide +kernel
theorem dX8_counts_52 : decode cX8_counts 52 = .ok (.ladd, 1) := by decide +kernel
theorem dX8_counts_53 : decode cX8_counts 53 = .ok (.invokestatic 262, 3) := by decide +kernel
theorem dX8_counts_56 : decode cX8_counts 56 = .ok (.lastore, 1) := by decide +kernel
theorem dX8_counts_57 : decode cX8_counts 57 = .ok (.return_, 1) := by decide +kernel
set_option maxRecDepth 20000 in
theorem ggX8_stateOf_X8_isTooMuch : GoodIn wsX8_stateOf wsX8_isTooMuch := goodIn_r _ [6, 1, 7, 8, 9, 5, 10, 11, 12, 13, 14, 15, 16, 17, 18, 19, 20, 21, 22, 23, 24, 25, 34, 35, 36, 37, 38, 39, 40, 41, 42, 43, 44, 45, 46, 47, 48, 49, 50, 51] (by decide +kernel) (by decide +kernel)
set_option maxRecDepth 20000 in
theorem gX8_stateOf_X8_isTooMuch : GoodIn wsX8_stateOf (wsV RX8 276 RX8 yX8_isTooMuch wsX8_isTooMuch) := goodIn_app (goodIn_of _ (by decide +kernel)) ggX8_stateOf_X8_isTooMuch
set_option maxRecDepth 20000 in
theorem ggX8_stateOf_X8_doesRun : GoodIn wsX8_stateOf wsX8_doesRun := goodIn_r _ [29, 11, 1, 12, 13, 5, 14, 34, 35, 36, 37, 38, 39, 40, 41, 42, 43, 44, 45, 46, 47, 48, 49, 50, 51] (by decide +kernel) (by decide +kernel)
set_option maxRecDepth 20000 in
theorem gX8_stateOf_X8_doesRun : GoodIn wsX8_stateOf (wsV RX8 270 RX8 yX8_doesRun wsX8_doesRun) := goodIn_app (goodIn_of _ (by decide +kernel)) ggX8_stateOf_X8_doesRun
set_option maxRecDepth 20000 in
theorem ggX8_stateOf_X8_isOver : GoodIn wsX8_stateOf wsX8_isOver := goodIn_r _ [33, 11, 26, 27, 28, 5, 29, 1, 12, 13, 14, 34, 35, 36, 37, 38, 39, 40, 41, 42, 43, 44, 45, 46, 47, 48, 49, 50, 51] (by decide +kernel) (by decide +kernel)
set_option maxRecDepth 20000 in
theorem gX8_stateOf_X8_isOver : GoodIn wsX8_stateOf (wsV RX8 280 RX8 yX8_isOver wsX8_isOver) := goodIn_app (goodIn_of _ (by decide +kernel)) ggX8_stateOf_X8_isOver
set_option maxRecDepth 20000 in
theorem ggX8_stateOf_X8_limitOf : GoodIn wsX8_stateOf wsX8_limitOf := goodIn_r _ [10, 11, 1, 12, 13, 5, 14, 15, 16, 17, 18, 19, 20, 21, 34, 35, 36, 37, 38, 39, 40, 41, 42, 43, 44, 45, 46, 47, 48, 49, 50, 51] (by decide +kernel) (by decide +kernel)
set_option maxRecDepth 20000 in
theorem gX8_stateOf_X8_limitOf : GoodIn wsX8_stateOf (wsV RX8 266 RX8 yX8_limitOf wsX8_limitOf) := goodIn_app (goodIn_of _ (by decide +kernel)) ggX8_stateOf_X8_limitOf
theorem dX8_stateOf_0 : decode cX8_stateOf 0 = .ok (.aload_n 0, 1) := by decide +kernel
theorem dX8_stateOf_1 : decode cX8_stateOf 1 = .ok (.iload_n 1, 1) := by decide +kernel
theorem dX8_stateOf_2 : decode cX8_stateOf 2 = .ok (.iload_n 2, 1) := by decide +kernel
theorem dX8_stateOf_3 : decode cX8_stateOf 3 = .ok (.lconst 0, 1) := by decide +kernel
theorem dX8_stateOf_4 : decode cX8_stateOf 4 = .ok (.invokevirtual 276, 3) := by decide +kernel
theorem dX8_stateOf_7 : decode cX8_stateOf 7 = .ok (.ifCond .eq 5, 3) := by decide +kernel
theorem dX8_stateOf_10 : decode cX8_stateOf 10 = .ok (.iconst 4, 1) := by decide +kernel
theorem dX8_stateOf_11 : decode cX8_stateOf 11 = .ok (.ireturn, 1) := by decide +kernel
theorem dX8_stateOf_12 : decode cX8_stateOf 12 = .ok (.aload_n 0, 1) := by decide +kernel
theorem dX8_stateOf_13 : decode cX8_stateOf 13 = .ok (.iload_n 1, 1) := by decide +kernel
theorem dX8_stateOf_14 : decode cX8_stateOf 14 = .ok (.iload_n 2, 1) := by decide +kernel
theorem dX8_stateOf_15 : decode cX8_stateOf 15 = .ok (.invokevirtual 270, 3) := by decide +kernel
theorem dX8_stateOf_18 : decode cX8_stateOf 18 = .ok (.ifCond .eq 18, 3) := by decide +kernel
theorem dX8_stateOf_21 : decode cX8_stateOf 21 = .ok (.aload_n 0, 1) := by decide +kernel
theorem dX8_stateOf_22 : decode cX8_stateOf 22 = .ok (.iload_n 1, 1) := by decide +kernel
theorem dX8_stateOf_23 : decode cX8_stateOf 23 = .ok (.iload_n 2, 1) := by decide +kernel
theorem dX8_stateOf_24 : decode cX8_stateOf 24 = .ok (.invokevirtual 280, 3) := by decide +kernel
theorem dX8_stateOf_27 : decode cX8_stateOf 27 = .ok (.ifCond .eq 7, 3) := by decide +kernel
theorem dX8_stateOf_30 : decode cX8_stateOf 30 = .ok (.iconst 3, 1) := by decide +kernel
theorem dX8_stateOf_31 : decode cX8_stateOf 31 = .ok (.goto 4, 3) := by decide +kernel
theorem dX8_stateOf_34 : decode cX8_stateOf 34 = .ok (.iconst 2, 1) := by decide +kernel
theorem dX8_stateOf_35 : decode cX8_stateOf 35 = .ok (.ireturn, 1) := by decide +kernel
theorem dX8_stateOf_36 : decode cX8_stateOf 36 = .ok (.aload_n 0, 1) := by decide +kernel
theorem dX8_stateOf_37 : decode cX8_stateOf 37 = .ok (.iload_n 1, 1) := by decide +kernel
theorem dX8_stateOf_38 : decode cX8_stateOf 38 = .ok (.iload_n 2, 1) := by decide +kernel
theorem dX8_stateOf_39 : decode cX8_stateOf 39 = .ok (.iconst 0, 1) := by decide +kernel
theorem dX8_stateOf_40 : decode cX8_stateOf 40 = .ok (.invokevirtual 266, 3) := by decide +kernel
theorem dX8_stateOf_43 : decode cX8_stateOf 43 = .ok (.ldc2_w 37, 3) := by decide +kernel
theorem dX8_stateOf_46 : decode cX8_stateOf 46 = .ok (.lcmp, 1) := by decide +kernel
theorem dX8_stateOf_47 : decode cX8_stateOf 47 = .ok (.ifCond .ne 17, 3) := by decide +kernel
theorem dX8_stateOf_50 : decode cX8_stateOf 50 = .ok (.aload_n 0, 1) := by decide +kernel
theorem dX8_stateOf_51 : decode cX8_stateOf 51 = .ok (.iload_n 1, 1) := by decide +kernel
theorem dX8_stateOf_52 : decode cX8_stateOf 52 = .ok (.iload_n 2, 1) := by decide +kernel
theorem dX8_stateOf_53 : decode cX8_stateOf 53 = .ok (.iconst 1, 1) := by decide +kernel
theorem dX8_stateOf_54 : decode cX8_stateOf 54 = .ok (.invokevirtual 266, 3) := by decide +kernel
theorem dX8_stateOf_57 : decode cX8_stateOf 57 = .ok (.ldc2_w 37, 3) := by decide +kernel
theorem dX8_stateOf_60 : decode cX8_stateOf 60 = .ok (.lcmp, 1) := by decide +kernel
theorem dX8_stateOf_61 : decode cX8_stateOf 61 = .ok (.ifCond .eq 7, 3) := by decide +kernel
theorem dX8_stateOf_64 : decode cX8_stateOf 64 = .ok (.iconst 1, 1) := by decide +kernel
theorem dX8_stateOf_65 : decode cX8_stateOf 65 = .ok (.goto 4, 3) := by decide +kernel
theorem dX8_stateOf_68 : decode cX8_stateOf 68 = .ok (.iconst 0, 1) := by decide +kernel
theorem dX8_stateOf_69 : decode cX8_stateOf 69 = .ok (.ireturn, 1) := by decide +kernel
set_option maxRecDepth 20000 in
theorem ggX8_countedOf_X8_folderOf : GoodIn wsX8_countedOf wsX8_folderOf := goodIn_r _ [6, 1, 19, 20, 21, 22, 23, 24, 25, 26, 27, 28, 29, 30, 31, 32, 33, 34, 35, 36] (by decide +kernel) (by decide +kernel)
set_option maxRecDepth 20000 in
theorem gX8_countedOf_X8_folderOf : GoodIn wsX8_countedOf (wsV RX8 197 RX8 yX8_folderOf wsX8_folderOf) := goodIn_app (goodIn_of _ (by decide +kernel)) ggX8_countedOf_X8_folderOf
set_option maxRecDepth 20000 in
theorem ggX8_countedOf_X8_projectOf : GoodIn wsX8_countedOf wsX8_projectOf := goodIn_r _ [10, 11, 12, 13, 5, 14, 1, 15, 16, 17, 18, 19, 20, 21, 22, 23, 24, 25, 26, 27, 28, 29, 30, 31, 32, 33, 34, 35, 36] (by decide +kernel) (by decide +kernel)
set_option maxRecDepth 20000 in
theorem gX8_countedOf_X8_projectOf : GoodIn wsX8_countedOf (wsV RX8 207 RX8 yX8_projectOf wsX8_projectOf) := goodIn_app (goodIn_of _ (by decide +kernel)) ggX8_countedOf_X8_projectOf
theorem dX8_countedOf_0 : decode cX8_countedOf 0 = .ok (.lconst 0, 1) := by decide +kernel
theorem dX8_countedOf_1 : decode cX8_countedOf 1 = .ok (.lstore_n 3, 1) := by decide +kernel
theorem dX8_countedOf_2 : decode cX8_countedOf 2 = .ok (.iconst 0, 1) := by decide +kernel
theorem dX8_countedOf_3 : decode cX8_countedOf 3 = .ok (.istore 5, 2) := by decide +kernel
theorem dX8_countedOf_5 : decode cX8_countedOf 5 = .ok (.iload 5, 2) := by decide +kernel
theorem dX8_countedOf_7 : decode cX8_countedOf 7 = .ok (.i2l, 1) := by decide +kernel
theorem dX8_countedOf_8 : decode cX8_countedOf 8 = .ok (.aload_n 0, 1) := by decide +kernel
theorem dX8_countedOf_9 : decode cX8_countedOf 9 = .ok (.getfield 7, 3) := by decide +kernel
theorem dX8_countedOf_12 : decode cX8_countedOf 12 = .ok (.iconst 3, 1) := by decide +kernel
theorem dX8_countedOf_13 : decode cX8_countedOf 13 = .ok (.laload, 1) := by decide +kernel
theorem dX8_countedOf_14 : decode cX8_countedOf 14 = .ok (.lcmp, 1) := by decide +kernel
theorem dX8_countedOf_15 : decode cX8_countedOf 15 = .ok (.ifCond .ge 49, 3) := by decide +kernel
theorem dX8_countedOf_18 : decode cX8_countedOf 18 = .ok (.lload_n 3, 1) := by decide +kernel
theorem dX8_countedOf_19 : decode cX8_countedOf 19 = .ok (.aload_n 0, 1) := by decide +kernel
theorem dX8_countedOf_20 : decode cX8_countedOf 20 = .ok (.aload_n 0, 1) := by decide +kernel
theorem dX8_countedOf_21 : decode cX8_countedOf 21 = .ok (.iload 5, 2) := by decide +kernel
theorem dX8_countedOf_23 : decode cX8_countedOf 23 = .ok (.invokevirtual 197, 3) := by decide +kernel
theorem dX8_countedOf_26 : decode cX8_countedOf 26 = .ok (.invokevirtual 207, 3) := by decide +kernel
theorem dX8_countedOf_29 : decode cX8_countedOf 29 = .ok (.iload_n 1, 1) := by decide +kernel
theorem dX8_countedOf_30 : decode cX8_countedOf 30 = .ok (.if_icmp .ne 25, 3) := by decide +kernel
theorem dX8_countedOf_33 : decode cX8_countedOf 33 = .ok (.iload_n 2, 1) := by decide +kernel
theorem dX8_countedOf_34 : decode cX8_countedOf 34 = .ok (.ifCond .ne 17, 3) := by decide +kernel
theorem dX8_countedOf_37 : decode cX8_countedOf 37 = .ok (.aload_n 0, 1) := by decide +kernel
theorem dX8_countedOf_38 : decode cX8_countedOf 38 = .ok (.getfield 7, 3) := by decide +kernel
theorem dX8_countedOf_41 : decode cX8_countedOf 41 = .ok (.sipush 249, 3) := by decide +kernel
theorem dX8_countedOf_44 : decode cX8_countedOf 44 = .ok (.iload 5, 2) := by decide +kernel
theorem dX8_countedOf_46 : decode cX8_countedOf 46 = .ok (.iadd, 1) := by decide +kernel
theorem dX8_countedOf_47 : decode cX8_countedOf 47 = .ok (.laload, 1) := by decide +kernel
theorem dX8_countedOf_48 : decode cX8_countedOf 48 = .ok (.goto 8, 3) := by decide +kernel
theorem dX8_countedOf_51 : decode cX8_countedOf 51 = .ok (.lconst 1, 1) := by decide +kernel
theorem dX8_countedOf_52 : decode cX8_countedOf 52 = .ok (.goto 4, 3) := by decide +kernel
theorem dX8_countedOf_55 : decode cX8_countedOf 55 = .ok (.lconst 0, 1) := by decide +kernel
theorem dX8_countedOf_56 : decode cX8_countedOf 56 = .ok (.ladd, 1) := by decide +kernel
theorem dX8_countedOf_57 : decode cX8_countedOf 57 = .ok (.lstore_n 3, 1) := by decide +kernel
theorem dX8_countedOf_58 : decode cX8_countedOf 58 = .ok (.iinc 5 1, 3) := by decide +kernel
theorem dX8_countedOf_61 : decode cX8_countedOf 61 = .ok (.goto (-56), 3) := by decide +kernel
theorem dX8_countedOf_64 : decode cX8_countedOf 64 = .ok (.lload_n 3, 1) := by decide +kernel
theorem dX8_countedOf_65 : decode cX8_countedOf 65 = .ok (.lreturn, 1) := by decide +kernel
set_option maxRecDepth 20000 in
theorem ggX8_reasonToPass_X8_openOf : GoodIn wsX8_reasonToPass wsX8_openOf := goodIn_r _ [5, 6, 7, 8, 9, 4, 10, 11, 12, 13, 14, 15, 16, 17, 18, 19, 20, 21, 22, 58, 59, 60, 61, 62, 63, 64, 65, 66, 67, 68, 69, 70, 71, 72, 73, 74, 75] (by decide +kernel) (by decide +kernel)
set_option maxRecDepth 20000 in
theorem gX8_reasonToPass_X8_openOf : GoodIn wsX8_reasonToPass (wsV RX8 237 RX8 yX8_openOf wsX8_openOf) := goodIn_app (goodIn_of _ (by decide +kernel)) ggX8_reasonToPass_X8_openOf
set_option maxRecDepth 20000 in
theorem ggX8_reasonToPass_X8_reasonFor : GoodIn wsX8_reasonToPass wsX8_reasonFor := goodIn_r _ [26, 27, 28, 29, 4, 30, 31, 32, 33, 34, 35, 6, 36, 37, 38, 39, 40, 41, 42, 43, 44, 45, 46, 47, 48, 49, 50, 51, 52, 53, 54, 55, 56, 57, 58, 59, 60, 61, 62, 63, 64, 65, 66, 67, 68, 69, 70, 71, 72, 73, 74, 75] (by decide +kernel) (by decide +kernel)
set_option maxRecDepth 20000 in
theorem gX8_reasonToPass_X8_reasonFor : GoodIn wsX8_reasonToPass (wsV RX8 283 RX8 yX8_reasonFor wsX8_reasonFor) := goodIn_app (goodIn_of _ (by decide +kernel)) ggX8_reasonToPass_X8_reasonFor
theorem dX8_reasonToPass_0 : decode cX8_reasonToPass 0 = .ok (.iload_n 2, 1) := by decide +kernel
theorem dX8_reasonToPass_1 : decode cX8_reasonToPass 1 = .ok (.iload_n 3, 1) := by decide +kernel
theorem dX8_reasonToPass_2 : decode cX8_reasonToPass 2 = .ok (.if_icmp .ne 7, 3) := by decide +kernel
theorem dX8_reasonToPass_5 : decode cX8_reasonToPass 5 = .ok (.iconst 0, 1) := by decide +kernel
theorem dX8_reasonToPass_6 : decode cX8_reasonToPass 6 = .ok (.goto 20, 3) := by decide +kernel
theorem dX8_reasonToPass_9 : decode cX8_reasonToPass 9 = .ok (.aload_n 0, 1) := by decide +kernel
theorem dX8_reasonToPass_10 : decode cX8_reasonToPass 10 = .ok (.iload_n 3, 1) := by decide +kernel
theorem dX8_reasonToPass_11 : decode cX8_reasonToPass 11 = .ok (.aload_n 0, 1) := by decide +kernel
theorem dX8_reasonToPass_12 : decode cX8_reasonToPass 12 = .ok (.iload_n 1, 1) := by decide +kernel
theorem dX8_reasonToPass_13 : decode cX8_reasonToPass 13 = .ok (.iconst 1, 1) := by decide +kernel
theorem dX8_reasonToPass_14 : decode cX8_reasonToPass 14 = .ok (.invokevirtual 237, 3) := by decide +kernel
theorem dX8_reasonToPass_17 : decode cX8_reasonToPass 17 = .ok (.aload_n 0, 1) := by decide +kernel
theorem dX8_reasonToPass_18 : decode cX8_reasonToPass 18 = .ok (.iload_n 1, 1) := by decide +kernel
theorem dX8_reasonToPass_19 : decode cX8_reasonToPass 19 = .ok (.iconst 0, 1) := by decide +kernel
theorem dX8_reasonToPass_20 : decode cX8_reasonToPass 20 = .ok (.invokevirtual 237, 3) := by decide +kernel
theorem dX8_reasonToPass_23 : decode cX8_reasonToPass 23 = .ok (.invokevirtual 283, 3) := by decide +kernel
theorem dX8_reasonToPass_26 : decode cX8_reasonToPass 26 = .ok (.ireturn, 1) := by decide +kernel
set_option maxRecDepth 20000 in
theorem ggX8_passes_X8_openOf : GoodIn wsX8_passes wsX8_openOf := goodIn_r _ [5, 6, 7, 8, 9, 4, 10, 11, 12, 13, 14, 15, 16, 17, 18, 19, 20, 21, 22, 37, 38, 39, 40, 41, 42, 43, 44, 45, 46, 47, 48, 49, 50, 51, 52, 53, 54] (by decide +kernel) (by decide +kernel)
set_option maxRecDepth 20000 in
theorem gX8_passes_X8_openOf : GoodIn wsX8_passes (wsV RX8 237 RX8 yX8_openOf wsX8_openOf) := goodIn_app (goodIn_of _ (by decide +kernel)) ggX8_passes_X8_openOf
set_option maxRecDepth 20000 in
theorem ggX8_passes_X8_counts : GoodIn wsX8_passes wsX8_counts := goodIn_r _ [26, 6, 27, 28, 4, 29, 30, 31, 32, 33, 34, 35, 36, 37, 38, 39, 40, 41, 42, 43, 44, 45, 46, 47, 48, 49, 50, 51, 52, 53, 54] (by decide +kernel) (by decide +kernel)
set_option maxRecDepth 20000 in
theorem gX8_passes_X8_counts : GoodIn wsX8_passes (wsV RX8 287 RX8 yX8_counts wsX8_counts) := goodIn_app (goodIn_of _ (by decide +kernel)) ggX8_passes_X8_counts
theorem dX8_passes_0 : decode cX8_passes 0 = .ok (.iload_n 2, 1) := by decide +kernel
theorem dX8_passes_1 : decode cX8_passes 1 = .ok (.iload_n 3, 1) := by decide +kernel
theorem dX8_passes_2 : decode cX8_passes 2 = .ok (.if_icmp .ne 5, 3) := by decide +kernel
theorem dX8_passes_5 : decode cX8_passes 5 = .ok (.iconst 0, 1) := by decide +kernel
theorem dX8_passes_6 : decode cX8_passes 6 = .ok (.ireturn, 1) := by decide +kernel
theorem dX8_passes_7 : decode cX8_passes 7 = .ok (.aload_n 0, 1) := by decide +kernel
theorem dX8_passes_8 : decode cX8_passes 8 = .ok (.iload_n 1, 1) := by decide +kernel
theorem dX8_passes_9 : decode cX8_passes 9 = .ok (.iconst 1, 1) := by decide +kernel
theorem dX8_passes_10 : decode cX8_passes 10 = .ok (.invokevirtual 237, 3) := by decide +kernel
theorem dX8_passes_13 : decode cX8_passes 13 = .ok (.lstore 4, 2) := by decide +kernel
theorem dX8_passes_15 : decode cX8_passes 15 = .ok (.aload_n 0, 1) := by decide +kernel
theorem dX8_passes_16 : decode cX8_passes 16 = .ok (.iload_n 1, 1) := by decide +kernel
theorem dX8_passes_17 : decode cX8_passes 17 = .ok (.iconst 0, 1) := by decide +kernel
theorem dX8_passes_18 : decode cX8_passes 18 = .ok (.invokevirtual 237, 3) := by decide +kernel
theorem dX8_passes_21 : decode cX8_passes 21 = .ok (.lstore 6, 2) := by decide +kernel
theorem dX8_passes_23 : decode cX8_passes 23 = .ok (.aload_n 0, 1) := by decide +kernel
theorem dX8_passes_24 : decode cX8_passes 24 = .ok (.iload_n 3, 1) := by decide +kernel
theorem dX8_passes_25 : decode cX8_passes 25 = .ok (.lload 4, 2) := by decide +kernel
theorem dX8_passes_27 : decode cX8_passes 27 = .ok (.lload 6, 2) := by decide +kernel
theorem dX8_passes_29 : decode cX8_passes 29 = .ok (.invokevirtual 287, 3) := by decide +kernel
theorem dX8_passes_32 : decode cX8_passes 32 = .ok (.aload_n 0, 1) := by decide +kernel
theorem dX8_passes_33 : decode cX8_passes 33 = .ok (.iload_n 2, 1) := by decide +kernel
theorem dX8_passes_34 : decode cX8_passes 34 = .ok (.lload 4, 2) := by decide +kernel
theorem dX8_passes_36 : decode cX8_passes 36 = .ok (.lneg, 1) := by decide +kernel
theorem dX8_passes_37 : decode cX8_passes 37 = .ok (.lload 6, 2) := by decide +kernel
theorem dX8_passes_39 : decode cX8_passes 39 = .ok (.lneg, 1) := by decide +kernel
theorem dX8_passes_40 : decode cX8_passes 40 = .ok (.invokevirtual 287, 3) := by decide +kernel
theorem dX8_passes_43 : decode cX8_passes 43 = .ok (.lload 6, 2) := by decide +kernel
theorem dX8_passes_45 : decode cX8_passes 45 = .ok (.l2i, 1) := by decide +kernel
theorem dX8_passes_46 : decode cX8_passes 46 = .ok (.ireturn, 1) := by decide +kernel
set_option maxRecDepth 20000 in
theorem ggX8_projectWith_X8_parentOf : GoodIn wsX8_projectWith wsX8_parentOf := goodIn_r _ [5, 6, 15, 16, 17, 18, 19, 20, 21, 22, 23, 24, 25, 26, 27, 28, 29, 30, 31, 32] (by decide +kernel) (by decide +kernel)
set_option maxRecDepth 20000 in
theorem gX8_projectWith_X8_parentOf : GoodIn wsX8_projectWith (wsV RX8 194 RX8 yX8_parentOf wsX8_parentOf) := goodIn_app (goodIn_of _ (by decide +kernel)) ggX8_projectWith_X8_parentOf
set_option maxRecDepth 20000 in
theorem ggX8_projectWith_X8_projectOf : GoodIn wsX8_projectWith wsX8_projectOf := goodIn_r _ [10, 11, 12, 13, 4, 14, 6, 1, 2, 3, 5, 15, 16, 17, 18, 19, 20, 21, 22, 23, 24, 25, 26, 27, 28, 29, 30, 31, 32] (by decide +kernel) (by decide +kernel)
set_option maxRecDepth 20000 in
theorem gX8_projectWith_X8_projectOf : GoodIn wsX8_projectWith (wsV RX8 207 RX8 yX8_projectOf wsX8_projectOf) := goodIn_app (goodIn_of _ (by decide +kernel)) ggX8_projectWith_X8_projectOf
theorem dX8_projectWith_0 : decode cX8_projectWith 0 = .ok (.iload_n 2, 1) := by decide +kernel
theorem dX8_projectWith_1 : decode cX8_projectWith 1 = .ok (.iconst (-1), 1) := by decide +kernel
theorem dX8_projectWith_2 : decode cX8_projectWith 2 = .ok (.if_icmp .ne 7, 3) := by decide +kernel
theorem dX8_projectWith_5 : decode cX8_projectWith 5 = .ok (.iload_n 1, 1) := by decide +kernel
theorem dX8_projectWith_6 : decode cX8_projectWith 6 = .ok (.ifCond .ne 7, 3) := by decide +kernel
theorem dX8_projectWith_9 : decode cX8_projectWith 9 = .ok (.iload_n 2, 1) := by decide +kernel
theorem dX8_projectWith_10 : decode cX8_projectWith 10 = .ok (.goto 12, 3) := by decide +kernel
theorem dX8_projectWith_13 : decode cX8_projectWith 13 = .ok (.aload_n 0, 1) := by decide +kernel
theorem dX8_projectWith_14 : decode cX8_projectWith 14 = .ok (.aload_n 0, 1) := by decide +kernel
theorem dX8_projectWith_15 : decode cX8_projectWith 15 = .ok (.iload_n 1, 1) := by decide +kernel
theorem dX8_projectWith_16 : decode cX8_projectWith 16 = .ok (.invokevirtual 194, 3) := by decide +kernel
theorem dX8_projectWith_19 : decode cX8_projectWith 19 = .ok (.invokevirtual 207, 3) := by decide +kernel
theorem dX8_projectWith_22 : decode cX8_projectWith 22 = .ok (.ireturn, 1) := by decide +kernel
set_option maxRecDepth 20000 in
theorem ggX8_reasonToTag_X8_projectOf : GoodIn wsX8_reasonToTag wsX8_projectOf := goodIn_r _ [5, 6, 7, 8, 4, 9, 10, 11, 12, 13, 14, 70, 71, 72, 73, 74, 75, 76, 77, 78, 79, 80, 81, 82, 83, 84, 85, 86, 87] (by decide +kernel) (by decide +kernel)
set_option maxRecDepth 20000 in
theorem gX8_reasonToTag_X8_projectOf : GoodIn wsX8_reasonToTag (wsV RX8 207 RX8 yX8_projectOf wsX8_projectOf) := goodIn_app (goodIn_of _ (by decide +kernel)) ggX8_reasonToTag_X8_projectOf
set_option maxRecDepth 20000 in
theorem ggX8_reasonToTag_X8_projectWith : GoodIn wsX8_reasonToTag wsX8_projectWith := goodIn_r _ [18, 11, 12, 13, 4, 14, 10, 1, 2, 3, 5, 6, 7, 8, 9, 70, 71, 72, 73, 74, 75, 76, 77, 78, 79, 80, 81, 82, 83, 84, 85, 86, 87] (by decide +kernel) (by decide +kernel)
set_option maxRecDepth 20000 in
theorem gX8_reasonToTag_X8_projectWith : GoodIn wsX8_reasonToTag (wsV RX8 291 RX8 yX8_projectWith wsX8_projectWith) := goodIn_app (goodIn_of _ (by decide +kernel)) ggX8_reasonToTag_X8_projectWith
set_option maxRecDepth 20000 in
theorem ggX8_reasonToTag_X8_reasonToPass : GoodIn wsX8_reasonToTag wsX8_reasonToPass := goodIn_r _ [22, 23, 24, 25, 4, 26, 10, 27, 28, 29, 30, 31, 32, 33, 34, 6, 7, 8, 9, 11, 12, 13, 14, 35, 36, 37, 38, 39, 40, 41, 42, 43, 44, 45, 46, 47, 48, 49, 50, 51, 52, 53, 54, 55, 56, 57, 58, 59, 60, 61, 62, 63, 64, 65, 66, 67, 68, 69, 70, 71, 72, 73, 74, 75, 76, 77, 78, 79, 80, 81, 82, 83, 84, 85, 86, 87] (by decide +kernel) (by decide +kernel)
set_option maxRecDepth 20000 in
theorem gX8_reasonToTag_X8_reasonToPass : GoodIn wsX8_reasonToTag (wsV RX8 294 RX8 yX8_reasonToPass wsX8_reasonToPass) := goodIn_app (goodIn_of _ (by decide +kernel)) ggX8_reasonToTag_X8_reasonToPass
theorem dX8_reasonToTag_0 : decode cX8_reasonToTag 0 = .ok (.aload_n 0, 1) := by decide +kernel
theorem dX8_reasonToTag_1 : decode cX8_reasonToTag 1 = .ok (.iload_n 1, 1) := by decide +kernel
theorem dX8_reasonToTag_2 : decode cX8_reasonToTag 2 = .ok (.aload_n 0, 1) := by decide +kernel
theorem dX8_reasonToTag_3 : decode cX8_reasonToTag 3 = .ok (.iload_n 1, 1) := by decide +kernel
theorem dX8_reasonToTag_4 : decode cX8_reasonToTag 4 = .ok (.invokevirtual 207, 3) := by decide +kernel
theorem dX8_reasonToTag_7 : decode cX8_reasonToTag 7 = .ok (.aload_n 0, 1) := by decide +kernel
theorem dX8_reasonToTag_8 : decode cX8_reasonToTag 8 = .ok (.iload_n 1, 1) := by decide +kernel
theorem dX8_reasonToTag_9 : decode cX8_reasonToTag 9 = .ok (.iload_n 2, 1) := by decide +kernel
theorem dX8_reasonToTag_10 : decode cX8_reasonToTag 10 = .ok (.invokevirtual 291, 3) := by decide +kernel
theorem dX8_reasonToTag_13 : decode cX8_reasonToTag 13 = .ok (.invokevirtual 294, 3) := by decide +kernel
theorem dX8_reasonToTag_16 : decode cX8_reasonToTag 16 = .ok (.ireturn, 1) := by decide +kernel
set_option maxRecDepth 20000 in
theorem ggX8_tagReason_X8_isFolder : GoodIn wsX8_tagReason wsX8_isFolder := goodIn_r _ [8, 9, 10, 11, 7, 12, 83, 84, 85, 86, 87, 88, 89, 90, 91, 92, 93, 94, 95, 96, 97, 98, 99, 100] (by decide +kernel) (by decide +kernel)
set_option maxRecDepth 20000 in
theorem gX8_tagReason_X8_isFolder : GoodIn wsX8_tagReason (wsV RX8 220 RX8 yX8_isFolder wsX8_isFolder) := goodIn_app (goodIn_of _ (by decide +kernel)) ggX8_tagReason_X8_isFolder
set_option maxRecDepth 20000 in
theorem ggX8_tagReason_X8_isIn : GoodIn wsX8_tagReason wsX8_isIn := goodIn_r _ [12] (by decide +kernel) (by decide +kernel)
set_option maxRecDepth 20000 in
theorem gX8_tagReason_X8_isIn : GoodIn wsX8_tagReason (va_wsS RX8 59 yX8_isIn wsX8_isIn) := goodIn_app (goodIn_of _ (by decide +kernel)) ggX8_tagReason_X8_isIn
set_option maxRecDepth 20000 in
theorem ggX8_tagReason_X8_reasonToTag : GoodIn wsX8_tagReason wsX8_reasonToTag := goodIn_r _ [16, 17, 18, 19, 7, 20, 21, 22, 23, 24, 9, 25, 26, 27, 28, 29, 30, 31, 32, 33, 34, 35, 36, 37, 38, 39, 40, 41, 42, 43, 44, 45, 46, 47, 48, 49, 50, 51, 52, 53, 54, 55, 56, 1, 57, 58, 59, 60, 61, 62, 63, 64, 65, 66, 67, 68, 69, 70, 71, 72, 73, 74, 75, 76, 77, 78, 79, 80, 81, 82, 83, 84, 85, 86, 87, 88, 89, 90, 91, 92, 93, 94, 95, 96, 97, 98, 99, 100] (by decide +kernel) (by decide +kernel)
set_option maxRecDepth 20000 in
theorem gX8_tagReason_X8_reasonToTag : GoodIn wsX8_tagReason (wsV RX8 298 RX8 yX8_reasonToTag wsX8_reasonToTag) := goodIn_app (goodIn_of _ (by decide +kernel)) ggX8_tagReason_X8_reasonToTag
theorem dX8_tagReason_0 : decode cX8_tagReason 0 = .ok (.aload_n 0, 1) := by decide +kernel
theorem dX8_tagReason_1 : decode cX8_tagReason 1 = .ok (.aload_n 0, 1) := by decide +kernel
theorem dX8_tagReason_2 : decode cX8_tagReason 2 = .ok (.iload_n 1, 1) := by decide +kernel
theorem dX8_tagReason_3 : decode cX8_tagReason 3 = .ok (.invokevirtual 220, 3) := by decide +kernel
theorem dX8_tagReason_6 : decode cX8_tagReason 6 = .ok (.ifCond .ne 7, 3) := by decide +kernel
theorem dX8_tagReason_9 : decode cX8_tagReason 9 = .ok (.iconst 1, 1) := by decide +kernel
theorem dX8_tagReason_10 : decode cX8_tagReason 10 = .ok (.goto 22, 3) := by decide +kernel
theorem dX8_tagReason_13 : decode cX8_tagReason 13 = .ok (.iload_n 2, 1) := by decide +kernel
theorem dX8_tagReason_14 : decode cX8_tagReason 14 = .ok (.i2l, 1) := by decide +kernel
theorem dX8_tagReason_15 : decode cX8_tagReason 15 = .ok (.ldc2_w 37, 3) := by decide +kernel
theorem dX8_tagReason_18 : decode cX8_tagReason 18 = .ok (.ldc2_w 189, 3) := by decide +kernel
theorem dX8_tagReason_21 : decode cX8_tagReason 21 = .ok (.invokestatic 59, 3) := by decide +kernel
theorem dX8_tagReason_24 : decode cX8_tagReason 24 = .ok (.ifCond .eq 7, 3) := by decide +kernel
theorem dX8_tagReason_27 : decode cX8_tagReason 27 = .ok (.iconst 0, 1) := by decide +kernel
theorem dX8_tagReason_28 : decode cX8_tagReason 28 = .ok (.goto 4, 3) := by decide +kernel
theorem dX8_tagReason_31 : decode cX8_tagReason 31 = .ok (.iconst 2, 1) := by decide +kernel
theorem dX8_tagReason_32 : decode cX8_tagReason 32 = .ok (.putfield 43, 3) := by decide +kernel
theorem dX8_tagReason_35 : decode cX8_tagReason 35 = .ok (.aload_n 0, 1) := by decide +kernel
theorem dX8_tagReason_36 : decode cX8_tagReason 36 = .ok (.getfield 43, 3) := by decide +kernel
theorem dX8_tagReason_39 : decode cX8_tagReason 39 = .ok (.ifCond .le 7, 3) := by decide +kernel
theorem dX8_tagReason_42 : decode cX8_tagReason 42 = .ok (.iconst 0, 1) := by decide +kernel
theorem dX8_tagReason_43 : decode cX8_tagReason 43 = .ok (.goto 9, 3) := by decide +kernel
theorem dX8_tagReason_46 : decode cX8_tagReason 46 = .ok (.aload_n 0, 1) := by decide +kernel
theorem dX8_tagReason_47 : decode cX8_tagReason 47 = .ok (.iload_n 1, 1) := by decide +kernel
theorem dX8_tagReason_48 : decode cX8_tagReason 48 = .ok (.iload_n 2, 1) := by decide +kernel
theorem dX8_tagReason_49 : decode cX8_tagReason 49 = .ok (.invokevirtual 298, 3) := by decide +kernel
theorem dX8_tagReason_52 : decode cX8_tagReason 52 = .ok (.ireturn, 1) := by decide +kernel
set_option maxRecDepth 20000 in
theorem ggX8_tag_X8_isFolder : GoodIn wsX8_tag wsX8_isFolder := goodIn_r _ [9, 4, 10, 11, 8, 12, 101, 102, 103, 104, 105, 106, 107, 108, 109, 110, 111, 112, 113, 114, 115, 116, 117, 118] (by decide +kernel) (by decide +kernel)
set_option maxRecDepth 20000 in
theorem gX8_tag_X8_isFolder : GoodIn wsX8_tag (wsV RX8 220 RX8 yX8_isFolder wsX8_isFolder) := goodIn_app (goodIn_of _ (by decide +kernel)) ggX8_tag_X8_isFolder
set_option maxRecDepth 20000 in
theorem ggX8_tag_X8_isIn : GoodIn wsX8_tag wsX8_isIn := goodIn_r _ [12] (by decide +kernel) (by decide +kernel)
set_option maxRecDepth 20000 in
theorem gX8_tag_X8_isIn : GoodIn wsX8_tag (va_wsS RX8 59 yX8_isIn wsX8_isIn) := goodIn_app (goodIn_of _ (by decide +kernel)) ggX8_tag_X8_isIn
set_option maxRecDepth 20000 in
theorem ggX8_tag_X8_reasonToTag : GoodIn wsX8_tag wsX8_reasonToTag := goodIn_r _ [16, 17, 18, 19, 8, 20, 21, 22, 23, 24, 4, 25, 26, 27, 28, 29, 30, 31, 32, 33, 34, 35, 36, 37, 38, 39, 40, 41, 42, 43, 44, 45, 46, 47, 48, 49, 50, 51, 52, 53, 54, 55, 56, 1, 57, 58, 59, 60, 61, 62, 63, 64, 65, 66, 67, 68, 69, 70, 71, 72, 73, 74, 75, 76, 77, 78, 79, 80, 81, 82, 101, 102, 103, 104, 105, 106, 107, 108, 109, 110, 111, 112, 113, 114, 115, 116, 117, 118] (by decide +kernel) (by decide +kernel)
set_option maxRecDepth 20000 in
theorem gX8_tag_X8_reasonToTag : GoodIn wsX8_tag (wsV RX8 298 RX8 yX8_reasonToTag wsX8_reasonToTag) := goodIn_app (goodIn_of _ (by decide +kernel)) ggX8_tag_X8_reasonToTag
set_option maxRecDepth 20000 in
theorem ggX8_tag_X8_keeps : GoodIn wsX8_tag wsX8_keeps := goodIn_r _ [86, 87, 88, 4, 101, 102, 103, 104, 105, 106, 107, 108, 109, 110, 111, 112, 113, 114, 115, 116, 117, 118] (by decide +kernel) (by decide +kernel)
set_option maxRecDepth 20000 in
theorem gX8_tag_X8_keeps : GoodIn wsX8_tag (wsV RX8 179 RX8 yX8_keeps wsX8_keeps) := goodIn_app (goodIn_of _ (by decide +kernel)) ggX8_tag_X8_keeps
set_option maxRecDepth 20000 in
theorem ggX8_tag_X8_projectOf : GoodIn wsX8_tag wsX8_projectOf := goodIn_r _ [20, 21, 22, 23, 8, 24, 4, 25, 26, 27, 28, 101, 102, 103, 104, 105, 106, 107, 108, 109, 110, 111, 112, 113, 114, 115, 116, 117, 118] (by decide +kernel) (by decide +kernel)
set_option maxRecDepth 20000 in
theorem gX8_tag_X8_projectOf : GoodIn wsX8_tag (wsV RX8 207 RX8 yX8_projectOf wsX8_projectOf) := goodIn_app (goodIn_of _ (by decide +kernel)) ggX8_tag_X8_projectOf
set_option maxRecDepth 20000 in
theorem ggX8_tag_X8_projectWith : GoodIn wsX8_tag wsX8_projectWith := goodIn_r _ [32, 25, 26, 27, 8, 28, 4, 17, 18, 19, 20, 21, 22, 23, 24, 101, 102, 103, 104, 105, 106, 107, 108, 109, 110, 111, 112, 113, 114, 115, 116, 117, 118] (by decide +kernel) (by decide +kernel)
set_option maxRecDepth 20000 in
theorem gX8_tag_X8_projectWith : GoodIn wsX8_tag (wsV RX8 291 RX8 yX8_projectWith wsX8_projectWith) := goodIn_app (goodIn_of _ (by decide +kernel)) ggX8_tag_X8_projectWith
set_option maxRecDepth 20000 in
theorem ggX8_tag_X8_passes : GoodIn wsX8_tag wsX8_passes := goodIn_r _ [92, 37, 38, 39, 8, 40, 4, 41, 42, 43, 44, 45, 46, 47, 48, 21, 22, 23, 24, 25, 26, 27, 28, 93, 94, 95, 96, 61, 62, 63, 71, 72, 73, 74, 68, 69, 70, 101, 102, 103, 104, 105, 106, 107, 108, 109, 110, 111, 112, 113, 114, 115, 116, 117, 118] (by decide +kernel) (by decide +kernel)
set_option maxRecDepth 20000 in
theorem gX8_tag_X8_passes : GoodIn wsX8_tag (wsV RX8 301 RX8 yX8_passes wsX8_passes) := goodIn_app (goodIn_of _ (by decide +kernel)) ggX8_tag_X8_passes
set_option maxRecDepth 20000 in
theorem ggX8_tag_X8_setsClocks : GoodIn wsX8_tag wsX8_setsClocks := goodIn_r _ [100, 1, 4, 57, 58, 59, 8, 60, 61, 62, 63, 64, 65, 66, 67, 68, 69, 70, 101, 102, 103, 104, 105, 106, 107, 108, 109, 110, 111, 112, 113, 114, 115, 116, 117, 118] (by decide +kernel) (by decide +kernel)
set_option maxRecDepth 20000 in
theorem gX8_tag_X8_setsClocks : GoodIn wsX8_tag (wsV RX8 186 RX8 yX8_setsClocks wsX8_setsClocks) := goodIn_app (goodIn_of _ (by decide +kernel)) ggX8_tag_X8_setsClocks
theorem dX8_tag_0 : decode cX8_tag 0 = .ok (.aload_n 0, 1) := by decide +kernel
theorem dX8_tag_1 : decode cX8_tag 1 = .ok (.aload_n 0, 1) := by decide +kernel
theorem dX8_tag_2 : decode cX8_tag 2 = .ok (.iload_n 1, 1) := by decide +kernel
theorem dX8_tag_3 : decode cX8_tag 3 = .ok (.invokevirtual 220, 3) := by decide +kernel
theorem dX8_tag_6 : decode cX8_tag 6 = .ok (.ifCond .ne 7, 3) := by decide +kernel
theorem dX8_tag_9 : decode cX8_tag 9 = .ok (.iconst 1, 1) := by decide +kernel
theorem dX8_tag_10 : decode cX8_tag 10 = .ok (.goto 35, 3) := by decide +kernel
theorem dX8_tag_13 : decode cX8_tag 13 = .ok (.iload_n 2, 1) := by decide +kernel
theorem dX8_tag_14 : decode cX8_tag 14 = .ok (.i2l, 1) := by decide +kernel
theorem dX8_tag_15 : decode cX8_tag 15 = .ok (.ldc2_w 37, 3) := by decide +kernel
theorem dX8_tag_18 : decode cX8_tag 18 = .ok (.ldc2_w 189, 3) := by decide +kernel
theorem dX8_tag_21 : decode cX8_tag 21 = .ok (.invokestatic 59, 3) := by decide +kernel
theorem dX8_tag_24 : decode cX8_tag 24 = .ok (.ifCond .ne 7, 3) := by decide +kernel
theorem dX8_tag_27 : decode cX8_tag 27 = .ok (.iconst 2, 1) := by decide +kernel
theorem dX8_tag_28 : decode cX8_tag 28 = .ok (.goto 17, 3) := by decide +kernel
theorem dX8_tag_31 : decode cX8_tag 31 = .ok (.aload_n 0, 1) := by decide +kernel
theorem dX8_tag_32 : decode cX8_tag 32 = .ok (.iload_n 1, 1) := by decide +kernel
theorem dX8_tag_33 : decode cX8_tag 33 = .ok (.iload_n 2, 1) := by decide +kernel
theorem dX8_tag_34 : decode cX8_tag 34 = .ok (.invokevirtual 298, 3) := by decide +kernel
theorem dX8_tag_37 : decode cX8_tag 37 = .ok (.ifCond .le 7, 3) := by decide +kernel
theorem dX8_tag_40 : decode cX8_tag 40 = .ok (.iconst 3, 1) := by decide +kernel
theorem dX8_tag_41 : decode cX8_tag 41 = .ok (.goto 4, 3) := by decide +kernel
theorem dX8_tag_44 : decode cX8_tag 44 = .ok (.iconst 0, 1) := by decide +kernel
theorem dX8_tag_45 : decode cX8_tag 45 = .ok (.putfield 43, 3) := by decide +kernel
theorem dX8_tag_48 : decode cX8_tag 48 = .ok (.aload_n 0, 1) := by decide +kernel
theorem dX8_tag_49 : decode cX8_tag 49 = .ok (.getfield 43, 3) := by decide +kernel
theorem dX8_tag_52 : decode cX8_tag 52 = .ok (.ifCond .le 5, 3) := by decide +kernel
theorem dX8_tag_55 : decode cX8_tag 55 = .ok (.iconst 0, 1) := by decide +kernel
theorem dX8_tag_56 : decode cX8_tag 56 = .ok (.ireturn, 1) := by decide +kernel
theorem dX8_tag_57 : decode cX8_tag 57 = .ok (.aload_n 0, 1) := by decide +kernel
theorem dX8_tag_58 : decode cX8_tag 58 = .ok (.invokevirtual 179, 3) := by decide +kernel
theorem dX8_tag_61 : decode cX8_tag 61 = .ok (.aload_n 0, 1) := by decide +kernel
theorem dX8_tag_62 : decode cX8_tag 62 = .ok (.iload_n 1, 1) := by decide +kernel
theorem dX8_tag_63 : decode cX8_tag 63 = .ok (.aload_n 0, 1) := by decide +kernel
theorem dX8_tag_64 : decode cX8_tag 64 = .ok (.iload_n 1, 1) := by decide +kernel
theorem dX8_tag_65 : decode cX8_tag 65 = .ok (.invokevirtual 207, 3) := by decide +kernel
theorem dX8_tag_68 : decode cX8_tag 68 = .ok (.aload_n 0, 1) := by decide +kernel
theorem dX8_tag_69 : decode cX8_tag 69 = .ok (.iload_n 1, 1) := by decide +kernel
theorem dX8_tag_70 : decode cX8_tag 70 = .ok (.iload_n 2, 1) := by decide +kernel
theorem dX8_tag_71 : decode cX8_tag 71 = .ok (.invokevirtual 291, 3) := by decide +kernel
theorem dX8_tag_74 : decode cX8_tag 74 = .ok (.invokevirtual 301, 3) := by decide +kernel
theorem dX8_tag_77 : decode cX8_tag 77 = .ok (.istore_n 3, 1) := by decide +kernel
theorem dX8_tag_78 : decode cX8_tag 78 = .ok (.aload_n 0, 1) := by decide +kernel
theorem dX8_tag_79 : decode cX8_tag 79 = .ok (.getfield 7, 3) := by decide +kernel
theorem dX8_tag_82 : decode cX8_tag 82 = .ok (.bipush 109, 2) := by decide +kernel
theorem dX8_tag_84 : decode cX8_tag 84 = .ok (.iload_n 1, 1) := by decide +kernel
theorem dX8_tag_85 : decode cX8_tag 85 = .ok (.iadd, 1) := by decide +kernel
theorem dX8_tag_86 : decode cX8_tag 86 = .ok (.iload_n 2, 1) := by decide +kernel
theorem dX8_tag_87 : decode cX8_tag 87 = .ok (.i2l, 1) := by decide +kernel
theorem dX8_tag_88 : decode cX8_tag 88 = .ok (.lastore, 1) := by decide +kernel
theorem dX8_tag_89 : decode cX8_tag 89 = .ok (.aload_n 0, 1) := by decide +kernel
theorem dX8_tag_90 : decode cX8_tag 90 = .ok (.invokevirtual 186, 3) := by decide +kernel
theorem dX8_tag_93 : decode cX8_tag 93 = .ok (.iload_n 3, 1) := by decide +kernel
theorem dX8_tag_94 : decode cX8_tag 94 = .ok (.ireturn, 1) := by decide +kernel
set_option maxRecDepth 20000 in
theorem ggX8_projectUnder_X8_tagOf : GoodIn wsX8_projectUnder wsX8_tagOf := goodIn_r _ [5, 6, 15, 16, 17, 18, 19, 20, 21, 22, 23, 24, 25, 26, 27, 28, 29, 30, 31, 32] (by decide +kernel) (by decide +kernel)
set_option maxRecDepth 20000 in
theorem gX8_projectUnder_X8_tagOf : GoodIn wsX8_projectUnder (wsV RX8 191 RX8 yX8_tagOf wsX8_tagOf) := goodIn_app (goodIn_of _ (by decide +kernel)) ggX8_projectUnder_X8_tagOf
set_option maxRecDepth 20000 in
theorem ggX8_projectUnder_X8_projectOf : GoodIn wsX8_projectUnder wsX8_projectOf := goodIn_r _ [10, 1, 2, 3, 4, 5, 6, 11, 12, 13, 14, 15, 16, 17, 18, 19, 20, 21, 22, 23, 24, 25, 26, 27, 28, 29, 30, 31, 32] (by decide +kernel) (by decide +kernel)
set_option maxRecDepth 20000 in
theorem gX8_projectUnder_X8_projectOf : GoodIn wsX8_projectUnder (wsV RX8 207 RX8 yX8_projectOf wsX8_projectOf) := goodIn_app (goodIn_of _ (by decide +kernel)) ggX8_projectUnder_X8_projectOf
theorem dX8_projectUnder_0 : decode cX8_projectUnder 0 = .ok (.aload_n 0, 1) := by decide +kernel
theorem dX8_projectUnder_1 : decode cX8_projectUnder 1 = .ok (.iload_n 1, 1) := by decide +kernel
theorem dX8_projectUnder_2 : decode cX8_projectUnder 2 = .ok (.invokevirtual 191, 3) := by decide +kernel
theorem dX8_projectUnder_5 : decode cX8_projectUnder 5 = .ok (.iconst (-1), 1) := by decide +kernel
theorem dX8_projectUnder_6 : decode cX8_projectUnder 6 = .ok (.if_icmp .eq 11, 3) := by decide +kernel
theorem dX8_projectUnder_9 : decode cX8_projectUnder 9 = .ok (.aload_n 0, 1) := by decide +kernel
theorem dX8_projectUnder_10 : decode cX8_projectUnder 10 = .ok (.iload_n 1, 1) := by decide +kernel
theorem dX8_projectUnder_11 : decode cX8_projectUnder 11 = .ok (.invokevirtual 191, 3) := by decide +kernel
theorem dX8_projectUnder_14 : decode cX8_projectUnder 14 = .ok (.goto 8, 3) := by decide +kernel
theorem dX8_projectUnder_17 : decode cX8_projectUnder 17 = .ok (.aload_n 0, 1) := by decide +kernel
theorem dX8_projectUnder_18 : decode cX8_projectUnder 18 = .ok (.iload_n 2, 1) := by decide +kernel
theorem dX8_projectUnder_19 : decode cX8_projectUnder 19 = .ok (.invokevirtual 207, 3) := by decide +kernel
theorem dX8_projectUnder_22 : decode cX8_projectUnder 22 = .ok (.ireturn, 1) := by decide +kernel
set_option maxRecDepth 20000 in
theorem ggX8_reasonToMove_X8_isBelow : GoodIn wsX8_reasonToMove wsX8_isBelow := goodIn_r _ [5, 6, 7, 8, 4, 9, 10, 74, 75, 76, 77, 78, 79, 80, 81, 82, 83, 84, 85, 86, 87, 88, 89, 90, 91] (by decide +kernel) (by decide +kernel)
set_option maxRecDepth 20000 in
theorem gX8_reasonToMove_X8_isBelow : GoodIn wsX8_reasonToMove (wsV RX8 204 RX8 yX8_isBelow wsX8_isBelow) := goodIn_app (goodIn_of _ (by decide +kernel)) ggX8_reasonToMove_X8_isBelow
set_option maxRecDepth 20000 in
theorem ggX8_reasonToMove_X8_projectOf : GoodIn wsX8_reasonToMove wsX8_projectOf := goodIn_r _ [14, 15, 16, 17, 4, 18, 10, 6, 7, 8, 9, 74, 75, 76, 77, 78, 79, 80, 81, 82, 83, 84, 85, 86, 87, 88, 89, 90, 91] (by decide +kernel) (by decide +kernel)
set_option maxRecDepth 20000 in
theorem gX8_reasonToMove_X8_projectOf : GoodIn wsX8_reasonToMove (wsV RX8 207 RX8 yX8_projectOf wsX8_projectOf) := goodIn_app (goodIn_of _ (by decide +kernel)) ggX8_reasonToMove_X8_projectOf
set_option maxRecDepth 20000 in
theorem ggX8_reasonToMove_X8_projectUnder : GoodIn wsX8_reasonToMove wsX8_projectUnder := goodIn_r _ [22, 15, 16, 17, 4, 18, 10, 11, 12, 13, 14, 6, 7, 8, 9, 74, 75, 76, 77, 78, 79, 80, 81, 82, 83, 84, 85, 86, 87, 88, 89, 90, 91] (by decide +kernel) (by decide +kernel)
set_option maxRecDepth 20000 in
theorem gX8_reasonToMove_X8_projectUnder : GoodIn wsX8_reasonToMove (wsV RX8 304 RX8 yX8_projectUnder wsX8_projectUnder) := goodIn_app (goodIn_of _ (by decide +kernel)) ggX8_reasonToMove_X8_projectUnder
set_option maxRecDepth 20000 in
theorem ggX8_reasonToMove_X8_reasonToPass : GoodIn wsX8_reasonToMove wsX8_reasonToPass := goodIn_r _ [26, 27, 28, 29, 4, 30, 10, 31, 32, 33, 34, 35, 36, 37, 38, 15, 16, 17, 18, 6, 7, 8, 9, 39, 40, 41, 42, 43, 44, 45, 46, 47, 48, 49, 50, 51, 52, 53, 54, 55, 56, 57, 58, 59, 60, 61, 62, 63, 64, 65, 66, 67, 68, 69, 70, 71, 72, 73, 74, 75, 76, 77, 78, 79, 80, 81, 82, 83, 84, 85, 86, 87, 88, 89, 90, 91] (by decide +kernel) (by decide +kernel)
set_option maxRecDepth 20000 in
theorem gX8_reasonToMove_X8_reasonToPass : GoodIn wsX8_reasonToMove (wsV RX8 294 RX8 yX8_reasonToPass wsX8_reasonToPass) := goodIn_app (goodIn_of _ (by decide +kernel)) ggX8_reasonToMove_X8_reasonToPass
theorem dX8_reasonToMove_0 : decode cX8_reasonToMove 0 = .ok (.iload_n 1, 1) := by decide +kernel
theorem dX8_reasonToMove_1 : decode cX8_reasonToMove 1 = .ok (.ifCond .eq 12, 3) := by decide +kernel
theorem dX8_reasonToMove_4 : decode cX8_reasonToMove 4 = .ok (.aload_n 0, 1) := by decide +kernel
theorem dX8_reasonToMove_5 : decode cX8_reasonToMove 5 = .ok (.iload_n 2, 1) := by decide +kernel
theorem dX8_reasonToMove_6 : decode cX8_reasonToMove 6 = .ok (.iload_n 1, 1) := by decide +kernel
theorem dX8_reasonToMove_7 : decode cX8_reasonToMove 7 = .ok (.invokevirtual 204, 3) := by decide +kernel
theorem dX8_reasonToMove_10 : decode cX8_reasonToMove 10 = .ok (.ifCond .eq 7, 3) := by decide +kernel
theorem dX8_reasonToMove_13 : decode cX8_reasonToMove 13 = .ok (.iconst 5, 1) := by decide +kernel
theorem dX8_reasonToMove_14 : decode cX8_reasonToMove 14 = .ok (.goto 19, 3) := by decide +kernel
theorem dX8_reasonToMove_17 : decode cX8_reasonToMove 17 = .ok (.aload_n 0, 1) := by decide +kernel
theorem dX8_reasonToMove_18 : decode cX8_reasonToMove 18 = .ok (.iload_n 1, 1) := by decide +kernel
theorem dX8_reasonToMove_19 : decode cX8_reasonToMove 19 = .ok (.aload_n 0, 1) := by decide +kernel
theorem dX8_reasonToMove_20 : decode cX8_reasonToMove 20 = .ok (.iload_n 1, 1) := by decide +kernel
theorem dX8_reasonToMove_21 : decode cX8_reasonToMove 21 = .ok (.invokevirtual 207, 3) := by decide +kernel
theorem dX8_reasonToMove_24 : decode cX8_reasonToMove 24 = .ok (.aload_n 0, 1) := by decide +kernel
theorem dX8_reasonToMove_25 : decode cX8_reasonToMove 25 = .ok (.iload_n 1, 1) := by decide +kernel
theorem dX8_reasonToMove_26 : decode cX8_reasonToMove 26 = .ok (.iload_n 2, 1) := by decide +kernel
theorem dX8_reasonToMove_27 : decode cX8_reasonToMove 27 = .ok (.invokevirtual 304, 3) := by decide +kernel
theorem dX8_reasonToMove_30 : decode cX8_reasonToMove 30 = .ok (.invokevirtual 294, 3) := by decide +kernel
theorem dX8_reasonToMove_33 : decode cX8_reasonToMove 33 = .ok (.ireturn, 1) := by decide +kernel
set_option maxRecDepth 20000 in
theorem ggX8_moveReason_X8_isFolder : GoodIn wsX8_moveReason wsX8_isFolder := goodIn_r _ [6, 7, 8, 9, 5, 10, 86, 87, 88, 89, 90, 91, 92, 93, 94, 95, 96, 97, 98, 99, 100, 101, 102, 103] (by decide +kernel) (by decide +kernel)
set_option maxRecDepth 20000 in
theorem gX8_moveReason_X8_isFolder : GoodIn wsX8_moveReason (wsV RX8 220 RX8 yX8_isFolder wsX8_isFolder) := goodIn_app (goodIn_of _ (by decide +kernel)) ggX8_moveReason_X8_isFolder
set_option maxRecDepth 20000 in
theorem ggX8_moveReason_X8_reasonToMove : GoodIn wsX8_moveReason wsX8_reasonToMove := goodIn_r _ [14, 15, 16, 17, 5, 18, 19, 20, 21, 22, 7, 23, 24, 25, 26, 27, 28, 29, 30, 31, 32, 33, 34, 35, 36, 37, 38, 39, 40, 41, 42, 43, 44, 45, 46, 47, 48, 49, 50, 51, 52, 53, 54, 55, 56, 57, 58, 59, 60, 61, 62, 63, 64, 65, 66, 67, 68, 69, 70, 71, 72, 73, 74, 75, 76, 77, 78, 79, 80, 81, 82, 83, 84, 85, 86, 87, 88, 89, 90, 91, 92, 93, 94, 95, 96, 97, 98, 99, 100, 101, 102, 103] (by decide +kernel) (by decide +kernel)
set_option maxRecDepth 20000 in
theorem gX8_moveReason_X8_reasonToMove : GoodIn wsX8_moveReason (wsV RX8 307 RX8 yX8_reasonToMove wsX8_reasonToMove) := goodIn_app (goodIn_of _ (by decide +kernel)) ggX8_moveReason_X8_reasonToMove
theorem dX8_moveReason_0 : decode cX8_moveReason 0 = .ok (.aload_n 0, 1) := by decide +kernel
theorem dX8_moveReason_1 : decode cX8_moveReason 1 = .ok (.aload_n 0, 1) := by decide +kernel
theorem dX8_moveReason_2 : decode cX8_moveReason 2 = .ok (.iload_n 1, 1) := by decide +kernel
theorem dX8_moveReason_3 : decode cX8_moveReason 3 = .ok (.invokevirtual 220, 3) := by decide +kernel
theorem dX8_moveReason_6 : decode cX8_moveReason 6 = .ok (.ifCond .eq 15, 3) := by decide +kernel
theorem dX8_moveReason_9 : decode cX8_moveReason 9 = .ok (.aload_n 0, 1) := by decide +kernel
theorem dX8_moveReason_10 : decode cX8_moveReason 10 = .ok (.iload_n 2, 1) := by decide +kernel
theorem dX8_moveReason_11 : decode cX8_moveReason 11 = .ok (.invokevirtual 220, 3) := by decide +kernel
theorem dX8_moveReason_14 : decode cX8_moveReason 14 = .ok (.ifCond .eq 7, 3) := by decide +kernel
theorem dX8_moveReason_17 : decode cX8_moveReason 17 = .ok (.iconst 0, 1) := by decide +kernel
theorem dX8_moveReason_18 : decode cX8_moveReason 18 = .ok (.goto 4, 3) := by decide +kernel
theorem dX8_moveReason_21 : decode cX8_moveReason 21 = .ok (.iconst 1, 1) := by decide +kernel
theorem dX8_moveReason_22 : decode cX8_moveReason 22 = .ok (.putfield 43, 3) := by decide +kernel
theorem dX8_moveReason_25 : decode cX8_moveReason 25 = .ok (.aload_n 0, 1) := by decide +kernel
theorem dX8_moveReason_26 : decode cX8_moveReason 26 = .ok (.getfield 43, 3) := by decide +kernel
theorem dX8_moveReason_29 : decode cX8_moveReason 29 = .ok (.ifCond .le 7, 3) := by decide +kernel
theorem dX8_moveReason_32 : decode cX8_moveReason 32 = .ok (.iconst 0, 1) := by decide +kernel
theorem dX8_moveReason_33 : decode cX8_moveReason 33 = .ok (.goto 9, 3) := by decide +kernel
theorem dX8_moveReason_36 : decode cX8_moveReason 36 = .ok (.aload_n 0, 1) := by decide +kernel
theorem dX8_moveReason_37 : decode cX8_moveReason 37 = .ok (.iload_n 1, 1) := by decide +kernel
theorem dX8_moveReason_38 : decode cX8_moveReason 38 = .ok (.iload_n 2, 1) := by decide +kernel
theorem dX8_moveReason_39 : decode cX8_moveReason 39 = .ok (.invokevirtual 307, 3) := by decide +kernel
theorem dX8_moveReason_42 : decode cX8_moveReason 42 = .ok (.ireturn, 1) := by decide +kernel
set_option maxRecDepth 20000 in
theorem ggX8_moveFolder_X8_isFolder : GoodIn wsX8_moveFolder wsX8_isFolder := goodIn_r _ [7, 2, 8, 9, 6, 10, 104, 105, 106, 107, 108, 109, 110, 111, 112, 113, 114, 115, 116, 117, 118, 119, 120, 121] (by decide +kernel) (by decide +kernel)
set_option maxRecDepth 20000 in
theorem gX8_moveFolder_X8_isFolder : GoodIn wsX8_moveFolder (wsV RX8 220 RX8 yX8_isFolder wsX8_isFolder) := goodIn_app (goodIn_of _ (by decide +kernel)) ggX8_moveFolder_X8_isFolder
set_option maxRecDepth 20000 in
theorem ggX8_moveFolder_X8_reasonToMove : GoodIn wsX8_moveFolder wsX8_reasonToMove := goodIn_r _ [14, 15, 16, 17, 6, 18, 19, 20, 21, 22, 2, 23, 24, 25, 26, 27, 28, 29, 30, 31, 32, 33, 34, 35, 36, 37, 38, 39, 40, 41, 42, 43, 44, 45, 46, 47, 48, 49, 50, 51, 52, 53, 54, 55, 56, 57, 58, 59, 60, 61, 62, 63, 64, 65, 66, 67, 68, 69, 70, 71, 72, 73, 74, 75, 76, 77, 78, 79, 80, 81, 82, 83, 84, 85, 104, 105, 106, 107, 108, 109, 110, 111, 112, 113, 114, 115, 116, 117, 118, 119, 120, 121] (by decide +kernel) (by decide +kernel)
set_option maxRecDepth 20000 in
theorem gX8_moveFolder_X8_reasonToMove : GoodIn wsX8_moveFolder (wsV RX8 307 RX8 yX8_reasonToMove wsX8_reasonToMove) := goodIn_app (goodIn_of _ (by decide +kernel)) ggX8_moveFolder_X8_reasonToMove
set_option maxRecDepth 20000 in
theorem ggX8_moveFolder_X8_keeps : GoodIn wsX8_moveFolder wsX8_keeps := goodIn_r _ [89, 90, 91, 2, 104, 105, 106, 107, 108, 109, 110, 111, 112, 113, 114, 115, 116, 117, 118, 119, 120, 121] (by decide +kernel) (by decide +kernel)
set_option maxRecDepth 20000 in
theorem gX8_moveFolder_X8_keeps : GoodIn wsX8_moveFolder (wsV RX8 179 RX8 yX8_keeps wsX8_keeps) := goodIn_app (goodIn_of _ (by decide +kernel)) ggX8_moveFolder_X8_keeps
set_option maxRecDepth 20000 in
theorem ggX8_moveFolder_X8_projectOf : GoodIn wsX8_moveFolder wsX8_projectOf := goodIn_r _ [26, 27, 28, 29, 6, 30, 2, 19, 20, 21, 22, 104, 105, 106, 107, 108, 109, 110, 111, 112, 113, 114, 115, 116, 117, 118, 119, 120, 121] (by decide +kernel) (by decide +kernel)
set_option maxRecDepth 20000 in
theorem gX8_moveFolder_X8_projectOf : GoodIn wsX8_moveFolder (wsV RX8 207 RX8 yX8_projectOf wsX8_projectOf) := goodIn_app (goodIn_of _ (by decide +kernel)) ggX8_moveFolder_X8_projectOf
set_option maxRecDepth 20000 in
theorem ggX8_moveFolder_X8_projectUnder : GoodIn wsX8_moveFolder wsX8_projectUnder := goodIn_r _ [34, 27, 28, 29, 6, 30, 2, 23, 24, 25, 26, 19, 20, 21, 22, 104, 105, 106, 107, 108, 109, 110, 111, 112, 113, 114, 115, 116, 117, 118, 119, 120, 121] (by decide +kernel) (by decide +kernel)
set_option maxRecDepth 20000 in
theorem gX8_moveFolder_X8_projectUnder : GoodIn wsX8_moveFolder (wsV RX8 304 RX8 yX8_projectUnder wsX8_projectUnder) := goodIn_app (goodIn_of _ (by decide +kernel)) ggX8_moveFolder_X8_projectUnder
set_option maxRecDepth 20000 in
theorem ggX8_moveFolder_X8_passes : GoodIn wsX8_moveFolder wsX8_passes := goodIn_r _ [95, 39, 40, 41, 6, 42, 2, 43, 44, 45, 46, 47, 48, 49, 50, 27, 28, 29, 30, 19, 20, 21, 22, 96, 97, 98, 99, 64, 65, 66, 74, 75, 76, 77, 71, 72, 73, 104, 105, 106, 107, 108, 109, 110, 111, 112, 113, 114, 115, 116, 117, 118, 119, 120, 121] (by decide +kernel) (by decide +kernel)
set_option maxRecDepth 20000 in
theorem gX8_moveFolder_X8_passes : GoodIn wsX8_moveFolder (wsV RX8 301 RX8 yX8_passes wsX8_passes) := goodIn_app (goodIn_of _ (by decide +kernel)) ggX8_moveFolder_X8_passes
set_option maxRecDepth 20000 in
theorem ggX8_moveFolder_X8_setsClocks : GoodIn wsX8_moveFolder wsX8_setsClocks := goodIn_r _ [103, 59, 2, 60, 61, 62, 6, 63, 64, 65, 66, 67, 68, 69, 70, 71, 72, 73, 104, 105, 106, 107, 108, 109, 110, 111, 112, 113, 114, 115, 116, 117, 118, 119, 120, 121] (by decide +kernel) (by decide +kernel)
set_option maxRecDepth 20000 in
theorem gX8_moveFolder_X8_setsClocks : GoodIn wsX8_moveFolder (wsV RX8 186 RX8 yX8_setsClocks wsX8_setsClocks) := goodIn_app (goodIn_of _ (by decide +kernel)) ggX8_moveFolder_X8_setsClocks
theorem dX8_moveFolder_0 : decode cX8_moveFolder 0 = .ok (.aload_n 0, 1) := by decide +kernel
theorem dX8_moveFolder_1 : decode cX8_moveFolder 1 = .ok (.aload_n 0, 1) := by decide +kernel
theorem dX8_moveFolder_2 : decode cX8_moveFolder 2 = .ok (.iload_n 1, 1) := by decide +kernel
theorem dX8_moveFolder_3 : decode cX8_moveFolder 3 = .ok (.invokevirtual 220, 3) := by decide +kernel
theorem dX8_moveFolder_6 : decode cX8_moveFolder 6 = .ok (.ifCond .eq 11, 3) := by decide +kernel
theorem dX8_moveFolder_9 : decode cX8_moveFolder 9 = .ok (.aload_n 0, 1) := by decide +kernel
theorem dX8_moveFolder_10 : decode cX8_moveFolder 10 = .ok (.iload_n 2, 1) := by decide +kernel
theorem dX8_moveFolder_11 : decode cX8_moveFolder 11 = .ok (.invokevirtual 220, 3) := by decide +kernel
theorem dX8_moveFolder_14 : decode cX8_moveFolder 14 = .ok (.ifCond .ne 7, 3) := by decide +kernel
theorem dX8_moveFolder_17 : decode cX8_moveFolder 17 = .ok (.iconst 1, 1) := by decide +kernel
theorem dX8_moveFolder_18 : decode cX8_moveFolder 18 = .ok (.goto 17, 3) := by decide +kernel
theorem dX8_moveFolder_21 : decode cX8_moveFolder 21 = .ok (.aload_n 0, 1) := by decide +kernel
theorem dX8_moveFolder_22 : decode cX8_moveFolder 22 = .ok (.iload_n 1, 1) := by decide +kernel
theorem dX8_moveFolder_23 : decode cX8_moveFolder 23 = .ok (.iload_n 2, 1) := by decide +kernel
theorem dX8_moveFolder_24 : decode cX8_moveFolder 24 = .ok (.invokevirtual 307, 3) := by decide +kernel
theorem dX8_moveFolder_27 : decode cX8_moveFolder 27 = .ok (.ifCond .le 7, 3) := by decide +kernel
theorem dX8_moveFolder_30 : decode cX8_moveFolder 30 = .ok (.iconst 2, 1) := by decide +kernel
theorem dX8_moveFolder_31 : decode cX8_moveFolder 31 = .ok (.goto 4, 3) := by decide +kernel
theorem dX8_moveFolder_34 : decode cX8_moveFolder 34 = .ok (.iconst 0, 1) := by decide +kernel
theorem dX8_moveFolder_35 : decode cX8_moveFolder 35 = .ok (.putfield 43, 3) := by decide +kernel
theorem dX8_moveFolder_38 : decode cX8_moveFolder 38 = .ok (.aload_n 0, 1) := by decide +kernel
theorem dX8_moveFolder_39 : decode cX8_moveFolder 39 = .ok (.getfield 43, 3) := by decide +kernel
theorem dX8_moveFolder_42 : decode cX8_moveFolder 42 = .ok (.ifCond .le 5, 3) := by decide +kernel
theorem dX8_moveFolder_45 : decode cX8_moveFolder 45 = .ok (.iconst 0, 1) := by decide +kernel
theorem dX8_moveFolder_46 : decode cX8_moveFolder 46 = .ok (.ireturn, 1) := by decide +kernel
theorem dX8_moveFolder_47 : decode cX8_moveFolder 47 = .ok (.aload_n 0, 1) := by decide +kernel
theorem dX8_moveFolder_48 : decode cX8_moveFolder 48 = .ok (.invokevirtual 179, 3) := by decide +kernel
theorem dX8_moveFolder_51 : decode cX8_moveFolder 51 = .ok (.aload_n 0, 1) := by decide +kernel
theorem dX8_moveFolder_52 : decode cX8_moveFolder 52 = .ok (.iload_n 1, 1) := by decide +kernel
theorem dX8_moveFolder_53 : decode cX8_moveFolder 53 = .ok (.aload_n 0, 1) := by decide +kernel
theorem dX8_moveFolder_54 : decode cX8_moveFolder 54 = .ok (.iload_n 1, 1) := by decide +kernel
theorem dX8_moveFolder_55 : decode cX8_moveFolder 55 = .ok (.invokevirtual 207, 3) := by decide +kernel
theorem dX8_moveFolder_58 : decode cX8_moveFolder 58 = .ok (.aload_n 0, 1) := by decide +kernel
theorem dX8_moveFolder_59 : decode cX8_moveFolder 59 = .ok (.iload_n 1, 1) := by decide +kernel
theorem dX8_moveFolder_60 : decode cX8_moveFolder 60 = .ok (.iload_n 2, 1) := by decide +kernel
theorem dX8_moveFolder_61 : decode cX8_moveFolder 61 = .ok (.invokevirtual 304, 3) := by decide +kernel
theorem dX8_moveFolder_64 : decode cX8_moveFolder 64 = .ok (.invokevirtual 301, 3) := by decide +kernel
theorem dX8_moveFolder_67 : decode cX8_moveFolder 67 = .ok (.istore_n 3, 1) := by decide +kernel
theorem dX8_moveFolder_68 : decode cX8_moveFolder 68 = .ok (.aload_n 0, 1) := by decide +kernel
theorem dX8_moveFolder_69 : decode cX8_moveFolder 69 = .ok (.getfield 7, 3) := by decide +kernel
theorem dX8_moveFolder_72 : decode cX8_moveFolder 72 = .ok (.bipush 69, 2) := by decide +kernel
theorem dX8_moveFolder_74 : decode cX8_moveFolder 74 = .ok (.iload_n 1, 1) := by decide +kernel
theorem dX8_moveFolder_75 : decode cX8_moveFolder 75 = .ok (.iadd, 1) := by decide +kernel
theorem dX8_moveFolder_76 : decode cX8_moveFolder 76 = .ok (.iload_n 2, 1) := by decide +kernel
theorem dX8_moveFolder_77 : decode cX8_moveFolder 77 = .ok (.i2l, 1) := by decide +kernel
theorem dX8_moveFolder_78 : decode cX8_moveFolder 78 = .ok (.lastore, 1) := by decide +kernel
theorem dX8_moveFolder_79 : decode cX8_moveFolder 79 = .ok (.aload_n 0, 1) := by decide +kernel
theorem dX8_moveFolder_80 : decode cX8_moveFolder 80 = .ok (.invokevirtual 186, 3) := by decide +kernel
theorem dX8_moveFolder_83 : decode cX8_moveFolder 83 = .ok (.iload_n 3, 1) := by decide +kernel
theorem dX8_moveFolder_84 : decode cX8_moveFolder 84 = .ok (.ireturn, 1) := by decide +kernel
set_option maxRecDepth 20000 in
theorem ggX8_file_X8_isFile : GoodIn wsX8_file wsX8_isFile := goodIn_r _ [8, 3, 9, 10, 7, 11, 28, 29, 30, 31, 32, 33, 34, 35, 36, 37, 38, 39, 40, 41, 42, 43, 44, 45] (by decide +kernel) (by decide +kernel)
set_option maxRecDepth 20000 in
theorem gX8_file_X8_isFile : GoodIn wsX8_file (wsV RX8 310 RX8 yX8_isFile wsX8_isFile) := goodIn_app (goodIn_of _ (by decide +kernel)) ggX8_file_X8_isFile
set_option maxRecDepth 20000 in
theorem ggX8_file_X8_isIn : GoodIn wsX8_file wsX8_isIn := goodIn_r _ [11] (by decide +kernel) (by decide +kernel)
set_option maxRecDepth 20000 in
theorem gX8_file_X8_isIn : GoodIn wsX8_file (va_wsS RX8 59 yX8_isIn wsX8_isIn) := goodIn_app (goodIn_of _ (by decide +kernel)) ggX8_file_X8_isIn
set_option maxRecDepth 20000 in
theorem ggX8_file_X8_folderOf : GoodIn wsX8_file wsX8_folderOf := goodIn_r _ [15, 3, 28, 29, 30, 31, 32, 33, 34, 35, 36, 37, 38, 39, 40, 41, 42, 43, 44, 45] (by decide +kernel) (by decide +kernel)
set_option maxRecDepth 20000 in
theorem gX8_file_X8_folderOf : GoodIn wsX8_file (wsV RX8 197 RX8 yX8_folderOf wsX8_folderOf) := goodIn_app (goodIn_of _ (by decide +kernel)) ggX8_file_X8_folderOf
set_option maxRecDepth 20000 in
theorem ggX8_file_X8_projectOf : GoodIn wsX8_file wsX8_projectOf := goodIn_r _ [19, 20, 21, 22, 7, 23, 3, 24, 25, 26, 27, 28, 29, 30, 31, 32, 33, 34, 35, 36, 37, 38, 39, 40, 41, 42, 43, 44, 45] (by decide +kernel) (by decide +kernel)
set_option maxRecDepth 20000 in
theorem gX8_file_X8_projectOf : GoodIn wsX8_file (wsV RX8 207 RX8 yX8_projectOf wsX8_projectOf) := goodIn_app (goodIn_of _ (by decide +kernel)) ggX8_file_X8_projectOf
theorem dX8_file_0 : decode cX8_file 0 = .ok (.aload_n 0, 1) := by decide +kernel
theorem dX8_file_1 : decode cX8_file 1 = .ok (.aload_n 0, 1) := by decide +kernel
theorem dX8_file_2 : decode cX8_file 2 = .ok (.iload_n 1, 1) := by decide +kernel
theorem dX8_file_3 : decode cX8_file 3 = .ok (.invokevirtual 310, 3) := by decide +kernel
theorem dX8_file_6 : decode cX8_file 6 = .ok (.ifCond .ne 7, 3) := by decide +kernel
theorem dX8_file_9 : decode cX8_file 9 = .ok (.iconst 1, 1) := by decide +kernel
theorem dX8_file_10 : decode cX8_file 10 = .ok (.goto 20, 3) := by decide +kernel
theorem dX8_file_13 : decode cX8_file 13 = .ok (.iload_n 2, 1) := by decide +kernel
theorem dX8_file_14 : decode cX8_file 14 = .ok (.i2l, 1) := by decide +kernel
theorem dX8_file_15 : decode cX8_file 15 = .ok (.lconst 0, 1) := by decide +kernel
theorem dX8_file_16 : decode cX8_file 16 = .ok (.ldc2_w 313, 3) := by decide +kernel
theorem dX8_file_19 : decode cX8_file 19 = .ok (.invokestatic 59, 3) := by decide +kernel
theorem dX8_file_22 : decode cX8_file 22 = .ok (.ifCond .eq 7, 3) := by decide +kernel
theorem dX8_file_25 : decode cX8_file 25 = .ok (.iconst 0, 1) := by decide +kernel
theorem dX8_file_26 : decode cX8_file 26 = .ok (.goto 4, 3) := by decide +kernel
theorem dX8_file_29 : decode cX8_file 29 = .ok (.iconst 2, 1) := by decide +kernel
theorem dX8_file_30 : decode cX8_file 30 = .ok (.putfield 43, 3) := by decide +kernel
theorem dX8_file_33 : decode cX8_file 33 = .ok (.aload_n 0, 1) := by decide +kernel
theorem dX8_file_34 : decode cX8_file 34 = .ok (.getfield 43, 3) := by decide +kernel
theorem dX8_file_37 : decode cX8_file 37 = .ok (.ifCond .le 5, 3) := by decide +kernel
theorem dX8_file_40 : decode cX8_file 40 = .ok (.iconst 0, 1) := by decide +kernel
theorem dX8_file_41 : decode cX8_file 41 = .ok (.ireturn, 1) := by decide +kernel
theorem dX8_file_42 : decode cX8_file 42 = .ok (.iload_n 2, 1) := by decide +kernel
theorem dX8_file_43 : decode cX8_file 43 = .ok (.ifCond .ne 11, 3) := by decide +kernel
theorem dX8_file_46 : decode cX8_file 46 = .ok (.aload_n 0, 1) := by decide +kernel
theorem dX8_file_47 : decode cX8_file 47 = .ok (.iload_n 1, 1) := by decide +kernel
theorem dX8_file_48 : decode cX8_file 48 = .ok (.invokevirtual 197, 3) := by decide +kernel
theorem dX8_file_51 : decode cX8_file 51 = .ok (.goto 31, 3) := by decide +kernel
theorem dX8_file_54 : decode cX8_file 54 = .ok (.iload_n 2, 1) := by decide +kernel
theorem dX8_file_55 : decode cX8_file 55 = .ok (.iconst 1, 1) := by decide +kernel
theorem dX8_file_56 : decode cX8_file 56 = .ok (.if_icmp .ne 17, 3) := by decide +kernel
theorem dX8_file_59 : decode cX8_file 59 = .ok (.aload_n 0, 1) := by decide +kernel
theorem dX8_file_60 : decode cX8_file 60 = .ok (.getfield 7, 3) := by decide +kernel
theorem dX8_file_63 : decode cX8_file 63 = .ok (.sipush 249, 3) := by decide +kernel
theorem dX8_file_66 : decode cX8_file 66 = .ok (.iload_n 1, 1) := by decide +kernel
theorem dX8_file_67 : decode cX8_file 67 = .ok (.iadd, 1) := by decide +kernel
theorem dX8_file_68 : decode cX8_file 68 = .ok (.laload, 1) := by decide +kernel
theorem dX8_file_69 : decode cX8_file 69 = .ok (.l2i, 1) := by decide +kernel
theorem dX8_file_70 : decode cX8_file 70 = .ok (.goto 12, 3) := by decide +kernel
theorem dX8_file_73 : decode cX8_file 73 = .ok (.aload_n 0, 1) := by decide +kernel
theorem dX8_file_74 : decode cX8_file 74 = .ok (.aload_n 0, 1) := by decide +kernel
theorem dX8_file_75 : decode cX8_file 75 = .ok (.iload_n 1, 1) := by decide +kernel
theorem dX8_file_76 : decode cX8_file 76 = .ok (.invokevirtual 197, 3) := by decide +kernel
theorem dX8_file_79 : decode cX8_file 79 = .ok (.invokevirtual 207, 3) := by decide +kernel
theorem dX8_file_82 : decode cX8_file 82 = .ok (.ireturn, 1) := by decide +kernel
set_option maxRecDepth 20000 in
theorem ggX8_writeReason_X8_isFolder : GoodIn wsX8_writeReason wsX8_isFolder := goodIn_r _ [7, 8, 9, 10, 6, 11, 59, 60, 61, 62, 63, 64, 65, 66, 67, 68, 69, 70, 71, 72, 73, 74, 75, 76] (by decide +kernel) (by decide +kernel)
set_option maxRecDepth 20000 in
theorem gX8_writeReason_X8_isFolder : GoodIn wsX8_writeReason (wsV RX8 220 RX8 yX8_isFolder wsX8_isFolder) := goodIn_app (goodIn_of _ (by decide +kernel)) ggX8_writeReason_X8_isFolder
set_option maxRecDepth 20000 in
theorem ggX8_writeReason_X8_isIn : GoodIn wsX8_writeReason wsX8_isIn := goodIn_r _ [11] (by decide +kernel) (by decide +kernel)
set_option maxRecDepth 20000 in
theorem gX8_writeReason_X8_isIn : GoodIn wsX8_writeReason (va_wsS RX8 59 yX8_isIn wsX8_isIn) := goodIn_app (goodIn_of _ (by decide +kernel)) ggX8_writeReason_X8_isIn
set_option maxRecDepth 20000 in
theorem ggX8_writeReason_X8_projectOf : GoodIn wsX8_writeReason wsX8_projectOf := goodIn_r _ [15, 16, 17, 18, 6, 19, 8, 20, 21, 22, 23, 59, 60, 61, 62, 63, 64, 65, 66, 67, 68, 69, 70, 71, 72, 73, 74, 75, 76] (by decide +kernel) (by decide +kernel)
set_option maxRecDepth 20000 in
theorem gX8_writeReason_X8_projectOf : GoodIn wsX8_writeReason (wsV RX8 207 RX8 yX8_projectOf wsX8_projectOf) := goodIn_app (goodIn_of _ (by decide +kernel)) ggX8_writeReason_X8_projectOf
set_option maxRecDepth 20000 in
theorem ggX8_writeReason_X8_reasonFor : GoodIn wsX8_writeReason wsX8_reasonFor := goodIn_r _ [27, 28, 29, 30, 6, 31, 32, 33, 34, 35, 36, 8, 37, 38, 39, 40, 41, 42, 43, 44, 45, 46, 47, 48, 49, 50, 51, 52, 53, 54, 55, 56, 57, 58, 59, 60, 61, 62, 63, 64, 65, 66, 67, 68, 69, 70, 71, 72, 73, 74, 75, 76] (by decide +kernel) (by decide +kernel)
set_option maxRecDepth 20000 in
theorem gX8_writeReason_X8_reasonFor : GoodIn wsX8_writeReason (wsV RX8 283 RX8 yX8_reasonFor wsX8_reasonFor) := goodIn_app (goodIn_of _ (by decide +kernel)) ggX8_writeReason_X8_reasonFor
theorem dX8_writeReason_0 : decode cX8_writeReason 0 = .ok (.aload_n 0, 1) := by decide +kernel
theorem dX8_writeReason_1 : decode cX8_writeReason 1 = .ok (.aload_n 0, 1) := by decide +kernel
theorem dX8_writeReason_2 : decode cX8_writeReason 2 = .ok (.iload_n 1, 1) := by decide +kernel
theorem dX8_writeReason_3 : decode cX8_writeReason 3 = .ok (.invokevirtual 220, 3) := by decide +kernel
theorem dX8_writeReason_6 : decode cX8_writeReason 6 = .ok (.ifCond .ne 7, 3) := by decide +kernel
theorem dX8_writeReason_9 : decode cX8_writeReason 9 = .ok (.iconst 1, 1) := by decide +kernel
theorem dX8_writeReason_10 : decode cX8_writeReason 10 = .ok (.goto 20, 3) := by decide +kernel
theorem dX8_writeReason_13 : decode cX8_writeReason 13 = .ok (.iload_n 2, 1) := by decide +kernel
theorem dX8_writeReason_14 : decode cX8_writeReason 14 = .ok (.i2l, 1) := by decide +kernel
theorem dX8_writeReason_15 : decode cX8_writeReason 15 = .ok (.lconst 0, 1) := by decide +kernel
theorem dX8_writeReason_16 : decode cX8_writeReason 16 = .ok (.ldc2_w 315, 3) := by decide +kernel
theorem dX8_writeReason_19 : decode cX8_writeReason 19 = .ok (.invokestatic 59, 3) := by decide +kernel
theorem dX8_writeReason_22 : decode cX8_writeReason 22 = .ok (.ifCond .eq 7, 3) := by decide +kernel
theorem dX8_writeReason_25 : decode cX8_writeReason 25 = .ok (.iconst 0, 1) := by decide +kernel
theorem dX8_writeReason_26 : decode cX8_writeReason 26 = .ok (.goto 4, 3) := by decide +kernel
theorem dX8_writeReason_29 : decode cX8_writeReason 29 = .ok (.iconst 2, 1) := by decide +kernel
theorem dX8_writeReason_30 : decode cX8_writeReason 30 = .ok (.putfield 43, 3) := by decide +kernel
theorem dX8_writeReason_33 : decode cX8_writeReason 33 = .ok (.aload_n 0, 1) := by decide +kernel
theorem dX8_writeReason_34 : decode cX8_writeReason 34 = .ok (.getfield 43, 3) := by decide +kernel
theorem dX8_writeReason_37 : decode cX8_writeReason 37 = .ok (.ifCond .le 7, 3) := by decide +kernel
theorem dX8_writeReason_40 : decode cX8_writeReason 40 = .ok (.iconst 0, 1) := by decide +kernel
theorem dX8_writeReason_41 : decode cX8_writeReason 41 = .ok (.goto 15, 3) := by decide +kernel
theorem dX8_writeReason_44 : decode cX8_writeReason 44 = .ok (.aload_n 0, 1) := by decide +kernel
theorem dX8_writeReason_45 : decode cX8_writeReason 45 = .ok (.aload_n 0, 1) := by decide +kernel
theorem dX8_writeReason_46 : decode cX8_writeReason 46 = .ok (.iload_n 1, 1) := by decide +kernel
theorem dX8_writeReason_47 : decode cX8_writeReason 47 = .ok (.invokevirtual 207, 3) := by decide +kernel
theorem dX8_writeReason_50 : decode cX8_writeReason 50 = .ok (.iload_n 2, 1) := by decide +kernel
theorem dX8_writeReason_51 : decode cX8_writeReason 51 = .ok (.i2l, 1) := by decide +kernel
theorem dX8_writeReason_52 : decode cX8_writeReason 52 = .ok (.lconst 1, 1) := by decide +kernel
theorem dX8_writeReason_53 : decode cX8_writeReason 53 = .ok (.invokevirtual 283, 3) := by decide +kernel
theorem dX8_writeReason_56 : decode cX8_writeReason 56 = .ok (.ireturn, 1) := by decide +kernel
set_option maxRecDepth 20000 in
theorem ggX8_write_X8_isFolder : GoodIn wsX8_write wsX8_isFolder := goodIn_r _ [9, 2, 10, 11, 8, 12, 77, 78, 79, 80, 81, 82, 83, 84, 85, 86, 87, 88, 89, 90, 91, 92, 93, 94] (by decide +kernel) (by decide +kernel)
set_option maxRecDepth 20000 in
theorem gX8_write_X8_isFolder : GoodIn wsX8_write (wsV RX8 220 RX8 yX8_isFolder wsX8_isFolder) := goodIn_app (goodIn_of _ (by decide +kernel)) ggX8_write_X8_isFolder
set_option maxRecDepth 20000 in
theorem ggX8_write_X8_isIn : GoodIn wsX8_write wsX8_isIn := goodIn_r _ [12] (by decide +kernel) (by decide +kernel)
set_option maxRecDepth 20000 in
theorem gX8_write_X8_isIn : GoodIn wsX8_write (va_wsS RX8 59 yX8_isIn wsX8_isIn) := goodIn_app (goodIn_of _ (by decide +kernel)) ggX8_write_X8_isIn
set_option maxRecDepth 20000 in
theorem ggX8_write_X8_projectOf : GoodIn wsX8_write wsX8_projectOf := goodIn_r _ [16, 17, 18, 19, 8, 20, 2, 21, 22, 23, 24, 77, 78, 79, 80, 81, 82, 83, 84, 85, 86, 87, 88, 89, 90, 91, 92, 93, 94] (by decide +kernel) (by decide +kernel)
set_option maxRecDepth 20000 in
theorem gX8_write_X8_projectOf : GoodIn wsX8_write (wsV RX8 207 RX8 yX8_projectOf wsX8_projectOf) := goodIn_app (goodIn_of _ (by decide +kernel)) ggX8_write_X8_projectOf
set_option maxRecDepth 20000 in
theorem ggX8_write_X8_reasonFor : GoodIn wsX8_write wsX8_reasonFor := goodIn_r _ [28, 29, 30, 31, 8, 32, 33, 34, 35, 36, 37, 2, 38, 39, 40, 41, 42, 43, 44, 45, 46, 47, 48, 49, 50, 51, 52, 53, 54, 55, 56, 57, 58, 59, 77, 78, 79, 80, 81, 82, 83, 84, 85, 86, 87, 88, 89, 90, 91, 92, 93, 94] (by decide +kernel) (by decide +kernel)
set_option maxRecDepth 20000 in
theorem gX8_write_X8_reasonFor : GoodIn wsX8_write (wsV RX8 283 RX8 yX8_reasonFor wsX8_reasonFor) := goodIn_app (goodIn_of _ (by decide +kernel)) ggX8_write_X8_reasonFor
set_option maxRecDepth 20000 in
theorem ggX8_write_X8_keeps : GoodIn wsX8_write wsX8_keeps := goodIn_r _ [63, 64, 65, 2, 77, 78, 79, 80, 81, 82, 83, 84, 85, 86, 87, 88, 89, 90, 91, 92, 93, 94] (by decide +kernel) (by decide +kernel)
set_option maxRecDepth 20000 in
theorem gX8_write_X8_keeps : GoodIn wsX8_write (wsV RX8 179 RX8 yX8_keeps wsX8_keeps) := goodIn_app (goodIn_of _ (by decide +kernel)) ggX8_write_X8_keeps
set_option maxRecDepth 20000 in
theorem ggX8_write_X8_addsFile : GoodIn wsX8_write wsX8_addsFile := goodIn_r _ [68] (by decide +kernel) (by decide +kernel)
set_option maxRecDepth 20000 in
theorem gX8_write_X8_addsFile : GoodIn wsX8_write (va_wsS RX8 146 yX8_addsFile wsX8_addsFile) := goodIn_app (goodIn_of _ (by decide +kernel)) ggX8_write_X8_addsFile
set_option maxRecDepth 20000 in
theorem ggX8_write_X8_counts : GoodIn wsX8_write wsX8_counts := goodIn_r _ [72, 2, 38, 39, 8, 40, 48, 49, 50, 51, 45, 46, 47, 77, 78, 79, 80, 81, 82, 83, 84, 85, 86, 87, 88, 89, 90, 91, 92, 93, 94] (by decide +kernel) (by decide +kernel)
set_option maxRecDepth 20000 in
theorem gX8_write_X8_counts : GoodIn wsX8_write (wsV RX8 287 RX8 yX8_counts wsX8_counts) := goodIn_app (goodIn_of _ (by decide +kernel)) ggX8_write_X8_counts
set_option maxRecDepth 20000 in
theorem ggX8_write_X8_setsClocks : GoodIn wsX8_write wsX8_setsClocks := goodIn_r _ [76, 33, 2, 34, 35, 36, 8, 37, 38, 39, 40, 41, 42, 43, 44, 45, 46, 47, 77, 78, 79, 80, 81, 82, 83, 84, 85, 86, 87, 88, 89, 90, 91, 92, 93, 94] (by decide +kernel) (by decide +kernel)
set_option maxRecDepth 20000 in
theorem gX8_write_X8_setsClocks : GoodIn wsX8_write (wsV RX8 186 RX8 yX8_setsClocks wsX8_setsClocks) := goodIn_app (goodIn_of _ (by decide +kernel)) ggX8_write_X8_setsClocks
theorem dX8_write_0 : decode cX8_write 0 = .ok (.aload_n 0, 1) := by decide +kernel
theorem dX8_write_1 : decode cX8_write 1 = .ok (.iload_n 1, 1) := by decide +kernel
theorem dX8_write_2 : decode cX8_write 2 = .ok (.invokevirtual 220, 3) := by decide +kernel
theorem dX8_write_5 : decode cX8_write 5 = .ok (.ifCond .eq 19, 3) := by decide +kernel
theorem dX8_write_8 : decode cX8_write 8 = .ok (.iload_n 2, 1) := by decide +kernel
theorem dX8_write_9 : decode cX8_write 9 = .ok (.i2l, 1) := by decide +kernel
theorem dX8_write_10 : decode cX8_write 10 = .ok (.lconst 0, 1) := by decide +kernel
theorem dX8_write_11 : decode cX8_write 11 = .ok (.ldc2_w 315, 3) := by decide +kernel
theorem dX8_write_14 : decode cX8_write 14 = .ok (.invokestatic 59, 3) := by decide +kernel
theorem dX8_write_17 : decode cX8_write 17 = .ok (.ifCond .eq 7, 3) := by decide +kernel
theorem dX8_write_20 : decode cX8_write 20 = .ok (.iconst 1, 1) := by decide +kernel
theorem dX8_write_21 : decode cX8_write 21 = .ok (.goto 4, 3) := by decide +kernel
theorem dX8_write_24 : decode cX8_write 24 = .ok (.iconst 0, 1) := by decide +kernel
theorem dX8_write_25 : decode cX8_write 25 = .ok (.istore_n 3, 1) := by decide +kernel
theorem dX8_write_26 : decode cX8_write 26 = .ok (.aload_n 0, 1) := by decide +kernel
theorem dX8_write_27 : decode cX8_write 27 = .ok (.aload_n 0, 1) := by decide +kernel
theorem dX8_write_28 : decode cX8_write 28 = .ok (.iload_n 1, 1) := by decide +kernel
theorem dX8_write_29 : decode cX8_write 29 = .ok (.invokevirtual 220, 3) := by decide +kernel
theorem dX8_write_32 : decode cX8_write 32 = .ok (.ifCond .ne 7, 3) := by decide +kernel
theorem dX8_write_35 : decode cX8_write 35 = .ok (.iconst 1, 1) := by decide +kernel
theorem dX8_write_36 : decode cX8_write 36 = .ok (.goto 44, 3) := by decide +kernel
theorem dX8_write_39 : decode cX8_write 39 = .ok (.iload_n 3, 1) := by decide +kernel
theorem dX8_write_40 : decode cX8_write 40 = .ok (.ifCond .ne 7, 3) := by decide +kernel
theorem dX8_write_43 : decode cX8_write 43 = .ok (.iconst 2, 1) := by decide +kernel
theorem dX8_write_44 : decode cX8_write 44 = .ok (.goto 36, 3) := by decide +kernel
theorem dX8_write_47 : decode cX8_write 47 = .ok (.aload_n 0, 1) := by decide +kernel
theorem dX8_write_48 : decode cX8_write 48 = .ok (.getfield 7, 3) := by decide +kernel
theorem dX8_write_51 : decode cX8_write 51 = .ok (.iconst 3, 1) := by decide +kernel
theorem dX8_write_52 : decode cX8_write 52 = .ok (.laload, 1) := by decide +kernel
theorem dX8_write_53 : decode cX8_write 53 = .ok (.ldc2_w 144, 3) := by decide +kernel
theorem dX8_write_56 : decode cX8_write 56 = .ok (.lcmp, 1) := by decide +kernel
theorem dX8_write_57 : decode cX8_write 57 = .ok (.ifCond .eq 18, 3) := by decide +kernel
theorem dX8_write_60 : decode cX8_write 60 = .ok (.aload_n 0, 1) := by decide +kernel
theorem dX8_write_61 : decode cX8_write 61 = .ok (.aload_n 0, 1) := by decide +kernel
theorem dX8_write_62 : decode cX8_write 62 = .ok (.iload_n 1, 1) := by decide +kernel
theorem dX8_write_63 : decode cX8_write 63 = .ok (.invokevirtual 207, 3) := by decide +kernel
theorem dX8_write_66 : decode cX8_write 66 = .ok (.iload_n 2, 1) := by decide +kernel
theorem dX8_write_67 : decode cX8_write 67 = .ok (.i2l, 1) := by decide +kernel
theorem dX8_write_68 : decode cX8_write 68 = .ok (.lconst 1, 1) := by decide +kernel
theorem dX8_write_69 : decode cX8_write 69 = .ok (.invokevirtual 283, 3) := by decide +kernel
theorem dX8_write_72 : decode cX8_write 72 = .ok (.ifCond .le 7, 3) := by decide +kernel
theorem dX8_write_75 : decode cX8_write 75 = .ok (.iconst 3, 1) := by decide +kernel
theorem dX8_write_76 : decode cX8_write 76 = .ok (.goto 4, 3) := by decide +kernel
theorem dX8_write_79 : decode cX8_write 79 = .ok (.iconst 0, 1) := by decide +kernel
theorem dX8_write_80 : decode cX8_write 80 = .ok (.putfield 43, 3) := by decide +kernel
theorem dX8_write_83 : decode cX8_write 83 = .ok (.aload_n 0, 1) := by decide +kernel
theorem dX8_write_84 : decode cX8_write 84 = .ok (.getfield 43, 3) := by decide +kernel
theorem dX8_write_87 : decode cX8_write 87 = .ok (.ifCond .le 5, 3) := by decide +kernel
theorem dX8_write_90 : decode cX8_write 90 = .ok (.iconst 0, 1) := by decide +kernel
theorem dX8_write_91 : decode cX8_write 91 = .ok (.ireturn, 1) := by decide +kernel
theorem dX8_write_92 : decode cX8_write 92 = .ok (.aload_n 0, 1) := by decide +kernel
theorem dX8_write_93 : decode cX8_write 93 = .ok (.invokevirtual 179, 3) := by decide +kernel
theorem dX8_write_96 : decode cX8_write 96 = .ok (.aload_n 0, 1) := by decide +kernel
theorem dX8_write_97 : decode cX8_write 97 = .ok (.getfield 7, 3) := by decide +kernel
theorem dX8_write_100 : decode cX8_write 100 = .ok (.iload_n 1, 1) := by decide +kernel
theorem dX8_write_101 : decode cX8_write 101 = .ok (.iload_n 2, 1) := by decide +kernel
theorem dX8_write_102 : decode cX8_write 102 = .ok (.invokestatic 146, 3) := by decide +kernel
theorem dX8_write_105 : decode cX8_write 105 = .ok (.aload_n 0, 1) := by decide +kernel
theorem dX8_write_106 : decode cX8_write 106 = .ok (.aload_n 0, 1) := by decide +kernel
theorem dX8_write_107 : decode cX8_write 107 = .ok (.iload_n 1, 1) := by decide +kernel
theorem dX8_write_108 : decode cX8_write 108 = .ok (.invokevirtual 207, 3) := by decide +kernel
theorem dX8_write_111 : decode cX8_write 111 = .ok (.iload_n 2, 1) := by decide +kernel
theorem dX8_write_112 : decode cX8_write 112 = .ok (.i2l, 1) := by decide +kernel
theorem dX8_write_113 : decode cX8_write 113 = .ok (.lconst 1, 1) := by decide +kernel
theorem dX8_write_114 : decode cX8_write 114 = .ok (.invokevirtual 287, 3) := by decide +kernel
theorem dX8_write_117 : decode cX8_write 117 = .ok (.aload_n 0, 1) := by decide +kernel
theorem dX8_write_118 : decode cX8_write 118 = .ok (.invokevirtual 186, 3) := by decide +kernel
theorem dX8_write_121 : decode cX8_write 121 = .ok (.aload_n 0, 1) := by decide +kernel
theorem dX8_write_122 : decode cX8_write 122 = .ok (.getfield 7, 3) := by decide +kernel
theorem dX8_write_125 : decode cX8_write 125 = .ok (.iconst 3, 1) := by decide +kernel
theorem dX8_write_126 : decode cX8_write 126 = .ok (.laload, 1) := by decide +kernel
theorem dX8_write_127 : decode cX8_write 127 = .ok (.l2i, 1) := by decide +kernel
theorem dX8_write_128 : decode cX8_write 128 = .ok (.iconst 1, 1) := by decide +kernel
theorem dX8_write_129 : decode cX8_write 129 = .ok (.isub, 1) := by decide +kernel
theorem dX8_write_130 : decode cX8_write 130 = .ok (.ireturn, 1) := by decide +kernel
set_option maxRecDepth 20000 in
theorem ggX8_room_X8_isFolder : GoodIn wsX8_room wsX8_isFolder := goodIn_r _ [6, 7, 8, 9, 5, 10, 58, 59, 60, 61, 62, 63, 64, 65, 66, 67, 68, 69, 70, 71, 72, 73, 74, 75] (by decide +kernel) (by decide +kernel)
set_option maxRecDepth 20000 in
theorem gX8_room_X8_isFolder : GoodIn wsX8_room (wsV RX8 220 RX8 yX8_isFolder wsX8_isFolder) := goodIn_app (goodIn_of _ (by decide +kernel)) ggX8_room_X8_isFolder
set_option maxRecDepth 20000 in
theorem ggX8_room_X8_projectOf : GoodIn wsX8_room wsX8_projectOf := goodIn_r _ [14, 15, 16, 17, 5, 18, 7, 19, 20, 21, 22, 58, 59, 60, 61, 62, 63, 64, 65, 66, 67, 68, 69, 70, 71, 72, 73, 74, 75] (by decide +kernel) (by decide +kernel)
set_option maxRecDepth 20000 in
theorem gX8_room_X8_projectOf : GoodIn wsX8_room (wsV RX8 207 RX8 yX8_projectOf wsX8_projectOf) := goodIn_app (goodIn_of _ (by decide +kernel)) ggX8_room_X8_projectOf
set_option maxRecDepth 20000 in
theorem ggX8_room_X8_reasonFor : GoodIn wsX8_room wsX8_reasonFor := goodIn_r _ [26, 27, 28, 29, 5, 30, 31, 32, 33, 34, 35, 7, 36, 37, 38, 39, 40, 41, 42, 43, 44, 45, 46, 47, 48, 49, 50, 51, 52, 53, 54, 55, 56, 57, 58, 59, 60, 61, 62, 63, 64, 65, 66, 67, 68, 69, 70, 71, 72, 73, 74, 75] (by decide +kernel) (by decide +kernel)
set_option maxRecDepth 20000 in
theorem gX8_room_X8_reasonFor : GoodIn wsX8_room (wsV RX8 283 RX8 yX8_reasonFor wsX8_reasonFor) := goodIn_app (goodIn_of _ (by decide +kernel)) ggX8_room_X8_reasonFor
theorem dX8_room_0 : decode cX8_room 0 = .ok (.aload_n 0, 1) := by decide +kernel
theorem dX8_room_1 : decode cX8_room 1 = .ok (.aload_n 0, 1) := by decide +kernel
theorem dX8_room_2 : decode cX8_room 2 = .ok (.iload_n 1, 1) := by decide +kernel
theorem dX8_room_3 : decode cX8_room 3 = .ok (.invokevirtual 220, 3) := by decide +kernel
theorem dX8_room_6 : decode cX8_room 6 = .ok (.ifCond .eq 7, 3) := by decide +kernel
theorem dX8_room_9 : decode cX8_room 9 = .ok (.iconst 0, 1) := by decide +kernel
theorem dX8_room_10 : decode cX8_room 10 = .ok (.goto 4, 3) := by decide +kernel
theorem dX8_room_13 : decode cX8_room 13 = .ok (.iconst 1, 1) := by decide +kernel
theorem dX8_room_14 : decode cX8_room 14 = .ok (.putfield 43, 3) := by decide +kernel
theorem dX8_room_17 : decode cX8_room 17 = .ok (.aload_n 0, 1) := by decide +kernel
theorem dX8_room_18 : decode cX8_room 18 = .ok (.getfield 43, 3) := by decide +kernel
theorem dX8_room_21 : decode cX8_room 21 = .ok (.ifCond .le 5, 3) := by decide +kernel
theorem dX8_room_24 : decode cX8_room 24 = .ok (.iconst 0, 1) := by decide +kernel
theorem dX8_room_25 : decode cX8_room 25 = .ok (.ireturn, 1) := by decide +kernel
theorem dX8_room_26 : decode cX8_room 26 = .ok (.aload_n 0, 1) := by decide +kernel
theorem dX8_room_27 : decode cX8_room 27 = .ok (.iload_n 1, 1) := by decide +kernel
theorem dX8_room_28 : decode cX8_room 28 = .ok (.invokevirtual 207, 3) := by decide +kernel
theorem dX8_room_31 : decode cX8_room 31 = .ok (.istore_n 2, 1) := by decide +kernel
theorem dX8_room_32 : decode cX8_room 32 = .ok (.sipush 9999, 3) := by decide +kernel
theorem dX8_room_35 : decode cX8_room 35 = .ok (.istore_n 3, 1) := by decide +kernel
theorem dX8_room_36 : decode cX8_room 36 = .ok (.iload_n 3, 1) := by decide +kernel
theorem dX8_room_37 : decode cX8_room 37 = .ok (.ifCond .lt 20, 3) := by decide +kernel
theorem dX8_room_40 : decode cX8_room 40 = .ok (.aload_n 0, 1) := by decide +kernel
theorem dX8_room_41 : decode cX8_room 41 = .ok (.iload_n 2, 1) := by decide +kernel
theorem dX8_room_42 : decode cX8_room 42 = .ok (.iload_n 3, 1) := by decide +kernel
theorem dX8_room_43 : decode cX8_room 43 = .ok (.i2l, 1) := by decide +kernel
theorem dX8_room_44 : decode cX8_room 44 = .ok (.lconst 1, 1) := by decide +kernel
theorem dX8_room_45 : decode cX8_room 45 = .ok (.invokevirtual 283, 3) := by decide +kernel
theorem dX8_room_48 : decode cX8_room 48 = .ok (.ifCond .le 9, 3) := by decide +kernel
theorem dX8_room_51 : decode cX8_room 51 = .ok (.iinc 3 (-1), 3) := by decide +kernel
theorem dX8_room_54 : decode cX8_room 54 = .ok (.goto (-18), 3) := by decide +kernel
theorem dX8_room_57 : decode cX8_room 57 = .ok (.iload_n 3, 1) := by decide +kernel
theorem dX8_room_58 : decode cX8_room 58 = .ok (.ireturn, 1) := by decide +kernel
set_option maxRecDepth 20000 in
theorem ggX8_resize_X8_isFile : GoodIn wsX8_resize wsX8_isFile := goodIn_r _ [8, 2, 9, 10, 7, 11, 77, 78, 79, 80, 81, 82, 83, 84, 85, 86, 87, 88, 89, 90, 91, 92, 93, 94] (by decide +kernel) (by decide +kernel)
set_option maxRecDepth 20000 in
theorem gX8_resize_X8_isFile : GoodIn wsX8_resize (wsV RX8 310 RX8 yX8_isFile wsX8_isFile) := goodIn_app (goodIn_of _ (by decide +kernel)) ggX8_resize_X8_isFile
set_option maxRecDepth 20000 in
theorem ggX8_resize_X8_isIn : GoodIn wsX8_resize wsX8_isIn := goodIn_r _ [11] (by decide +kernel) (by decide +kernel)
set_option maxRecDepth 20000 in
theorem gX8_resize_X8_isIn : GoodIn wsX8_resize (va_wsS RX8 59 yX8_isIn wsX8_isIn) := goodIn_app (goodIn_of _ (by decide +kernel)) ggX8_resize_X8_isIn
set_option maxRecDepth 20000 in
theorem ggX8_resize_X8_folderOf : GoodIn wsX8_resize wsX8_folderOf := goodIn_r _ [15, 2, 77, 78, 79, 80, 81, 82, 83, 84, 85, 86, 87, 88, 89, 90, 91, 92, 93, 94] (by decide +kernel) (by decide +kernel)
set_option maxRecDepth 20000 in
theorem gX8_resize_X8_folderOf : GoodIn wsX8_resize (wsV RX8 197 RX8 yX8_folderOf wsX8_folderOf) := goodIn_app (goodIn_of _ (by decide +kernel)) ggX8_resize_X8_folderOf
set_option maxRecDepth 20000 in
theorem ggX8_resize_X8_projectOf : GoodIn wsX8_resize wsX8_projectOf := goodIn_r _ [19, 20, 21, 22, 7, 23, 2, 24, 25, 26, 27, 77, 78, 79, 80, 81, 82, 83, 84, 85, 86, 87, 88, 89, 90, 91, 92, 93, 94] (by decide +kernel) (by decide +kernel)
set_option maxRecDepth 20000 in
theorem gX8_resize_X8_projectOf : GoodIn wsX8_resize (wsV RX8 207 RX8 yX8_projectOf wsX8_projectOf) := goodIn_app (goodIn_of _ (by decide +kernel)) ggX8_resize_X8_projectOf
set_option maxRecDepth 20000 in
theorem ggX8_resize_X8_reasonFor : GoodIn wsX8_resize wsX8_reasonFor := goodIn_r _ [31, 32, 33, 34, 7, 35, 36, 37, 38, 39, 40, 2, 41, 42, 43, 44, 45, 46, 47, 48, 49, 50, 51, 52, 53, 54, 55, 56, 57, 58, 59, 60, 61, 62, 77, 78, 79, 80, 81, 82, 83, 84, 85, 86, 87, 88, 89, 90, 91, 92, 93, 94] (by decide +kernel) (by decide +kernel)
set_option maxRecDepth 20000 in
theorem gX8_resize_X8_reasonFor : GoodIn wsX8_resize (wsV RX8 283 RX8 yX8_reasonFor wsX8_reasonFor) := goodIn_app (goodIn_of _ (by decide +kernel)) ggX8_resize_X8_reasonFor
set_option maxRecDepth 20000 in
theorem ggX8_resize_X8_keeps : GoodIn wsX8_resize wsX8_keeps := goodIn_r _ [66, 67, 68, 2, 77, 78, 79, 80, 81, 82, 83, 84, 85, 86, 87, 88, 89, 90, 91, 92, 93, 94] (by decide +kernel) (by decide +kernel)
set_option maxRecDepth 20000 in
theorem gX8_resize_X8_keeps : GoodIn wsX8_resize (wsV RX8 179 RX8 yX8_keeps wsX8_keeps) := goodIn_app (goodIn_of _ (by decide +kernel)) ggX8_resize_X8_keeps
set_option maxRecDepth 20000 in
theorem ggX8_resize_X8_counts : GoodIn wsX8_resize wsX8_counts := goodIn_r _ [72, 2, 41, 42, 7, 43, 51, 52, 53, 54, 48, 49, 50, 77, 78, 79, 80, 81, 82, 83, 84, 85, 86, 87, 88, 89, 90, 91, 92, 93, 94] (by decide +kernel) (by decide +kernel)
set_option maxRecDepth 20000 in
theorem gX8_resize_X8_counts : GoodIn wsX8_resize (wsV RX8 287 RX8 yX8_counts wsX8_counts) := goodIn_app (goodIn_of _ (by decide +kernel)) ggX8_resize_X8_counts
set_option maxRecDepth 20000 in
theorem ggX8_resize_X8_setsClocks : GoodIn wsX8_resize wsX8_setsClocks := goodIn_r _ [76, 36, 2, 37, 38, 39, 7, 40, 41, 42, 43, 44, 45, 46, 47, 48, 49, 50, 77, 78, 79, 80, 81, 82, 83, 84, 85, 86, 87, 88, 89, 90, 91, 92, 93, 94] (by decide +kernel) (by decide +kernel)
set_option maxRecDepth 20000 in
theorem gX8_resize_X8_setsClocks : GoodIn wsX8_resize (wsV RX8 186 RX8 yX8_setsClocks wsX8_setsClocks) := goodIn_app (goodIn_of _ (by decide +kernel)) ggX8_resize_X8_setsClocks
theorem dX8_resize_0 : decode cX8_resize 0 = .ok (.aload_n 0, 1) := by decide +kernel
theorem dX8_resize_1 : decode cX8_resize 1 = .ok (.iload_n 1, 1) := by decide +kernel
theorem dX8_resize_2 : decode cX8_resize 2 = .ok (.invokevirtual 310, 3) := by decide +kernel
theorem dX8_resize_5 : decode cX8_resize 5 = .ok (.ifCond .eq 19, 3) := by decide +kernel
theorem dX8_resize_8 : decode cX8_resize 8 = .ok (.iload_n 2, 1) := by decide +kernel
theorem dX8_resize_9 : decode cX8_resize 9 = .ok (.i2l, 1) := by decide +kernel
theorem dX8_resize_10 : decode cX8_resize 10 = .ok (.lconst 0, 1) := by decide +kernel
theorem dX8_resize_11 : decode cX8_resize 11 = .ok (.ldc2_w 315, 3) := by decide +kernel
theorem dX8_resize_14 : decode cX8_resize 14 = .ok (.invokestatic 59, 3) := by decide +kernel
theorem dX8_resize_17 : decode cX8_resize 17 = .ok (.ifCond .eq 7, 3) := by decide +kernel
theorem dX8_resize_20 : decode cX8_resize 20 = .ok (.iconst 1, 1) := by decide +kernel
theorem dX8_resize_21 : decode cX8_resize 21 = .ok (.goto 4, 3) := by decide +kernel
theorem dX8_resize_24 : decode cX8_resize 24 = .ok (.iconst 0, 1) := by decide +kernel
theorem dX8_resize_25 : decode cX8_resize 25 = .ok (.istore_n 3, 1) := by decide +kernel
theorem dX8_resize_26 : decode cX8_resize 26 = .ok (.aload_n 0, 1) := by decide +kernel
theorem dX8_resize_27 : decode cX8_resize 27 = .ok (.aload_n 0, 1) := by decide +kernel
theorem dX8_resize_28 : decode cX8_resize 28 = .ok (.iload_n 1, 1) := by decide +kernel
theorem dX8_resize_29 : decode cX8_resize 29 = .ok (.invokevirtual 310, 3) := by decide +kernel
theorem dX8_resize_32 : decode cX8_resize 32 = .ok (.ifCond .ne 7, 3) := by decide +kernel
theorem dX8_resize_35 : decode cX8_resize 35 = .ok (.iconst 1, 1) := by decide +kernel
theorem dX8_resize_36 : decode cX8_resize 36 = .ok (.goto 46, 3) := by decide +kernel
theorem dX8_resize_39 : decode cX8_resize 39 = .ok (.iload_n 3, 1) := by decide +kernel
theorem dX8_resize_40 : decode cX8_resize 40 = .ok (.ifCond .ne 7, 3) := by decide +kernel
theorem dX8_resize_43 : decode cX8_resize 43 = .ok (.iconst 2, 1) := by decide +kernel
theorem dX8_resize_44 : decode cX8_resize 44 = .ok (.goto 38, 3) := by decide +kernel
theorem dX8_resize_47 : decode cX8_resize 47 = .ok (.aload_n 0, 1) := by decide +kernel
theorem dX8_resize_48 : decode cX8_resize 48 = .ok (.aload_n 0, 1) := by decide +kernel
theorem dX8_resize_49 : decode cX8_resize 49 = .ok (.aload_n 0, 1) := by decide +kernel
theorem dX8_resize_50 : decode cX8_resize 50 = .ok (.iload_n 1, 1) := by decide +kernel
theorem dX8_resize_51 : decode cX8_resize 51 = .ok (.invokevirtual 197, 3) := by decide +kernel
theorem dX8_resize_54 : decode cX8_resize 54 = .ok (.invokevirtual 207, 3) := by decide +kernel
theorem dX8_resize_57 : decode cX8_resize 57 = .ok (.iload_n 2, 1) := by decide +kernel
theorem dX8_resize_58 : decode cX8_resize 58 = .ok (.i2l, 1) := by decide +kernel
theorem dX8_resize_59 : decode cX8_resize 59 = .ok (.aload_n 0, 1) := by decide +kernel
theorem dX8_resize_60 : decode cX8_resize 60 = .ok (.getfield 7, 3) := by decide +kernel
theorem dX8_resize_63 : decode cX8_resize 63 = .ok (.sipush 249, 3) := by decide +kernel
theorem dX8_resize_66 : decode cX8_resize 66 = .ok (.iload_n 1, 1) := by decide +kernel
theorem dX8_resize_67 : decode cX8_resize 67 = .ok (.iadd, 1) := by decide +kernel
theorem dX8_resize_68 : decode cX8_resize 68 = .ok (.laload, 1) := by decide +kernel
theorem dX8_resize_69 : decode cX8_resize 69 = .ok (.lsub, 1) := by decide +kernel
theorem dX8_resize_70 : decode cX8_resize 70 = .ok (.lconst 0, 1) := by decide +kernel
theorem dX8_resize_71 : decode cX8_resize 71 = .ok (.invokevirtual 283, 3) := by decide +kernel
theorem dX8_resize_74 : decode cX8_resize 74 = .ok (.ifCond .le 7, 3) := by decide +kernel
theorem dX8_resize_77 : decode cX8_resize 77 = .ok (.iconst 3, 1) := by decide +kernel
theorem dX8_resize_78 : decode cX8_resize 78 = .ok (.goto 4, 3) := by decide +kernel
theorem dX8_resize_81 : decode cX8_resize 81 = .ok (.iconst 0, 1) := by decide +kernel
theorem dX8_resize_82 : decode cX8_resize 82 = .ok (.putfield 43, 3) := by decide +kernel
theorem dX8_resize_85 : decode cX8_resize 85 = .ok (.aload_n 0, 1) := by decide +kernel
theorem dX8_resize_86 : decode cX8_resize 86 = .ok (.getfield 43, 3) := by decide +kernel
theorem dX8_resize_89 : decode cX8_resize 89 = .ok (.ifCond .le 5, 3) := by decide +kernel
theorem dX8_resize_92 : decode cX8_resize 92 = .ok (.iconst 0, 1) := by decide +kernel
theorem dX8_resize_93 : decode cX8_resize 93 = .ok (.ireturn, 1) := by decide +kernel
theorem dX8_resize_94 : decode cX8_resize 94 = .ok (.aload_n 0, 1) := by decide +kernel
theorem dX8_resize_95 : decode cX8_resize 95 = .ok (.invokevirtual 179, 3) := by decide +kernel
theorem dX8_resize_98 : decode cX8_resize 98 = .ok (.aload_n 0, 1) := by decide +kernel
theorem dX8_resize_99 : decode cX8_resize 99 = .ok (.getfield 7, 3) := by decide +kernel
theorem dX8_resize_102 : decode cX8_resize 102 = .ok (.sipush 249, 3) := by decide +kernel
theorem dX8_resize_105 : decode cX8_resize 105 = .ok (.iload_n 1, 1) := by decide +kernel
theorem dX8_resize_106 : decode cX8_resize 106 = .ok (.iadd, 1) := by decide +kernel
theorem dX8_resize_107 : decode cX8_resize 107 = .ok (.laload, 1) := by decide +kernel
theorem dX8_resize_108 : decode cX8_resize 108 = .ok (.l2i, 1) := by decide +kernel
theorem dX8_resize_109 : decode cX8_resize 109 = .ok (.istore 4, 2) := by decide +kernel
theorem dX8_resize_111 : decode cX8_resize 111 = .ok (.aload_n 0, 1) := by decide +kernel
theorem dX8_resize_112 : decode cX8_resize 112 = .ok (.aload_n 0, 1) := by decide +kernel
theorem dX8_resize_113 : decode cX8_resize 113 = .ok (.aload_n 0, 1) := by decide +kernel
theorem dX8_resize_114 : decode cX8_resize 114 = .ok (.iload_n 1, 1) := by decide +kernel
theorem dX8_resize_115 : decode cX8_resize 115 = .ok (.invokevirtual 197, 3) := by decide +kernel
theorem dX8_resize_118 : decode cX8_resize 118 = .ok (.invokevirtual 207, 3) := by decide +kernel
theorem dX8_resize_121 : decode cX8_resize 121 = .ok (.iload_n 2, 1) := by decide +kernel
theorem dX8_resize_122 : decode cX8_resize 122 = .ok (.iload 4, 2) := by decide +kernel
theorem dX8_resize_124 : decode cX8_resize 124 = .ok (.isub, 1) := by decide +kernel
theorem dX8_resize_125 : decode cX8_resize 125 = .ok (.i2l, 1) := by decide +kernel
theorem dX8_resize_126 : decode cX8_resize 126 = .ok (.lconst 0, 1) := by decide +kernel
theorem dX8_resize_127 : decode cX8_resize 127 = .ok (.invokevirtual 287, 3) := by decide +kernel
theorem dX8_resize_130 : decode cX8_resize 130 = .ok (.aload_n 0, 1) := by decide +kernel
theorem dX8_resize_131 : decode cX8_resize 131 = .ok (.getfield 7, 3) := by decide +kernel
theorem dX8_resize_134 : decode cX8_resize 134 = .ok (.sipush 249, 3) := by decide +kernel
theorem dX8_resize_137 : decode cX8_resize 137 = .ok (.iload_n 1, 1) := by decide +kernel
theorem dX8_resize_138 : decode cX8_resize 138 = .ok (.iadd, 1) := by decide +kernel
theorem dX8_resize_139 : decode cX8_resize 139 = .ok (.iload_n 2, 1) := by decide +kernel
theorem dX8_resize_140 : decode cX8_resize 140 = .ok (.i2l, 1) := by decide +kernel
theorem dX8_resize_141 : decode cX8_resize 141 = .ok (.lastore, 1) := by decide +kernel
theorem dX8_resize_142 : decode cX8_resize 142 = .ok (.aload_n 0, 1) := by decide +kernel
theorem dX8_resize_143 : decode cX8_resize 143 = .ok (.invokevirtual 186, 3) := by decide +kernel
theorem dX8_resize_146 : decode cX8_resize 146 = .ok (.iload 4, 2) := by decide +kernel
theorem dX8_resize_148 : decode cX8_resize 148 = .ok (.ireturn, 1) := by decide +kernel
set_option maxRecDepth 20000 in
theorem ggX8_delete_X8_isFile : GoodIn wsX8_delete wsX8_isFile := goodIn_r _ [8, 2, 9, 10, 7, 11, 64, 65, 66, 67, 68, 69, 70, 71, 72, 73, 74, 75, 76, 77, 78, 79, 80, 81] (by decide +kernel) (by decide +kernel)
set_option maxRecDepth 20000 in
theorem gX8_delete_X8_isFile : GoodIn wsX8_delete (wsV RX8 310 RX8 yX8_isFile wsX8_isFile) := goodIn_app (goodIn_of _ (by decide +kernel)) ggX8_delete_X8_isFile
set_option maxRecDepth 20000 in
theorem ggX8_delete_X8_keeps : GoodIn wsX8_delete wsX8_keeps := goodIn_r _ [15, 16, 17, 2, 64, 65, 66, 67, 68, 69, 70, 71, 72, 73, 74, 75, 76, 77, 78, 79, 80, 81] (by decide +kernel) (by decide +kernel)
set_option maxRecDepth 20000 in
theorem gX8_delete_X8_keeps : GoodIn wsX8_delete (wsV RX8 179 RX8 yX8_keeps wsX8_keeps) := goodIn_app (goodIn_of _ (by decide +kernel)) ggX8_delete_X8_keeps
set_option maxRecDepth 20000 in
theorem ggX8_delete_X8_folderOf : GoodIn wsX8_delete wsX8_folderOf := goodIn_r _ [21, 2, 64, 65, 66, 67, 68, 69, 70, 71, 72, 73, 74, 75, 76, 77, 78, 79, 80, 81] (by decide +kernel) (by decide +kernel)
set_option maxRecDepth 20000 in
theorem gX8_delete_X8_folderOf : GoodIn wsX8_delete (wsV RX8 197 RX8 yX8_folderOf wsX8_folderOf) := goodIn_app (goodIn_of _ (by decide +kernel)) ggX8_delete_X8_folderOf
set_option maxRecDepth 20000 in
theorem ggX8_delete_X8_projectOf : GoodIn wsX8_delete wsX8_projectOf := goodIn_r _ [25, 26, 27, 28, 7, 29, 2, 30, 31, 32, 33, 64, 65, 66, 67, 68, 69, 70, 71, 72, 73, 74, 75, 76, 77, 78, 79, 80, 81] (by decide +kernel) (by decide +kernel)
set_option maxRecDepth 20000 in
theorem gX8_delete_X8_projectOf : GoodIn wsX8_delete (wsV RX8 207 RX8 yX8_projectOf wsX8_projectOf) := goodIn_app (goodIn_of _ (by decide +kernel)) ggX8_delete_X8_projectOf
set_option maxRecDepth 20000 in
theorem ggX8_delete_X8_counts : GoodIn wsX8_delete wsX8_counts := goodIn_r _ [37, 2, 38, 39, 7, 40, 41, 42, 43, 44, 45, 46, 47, 64, 65, 66, 67, 68, 69, 70, 71, 72, 73, 74, 75, 76, 77, 78, 79, 80, 81] (by decide +kernel) (by decide +kernel)
set_option maxRecDepth 20000 in
theorem gX8_delete_X8_counts : GoodIn wsX8_delete (wsV RX8 287 RX8 yX8_counts wsX8_counts) := goodIn_app (goodIn_of _ (by decide +kernel)) ggX8_delete_X8_counts
set_option maxRecDepth 20000 in
theorem ggX8_delete_X8_closesUp : GoodIn wsX8_delete wsX8_closesUp := goodIn_r _ [51, 2, 64, 65, 66, 67, 68, 69, 70, 71, 72, 73, 74, 75, 76, 77, 78, 79, 80, 81] (by decide +kernel) (by decide +kernel)
set_option maxRecDepth 20000 in
theorem gX8_delete_X8_closesUp : GoodIn wsX8_delete (wsV RX8 251 RX8 yX8_closesUp wsX8_closesUp) := goodIn_app (goodIn_of _ (by decide +kernel)) ggX8_delete_X8_closesUp
set_option maxRecDepth 20000 in
theorem ggX8_delete_X8_setsClocks : GoodIn wsX8_delete wsX8_setsClocks := goodIn_r _ [55, 3, 2, 56, 57, 58, 7, 59, 38, 39, 40, 60, 61, 62, 63, 45, 46, 47, 64, 65, 66, 67, 68, 69, 70, 71, 72, 73, 74, 75, 76, 77, 78, 79, 80, 81] (by decide +kernel) (by decide +kernel)
set_option maxRecDepth 20000 in
theorem gX8_delete_X8_setsClocks : GoodIn wsX8_delete (wsV RX8 186 RX8 yX8_setsClocks wsX8_setsClocks) := goodIn_app (goodIn_of _ (by decide +kernel)) ggX8_delete_X8_setsClocks
theorem dX8_delete_0 : decode cX8_delete 0 = .ok (.aload_n 0, 1) := by decide +kernel
theorem dX8_delete_1 : decode cX8_delete 1 = .ok (.aload_n 0, 1) := by decide +kernel
theorem dX8_delete_2 : decode cX8_delete 2 = .ok (.iload_n 1, 1) := by decide +kernel
theorem dX8_delete_3 : decode cX8_delete 3 = .ok (.invokevirtual 310, 3) := by decide +kernel
theorem dX8_delete_6 : decode cX8_delete 6 = .ok (.ifCond .eq 7, 3) := by decide +kernel
theorem dX8_delete_9 : decode cX8_delete 9 = .ok (.iconst 0, 1) := by decide +kernel
theorem dX8_delete_10 : decode cX8_delete 10 = .ok (.goto 4, 3) := by decide +kernel
theorem dX8_delete_13 : decode cX8_delete 13 = .ok (.iconst 1, 1) := by decide +kernel
theorem dX8_delete_14 : decode cX8_delete 14 = .ok (.putfield 43, 3) := by decide +kernel
theorem dX8_delete_17 : decode cX8_delete 17 = .ok (.aload_n 0, 1) := by decide +kernel
theorem dX8_delete_18 : decode cX8_delete 18 = .ok (.getfield 43, 3) := by decide +kernel
theorem dX8_delete_21 : decode cX8_delete 21 = .ok (.ifCond .le 5, 3) := by decide +kernel
theorem dX8_delete_24 : decode cX8_delete 24 = .ok (.iconst 0, 1) := by decide +kernel
theorem dX8_delete_25 : decode cX8_delete 25 = .ok (.ireturn, 1) := by decide +kernel
theorem dX8_delete_26 : decode cX8_delete 26 = .ok (.aload_n 0, 1) := by decide +kernel
theorem dX8_delete_27 : decode cX8_delete 27 = .ok (.invokevirtual 179, 3) := by decide +kernel
theorem dX8_delete_30 : decode cX8_delete 30 = .ok (.aload_n 0, 1) := by decide +kernel
theorem dX8_delete_31 : decode cX8_delete 31 = .ok (.aload_n 0, 1) := by decide +kernel
theorem dX8_delete_32 : decode cX8_delete 32 = .ok (.aload_n 0, 1) := by decide +kernel
theorem dX8_delete_33 : decode cX8_delete 33 = .ok (.iload_n 1, 1) := by decide +kernel
theorem dX8_delete_34 : decode cX8_delete 34 = .ok (.invokevirtual 197, 3) := by decide +kernel
theorem dX8_delete_37 : decode cX8_delete 37 = .ok (.invokevirtual 207, 3) := by decide +kernel
theorem dX8_delete_40 : decode cX8_delete 40 = .ok (.aload_n 0, 1) := by decide +kernel
theorem dX8_delete_41 : decode cX8_delete 41 = .ok (.getfield 7, 3) := by decide +kernel
theorem dX8_delete_44 : decode cX8_delete 44 = .ok (.sipush 249, 3) := by decide +kernel
theorem dX8_delete_47 : decode cX8_delete 47 = .ok (.iload_n 1, 1) := by decide +kernel
theorem dX8_delete_48 : decode cX8_delete 48 = .ok (.iadd, 1) := by decide +kernel
theorem dX8_delete_49 : decode cX8_delete 49 = .ok (.laload, 1) := by decide +kernel
theorem dX8_delete_50 : decode cX8_delete 50 = .ok (.lneg, 1) := by decide +kernel
theorem dX8_delete_51 : decode cX8_delete 51 = .ok (.ldc2_w 37, 3) := by decide +kernel
theorem dX8_delete_54 : decode cX8_delete 54 = .ok (.invokevirtual 287, 3) := by decide +kernel
theorem dX8_delete_57 : decode cX8_delete 57 = .ok (.aload_n 0, 1) := by decide +kernel
theorem dX8_delete_58 : decode cX8_delete 58 = .ok (.getfield 7, 3) := by decide +kernel
theorem dX8_delete_61 : decode cX8_delete 61 = .ok (.iconst 3, 1) := by decide +kernel
theorem dX8_delete_62 : decode cX8_delete 62 = .ok (.dup2, 1) := by decide +kernel
theorem dX8_delete_63 : decode cX8_delete 63 = .ok (.laload, 1) := by decide +kernel
theorem dX8_delete_64 : decode cX8_delete 64 = .ok (.lconst 1, 1) := by decide +kernel
theorem dX8_delete_65 : decode cX8_delete 65 = .ok (.lsub, 1) := by decide +kernel
theorem dX8_delete_66 : decode cX8_delete 66 = .ok (.lastore, 1) := by decide +kernel
theorem dX8_delete_67 : decode cX8_delete 67 = .ok (.aload_n 0, 1) := by decide +kernel
theorem dX8_delete_68 : decode cX8_delete 68 = .ok (.sipush 189, 3) := by decide +kernel
theorem dX8_delete_71 : decode cX8_delete 71 = .ok (.iload_n 1, 1) := by decide +kernel
theorem dX8_delete_72 : decode cX8_delete 72 = .ok (.aload_n 0, 1) := by decide +kernel
theorem dX8_delete_73 : decode cX8_delete 73 = .ok (.getfield 7, 3) := by decide +kernel
theorem dX8_delete_76 : decode cX8_delete 76 = .ok (.iconst 3, 1) := by decide +kernel
theorem dX8_delete_77 : decode cX8_delete 77 = .ok (.laload, 1) := by decide +kernel
theorem dX8_delete_78 : decode cX8_delete 78 = .ok (.l2i, 1) := by decide +kernel
theorem dX8_delete_79 : decode cX8_delete 79 = .ok (.invokevirtual 251, 3) := by decide +kernel
theorem dX8_delete_82 : decode cX8_delete 82 = .ok (.aload_n 0, 1) := by decide +kernel
theorem dX8_delete_83 : decode cX8_delete 83 = .ok (.sipush 249, 3) := by decide +kernel
theorem dX8_delete_86 : decode cX8_delete 86 = .ok (.iload_n 1, 1) := by decide +kernel
theorem dX8_delete_87 : decode cX8_delete 87 = .ok (.aload_n 0, 1) := by decide +kernel
theorem dX8_delete_88 : decode cX8_delete 88 = .ok (.getfield 7, 3) := by decide +kernel
theorem dX8_delete_91 : decode cX8_delete 91 = .ok (.iconst 3, 1) := by decide +kernel
theorem dX8_delete_92 : decode cX8_delete 92 = .ok (.laload, 1) := by decide +kernel
theorem dX8_delete_93 : decode cX8_delete 93 = .ok (.l2i, 1) := by decide +kernel
theorem dX8_delete_94 : decode cX8_delete 94 = .ok (.invokevirtual 251, 3) := by decide +kernel
theorem dX8_delete_97 : decode cX8_delete 97 = .ok (.aload_n 0, 1) := by decide +kernel
theorem dX8_delete_98 : decode cX8_delete 98 = .ok (.invokevirtual 186, 3) := by decide +kernel
theorem dX8_delete_101 : decode cX8_delete 101 = .ok (.aload_n 0, 1) := by decide +kernel
theorem dX8_delete_102 : decode cX8_delete 102 = .ok (.getfield 7, 3) := by decide +kernel
theorem dX8_delete_105 : decode cX8_delete 105 = .ok (.iconst 3, 1) := by decide +kernel
theorem dX8_delete_106 : decode cX8_delete 106 = .ok (.laload, 1) := by decide +kernel
theorem dX8_delete_107 : decode cX8_delete 107 = .ok (.l2i, 1) := by decide +kernel
theorem dX8_delete_108 : decode cX8_delete 108 = .ok (.ireturn, 1) := by decide +kernel
set_option maxRecDepth 20000 in
theorem ggX8_reasonToCarry_X8_projectOf : GoodIn wsX8_reasonToCarry wsX8_projectOf := goodIn_r _ [6, 7, 8, 9, 5, 10, 1, 11, 12, 13, 14, 54, 55, 56, 57, 58, 59, 60, 61, 62, 63, 64, 65, 66, 67, 68, 69, 70, 71] (by decide +kernel) (by decide +kernel)
set_option maxRecDepth 20000 in
theorem gX8_reasonToCarry_X8_projectOf : GoodIn wsX8_reasonToCarry (wsV RX8 207 RX8 yX8_projectOf wsX8_projectOf) := goodIn_app (goodIn_of _ (by decide +kernel)) ggX8_reasonToCarry_X8_projectOf
set_option maxRecDepth 20000 in
theorem ggX8_reasonToCarry_X8_folderOf : GoodIn wsX8_reasonToCarry wsX8_folderOf := goodIn_r _ [18, 1, 54, 55, 56, 57, 58, 59, 60, 61, 62, 63, 64, 65, 66, 67, 68, 69, 70, 71] (by decide +kernel) (by decide +kernel)
set_option maxRecDepth 20000 in
theorem gX8_reasonToCarry_X8_folderOf : GoodIn wsX8_reasonToCarry (wsV RX8 197 RX8 yX8_folderOf wsX8_folderOf) := goodIn_app (goodIn_of _ (by decide +kernel)) ggX8_reasonToCarry_X8_folderOf
set_option maxRecDepth 20000 in
theorem ggX8_reasonToCarry_X8_reasonFor : GoodIn wsX8_reasonToCarry wsX8_reasonFor := goodIn_r _ [22, 23, 24, 25, 5, 26, 27, 28, 29, 30, 31, 1, 32, 33, 34, 35, 36, 37, 38, 39, 40, 41, 42, 43, 44, 45, 46, 47, 48, 49, 50, 51, 52, 53, 54, 55, 56, 57, 58, 59, 60, 61, 62, 63, 64, 65, 66, 67, 68, 69, 70, 71] (by decide +kernel) (by decide +kernel)
set_option maxRecDepth 20000 in
theorem gX8_reasonToCarry_X8_reasonFor : GoodIn wsX8_reasonToCarry (wsV RX8 283 RX8 yX8_reasonFor wsX8_reasonFor) := goodIn_app (goodIn_of _ (by decide +kernel)) ggX8_reasonToCarry_X8_reasonFor
theorem dX8_reasonToCarry_0 : decode cX8_reasonToCarry 0 = .ok (.aload_n 0, 1) := by decide +kernel
theorem dX8_reasonToCarry_1 : decode cX8_reasonToCarry 1 = .ok (.iload_n 2, 1) := by decide +kernel
theorem dX8_reasonToCarry_2 : decode cX8_reasonToCarry 2 = .ok (.invokevirtual 207, 3) := by decide +kernel
theorem dX8_reasonToCarry_5 : decode cX8_reasonToCarry 5 = .ok (.istore_n 3, 1) := by decide +kernel
theorem dX8_reasonToCarry_6 : decode cX8_reasonToCarry 6 = .ok (.iload_n 3, 1) := by decide +kernel
theorem dX8_reasonToCarry_7 : decode cX8_reasonToCarry 7 = .ok (.aload_n 0, 1) := by decide +kernel
theorem dX8_reasonToCarry_8 : decode cX8_reasonToCarry 8 = .ok (.aload_n 0, 1) := by decide +kernel
theorem dX8_reasonToCarry_9 : decode cX8_reasonToCarry 9 = .ok (.iload_n 1, 1) := by decide +kernel
theorem dX8_reasonToCarry_10 : decode cX8_reasonToCarry 10 = .ok (.invokevirtual 197, 3) := by decide +kernel
theorem dX8_reasonToCarry_13 : decode cX8_reasonToCarry 13 = .ok (.invokevirtual 207, 3) := by decide +kernel
theorem dX8_reasonToCarry_16 : decode cX8_reasonToCarry 16 = .ok (.if_icmp .ne 7, 3) := by decide +kernel
theorem dX8_reasonToCarry_19 : decode cX8_reasonToCarry 19 = .ok (.iconst 0, 1) := by decide +kernel
theorem dX8_reasonToCarry_20 : decode cX8_reasonToCarry 20 = .ok (.goto 19, 3) := by decide +kernel
theorem dX8_reasonToCarry_23 : decode cX8_reasonToCarry 23 = .ok (.aload_n 0, 1) := by decide +kernel
theorem dX8_reasonToCarry_24 : decode cX8_reasonToCarry 24 = .ok (.iload_n 3, 1) := by decide +kernel
theorem dX8_reasonToCarry_25 : decode cX8_reasonToCarry 25 = .ok (.aload_n 0, 1) := by decide +kernel
theorem dX8_reasonToCarry_26 : decode cX8_reasonToCarry 26 = .ok (.getfield 7, 3) := by decide +kernel
theorem dX8_reasonToCarry_29 : decode cX8_reasonToCarry 29 = .ok (.sipush 249, 3) := by decide +kernel
theorem dX8_reasonToCarry_32 : decode cX8_reasonToCarry 32 = .ok (.iload_n 1, 1) := by decide +kernel
theorem dX8_reasonToCarry_33 : decode cX8_reasonToCarry 33 = .ok (.iadd, 1) := by decide +kernel
theorem dX8_reasonToCarry_34 : decode cX8_reasonToCarry 34 = .ok (.laload, 1) := by decide +kernel
theorem dX8_reasonToCarry_35 : decode cX8_reasonToCarry 35 = .ok (.lconst 1, 1) := by decide +kernel
theorem dX8_reasonToCarry_36 : decode cX8_reasonToCarry 36 = .ok (.invokevirtual 283, 3) := by decide +kernel
theorem dX8_reasonToCarry_39 : decode cX8_reasonToCarry 39 = .ok (.ireturn, 1) := by decide +kernel
set_option maxRecDepth 20000 in
theorem ggX8_moveFile_X8_isFile : GoodIn wsX8_moveFile wsX8_isFile := goodIn_r _ [8, 2, 9, 10, 7, 11, 84, 85, 86, 87, 88, 89, 90, 91, 92, 93, 94, 95, 96, 97, 98, 99, 100, 101] (by decide +kernel) (by decide +kernel)
set_option maxRecDepth 20000 in
theorem gX8_moveFile_X8_isFile : GoodIn wsX8_moveFile (wsV RX8 310 RX8 yX8_isFile wsX8_isFile) := goodIn_app (goodIn_of _ (by decide +kernel)) ggX8_moveFile_X8_isFile
set_option maxRecDepth 20000 in
theorem ggX8_moveFile_X8_isFolder : GoodIn wsX8_moveFile wsX8_isFolder := goodIn_r _ [15, 2, 9, 10, 7, 11, 84, 85, 86, 87, 88, 89, 90, 91, 92, 93, 94, 95, 96, 97, 98, 99, 100, 101] (by decide +kernel) (by decide +kernel)
set_option maxRecDepth 20000 in
theorem gX8_moveFile_X8_isFolder : GoodIn wsX8_moveFile (wsV RX8 220 RX8 yX8_isFolder wsX8_isFolder) := goodIn_app (goodIn_of _ (by decide +kernel)) ggX8_moveFile_X8_isFolder
set_option maxRecDepth 20000 in
theorem ggX8_moveFile_X8_reasonToCarry : GoodIn wsX8_moveFile wsX8_reasonToCarry := goodIn_r _ [19, 2, 20, 21, 22, 7, 23, 24, 25, 26, 27, 28, 29, 30, 31, 32, 33, 34, 35, 36, 37, 38, 39, 40, 41, 42, 43, 3, 44, 45, 46, 47, 48, 49, 50, 51, 52, 53, 54, 55, 56, 57, 58, 59, 60, 61, 62, 63, 64, 65, 66, 67, 68, 69, 84, 85, 86, 87, 88, 89, 90, 91, 92, 93, 94, 95, 96, 97, 98, 99, 100, 101] (by decide +kernel) (by decide +kernel)
set_option maxRecDepth 20000 in
theorem gX8_moveFile_X8_reasonToCarry : GoodIn wsX8_moveFile (wsV RX8 317 RX8 yX8_reasonToCarry wsX8_reasonToCarry) := goodIn_app (goodIn_of _ (by decide +kernel)) ggX8_moveFile_X8_reasonToCarry
set_option maxRecDepth 20000 in
theorem ggX8_moveFile_X8_keeps : GoodIn wsX8_moveFile wsX8_keeps := goodIn_r _ [73, 74, 75, 2, 84, 85, 86, 87, 88, 89, 90, 91, 92, 93, 94, 95, 96, 97, 98, 99, 100, 101] (by decide +kernel) (by decide +kernel)
set_option maxRecDepth 20000 in
theorem gX8_moveFile_X8_keeps : GoodIn wsX8_moveFile (wsV RX8 179 RX8 yX8_keeps wsX8_keeps) := goodIn_app (goodIn_of _ (by decide +kernel)) ggX8_moveFile_X8_keeps
set_option maxRecDepth 20000 in
theorem ggX8_moveFile_X8_folderOf : GoodIn wsX8_moveFile wsX8_folderOf := goodIn_r _ [35, 2, 84, 85, 86, 87, 88, 89, 90, 91, 92, 93, 94, 95, 96, 97, 98, 99, 100, 101] (by decide +kernel) (by decide +kernel)
set_option maxRecDepth 20000 in
theorem gX8_moveFile_X8_folderOf : GoodIn wsX8_moveFile (wsV RX8 197 RX8 yX8_folderOf wsX8_folderOf) := goodIn_app (goodIn_of _ (by decide +kernel)) ggX8_moveFile_X8_folderOf
set_option maxRecDepth 20000 in
theorem ggX8_moveFile_X8_projectOf : GoodIn wsX8_moveFile wsX8_projectOf := goodIn_r _ [23, 24, 25, 26, 7, 27, 2, 28, 29, 30, 31, 84, 85, 86, 87, 88, 89, 90, 91, 92, 93, 94, 95, 96, 97, 98, 99, 100, 101] (by decide +kernel) (by decide +kernel)
set_option maxRecDepth 20000 in
theorem gX8_moveFile_X8_projectOf : GoodIn wsX8_moveFile (wsV RX8 207 RX8 yX8_projectOf wsX8_projectOf) := goodIn_app (goodIn_of _ (by decide +kernel)) ggX8_moveFile_X8_projectOf
set_option maxRecDepth 20000 in
theorem ggX8_moveFile_X8_counts : GoodIn wsX8_moveFile wsX8_counts := goodIn_r _ [79, 2, 48, 49, 7, 50, 58, 59, 60, 61, 55, 56, 57, 84, 85, 86, 87, 88, 89, 90, 91, 92, 93, 94, 95, 96, 97, 98, 99, 100, 101] (by decide +kernel) (by decide +kernel)
set_option maxRecDepth 20000 in
theorem gX8_moveFile_X8_counts : GoodIn wsX8_moveFile (wsV RX8 287 RX8 yX8_counts wsX8_counts) := goodIn_app (goodIn_of _ (by decide +kernel)) ggX8_moveFile_X8_counts
set_option maxRecDepth 20000 in
theorem ggX8_moveFile_X8_setsClocks : GoodIn wsX8_moveFile wsX8_setsClocks := goodIn_r _ [83, 3, 2, 44, 45, 46, 7, 47, 48, 49, 50, 51, 52, 53, 54, 55, 56, 57, 84, 85, 86, 87, 88, 89, 90, 91, 92, 93, 94, 95, 96, 97, 98, 99, 100, 101] (by decide +kernel) (by decide +kernel)
set_option maxRecDepth 20000 in
theorem gX8_moveFile_X8_setsClocks : GoodIn wsX8_moveFile (wsV RX8 186 RX8 yX8_setsClocks wsX8_setsClocks) := goodIn_app (goodIn_of _ (by decide +kernel)) ggX8_moveFile_X8_setsClocks
theorem dX8_moveFile_0 : decode cX8_moveFile 0 = .ok (.aload_n 0, 1) := by decide +kernel
theorem dX8_moveFile_1 : decode cX8_moveFile 1 = .ok (.aload_n 0, 1) := by decide +kernel
theorem dX8_moveFile_2 : decode cX8_moveFile 2 = .ok (.iload_n 1, 1) := by decide +kernel
theorem dX8_moveFile_3 : decode cX8_moveFile 3 = .ok (.invokevirtual 310, 3) := by decide +kernel
theorem dX8_moveFile_6 : decode cX8_moveFile 6 = .ok (.ifCond .eq 11, 3) := by decide +kernel
theorem dX8_moveFile_9 : decode cX8_moveFile 9 = .ok (.aload_n 0, 1) := by decide +kernel
theorem dX8_moveFile_10 : decode cX8_moveFile 10 = .ok (.iload_n 2, 1) := by decide +kernel
theorem dX8_moveFile_11 : decode cX8_moveFile 11 = .ok (.invokevirtual 220, 3) := by decide +kernel
theorem dX8_moveFile_14 : decode cX8_moveFile 14 = .ok (.ifCond .ne 7, 3) := by decide +kernel
theorem dX8_moveFile_17 : decode cX8_moveFile 17 = .ok (.iconst 1, 1) := by decide +kernel
theorem dX8_moveFile_18 : decode cX8_moveFile 18 = .ok (.goto 17, 3) := by decide +kernel
theorem dX8_moveFile_21 : decode cX8_moveFile 21 = .ok (.aload_n 0, 1) := by decide +kernel
theorem dX8_moveFile_22 : decode cX8_moveFile 22 = .ok (.iload_n 1, 1) := by decide +kernel
theorem dX8_moveFile_23 : decode cX8_moveFile 23 = .ok (.iload_n 2, 1) := by decide +kernel
theorem dX8_moveFile_24 : decode cX8_moveFile 24 = .ok (.invokevirtual 317, 3) := by decide +kernel
theorem dX8_moveFile_27 : decode cX8_moveFile 27 = .ok (.ifCond .le 7, 3) := by decide +kernel
theorem dX8_moveFile_30 : decode cX8_moveFile 30 = .ok (.iconst 2, 1) := by decide +kernel
theorem dX8_moveFile_31 : decode cX8_moveFile 31 = .ok (.goto 4, 3) := by decide +kernel
theorem dX8_moveFile_34 : decode cX8_moveFile 34 = .ok (.iconst 0, 1) := by decide +kernel
theorem dX8_moveFile_35 : decode cX8_moveFile 35 = .ok (.putfield 43, 3) := by decide +kernel
theorem dX8_moveFile_38 : decode cX8_moveFile 38 = .ok (.aload_n 0, 1) := by decide +kernel
theorem dX8_moveFile_39 : decode cX8_moveFile 39 = .ok (.getfield 43, 3) := by decide +kernel
theorem dX8_moveFile_42 : decode cX8_moveFile 42 = .ok (.ifCond .le 5, 3) := by decide +kernel
theorem dX8_moveFile_45 : decode cX8_moveFile 45 = .ok (.iconst 0, 1) := by decide +kernel
theorem dX8_moveFile_46 : decode cX8_moveFile 46 = .ok (.ireturn, 1) := by decide +kernel
theorem dX8_moveFile_47 : decode cX8_moveFile 47 = .ok (.aload_n 0, 1) := by decide +kernel
theorem dX8_moveFile_48 : decode cX8_moveFile 48 = .ok (.invokevirtual 179, 3) := by decide +kernel
theorem dX8_moveFile_51 : decode cX8_moveFile 51 = .ok (.aload_n 0, 1) := by decide +kernel
theorem dX8_moveFile_52 : decode cX8_moveFile 52 = .ok (.aload_n 0, 1) := by decide +kernel
theorem dX8_moveFile_53 : decode cX8_moveFile 53 = .ok (.iload_n 1, 1) := by decide +kernel
theorem dX8_moveFile_54 : decode cX8_moveFile 54 = .ok (.invokevirtual 197, 3) := by decide +kernel
theorem dX8_moveFile_57 : decode cX8_moveFile 57 = .ok (.invokevirtual 207, 3) := by decide +kernel
theorem dX8_moveFile_60 : decode cX8_moveFile 60 = .ok (.istore_n 3, 1) := by decide +kernel
theorem dX8_moveFile_61 : decode cX8_moveFile 61 = .ok (.aload_n 0, 1) := by decide +kernel
theorem dX8_moveFile_62 : decode cX8_moveFile 62 = .ok (.iload_n 2, 1) := by decide +kernel
theorem dX8_moveFile_63 : decode cX8_moveFile 63 = .ok (.invokevirtual 207, 3) := by decide +kernel
theorem dX8_moveFile_66 : decode cX8_moveFile 66 = .ok (.istore 4, 2) := by decide +kernel
theorem dX8_moveFile_68 : decode cX8_moveFile 68 = .ok (.iload_n 3, 1) := by decide +kernel
theorem dX8_moveFile_69 : decode cX8_moveFile 69 = .ok (.iload 4, 2) := by decide +kernel
theorem dX8_moveFile_71 : decode cX8_moveFile 71 = .ok (.if_icmp .eq 39, 3) := by decide +kernel
theorem dX8_moveFile_74 : decode cX8_moveFile 74 = .ok (.aload_n 0, 1) := by decide +kernel
theorem dX8_moveFile_75 : decode cX8_moveFile 75 = .ok (.iload 4, 2) := by decide +kernel
theorem dX8_moveFile_77 : decode cX8_moveFile 77 = .ok (.aload_n 0, 1) := by decide +kernel
theorem dX8_moveFile_78 : decode cX8_moveFile 78 = .ok (.getfield 7, 3) := by decide +kernel
theorem dX8_moveFile_81 : decode cX8_moveFile 81 = .ok (.sipush 249, 3) := by decide +kernel
theorem dX8_moveFile_84 : decode cX8_moveFile 84 = .ok (.iload_n 1, 1) := by decide +kernel
theorem dX8_moveFile_85 : decode cX8_moveFile 85 = .ok (.iadd, 1) := by decide +kernel
theorem dX8_moveFile_86 : decode cX8_moveFile 86 = .ok (.laload, 1) := by decide +kernel
theorem dX8_moveFile_87 : decode cX8_moveFile 87 = .ok (.lconst 1, 1) := by decide +kernel
theorem dX8_moveFile_88 : decode cX8_moveFile 88 = .ok (.invokevirtual 287, 3) := by decide +kernel
theorem dX8_moveFile_91 : decode cX8_moveFile 91 = .ok (.aload_n 0, 1) := by decide +kernel
theorem dX8_moveFile_92 : decode cX8_moveFile 92 = .ok (.iload_n 3, 1) := by decide +kernel
theorem dX8_moveFile_93 : decode cX8_moveFile 93 = .ok (.aload_n 0, 1) := by decide +kernel
theorem dX8_moveFile_94 : decode cX8_moveFile 94 = .ok (.getfield 7, 3) := by decide +kernel
theorem dX8_moveFile_97 : decode cX8_moveFile 97 = .ok (.sipush 249, 3) := by decide +kernel
theorem dX8_moveFile_100 : decode cX8_moveFile 100 = .ok (.iload_n 1, 1) := by decide +kernel
theorem dX8_moveFile_101 : decode cX8_moveFile 101 = .ok (.iadd, 1) := by decide +kernel
theorem dX8_moveFile_102 : decode cX8_moveFile 102 = .ok (.laload, 1) := by decide +kernel
theorem dX8_moveFile_103 : decode cX8_moveFile 103 = .ok (.lneg, 1) := by decide +kernel
theorem dX8_moveFile_104 : decode cX8_moveFile 104 = .ok (.ldc2_w 37, 3) := by decide +kernel
theorem dX8_moveFile_107 : decode cX8_moveFile 107 = .ok (.invokevirtual 287, 3) := by decide +kernel
theorem dX8_moveFile_110 : decode cX8_moveFile 110 = .ok (.aload_n 0, 1) := by decide +kernel
theorem dX8_moveFile_111 : decode cX8_moveFile 111 = .ok (.getfield 7, 3) := by decide +kernel
theorem dX8_moveFile_114 : decode cX8_moveFile 114 = .ok (.sipush 189, 3) := by decide +kernel
theorem dX8_moveFile_117 : decode cX8_moveFile 117 = .ok (.iload_n 1, 1) := by decide +kernel
theorem dX8_moveFile_118 : decode cX8_moveFile 118 = .ok (.iadd, 1) := by decide +kernel
theorem dX8_moveFile_119 : decode cX8_moveFile 119 = .ok (.iload_n 2, 1) := by decide +kernel
theorem dX8_moveFile_120 : decode cX8_moveFile 120 = .ok (.i2l, 1) := by decide +kernel
theorem dX8_moveFile_121 : decode cX8_moveFile 121 = .ok (.lastore, 1) := by decide +kernel
theorem dX8_moveFile_122 : decode cX8_moveFile 122 = .ok (.aload_n 0, 1) := by decide +kernel
theorem dX8_moveFile_123 : decode cX8_moveFile 123 = .ok (.invokevirtual 186, 3) := by decide +kernel
theorem dX8_moveFile_126 : decode cX8_moveFile 126 = .ok (.iload_n 3, 1) := by decide +kernel
theorem dX8_moveFile_127 : decode cX8_moveFile 127 = .ok (.iload 4, 2) := by decide +kernel
theorem dX8_moveFile_129 : decode cX8_moveFile 129 = .ok (.if_icmp .ne 7, 3) := by decide +kernel
theorem dX8_moveFile_132 : decode cX8_moveFile 132 = .ok (.iconst 0, 1) := by decide +kernel
theorem dX8_moveFile_133 : decode cX8_moveFile 133 = .ok (.goto 4, 3) := by decide +kernel
theorem dX8_moveFile_136 : decode cX8_moveFile 136 = .ok (.iconst 1, 1) := by decide +kernel
theorem dX8_moveFile_137 : decode cX8_moveFile 137 = .ok (.ireturn, 1) := by decide +kernel
set_option maxRecDepth 20000 in
theorem ggX8_greatest_X8_isProject : GoodIn wsX8_greatest wsX8_isProject := goodIn_r _ [6, 7, 8, 9, 5, 10] (by decide +kernel) (by decide +kernel)
set_option maxRecDepth 20000 in
theorem gX8_greatest_X8_isProject : GoodIn wsX8_greatest (va_wsS RX8 320 yX8_isProject wsX8_isProject) := goodIn_app (goodIn_of _ (by decide +kernel)) ggX8_greatest_X8_isProject
set_option maxRecDepth 20000 in
theorem ggX8_greatest_X8_countedOf : GoodIn wsX8_greatest wsX8_countedOf := goodIn_r _ [14, 2, 15, 16, 17, 5, 18, 19, 20, 21, 22, 23, 24, 25, 26, 27, 28, 29, 30, 31, 32, 33, 34, 35, 36, 37, 38, 39, 40, 41, 42, 43, 44, 45, 46, 47, 48] (by decide +kernel) (by decide +kernel)
set_option maxRecDepth 20000 in
theorem gX8_greatest_X8_countedOf : GoodIn wsX8_greatest (wsV RX8 182 RX8 yX8_countedOf wsX8_countedOf) := goodIn_app (goodIn_of _ (by decide +kernel)) ggX8_greatest_X8_countedOf
set_option maxRecDepth 20000 in
theorem ggX8_greatest_X8_folderOf : GoodIn wsX8_greatest wsX8_folderOf := goodIn_r _ [18, 2, 31, 32, 33, 34, 35, 36, 37, 38, 39, 40, 41, 42, 43, 44, 45, 46, 47, 48] (by decide +kernel) (by decide +kernel)
set_option maxRecDepth 20000 in
theorem gX8_greatest_X8_folderOf : GoodIn wsX8_greatest (wsV RX8 197 RX8 yX8_folderOf wsX8_folderOf) := goodIn_app (goodIn_of _ (by decide +kernel)) ggX8_greatest_X8_folderOf
set_option maxRecDepth 20000 in
theorem ggX8_greatest_X8_projectOf : GoodIn wsX8_greatest wsX8_projectOf := goodIn_r _ [22, 23, 24, 25, 5, 26, 2, 27, 28, 29, 30, 31, 32, 33, 34, 35, 36, 37, 38, 39, 40, 41, 42, 43, 44, 45, 46, 47, 48] (by decide +kernel) (by decide +kernel)
set_option maxRecDepth 20000 in
theorem gX8_greatest_X8_projectOf : GoodIn wsX8_greatest (wsV RX8 207 RX8 yX8_projectOf wsX8_projectOf) := goodIn_app (goodIn_of _ (by decide +kernel)) ggX8_greatest_X8_projectOf
theorem dX8_greatest_0 : decode cX8_greatest 0 = .ok (.aload_n 0, 1) := by decide +kernel
theorem dX8_greatest_1 : decode cX8_greatest 1 = .ok (.iload_n 1, 1) := by decide +kernel
theorem dX8_greatest_2 : decode cX8_greatest 2 = .ok (.invokestatic 320, 3) := by decide +kernel
theorem dX8_greatest_5 : decode cX8_greatest 5 = .ok (.ifCond .ne 7, 3) := by decide +kernel
theorem dX8_greatest_8 : decode cX8_greatest 8 = .ok (.iconst 1, 1) := by decide +kernel
theorem dX8_greatest_9 : decode cX8_greatest 9 = .ok (.goto 19, 3) := by decide +kernel
theorem dX8_greatest_12 : decode cX8_greatest 12 = .ok (.aload_n 0, 1) := by decide +kernel
theorem dX8_greatest_13 : decode cX8_greatest 13 = .ok (.iload_n 1, 1) := by decide +kernel
theorem dX8_greatest_14 : decode cX8_greatest 14 = .ok (.iconst 1, 1) := by decide +kernel
theorem dX8_greatest_15 : decode cX8_greatest 15 = .ok (.invokevirtual 182, 3) := by decide +kernel
theorem dX8_greatest_18 : decode cX8_greatest 18 = .ok (.lconst 0, 1) := by decide +kernel
theorem dX8_greatest_19 : decode cX8_greatest 19 = .ok (.lcmp, 1) := by decide +kernel
theorem dX8_greatest_20 : decode cX8_greatest 20 = .ok (.ifCond .ne 7, 3) := by decide +kernel
theorem dX8_greatest_23 : decode cX8_greatest 23 = .ok (.iconst 2, 1) := by decide +kernel
theorem dX8_greatest_24 : decode cX8_greatest 24 = .ok (.goto 4, 3) := by decide +kernel
theorem dX8_greatest_27 : decode cX8_greatest 27 = .ok (.iconst 0, 1) := by decide +kernel
theorem dX8_greatest_28 : decode cX8_greatest 28 = .ok (.putfield 43, 3) := by decide +kernel
theorem dX8_greatest_31 : decode cX8_greatest 31 = .ok (.iconst (-1), 1) := by decide +kernel
theorem dX8_greatest_32 : decode cX8_greatest 32 = .ok (.istore_n 2, 1) := by decide +kernel
theorem dX8_greatest_33 : decode cX8_greatest 33 = .ok (.iconst 0, 1) := by decide +kernel
theorem dX8_greatest_34 : decode cX8_greatest 34 = .ok (.istore_n 3, 1) := by decide +kernel
theorem dX8_greatest_35 : decode cX8_greatest 35 = .ok (.iload_n 3, 1) := by decide +kernel
theorem dX8_greatest_36 : decode cX8_greatest 36 = .ok (.i2l, 1) := by decide +kernel
theorem dX8_greatest_37 : decode cX8_greatest 37 = .ok (.aload_n 0, 1) := by decide +kernel
theorem dX8_greatest_38 : decode cX8_greatest 38 = .ok (.getfield 7, 3) := by decide +kernel
theorem dX8_greatest_41 : decode cX8_greatest 41 = .ok (.iconst 3, 1) := by decide +kernel
theorem dX8_greatest_42 : decode cX8_greatest 42 = .ok (.laload, 1) := by decide +kernel
theorem dX8_greatest_43 : decode cX8_greatest 43 = .ok (.lcmp, 1) := by decide +kernel
theorem dX8_greatest_44 : decode cX8_greatest 44 = .ok (.ifCond .ge 63, 3) := by decide +kernel
theorem dX8_greatest_47 : decode cX8_greatest 47 = .ok (.aload_n 0, 1) := by decide +kernel
theorem dX8_greatest_48 : decode cX8_greatest 48 = .ok (.getfield 43, 3) := by decide +kernel
theorem dX8_greatest_51 : decode cX8_greatest 51 = .ok (.ifCond .ne 56, 3) := by decide +kernel
theorem dX8_greatest_54 : decode cX8_greatest 54 = .ok (.aload_n 0, 1) := by decide +kernel
theorem dX8_greatest_55 : decode cX8_greatest 55 = .ok (.aload_n 0, 1) := by decide +kernel
theorem dX8_greatest_56 : decode cX8_greatest 56 = .ok (.iload_n 3, 1) := by decide +kernel
theorem dX8_greatest_57 : decode cX8_greatest 57 = .ok (.invokevirtual 197, 3) := by decide +kernel
theorem dX8_greatest_60 : decode cX8_greatest 60 = .ok (.invokevirtual 207, 3) := by decide +kernel
theorem dX8_greatest_63 : decode cX8_greatest 63 = .ok (.iload_n 1, 1) := by decide +kernel
theorem dX8_greatest_64 : decode cX8_greatest 64 = .ok (.if_icmp .eq 6, 3) := by decide +kernel
theorem dX8_greatest_67 : decode cX8_greatest 67 = .ok (.goto 34, 3) := by decide +kernel
theorem dX8_greatest_70 : decode cX8_greatest 70 = .ok (.iload_n 2, 1) := by decide +kernel
theorem dX8_greatest_71 : decode cX8_greatest 71 = .ok (.iconst (-1), 1) := by decide +kernel
theorem dX8_greatest_72 : decode cX8_greatest 72 = .ok (.if_icmp .eq 27, 3) := by decide +kernel
theorem dX8_greatest_75 : decode cX8_greatest 75 = .ok (.aload_n 0, 1) := by decide +kernel
theorem dX8_greatest_76 : decode cX8_greatest 76 = .ok (.getfield 7, 3) := by decide +kernel
theorem dX8_greatest_79 : decode cX8_greatest 79 = .ok (.sipush 249, 3) := by decide +kernel
theorem dX8_greatest_82 : decode cX8_greatest 82 = .ok (.iload_n 3, 1) := by decide +kernel
theorem dX8_greatest_83 : decode cX8_greatest 83 = .ok (.iadd, 1) := by decide +kernel
theorem dX8_greatest_84 : decode cX8_greatest 84 = .ok (.laload, 1) := by decide +kernel
theorem dX8_greatest_85 : decode cX8_greatest 85 = .ok (.aload_n 0, 1) := by decide +kernel
theorem dX8_greatest_86 : decode cX8_greatest 86 = .ok (.getfield 7, 3) := by decide +kernel
theorem dX8_greatest_89 : decode cX8_greatest 89 = .ok (.sipush 249, 3) := by decide +kernel
theorem dX8_greatest_92 : decode cX8_greatest 92 = .ok (.iload_n 2, 1) := by decide +kernel
theorem dX8_greatest_93 : decode cX8_greatest 93 = .ok (.iadd, 1) := by decide +kernel
theorem dX8_greatest_94 : decode cX8_greatest 94 = .ok (.laload, 1) := by decide +kernel
theorem dX8_greatest_95 : decode cX8_greatest 95 = .ok (.lcmp, 1) := by decide +kernel
theorem dX8_greatest_96 : decode cX8_greatest 96 = .ok (.ifCond .le 5, 3) := by decide +kernel
theorem dX8_greatest_99 : decode cX8_greatest 99 = .ok (.iload_n 3, 1) := by decide +kernel
theorem dX8_greatest_100 : decode cX8_greatest 100 = .ok (.istore_n 2, 1) := by decide +kernel
theorem dX8_greatest_101 : decode cX8_greatest 101 = .ok (.iinc 3 1, 3) := by decide +kernel
theorem dX8_greatest_104 : decode cX8_greatest 104 = .ok (.goto (-69), 3) := by decide +kernel
theorem dX8_greatest_107 : decode cX8_greatest 107 = .ok (.aload_n 0, 1) := by decide +kernel
theorem dX8_greatest_108 : decode cX8_greatest 108 = .ok (.getfield 43, 3) := by decide +kernel
theorem dX8_greatest_111 : decode cX8_greatest 111 = .ok (.ifCond .le 7, 3) := by decide +kernel
theorem dX8_greatest_114 : decode cX8_greatest 114 = .ok (.iconst 0, 1) := by decide +kernel
theorem dX8_greatest_115 : decode cX8_greatest 115 = .ok (.goto 4, 3) := by decide +kernel
theorem dX8_greatest_118 : decode cX8_greatest 118 = .ok (.iload_n 2, 1) := by decide +kernel
theorem dX8_greatest_119 : decode cX8_greatest 119 = .ok (.ireturn, 1) := by decide +kernel
set_option maxRecDepth 20000 in
theorem ggX8_lacks_X8_isProject : GoodIn wsX8_lacks wsX8_isProject := goodIn_r _ [5, 6, 7, 8, 4, 9] (by decide +kernel) (by decide +kernel)
set_option maxRecDepth 20000 in
theorem gX8_lacks_X8_isProject : GoodIn wsX8_lacks (va_wsS RX8 320 yX8_isProject wsX8_isProject) := goodIn_app (goodIn_of _ (by decide +kernel)) ggX8_lacks_X8_isProject
set_option maxRecDepth 20000 in
theorem ggX8_lacks_X8_isKind : GoodIn wsX8_lacks wsX8_isKind := goodIn_r _ [12, 7, 8, 4, 9] (by decide +kernel) (by decide +kernel)
set_option maxRecDepth 20000 in
theorem gX8_lacks_X8_isKind : GoodIn wsX8_lacks (va_wsS RX8 323 yX8_isKind wsX8_isKind) := goodIn_app (goodIn_of _ (by decide +kernel)) ggX8_lacks_X8_isKind
theorem dX8_lacks_0 : decode cX8_lacks 0 = .ok (.aload_n 0, 1) := by decide +kernel
theorem dX8_lacks_1 : decode cX8_lacks 1 = .ok (.iload_n 1, 1) := by decide +kernel
theorem dX8_lacks_2 : decode cX8_lacks 2 = .ok (.invokestatic 320, 3) := by decide +kernel
theorem dX8_lacks_5 : decode cX8_lacks 5 = .ok (.ifCond .eq 14, 3) := by decide +kernel
theorem dX8_lacks_8 : decode cX8_lacks 8 = .ok (.iload_n 2, 1) := by decide +kernel
theorem dX8_lacks_9 : decode cX8_lacks 9 = .ok (.invokestatic 323, 3) := by decide +kernel
theorem dX8_lacks_12 : decode cX8_lacks 12 = .ok (.ifCond .eq 7, 3) := by decide +kernel
theorem dX8_lacks_15 : decode cX8_lacks 15 = .ok (.iconst 0, 1) := by decide +kernel
theorem dX8_lacks_16 : decode cX8_lacks 16 = .ok (.goto 4, 3) := by decide +kernel
theorem dX8_lacks_19 : decode cX8_lacks 19 = .ok (.iconst 1, 1) := by decide +kernel
theorem dX8_lacks_20 : decode cX8_lacks 20 = .ok (.putfield 43, 3) := by decide +kernel
theorem dX8_lacks_23 : decode cX8_lacks 23 = .ok (.aload_n 0, 1) := by decide +kernel
theorem dX8_lacks_24 : decode cX8_lacks 24 = .ok (.getfield 43, 3) := by decide +kernel
theorem dX8_lacks_27 : decode cX8_lacks 27 = .ok (.ifCond .le 7, 3) := by decide +kernel
theorem dX8_lacks_30 : decode cX8_lacks 30 = .ok (.iconst 1, 1) := by decide +kernel
theorem dX8_lacks_31 : decode cX8_lacks 31 = .ok (.goto 4, 3) := by decide +kernel
theorem dX8_lacks_34 : decode cX8_lacks 34 = .ok (.iconst 0, 1) := by decide +kernel
theorem dX8_lacks_35 : decode cX8_lacks 35 = .ok (.ireturn, 1) := by decide +kernel
set_option maxRecDepth 20000 in
theorem ggX8_used_X8_lacks : GoodIn wsX8_used wsX8_lacks := goodIn_r _ [5, 6, 7, 8, 4, 9, 10, 11, 12, 13, 14, 15, 16, 25, 26, 27, 28, 29, 30, 31, 32, 33, 34, 35, 36, 37, 38, 39, 40, 41, 42] (by decide +kernel) (by decide +kernel)
set_option maxRecDepth 20000 in
theorem gX8_used_X8_lacks : GoodIn wsX8_used (wsV RX8 326 RX8 yX8_lacks wsX8_lacks) := goodIn_app (goodIn_of _ (by decide +kernel)) ggX8_used_X8_lacks
set_option maxRecDepth 20000 in
theorem ggX8_used_X8_usedOf : GoodIn wsX8_used wsX8_usedOf := goodIn_r _ [20, 21, 22, 23, 4, 24, 25, 26, 27, 28, 29, 30, 31, 32, 33, 34, 35, 36, 37, 38, 39, 40, 41, 42] (by decide +kernel) (by decide +kernel)
set_option maxRecDepth 20000 in
theorem gX8_used_X8_usedOf : GoodIn wsX8_used (wsV RX8 273 RX8 yX8_usedOf wsX8_usedOf) := goodIn_app (goodIn_of _ (by decide +kernel)) ggX8_used_X8_usedOf
theorem dX8_used_0 : decode cX8_used 0 = .ok (.aload_n 0, 1) := by decide +kernel
theorem dX8_used_1 : decode cX8_used 1 = .ok (.iload_n 1, 1) := by decide +kernel
theorem dX8_used_2 : decode cX8_used 2 = .ok (.iload_n 2, 1) := by decide +kernel
theorem dX8_used_3 : decode cX8_used 3 = .ok (.invokevirtual 326, 3) := by decide +kernel
theorem dX8_used_6 : decode cX8_used 6 = .ok (.ifCond .eq 7, 3) := by decide +kernel
theorem dX8_used_9 : decode cX8_used 9 = .ok (.iconst 0, 1) := by decide +kernel
theorem dX8_used_10 : decode cX8_used 10 = .ok (.goto 10, 3) := by decide +kernel
theorem dX8_used_13 : decode cX8_used 13 = .ok (.aload_n 0, 1) := by decide +kernel
theorem dX8_used_14 : decode cX8_used 14 = .ok (.iload_n 1, 1) := by decide +kernel
theorem dX8_used_15 : decode cX8_used 15 = .ok (.iload_n 2, 1) := by decide +kernel
theorem dX8_used_16 : decode cX8_used 16 = .ok (.invokevirtual 273, 3) := by decide +kernel
theorem dX8_used_19 : decode cX8_used 19 = .ok (.l2i, 1) := by decide +kernel
theorem dX8_used_20 : decode cX8_used 20 = .ok (.ireturn, 1) := by decide +kernel
set_option maxRecDepth 20000 in
theorem ggX8_counted_X8_lacks : GoodIn wsX8_counted wsX8_lacks := goodIn_r _ [5, 6, 7, 8, 4, 9, 10, 11, 12, 13, 14, 15, 16, 38, 39, 40, 41, 42, 43, 44, 45, 46, 47, 48, 49, 50, 51, 52, 53, 54, 55] (by decide +kernel) (by decide +kernel)
set_option maxRecDepth 20000 in
theorem gX8_counted_X8_lacks : GoodIn wsX8_counted (wsV RX8 326 RX8 yX8_lacks wsX8_lacks) := goodIn_app (goodIn_of _ (by decide +kernel)) ggX8_counted_X8_lacks
set_option maxRecDepth 20000 in
theorem ggX8_counted_X8_countedOf : GoodIn wsX8_counted wsX8_countedOf := goodIn_r _ [20, 21, 22, 23, 24, 4, 25, 26, 27, 28, 29, 30, 31, 32, 33, 34, 35, 36, 37, 38, 39, 40, 41, 42, 43, 44, 45, 46, 47, 48, 49, 50, 51, 52, 53, 54, 55] (by decide +kernel) (by decide +kernel)
set_option maxRecDepth 20000 in
theorem gX8_counted_X8_countedOf : GoodIn wsX8_counted (wsV RX8 182 RX8 yX8_countedOf wsX8_countedOf) := goodIn_app (goodIn_of _ (by decide +kernel)) ggX8_counted_X8_countedOf
theorem dX8_counted_0 : decode cX8_counted 0 = .ok (.aload_n 0, 1) := by decide +kernel
theorem dX8_counted_1 : decode cX8_counted 1 = .ok (.iload_n 1, 1) := by decide +kernel
theorem dX8_counted_2 : decode cX8_counted 2 = .ok (.iload_n 2, 1) := by decide +kernel
theorem dX8_counted_3 : decode cX8_counted 3 = .ok (.invokevirtual 326, 3) := by decide +kernel
theorem dX8_counted_6 : decode cX8_counted 6 = .ok (.ifCond .eq 7, 3) := by decide +kernel
theorem dX8_counted_9 : decode cX8_counted 9 = .ok (.iconst 0, 1) := by decide +kernel
theorem dX8_counted_10 : decode cX8_counted 10 = .ok (.goto 10, 3) := by decide +kernel
theorem dX8_counted_13 : decode cX8_counted 13 = .ok (.aload_n 0, 1) := by decide +kernel
theorem dX8_counted_14 : decode cX8_counted 14 = .ok (.iload_n 1, 1) := by decide +kernel
theorem dX8_counted_15 : decode cX8_counted 15 = .ok (.iload_n 2, 1) := by decide +kernel
theorem dX8_counted_16 : decode cX8_counted 16 = .ok (.invokevirtual 182, 3) := by decide +kernel
theorem dX8_counted_19 : decode cX8_counted 19 = .ok (.l2i, 1) := by decide +kernel
theorem dX8_counted_20 : decode cX8_counted 20 = .ok (.ireturn, 1) := by decide +kernel
set_option maxRecDepth 20000 in
theorem ggX8_limit_X8_lacks : GoodIn wsX8_limit wsX8_lacks := goodIn_r _ [5, 6, 7, 8, 4, 9, 10, 11, 12, 13, 14, 15, 16, 33, 34, 35, 36, 37, 38, 39, 40, 41, 42, 43, 44, 45, 46, 47, 48, 49, 50] (by decide +kernel) (by decide +kernel)
set_option maxRecDepth 20000 in
theorem gX8_limit_X8_lacks : GoodIn wsX8_limit (wsV RX8 326 RX8 yX8_lacks wsX8_lacks) := goodIn_app (goodIn_of _ (by decide +kernel)) ggX8_limit_X8_lacks
set_option maxRecDepth 20000 in
theorem ggX8_limit_X8_limitOf : GoodIn wsX8_limit wsX8_limitOf := goodIn_r _ [20, 21, 22, 23, 24, 4, 25, 26, 27, 28, 29, 30, 31, 32, 33, 34, 35, 36, 37, 38, 39, 40, 41, 42, 43, 44, 45, 46, 47, 48, 49, 50] (by decide +kernel) (by decide +kernel)
set_option maxRecDepth 20000 in
theorem gX8_limit_X8_limitOf : GoodIn wsX8_limit (wsV RX8 266 RX8 yX8_limitOf wsX8_limitOf) := goodIn_app (goodIn_of _ (by decide +kernel)) ggX8_limit_X8_limitOf
theorem dX8_limit_0 : decode cX8_limit 0 = .ok (.aload_n 0, 1) := by decide +kernel
theorem dX8_limit_1 : decode cX8_limit 1 = .ok (.iload_n 1, 1) := by decide +kernel
theorem dX8_limit_2 : decode cX8_limit 2 = .ok (.iload_n 2, 1) := by decide +kernel
theorem dX8_limit_3 : decode cX8_limit 3 = .ok (.invokevirtual 326, 3) := by decide +kernel
theorem dX8_limit_6 : decode cX8_limit 6 = .ok (.ifCond .eq 7, 3) := by decide +kernel
theorem dX8_limit_9 : decode cX8_limit 9 = .ok (.iconst 0, 1) := by decide +kernel
theorem dX8_limit_10 : decode cX8_limit 10 = .ok (.goto 11, 3) := by decide +kernel
theorem dX8_limit_13 : decode cX8_limit 13 = .ok (.aload_n 0, 1) := by decide +kernel
theorem dX8_limit_14 : decode cX8_limit 14 = .ok (.iload_n 1, 1) := by decide +kernel
theorem dX8_limit_15 : decode cX8_limit 15 = .ok (.iload_n 2, 1) := by decide +kernel
theorem dX8_limit_16 : decode cX8_limit 16 = .ok (.iload_n 3, 1) := by decide +kernel
theorem dX8_limit_17 : decode cX8_limit 17 = .ok (.invokevirtual 266, 3) := by decide +kernel
theorem dX8_limit_20 : decode cX8_limit 20 = .ok (.l2i, 1) := by decide +kernel
theorem dX8_limit_21 : decode cX8_limit 21 = .ok (.ireturn, 1) := by decide +kernel
theorem dX8_hasGift_0 : decode cX8_hasGift 0 = .ok (.iconst 0, 1) := by decide +kernel
theorem dX8_hasGift_1 : decode cX8_hasGift 1 = .ok (.istore_n 2, 1) := by decide +kernel
theorem dX8_hasGift_2 : decode cX8_hasGift 2 = .ok (.iconst 0, 1) := by decide +kernel
theorem dX8_hasGift_3 : decode cX8_hasGift 3 = .ok (.istore_n 3, 1) := by decide +kernel
theorem dX8_hasGift_4 : decode cX8_hasGift 4 = .ok (.iload_n 3, 1) := by decide +kernel
theorem dX8_hasGift_5 : decode cX8_hasGift 5 = .ok (.i2l, 1) := by decide +kernel
theorem dX8_hasGift_6 : decode cX8_hasGift 6 = .ok (.aload_n 0, 1) := by decide +kernel
theorem dX8_hasGift_7 : decode cX8_hasGift 7 = .ok (.getfield 7, 3) := by decide +kernel
theorem dX8_hasGift_10 : decode cX8_hasGift 10 = .ok (.iconst 4, 1) := by decide +kernel
theorem dX8_hasGift_11 : decode cX8_hasGift 11 = .ok (.laload, 1) := by decide +kernel
theorem dX8_hasGift_12 : decode cX8_hasGift 12 = .ok (.lcmp, 1) := by decide +kernel
theorem dX8_hasGift_13 : decode cX8_hasGift 13 = .ok (.ifCond .ge 59, 3) := by decide +kernel
theorem dX8_hasGift_16 : decode cX8_hasGift 16 = .ok (.iload_n 2, 1) := by decide +kernel
theorem dX8_hasGift_17 : decode cX8_hasGift 17 = .ok (.ifCond .ne 43, 3) := by decide +kernel
theorem dX8_hasGift_20 : decode cX8_hasGift 20 = .ok (.aload_n 0, 1) := by decide +kernel
theorem dX8_hasGift_21 : decode cX8_hasGift 21 = .ok (.getfield 7, 3) := by decide +kernel
theorem dX8_hasGift_24 : decode cX8_hasGift 24 = .ok (.sipush 309, 3) := by decide +kernel
theorem dX8_hasGift_27 : decode cX8_hasGift 27 = .ok (.iconst 4, 1) := by decide +kernel
theorem dX8_hasGift_28 : decode cX8_hasGift 28 = .ok (.iload_n 3, 1) := by decide +kernel
theorem dX8_hasGift_29 : decode cX8_hasGift 29 = .ok (.imul, 1) := by decide +kernel
theorem dX8_hasGift_30 : decode cX8_hasGift 30 = .ok (.iadd, 1) := by decide +kernel
theorem dX8_hasGift_31 : decode cX8_hasGift 31 = .ok (.iconst 0, 1) := by decide +kernel
theorem dX8_hasGift_32 : decode cX8_hasGift 32 = .ok (.iadd, 1) := by decide +kernel
theorem dX8_hasGift_33 : decode cX8_hasGift 33 = .ok (.laload, 1) := by decide +kernel
theorem dX8_hasGift_34 : decode cX8_hasGift 34 = .ok (.iload_n 1, 1) := by decide +kernel
theorem dX8_hasGift_35 : decode cX8_hasGift 35 = .ok (.i2l, 1) := by decide +kernel
theorem dX8_hasGift_36 : decode cX8_hasGift 36 = .ok (.lcmp, 1) := by decide +kernel
theorem dX8_hasGift_37 : decode cX8_hasGift 37 = .ok (.ifCond .eq 23, 3) := by decide +kernel
theorem dX8_hasGift_40 : decode cX8_hasGift 40 = .ok (.aload_n 0, 1) := by decide +kernel
theorem dX8_hasGift_41 : decode cX8_hasGift 41 = .ok (.getfield 7, 3) := by decide +kernel
theorem dX8_hasGift_44 : decode cX8_hasGift 44 = .ok (.sipush 309, 3) := by decide +kernel
theorem dX8_hasGift_47 : decode cX8_hasGift 47 = .ok (.iconst 4, 1) := by decide +kernel
theorem dX8_hasGift_48 : decode cX8_hasGift 48 = .ok (.iload_n 3, 1) := by decide +kernel
theorem dX8_hasGift_49 : decode cX8_hasGift 49 = .ok (.imul, 1) := by decide +kernel
theorem dX8_hasGift_50 : decode cX8_hasGift 50 = .ok (.iadd, 1) := by decide +kernel
theorem dX8_hasGift_51 : decode cX8_hasGift 51 = .ok (.iconst 1, 1) := by decide +kernel
theorem dX8_hasGift_52 : decode cX8_hasGift 52 = .ok (.iadd, 1) := by decide +kernel
theorem dX8_hasGift_53 : decode cX8_hasGift 53 = .ok (.laload, 1) := by decide +kernel
theorem dX8_hasGift_54 : decode cX8_hasGift 54 = .ok (.iload_n 1, 1) := by decide +kernel
theorem dX8_hasGift_55 : decode cX8_hasGift 55 = .ok (.i2l, 1) := by decide +kernel
theorem dX8_hasGift_56 : decode cX8_hasGift 56 = .ok (.lcmp, 1) := by decide +kernel
theorem dX8_hasGift_57 : decode cX8_hasGift 57 = .ok (.ifCond .ne 7, 3) := by decide +kernel
theorem dX8_hasGift_60 : decode cX8_hasGift 60 = .ok (.iconst 1, 1) := by decide +kernel
theorem dX8_hasGift_61 : decode cX8_hasGift 61 = .ok (.goto 4, 3) := by decide +kernel
theorem dX8_hasGift_64 : decode cX8_hasGift 64 = .ok (.iconst 0, 1) := by decide +kernel
theorem dX8_hasGift_65 : decode cX8_hasGift 65 = .ok (.istore_n 2, 1) := by decide +kernel
theorem dX8_hasGift_66 : decode cX8_hasGift 66 = .ok (.iinc 3 1, 3) := by decide +kernel
theorem dX8_hasGift_69 : decode cX8_hasGift 69 = .ok (.goto (-65), 3) := by decide +kernel
theorem dX8_hasGift_72 : decode cX8_hasGift 72 = .ok (.iload_n 2, 1) := by decide +kernel
theorem dX8_hasGift_73 : decode cX8_hasGift 73 = .ok (.ireturn, 1) := by decide +kernel
set_option maxRecDepth 20000 in
theorem ggX8_setLimit_X8_isProject : GoodIn wsX8_setLimit wsX8_isProject := goodIn_r _ [7, 8, 9, 10, 6, 11] (by decide +kernel) (by decide +kernel)
set_option maxRecDepth 20000 in
theorem gX8_setLimit_X8_isProject : GoodIn wsX8_setLimit (va_wsS RX8 320 yX8_isProject wsX8_isProject) := goodIn_app (goodIn_of _ (by decide +kernel)) ggX8_setLimit_X8_isProject
set_option maxRecDepth 20000 in
theorem ggX8_setLimit_X8_isKind : GoodIn wsX8_setLimit wsX8_isKind := goodIn_r _ [14, 9, 10, 6, 11] (by decide +kernel) (by decide +kernel)
set_option maxRecDepth 20000 in
theorem gX8_setLimit_X8_isKind : GoodIn wsX8_setLimit (va_wsS RX8 323 yX8_isKind wsX8_isKind) := goodIn_app (goodIn_of _ (by decide +kernel)) ggX8_setLimit_X8_isKind
set_option maxRecDepth 20000 in
theorem ggX8_setLimit_X8_isIn : GoodIn wsX8_setLimit wsX8_isIn := goodIn_r _ [11] (by decide +kernel) (by decide +kernel)
set_option maxRecDepth 20000 in
theorem gX8_setLimit_X8_isIn : GoodIn wsX8_setLimit (va_wsS RX8 59 yX8_isIn wsX8_isIn) := goodIn_app (goodIn_of _ (by decide +kernel)) ggX8_setLimit_X8_isIn
set_option maxRecDepth 20000 in
theorem ggX8_setLimit_X8_hasGift : GoodIn wsX8_setLimit wsX8_hasGift := goodIn_r _ [18, 3, 64, 65, 66, 67, 68, 69, 70, 71, 72, 73, 74, 75, 76, 77, 78, 79, 80, 81] (by decide +kernel) (by decide +kernel)
set_option maxRecDepth 20000 in
theorem gX8_setLimit_X8_hasGift : GoodIn wsX8_setLimit (wsV RX8 331 RX8 yX8_hasGift wsX8_hasGift) := goodIn_app (goodIn_of _ (by decide +kernel)) ggX8_setLimit_X8_hasGift
set_option maxRecDepth 20000 in
theorem ggX8_setLimit_X8_keeps : GoodIn wsX8_setLimit wsX8_keeps := goodIn_r _ [22, 23, 24, 3, 64, 65, 66, 67, 68, 69, 70, 71, 72, 73, 74, 75, 76, 77, 78, 79, 80, 81] (by decide +kernel) (by decide +kernel)
set_option maxRecDepth 20000 in
theorem gX8_setLimit_X8_keeps : GoodIn wsX8_setLimit (wsV RX8 179 RX8 yX8_keeps wsX8_keeps) := goodIn_app (goodIn_of _ (by decide +kernel)) ggX8_setLimit_X8_keeps
set_option maxRecDepth 20000 in
theorem ggX8_setLimit_X8_place : GoodIn wsX8_setLimit wsX8_place := goodIn_r _ [27] (by decide +kernel) (by decide +kernel)
set_option maxRecDepth 20000 in
theorem gX8_setLimit_X8_place : GoodIn wsX8_setLimit (va_wsS RX8 255 yX8_place wsX8_place) := goodIn_app (goodIn_of _ (by decide +kernel)) ggX8_setLimit_X8_place
set_option maxRecDepth 20000 in
theorem ggX8_setLimit_X8_setsClocks : GoodIn wsX8_setLimit wsX8_setsClocks := goodIn_r _ [31, 32, 3, 33, 34, 35, 6, 36, 25, 26, 27, 37, 38, 39, 40, 41, 42, 43, 64, 65, 66, 67, 68, 69, 70, 71, 72, 73, 74, 75, 76, 77, 78, 79, 80, 81] (by decide +kernel) (by decide +kernel)
set_option maxRecDepth 20000 in
theorem gX8_setLimit_X8_setsClocks : GoodIn wsX8_setLimit (wsV RX8 186 RX8 yX8_setsClocks wsX8_setsClocks) := goodIn_app (goodIn_of _ (by decide +kernel)) ggX8_setLimit_X8_setsClocks
set_option maxRecDepth 20000 in
theorem ggX8_setLimit_X8_stateOf : GoodIn wsX8_setLimit wsX8_stateOf := goodIn_r _ [47, 32, 48, 49, 50, 6, 51, 33, 34, 35, 36, 3, 25, 26, 27, 37, 38, 39, 40, 41, 42, 43, 52, 53, 54, 55, 56, 57, 58, 59, 60, 61, 62, 63, 64, 65, 66, 67, 68, 69, 70, 71, 72, 73, 74, 75, 76, 77, 78, 79, 80, 81] (by decide +kernel) (by decide +kernel)
set_option maxRecDepth 20000 in
theorem gX8_setLimit_X8_stateOf : GoodIn wsX8_setLimit (wsV RX8 334 RX8 yX8_stateOf wsX8_stateOf) := goodIn_app (goodIn_of _ (by decide +kernel)) ggX8_setLimit_X8_stateOf
theorem dX8_setLimit_0 : decode cX8_setLimit 0 = .ok (.iload_n 1, 1) := by decide +kernel
theorem dX8_setLimit_1 : decode cX8_setLimit 1 = .ok (.invokestatic 320, 3) := by decide +kernel
theorem dX8_setLimit_4 : decode cX8_setLimit 4 = .ok (.ifCond .eq 50, 3) := by decide +kernel
theorem dX8_setLimit_7 : decode cX8_setLimit 7 = .ok (.iload_n 2, 1) := by decide +kernel
theorem dX8_setLimit_8 : decode cX8_setLimit 8 = .ok (.invokestatic 323, 3) := by decide +kernel
theorem dX8_setLimit_11 : decode cX8_setLimit 11 = .ok (.ifCond .eq 43, 3) := by decide +kernel
theorem dX8_setLimit_14 : decode cX8_setLimit 14 = .ok (.iload_n 3, 1) := by decide +kernel
theorem dX8_setLimit_15 : decode cX8_setLimit 15 = .ok (.i2l, 1) := by decide +kernel
theorem dX8_setLimit_16 : decode cX8_setLimit 16 = .ok (.lconst 0, 1) := by decide +kernel
theorem dX8_setLimit_17 : decode cX8_setLimit 17 = .ok (.ldc2_w 329, 3) := by decide +kernel
theorem dX8_setLimit_20 : decode cX8_setLimit 20 = .ok (.invokestatic 59, 3) := by decide +kernel
theorem dX8_setLimit_23 : decode cX8_setLimit 23 = .ok (.ifCond .eq 31, 3) := by decide +kernel
theorem dX8_setLimit_26 : decode cX8_setLimit 26 = .ok (.iload 4, 2) := by decide +kernel
theorem dX8_setLimit_28 : decode cX8_setLimit 28 = .ok (.i2l, 1) := by decide +kernel
theorem dX8_setLimit_29 : decode cX8_setLimit 29 = .ok (.lconst 0, 1) := by decide +kernel
theorem dX8_setLimit_30 : decode cX8_setLimit 30 = .ok (.ldc2_w 329, 3) := by decide +kernel
theorem dX8_setLimit_33 : decode cX8_setLimit 33 = .ok (.invokestatic 59, 3) := by decide +kernel
theorem dX8_setLimit_36 : decode cX8_setLimit 36 = .ok (.ifCond .eq 18, 3) := by decide +kernel
theorem dX8_setLimit_39 : decode cX8_setLimit 39 = .ok (.iload 4, 2) := by decide +kernel
theorem dX8_setLimit_41 : decode cX8_setLimit 41 = .ok (.ifCond .eq 9, 3) := by decide +kernel
theorem dX8_setLimit_44 : decode cX8_setLimit 44 = .ok (.iload_n 3, 1) := by decide +kernel
theorem dX8_setLimit_45 : decode cX8_setLimit 45 = .ok (.iload 4, 2) := by decide +kernel
theorem dX8_setLimit_47 : decode cX8_setLimit 47 = .ok (.if_icmp .gt 7, 3) := by decide +kernel
theorem dX8_setLimit_50 : decode cX8_setLimit 50 = .ok (.iconst 1, 1) := by decide +kernel
theorem dX8_setLimit_51 : decode cX8_setLimit 51 = .ok (.goto 4, 3) := by decide +kernel
theorem dX8_setLimit_54 : decode cX8_setLimit 54 = .ok (.iconst 0, 1) := by decide +kernel
theorem dX8_setLimit_55 : decode cX8_setLimit 55 = .ok (.istore 5, 2) := by decide +kernel
theorem dX8_setLimit_57 : decode cX8_setLimit 57 = .ok (.aload_n 0, 1) := by decide +kernel
theorem dX8_setLimit_58 : decode cX8_setLimit 58 = .ok (.iload 5, 2) := by decide +kernel
theorem dX8_setLimit_60 : decode cX8_setLimit 60 = .ok (.ifCond .ne 7, 3) := by decide +kernel
theorem dX8_setLimit_63 : decode cX8_setLimit 63 = .ok (.iconst 1, 1) := by decide +kernel
theorem dX8_setLimit_64 : decode cX8_setLimit 64 = .ok (.goto 25, 3) := by decide +kernel
theorem dX8_setLimit_67 : decode cX8_setLimit 67 = .ok (.iload 4, 2) := by decide +kernel
theorem dX8_setLimit_69 : decode cX8_setLimit 69 = .ok (.ifCond .ne 19, 3) := by decide +kernel
theorem dX8_setLimit_72 : decode cX8_setLimit 72 = .ok (.iload_n 2, 1) := by decide +kernel
theorem dX8_setLimit_73 : decode cX8_setLimit 73 = .ok (.ifCond .ne 15, 3) := by decide +kernel
theorem dX8_setLimit_76 : decode cX8_setLimit 76 = .ok (.aload_n 0, 1) := by decide +kernel
theorem dX8_setLimit_77 : decode cX8_setLimit 77 = .ok (.iload_n 1, 1) := by decide +kernel
theorem dX8_setLimit_78 : decode cX8_setLimit 78 = .ok (.invokevirtual 331, 3) := by decide +kernel
theorem dX8_setLimit_81 : decode cX8_setLimit 81 = .ok (.ifCond .eq 7, 3) := by decide +kernel
theorem dX8_setLimit_84 : decode cX8_setLimit 84 = .ok (.iconst 2, 1) := by decide +kernel
theorem dX8_setLimit_85 : decode cX8_setLimit 85 = .ok (.goto 4, 3) := by decide +kernel
theorem dX8_setLimit_88 : decode cX8_setLimit 88 = .ok (.iconst 0, 1) := by decide +kernel
theorem dX8_setLimit_89 : decode cX8_setLimit 89 = .ok (.putfield 43, 3) := by decide +kernel
theorem dX8_setLimit_92 : decode cX8_setLimit 92 = .ok (.aload_n 0, 1) := by decide +kernel
theorem dX8_setLimit_93 : decode cX8_setLimit 93 = .ok (.getfield 43, 3) := by decide +kernel
theorem dX8_setLimit_96 : decode cX8_setLimit 96 = .ok (.ifCond .le 5, 3) := by decide +kernel
theorem dX8_setLimit_99 : decode cX8_setLimit 99 = .ok (.iconst 0, 1) := by decide +kernel
theorem dX8_setLimit_100 : decode cX8_setLimit 100 = .ok (.ireturn, 1) := by decide +kernel
theorem dX8_setLimit_101 : decode cX8_setLimit 101 = .ok (.aload_n 0, 1) := by decide +kernel
theorem dX8_setLimit_102 : decode cX8_setLimit 102 = .ok (.invokevirtual 179, 3) := by decide +kernel
theorem dX8_setLimit_105 : decode cX8_setLimit 105 = .ok (.aload_n 0, 1) := by decide +kernel
theorem dX8_setLimit_106 : decode cX8_setLimit 106 = .ok (.getfield 7, 3) := by decide +kernel
theorem dX8_setLimit_109 : decode cX8_setLimit 109 = .ok (.iconst 5, 1) := by decide +kernel
theorem dX8_setLimit_110 : decode cX8_setLimit 110 = .ok (.iload_n 1, 1) := by decide +kernel
theorem dX8_setLimit_111 : decode cX8_setLimit 111 = .ok (.iload_n 2, 1) := by decide +kernel
theorem dX8_setLimit_112 : decode cX8_setLimit 112 = .ok (.invokestatic 255, 3) := by decide +kernel
theorem dX8_setLimit_115 : decode cX8_setLimit 115 = .ok (.iadd, 1) := by decide +kernel
theorem dX8_setLimit_116 : decode cX8_setLimit 116 = .ok (.iload_n 3, 1) := by decide +kernel
theorem dX8_setLimit_117 : decode cX8_setLimit 117 = .ok (.i2l, 1) := by decide +kernel
theorem dX8_setLimit_118 : decode cX8_setLimit 118 = .ok (.lastore, 1) := by decide +kernel
theorem dX8_setLimit_119 : decode cX8_setLimit 119 = .ok (.aload_n 0, 1) := by decide +kernel
theorem dX8_setLimit_120 : decode cX8_setLimit 120 = .ok (.getfield 7, 3) := by decide +kernel
theorem dX8_setLimit_123 : decode cX8_setLimit 123 = .ok (.bipush 21, 2) := by decide +kernel
theorem dX8_setLimit_125 : decode cX8_setLimit 125 = .ok (.iload_n 1, 1) := by decide +kernel
theorem dX8_setLimit_126 : decode cX8_setLimit 126 = .ok (.iload_n 2, 1) := by decide +kernel
theorem dX8_setLimit_127 : decode cX8_setLimit 127 = .ok (.invokestatic 255, 3) := by decide +kernel
theorem dX8_setLimit_130 : decode cX8_setLimit 130 = .ok (.iadd, 1) := by decide +kernel
theorem dX8_setLimit_131 : decode cX8_setLimit 131 = .ok (.iload 4, 2) := by decide +kernel
theorem dX8_setLimit_133 : decode cX8_setLimit 133 = .ok (.i2l, 1) := by decide +kernel
theorem dX8_setLimit_134 : decode cX8_setLimit 134 = .ok (.lastore, 1) := by decide +kernel
theorem dX8_setLimit_135 : decode cX8_setLimit 135 = .ok (.aload_n 0, 1) := by decide +kernel
theorem dX8_setLimit_136 : decode cX8_setLimit 136 = .ok (.invokevirtual 186, 3) := by decide +kernel
theorem dX8_setLimit_139 : decode cX8_setLimit 139 = .ok (.aload_n 0, 1) := by decide +kernel
theorem dX8_setLimit_140 : decode cX8_setLimit 140 = .ok (.iload_n 1, 1) := by decide +kernel
theorem dX8_setLimit_141 : decode cX8_setLimit 141 = .ok (.iload_n 2, 1) := by decide +kernel
theorem dX8_setLimit_142 : decode cX8_setLimit 142 = .ok (.invokevirtual 334, 3) := by decide +kernel
theorem dX8_setLimit_145 : decode cX8_setLimit 145 = .ok (.ireturn, 1) := by decide +kernel
set_option maxRecDepth 20000 in
theorem ggX8_state_X8_lacks : GoodIn wsX8_state wsX8_lacks := goodIn_r _ [5, 6, 7, 8, 4, 9, 10, 11, 12, 13, 14, 15, 16, 53, 54, 55, 56, 57, 58, 59, 60, 61, 62, 63, 64, 65, 66, 67, 68, 69, 70] (by decide +kernel) (by decide +kernel)
set_option maxRecDepth 20000 in
theorem gX8_state_X8_lacks : GoodIn wsX8_state (wsV RX8 326 RX8 yX8_lacks wsX8_lacks) := goodIn_app (goodIn_of _ (by decide +kernel)) ggX8_state_X8_lacks
set_option maxRecDepth 20000 in
theorem ggX8_state_X8_stateOf : GoodIn wsX8_state wsX8_stateOf := goodIn_r _ [20, 21, 22, 23, 24, 4, 25, 26, 27, 28, 29, 30, 31, 32, 33, 34, 35, 36, 37, 38, 39, 40, 41, 42, 43, 44, 45, 46, 47, 48, 49, 50, 51, 52, 53, 54, 55, 56, 57, 58, 59, 60, 61, 62, 63, 64, 65, 66, 67, 68, 69, 70] (by decide +kernel) (by decide +kernel)
set_option maxRecDepth 20000 in
theorem gX8_state_X8_stateOf : GoodIn wsX8_state (wsV RX8 334 RX8 yX8_stateOf wsX8_stateOf) := goodIn_app (goodIn_of _ (by decide +kernel)) ggX8_state_X8_stateOf
theorem dX8_state_0 : decode cX8_state 0 = .ok (.aload_n 0, 1) := by decide +kernel
theorem dX8_state_1 : decode cX8_state 1 = .ok (.iload_n 1, 1) := by decide +kernel
theorem dX8_state_2 : decode cX8_state 2 = .ok (.iload_n 2, 1) := by decide +kernel
theorem dX8_state_3 : decode cX8_state 3 = .ok (.invokevirtual 326, 3) := by decide +kernel
theorem dX8_state_6 : decode cX8_state 6 = .ok (.ifCond .eq 7, 3) := by decide +kernel
theorem dX8_state_9 : decode cX8_state 9 = .ok (.iconst 0, 1) := by decide +kernel
theorem dX8_state_10 : decode cX8_state 10 = .ok (.goto 9, 3) := by decide +kernel
theorem dX8_state_13 : decode cX8_state 13 = .ok (.aload_n 0, 1) := by decide +kernel
theorem dX8_state_14 : decode cX8_state 14 = .ok (.iload_n 1, 1) := by decide +kernel
theorem dX8_state_15 : decode cX8_state 15 = .ok (.iload_n 2, 1) := by decide +kernel
theorem dX8_state_16 : decode cX8_state 16 = .ok (.invokevirtual 334, 3) := by decide +kernel
theorem dX8_state_19 : decode cX8_state 19 = .ok (.ireturn, 1) := by decide +kernel
set_option maxRecDepth 20000 in
theorem ggX8_graceLeft_X8_lacks : GoodIn wsX8_graceLeft wsX8_lacks := goodIn_r _ [6, 7, 8, 9, 5, 10, 11, 12, 13, 14, 15, 16, 17, 29, 30, 31, 32, 33, 34, 35, 36, 37, 38, 39, 40, 41, 42, 43, 44, 45, 46] (by decide +kernel) (by decide +kernel)
set_option maxRecDepth 20000 in
theorem gX8_graceLeft_X8_lacks : GoodIn wsX8_graceLeft (wsV RX8 326 RX8 yX8_lacks wsX8_lacks) := goodIn_app (goodIn_of _ (by decide +kernel)) ggX8_graceLeft_X8_lacks
set_option maxRecDepth 20000 in
theorem ggX8_graceLeft_X8_doesRun : GoodIn wsX8_graceLeft wsX8_doesRun := goodIn_r _ [21, 1, 22, 23, 24, 5, 25, 29, 30, 31, 32, 33, 34, 35, 36, 37, 38, 39, 40, 41, 42, 43, 44, 45, 46] (by decide +kernel) (by decide +kernel)
set_option maxRecDepth 20000 in
theorem gX8_graceLeft_X8_doesRun : GoodIn wsX8_graceLeft (wsV RX8 270 RX8 yX8_doesRun wsX8_doesRun) := goodIn_app (goodIn_of _ (by decide +kernel)) ggX8_graceLeft_X8_doesRun
set_option maxRecDepth 20000 in
theorem ggX8_graceLeft_X8_place : GoodIn wsX8_graceLeft wsX8_place := goodIn_r _ [25] (by decide +kernel) (by decide +kernel)
set_option maxRecDepth 20000 in
theorem gX8_graceLeft_X8_place : GoodIn wsX8_graceLeft (va_wsS RX8 255 yX8_place wsX8_place) := goodIn_app (goodIn_of _ (by decide +kernel)) ggX8_graceLeft_X8_place
set_option maxRecDepth 20000 in
theorem ggX8_graceLeft_X8_greater : GoodIn wsX8_graceLeft wsX8_greater := goodIn_r _ [28] (by decide +kernel) (by decide +kernel)
set_option maxRecDepth 20000 in
theorem gX8_graceLeft_X8_greater : GoodIn wsX8_graceLeft (va_wsS RX8 262 yX8_greater wsX8_greater) := goodIn_app (goodIn_of _ (by decide +kernel)) ggX8_graceLeft_X8_greater
theorem dX8_graceLeft_0 : decode cX8_graceLeft 0 = .ok (.aload_n 0, 1) := by decide +kernel
theorem dX8_graceLeft_1 : decode cX8_graceLeft 1 = .ok (.iload_n 1, 1) := by decide +kernel
theorem dX8_graceLeft_2 : decode cX8_graceLeft 2 = .ok (.iload_n 2, 1) := by decide +kernel
theorem dX8_graceLeft_3 : decode cX8_graceLeft 3 = .ok (.invokevirtual 326, 3) := by decide +kernel
theorem dX8_graceLeft_6 : decode cX8_graceLeft 6 = .ok (.ifCond .eq 5, 3) := by decide +kernel
theorem dX8_graceLeft_9 : decode cX8_graceLeft 9 = .ok (.iconst 0, 1) := by decide +kernel
theorem dX8_graceLeft_10 : decode cX8_graceLeft 10 = .ok (.ireturn, 1) := by decide +kernel
theorem dX8_graceLeft_11 : decode cX8_graceLeft 11 = .ok (.aload_n 0, 1) := by decide +kernel
theorem dX8_graceLeft_12 : decode cX8_graceLeft 12 = .ok (.iload_n 1, 1) := by decide +kernel
theorem dX8_graceLeft_13 : decode cX8_graceLeft 13 = .ok (.iload_n 2, 1) := by decide +kernel
theorem dX8_graceLeft_14 : decode cX8_graceLeft 14 = .ok (.invokevirtual 270, 3) := by decide +kernel
theorem dX8_graceLeft_17 : decode cX8_graceLeft 17 = .ok (.ifCond .eq 38, 3) := by decide +kernel
theorem dX8_graceLeft_20 : decode cX8_graceLeft 20 = .ok (.lconst 0, 1) := by decide +kernel
theorem dX8_graceLeft_21 : decode cX8_graceLeft 21 = .ok (.aload_n 0, 1) := by decide +kernel
theorem dX8_graceLeft_22 : decode cX8_graceLeft 22 = .ok (.getfield 7, 3) := by decide +kernel
theorem dX8_graceLeft_25 : decode cX8_graceLeft 25 = .ok (.bipush 53, 2) := by decide +kernel
theorem dX8_graceLeft_27 : decode cX8_graceLeft 27 = .ok (.iload_n 1, 1) := by decide +kernel
theorem dX8_graceLeft_28 : decode cX8_graceLeft 28 = .ok (.iload_n 2, 1) := by decide +kernel
theorem dX8_graceLeft_29 : decode cX8_graceLeft 29 = .ok (.invokestatic 255, 3) := by decide +kernel
theorem dX8_graceLeft_32 : decode cX8_graceLeft 32 = .ok (.iadd, 1) := by decide +kernel
theorem dX8_graceLeft_33 : decode cX8_graceLeft 33 = .ok (.laload, 1) := by decide +kernel
theorem dX8_graceLeft_34 : decode cX8_graceLeft 34 = .ok (.aload_n 0, 1) := by decide +kernel
theorem dX8_graceLeft_35 : decode cX8_graceLeft 35 = .ok (.getfield 7, 3) := by decide +kernel
theorem dX8_graceLeft_38 : decode cX8_graceLeft 38 = .ok (.iconst 1, 1) := by decide +kernel
theorem dX8_graceLeft_39 : decode cX8_graceLeft 39 = .ok (.laload, 1) := by decide +kernel
theorem dX8_graceLeft_40 : decode cX8_graceLeft 40 = .ok (.ladd, 1) := by decide +kernel
theorem dX8_graceLeft_41 : decode cX8_graceLeft 41 = .ok (.aload_n 0, 1) := by decide +kernel
theorem dX8_graceLeft_42 : decode cX8_graceLeft 42 = .ok (.getfield 7, 3) := by decide +kernel
theorem dX8_graceLeft_45 : decode cX8_graceLeft 45 = .ok (.iconst 0, 1) := by decide +kernel
theorem dX8_graceLeft_46 : decode cX8_graceLeft 46 = .ok (.laload, 1) := by decide +kernel
theorem dX8_graceLeft_47 : decode cX8_graceLeft 47 = .ok (.lsub, 1) := by decide +kernel
theorem dX8_graceLeft_48 : decode cX8_graceLeft 48 = .ok (.invokestatic 262, 3) := by decide +kernel
theorem dX8_graceLeft_51 : decode cX8_graceLeft 51 = .ok (.l2i, 1) := by decide +kernel
theorem dX8_graceLeft_52 : decode cX8_graceLeft 52 = .ok (.goto 4, 3) := by decide +kernel
theorem dX8_graceLeft_55 : decode cX8_graceLeft 55 = .ok (.iconst (-1), 1) := by decide +kernel
theorem dX8_graceLeft_56 : decode cX8_graceLeft 56 = .ok (.ireturn, 1) := by decide +kernel
set_option maxRecDepth 20000 in
theorem ggX8_setGrace_X8_isIn : GoodIn wsX8_setGrace wsX8_isIn := goodIn_r _ [7] (by decide +kernel) (by decide +kernel)
set_option maxRecDepth 20000 in
theorem gX8_setGrace_X8_isIn : GoodIn wsX8_setGrace (va_wsS RX8 59 yX8_isIn wsX8_isIn) := goodIn_app (goodIn_of _ (by decide +kernel)) ggX8_setGrace_X8_isIn
set_option maxRecDepth 20000 in
theorem ggX8_setGrace_X8_keeps : GoodIn wsX8_setGrace wsX8_keeps := goodIn_r _ [11, 12, 13, 3, 33, 34, 35, 36, 37, 38, 39, 40, 41, 42, 43, 44, 45, 46, 47, 48, 49, 50] (by decide +kernel) (by decide +kernel)
set_option maxRecDepth 20000 in
theorem gX8_setGrace_X8_keeps : GoodIn wsX8_setGrace (wsV RX8 179 RX8 yX8_keeps wsX8_keeps) := goodIn_app (goodIn_of _ (by decide +kernel)) ggX8_setGrace_X8_keeps
set_option maxRecDepth 20000 in
theorem ggX8_setGrace_X8_setsClocks : GoodIn wsX8_setGrace wsX8_setsClocks := goodIn_r _ [17, 18, 3, 19, 20, 21, 6, 22, 23, 24, 25, 26, 27, 28, 29, 30, 31, 32, 33, 34, 35, 36, 37, 38, 39, 40, 41, 42, 43, 44, 45, 46, 47, 48, 49, 50] (by decide +kernel) (by decide +kernel)
set_option maxRecDepth 20000 in
theorem gX8_setGrace_X8_setsClocks : GoodIn wsX8_setGrace (wsV RX8 186 RX8 yX8_setsClocks wsX8_setsClocks) := goodIn_app (goodIn_of _ (by decide +kernel)) ggX8_setGrace_X8_setsClocks
theorem dX8_setGrace_0 : decode cX8_setGrace 0 = .ok (.aload_n 0, 1) := by decide +kernel
theorem dX8_setGrace_1 : decode cX8_setGrace 1 = .ok (.iload_n 1, 1) := by decide +kernel
theorem dX8_setGrace_2 : decode cX8_setGrace 2 = .ok (.i2l, 1) := by decide +kernel
theorem dX8_setGrace_3 : decode cX8_setGrace 3 = .ok (.lconst 1, 1) := by decide +kernel
theorem dX8_setGrace_4 : decode cX8_setGrace 4 = .ok (.ldc2_w 337, 3) := by decide +kernel
theorem dX8_setGrace_7 : decode cX8_setGrace 7 = .ok (.invokestatic 59, 3) := by decide +kernel
theorem dX8_setGrace_10 : decode cX8_setGrace 10 = .ok (.ifCond .eq 7, 3) := by decide +kernel
theorem dX8_setGrace_13 : decode cX8_setGrace 13 = .ok (.iconst 0, 1) := by decide +kernel
theorem dX8_setGrace_14 : decode cX8_setGrace 14 = .ok (.goto 4, 3) := by decide +kernel
theorem dX8_setGrace_17 : decode cX8_setGrace 17 = .ok (.iconst 1, 1) := by decide +kernel
theorem dX8_setGrace_18 : decode cX8_setGrace 18 = .ok (.putfield 43, 3) := by decide +kernel
theorem dX8_setGrace_21 : decode cX8_setGrace 21 = .ok (.aload_n 0, 1) := by decide +kernel
theorem dX8_setGrace_22 : decode cX8_setGrace 22 = .ok (.getfield 43, 3) := by decide +kernel
theorem dX8_setGrace_25 : decode cX8_setGrace 25 = .ok (.ifCond .le 5, 3) := by decide +kernel
theorem dX8_setGrace_28 : decode cX8_setGrace 28 = .ok (.iconst 0, 1) := by decide +kernel
theorem dX8_setGrace_29 : decode cX8_setGrace 29 = .ok (.ireturn, 1) := by decide +kernel
theorem dX8_setGrace_30 : decode cX8_setGrace 30 = .ok (.aload_n 0, 1) := by decide +kernel
theorem dX8_setGrace_31 : decode cX8_setGrace 31 = .ok (.invokevirtual 179, 3) := by decide +kernel
theorem dX8_setGrace_34 : decode cX8_setGrace 34 = .ok (.aload_n 0, 1) := by decide +kernel
theorem dX8_setGrace_35 : decode cX8_setGrace 35 = .ok (.getfield 7, 3) := by decide +kernel
theorem dX8_setGrace_38 : decode cX8_setGrace 38 = .ok (.iconst 1, 1) := by decide +kernel
theorem dX8_setGrace_39 : decode cX8_setGrace 39 = .ok (.laload, 1) := by decide +kernel
theorem dX8_setGrace_40 : decode cX8_setGrace 40 = .ok (.l2i, 1) := by decide +kernel
theorem dX8_setGrace_41 : decode cX8_setGrace 41 = .ok (.istore_n 2, 1) := by decide +kernel
theorem dX8_setGrace_42 : decode cX8_setGrace 42 = .ok (.aload_n 0, 1) := by decide +kernel
theorem dX8_setGrace_43 : decode cX8_setGrace 43 = .ok (.getfield 7, 3) := by decide +kernel
theorem dX8_setGrace_46 : decode cX8_setGrace 46 = .ok (.iconst 1, 1) := by decide +kernel
theorem dX8_setGrace_47 : decode cX8_setGrace 47 = .ok (.iload_n 1, 1) := by decide +kernel
theorem dX8_setGrace_48 : decode cX8_setGrace 48 = .ok (.i2l, 1) := by decide +kernel
theorem dX8_setGrace_49 : decode cX8_setGrace 49 = .ok (.lastore, 1) := by decide +kernel
theorem dX8_setGrace_50 : decode cX8_setGrace 50 = .ok (.aload_n 0, 1) := by decide +kernel
theorem dX8_setGrace_51 : decode cX8_setGrace 51 = .ok (.invokevirtual 186, 3) := by decide +kernel
theorem dX8_setGrace_54 : decode cX8_setGrace 54 = .ok (.iload_n 2, 1) := by decide +kernel
theorem dX8_setGrace_55 : decode cX8_setGrace 55 = .ok (.ireturn, 1) := by decide +kernel
theorem dX8_dropsGift_0 : decode cX8_dropsGift 0 = .ok (.aload_n 0, 1) := by decide +kernel
theorem dX8_dropsGift_1 : decode cX8_dropsGift 1 = .ok (.getfield 7, 3) := by decide +kernel
theorem dX8_dropsGift_4 : decode cX8_dropsGift 4 = .ok (.iconst 4, 1) := by decide +kernel
theorem dX8_dropsGift_5 : decode cX8_dropsGift 5 = .ok (.dup2, 1) := by decide +kernel
theorem dX8_dropsGift_6 : decode cX8_dropsGift 6 = .ok (.laload, 1) := by decide +kernel
theorem dX8_dropsGift_7 : decode cX8_dropsGift 7 = .ok (.lconst 1, 1) := by decide +kernel
theorem dX8_dropsGift_8 : decode cX8_dropsGift 8 = .ok (.lsub, 1) := by decide +kernel
theorem dX8_dropsGift_9 : decode cX8_dropsGift 9 = .ok (.lastore, 1) := by decide +kernel
theorem dX8_dropsGift_10 : decode cX8_dropsGift 10 = .ok (.sipush 309, 3) := by decide +kernel
theorem dX8_dropsGift_13 : decode cX8_dropsGift 13 = .ok (.iconst 4, 1) := by decide +kernel
theorem dX8_dropsGift_14 : decode cX8_dropsGift 14 = .ok (.iload_n 1, 1) := by decide +kernel
theorem dX8_dropsGift_15 : decode cX8_dropsGift 15 = .ok (.imul, 1) := by decide +kernel
theorem dX8_dropsGift_16 : decode cX8_dropsGift 16 = .ok (.iadd, 1) := by decide +kernel
theorem dX8_dropsGift_17 : decode cX8_dropsGift 17 = .ok (.istore_n 2, 1) := by decide +kernel
theorem dX8_dropsGift_18 : decode cX8_dropsGift 18 = .ok (.iload_n 2, 1) := by decide +kernel
theorem dX8_dropsGift_19 : decode cX8_dropsGift 19 = .ok (.i2l, 1) := by decide +kernel
theorem dX8_dropsGift_20 : decode cX8_dropsGift 20 = .ok (.ldc2_w 339, 3) := by decide +kernel
theorem dX8_dropsGift_23 : decode cX8_dropsGift 23 = .ok (.ldc2_w 341, 3) := by decide +kernel
theorem dX8_dropsGift_26 : decode cX8_dropsGift 26 = .ok (.aload_n 0, 1) := by decide +kernel
theorem dX8_dropsGift_27 : decode cX8_dropsGift 27 = .ok (.getfield 7, 3) := by decide +kernel
theorem dX8_dropsGift_30 : decode cX8_dropsGift 30 = .ok (.iconst 4, 1) := by decide +kernel
theorem dX8_dropsGift_31 : decode cX8_dropsGift 31 = .ok (.laload, 1) := by decide +kernel
theorem dX8_dropsGift_32 : decode cX8_dropsGift 32 = .ok (.lmul, 1) := by decide +kernel
theorem dX8_dropsGift_33 : decode cX8_dropsGift 33 = .ok (.ladd, 1) := by decide +kernel
theorem dX8_dropsGift_34 : decode cX8_dropsGift 34 = .ok (.lcmp, 1) := by decide +kernel
theorem dX8_dropsGift_35 : decode cX8_dropsGift 35 = .ok (.ifCond .ge 23, 3) := by decide +kernel
theorem dX8_dropsGift_38 : decode cX8_dropsGift 38 = .ok (.aload_n 0, 1) := by decide +kernel
theorem dX8_dropsGift_39 : decode cX8_dropsGift 39 = .ok (.getfield 7, 3) := by decide +kernel
theorem dX8_dropsGift_42 : decode cX8_dropsGift 42 = .ok (.iload_n 2, 1) := by decide +kernel
theorem dX8_dropsGift_43 : decode cX8_dropsGift 43 = .ok (.aload_n 0, 1) := by decide +kernel
theorem dX8_dropsGift_44 : decode cX8_dropsGift 44 = .ok (.getfield 7, 3) := by decide +kernel
theorem dX8_dropsGift_47 : decode cX8_dropsGift 47 = .ok (.iload_n 2, 1) := by decide +kernel
theorem dX8_dropsGift_48 : decode cX8_dropsGift 48 = .ok (.iconst 4, 1) := by decide +kernel
theorem dX8_dropsGift_49 : decode cX8_dropsGift 49 = .ok (.iadd, 1) := by decide +kernel
theorem dX8_dropsGift_50 : decode cX8_dropsGift 50 = .ok (.laload, 1) := by decide +kernel
theorem dX8_dropsGift_51 : decode cX8_dropsGift 51 = .ok (.lastore, 1) := by decide +kernel
theorem dX8_dropsGift_52 : decode cX8_dropsGift 52 = .ok (.iinc 2 1, 3) := by decide +kernel
theorem dX8_dropsGift_55 : decode cX8_dropsGift 55 = .ok (.goto (-37), 3) := by decide +kernel
theorem dX8_dropsGift_58 : decode cX8_dropsGift 58 = .ok (.return_, 1) := by decide +kernel
set_option maxRecDepth 20000 in
theorem ggX8_tick_X8_isIn : GoodIn wsX8_tick wsX8_isIn := goodIn_r _ [8] (by decide +kernel) (by decide +kernel)
set_option maxRecDepth 20000 in
theorem gX8_tick_X8_isIn : GoodIn wsX8_tick (va_wsS RX8 59 yX8_isIn wsX8_isIn) := goodIn_app (goodIn_of _ (by decide +kernel)) ggX8_tick_X8_isIn
set_option maxRecDepth 20000 in
theorem ggX8_tick_X8_keeps : GoodIn wsX8_tick wsX8_keeps := goodIn_r _ [12, 13, 14, 2, 40, 41, 42, 43, 44, 45, 46, 47, 48, 49, 50, 51, 52, 53, 54, 55, 56, 57] (by decide +kernel) (by decide +kernel)
set_option maxRecDepth 20000 in
theorem gX8_tick_X8_keeps : GoodIn wsX8_tick (wsV RX8 179 RX8 yX8_keeps wsX8_keeps) := goodIn_app (goodIn_of _ (by decide +kernel)) ggX8_tick_X8_keeps
set_option maxRecDepth 20000 in
theorem ggX8_tick_X8_dropsGift : GoodIn wsX8_tick wsX8_dropsGift := goodIn_r _ [18, 2, 19, 20, 40, 41, 42, 43, 44, 45, 46, 47, 48, 49, 50, 51, 52, 53, 54, 55, 56, 57] (by decide +kernel) (by decide +kernel)
set_option maxRecDepth 20000 in
theorem gX8_tick_X8_dropsGift : GoodIn wsX8_tick (wsV RX8 345 RX8 yX8_dropsGift wsX8_dropsGift) := goodIn_app (goodIn_of _ (by decide +kernel)) ggX8_tick_X8_dropsGift
set_option maxRecDepth 20000 in
theorem ggX8_tick_X8_setsClocks : GoodIn wsX8_tick wsX8_setsClocks := goodIn_r _ [24, 25, 2, 26, 27, 28, 7, 29, 30, 31, 32, 33, 34, 35, 36, 37, 38, 39, 40, 41, 42, 43, 44, 45, 46, 47, 48, 49, 50, 51, 52, 53, 54, 55, 56, 57] (by decide +kernel) (by decide +kernel)
set_option maxRecDepth 20000 in
theorem gX8_tick_X8_setsClocks : GoodIn wsX8_tick (wsV RX8 186 RX8 yX8_setsClocks wsX8_setsClocks) := goodIn_app (goodIn_of _ (by decide +kernel)) ggX8_tick_X8_setsClocks
theorem dX8_tick_0 : decode cX8_tick 0 = .ok (.aload_n 0, 1) := by decide +kernel
theorem dX8_tick_1 : decode cX8_tick 1 = .ok (.iload_n 1, 1) := by decide +kernel
theorem dX8_tick_2 : decode cX8_tick 2 = .ok (.i2l, 1) := by decide +kernel
theorem dX8_tick_3 : decode cX8_tick 3 = .ok (.lconst 1, 1) := by decide +kernel
theorem dX8_tick_4 : decode cX8_tick 4 = .ok (.ldc2_w 343, 3) := by decide +kernel
theorem dX8_tick_7 : decode cX8_tick 7 = .ok (.invokestatic 59, 3) := by decide +kernel
theorem dX8_tick_10 : decode cX8_tick 10 = .ok (.ifCond .ne 7, 3) := by decide +kernel
theorem dX8_tick_13 : decode cX8_tick 13 = .ok (.iconst 1, 1) := by decide +kernel
theorem dX8_tick_14 : decode cX8_tick 14 = .ok (.goto 24, 3) := by decide +kernel
theorem dX8_tick_17 : decode cX8_tick 17 = .ok (.aload_n 0, 1) := by decide +kernel
theorem dX8_tick_18 : decode cX8_tick 18 = .ok (.getfield 7, 3) := by decide +kernel
theorem dX8_tick_21 : decode cX8_tick 21 = .ok (.iconst 0, 1) := by decide +kernel
theorem dX8_tick_22 : decode cX8_tick 22 = .ok (.laload, 1) := by decide +kernel
theorem dX8_tick_23 : decode cX8_tick 23 = .ok (.iload_n 1, 1) := by decide +kernel
theorem dX8_tick_24 : decode cX8_tick 24 = .ok (.i2l, 1) := by decide +kernel
theorem dX8_tick_25 : decode cX8_tick 25 = .ok (.ladd, 1) := by decide +kernel
theorem dX8_tick_26 : decode cX8_tick 26 = .ok (.ldc2_w 315, 3) := by decide +kernel
theorem dX8_tick_29 : decode cX8_tick 29 = .ok (.lcmp, 1) := by decide +kernel
theorem dX8_tick_30 : decode cX8_tick 30 = .ok (.ifCond .le 7, 3) := by decide +kernel
theorem dX8_tick_33 : decode cX8_tick 33 = .ok (.iconst 2, 1) := by decide +kernel
theorem dX8_tick_34 : decode cX8_tick 34 = .ok (.goto 4, 3) := by decide +kernel
theorem dX8_tick_37 : decode cX8_tick 37 = .ok (.iconst 0, 1) := by decide +kernel
theorem dX8_tick_38 : decode cX8_tick 38 = .ok (.putfield 43, 3) := by decide +kernel
theorem dX8_tick_41 : decode cX8_tick 41 = .ok (.aload_n 0, 1) := by decide +kernel
theorem dX8_tick_42 : decode cX8_tick 42 = .ok (.getfield 43, 3) := by decide +kernel
theorem dX8_tick_45 : decode cX8_tick 45 = .ok (.ifCond .le 5, 3) := by decide +kernel
theorem dX8_tick_48 : decode cX8_tick 48 = .ok (.iconst 0, 1) := by decide +kernel
theorem dX8_tick_49 : decode cX8_tick 49 = .ok (.ireturn, 1) := by decide +kernel
theorem dX8_tick_50 : decode cX8_tick 50 = .ok (.aload_n 0, 1) := by decide +kernel
theorem dX8_tick_51 : decode cX8_tick 51 = .ok (.invokevirtual 179, 3) := by decide +kernel
theorem dX8_tick_54 : decode cX8_tick 54 = .ok (.aload_n 0, 1) := by decide +kernel
theorem dX8_tick_55 : decode cX8_tick 55 = .ok (.getfield 7, 3) := by decide +kernel
theorem dX8_tick_58 : decode cX8_tick 58 = .ok (.iconst 0, 1) := by decide +kernel
theorem dX8_tick_59 : decode cX8_tick 59 = .ok (.dup2, 1) := by decide +kernel
theorem dX8_tick_60 : decode cX8_tick 60 = .ok (.laload, 1) := by decide +kernel
theorem dX8_tick_61 : decode cX8_tick 61 = .ok (.iload_n 1, 1) := by decide +kernel
theorem dX8_tick_62 : decode cX8_tick 62 = .ok (.i2l, 1) := by decide +kernel
theorem dX8_tick_63 : decode cX8_tick 63 = .ok (.ladd, 1) := by decide +kernel
theorem dX8_tick_64 : decode cX8_tick 64 = .ok (.lastore, 1) := by decide +kernel
theorem dX8_tick_65 : decode cX8_tick 65 = .ok (.iconst 0, 1) := by decide +kernel
theorem dX8_tick_66 : decode cX8_tick 66 = .ok (.istore_n 2, 1) := by decide +kernel
theorem dX8_tick_67 : decode cX8_tick 67 = .ok (.aload_n 0, 1) := by decide +kernel
theorem dX8_tick_68 : decode cX8_tick 68 = .ok (.getfield 7, 3) := by decide +kernel
theorem dX8_tick_71 : decode cX8_tick 71 = .ok (.iconst 4, 1) := by decide +kernel
theorem dX8_tick_72 : decode cX8_tick 72 = .ok (.laload, 1) := by decide +kernel
theorem dX8_tick_73 : decode cX8_tick 73 = .ok (.l2i, 1) := by decide +kernel
theorem dX8_tick_74 : decode cX8_tick 74 = .ok (.iconst 1, 1) := by decide +kernel
theorem dX8_tick_75 : decode cX8_tick 75 = .ok (.isub, 1) := by decide +kernel
theorem dX8_tick_76 : decode cX8_tick 76 = .ok (.istore_n 3, 1) := by decide +kernel
theorem dX8_tick_77 : decode cX8_tick 77 = .ok (.iload_n 3, 1) := by decide +kernel
theorem dX8_tick_78 : decode cX8_tick 78 = .ok (.ifCond .lt 44, 3) := by decide +kernel
theorem dX8_tick_81 : decode cX8_tick 81 = .ok (.aload_n 0, 1) := by decide +kernel
theorem dX8_tick_82 : decode cX8_tick 82 = .ok (.getfield 7, 3) := by decide +kernel
theorem dX8_tick_85 : decode cX8_tick 85 = .ok (.sipush 309, 3) := by decide +kernel
theorem dX8_tick_88 : decode cX8_tick 88 = .ok (.iconst 4, 1) := by decide +kernel
theorem dX8_tick_89 : decode cX8_tick 89 = .ok (.iload_n 3, 1) := by decide +kernel
theorem dX8_tick_90 : decode cX8_tick 90 = .ok (.imul, 1) := by decide +kernel
theorem dX8_tick_91 : decode cX8_tick 91 = .ok (.iadd, 1) := by decide +kernel
theorem dX8_tick_92 : decode cX8_tick 92 = .ok (.iconst 3, 1) := by decide +kernel
theorem dX8_tick_93 : decode cX8_tick 93 = .ok (.iadd, 1) := by decide +kernel
theorem dX8_tick_94 : decode cX8_tick 94 = .ok (.laload, 1) := by decide +kernel
theorem dX8_tick_95 : decode cX8_tick 95 = .ok (.aload_n 0, 1) := by decide +kernel
theorem dX8_tick_96 : decode cX8_tick 96 = .ok (.getfield 7, 3) := by decide +kernel
theorem dX8_tick_99 : decode cX8_tick 99 = .ok (.iconst 0, 1) := by decide +kernel
theorem dX8_tick_100 : decode cX8_tick 100 = .ok (.laload, 1) := by decide +kernel
theorem dX8_tick_101 : decode cX8_tick 101 = .ok (.lcmp, 1) := by decide +kernel
theorem dX8_tick_102 : decode cX8_tick 102 = .ok (.ifCond .le 6, 3) := by decide +kernel
theorem dX8_tick_105 : decode cX8_tick 105 = .ok (.goto 11, 3) := by decide +kernel
theorem dX8_tick_108 : decode cX8_tick 108 = .ok (.aload_n 0, 1) := by decide +kernel
theorem dX8_tick_109 : decode cX8_tick 109 = .ok (.iload_n 3, 1) := by decide +kernel
theorem dX8_tick_110 : decode cX8_tick 110 = .ok (.invokevirtual 345, 3) := by decide +kernel
theorem dX8_tick_113 : decode cX8_tick 113 = .ok (.iinc 2 1, 3) := by decide +kernel
theorem dX8_tick_116 : decode cX8_tick 116 = .ok (.iinc 3 (-1), 3) := by decide +kernel
theorem dX8_tick_119 : decode cX8_tick 119 = .ok (.goto (-42), 3) := by decide +kernel
theorem dX8_tick_122 : decode cX8_tick 122 = .ok (.aload_n 0, 1) := by decide +kernel
theorem dX8_tick_123 : decode cX8_tick 123 = .ok (.invokevirtual 186, 3) := by decide +kernel
theorem dX8_tick_126 : decode cX8_tick 126 = .ok (.iload_n 2, 1) := by decide +kernel
theorem dX8_tick_127 : decode cX8_tick 127 = .ok (.ireturn, 1) := by decide +kernel
theorem dX8_sooner_0 : decode cX8_sooner 0 = .ok (.lload_n 3, 1) := by decide +kernel
theorem dX8_sooner_1 : decode cX8_sooner 1 = .ok (.aload_n 0, 1) := by decide +kernel
theorem dX8_sooner_2 : decode cX8_sooner 2 = .ok (.getfield 7, 3) := by decide +kernel
theorem dX8_sooner_5 : decode cX8_sooner 5 = .ok (.iconst 0, 1) := by decide +kernel
theorem dX8_sooner_6 : decode cX8_sooner 6 = .ok (.laload, 1) := by decide +kernel
theorem dX8_sooner_7 : decode cX8_sooner 7 = .ok (.lcmp, 1) := by decide +kernel
theorem dX8_sooner_8 : decode cX8_sooner 8 = .ok (.ifCond .le 21, 3) := by decide +kernel
theorem dX8_sooner_11 : decode cX8_sooner 11 = .ok (.lload_n 1, 1) := by decide +kernel
theorem dX8_sooner_12 : decode cX8_sooner 12 = .ok (.ldc2_w 37, 3) := by decide +kernel
theorem dX8_sooner_15 : decode cX8_sooner 15 = .ok (.lcmp, 1) := by decide +kernel
theorem dX8_sooner_16 : decode cX8_sooner 16 = .ok (.ifCond .eq 9, 3) := by decide +kernel
theorem dX8_sooner_19 : decode cX8_sooner 19 = .ok (.lload_n 3, 1) := by decide +kernel
theorem dX8_sooner_20 : decode cX8_sooner 20 = .ok (.lload_n 1, 1) := by decide +kernel
theorem dX8_sooner_21 : decode cX8_sooner 21 = .ok (.lcmp, 1) := by decide +kernel
theorem dX8_sooner_22 : decode cX8_sooner 22 = .ok (.ifCond .ge 7, 3) := by decide +kernel
theorem dX8_sooner_25 : decode cX8_sooner 25 = .ok (.lload_n 3, 1) := by decide +kernel
theorem dX8_sooner_26 : decode cX8_sooner 26 = .ok (.goto 4, 3) := by decide +kernel
theorem dX8_sooner_29 : decode cX8_sooner 29 = .ok (.lload_n 1, 1) := by decide +kernel
theorem dX8_sooner_30 : decode cX8_sooner 30 = .ok (.lreturn, 1) := by decide +kernel
set_option maxRecDepth 20000 in
theorem ggX8_nextEvent_X8_sooner : GoodIn wsX8_nextEvent wsX8_sooner := goodIn_r _ [8, 3, 2, 9, 10, 11, 12, 13, 14, 15, 16, 17, 18, 19, 20, 21, 22, 23, 24, 25, 26] (by decide +kernel) (by decide +kernel)
set_option maxRecDepth 20000 in
theorem gX8_nextEvent_X8_sooner : GoodIn wsX8_nextEvent (wsV RX8 348 RX8 yX8_sooner wsX8_sooner) := goodIn_app (goodIn_of _ (by decide +kernel)) ggX8_nextEvent_X8_sooner
theorem dX8_nextEvent_0 : decode cX8_nextEvent 0 = .ok (.aload_n 0, 1) := by decide +kernel
theorem dX8_nextEvent_1 : decode cX8_nextEvent 1 = .ok (.iconst 0, 1) := by decide +kernel
theorem dX8_nextEvent_2 : decode cX8_nextEvent 2 = .ok (.putfield 43, 3) := by decide +kernel
theorem dX8_nextEvent_5 : decode cX8_nextEvent 5 = .ok (.ldc2_w 37, 3) := by decide +kernel
theorem dX8_nextEvent_8 : decode cX8_nextEvent 8 = .ok (.lstore_n 1, 1) := by decide +kernel
theorem dX8_nextEvent_9 : decode cX8_nextEvent 9 = .ok (.iconst 0, 1) := by decide +kernel
theorem dX8_nextEvent_10 : decode cX8_nextEvent 10 = .ok (.istore_n 3, 1) := by decide +kernel
theorem dX8_nextEvent_11 : decode cX8_nextEvent 11 = .ok (.iload_n 3, 1) := by decide +kernel
theorem dX8_nextEvent_12 : decode cX8_nextEvent 12 = .ok (.i2l, 1) := by decide +kernel
theorem dX8_nextEvent_13 : decode cX8_nextEvent 13 = .ok (.aload_n 0, 1) := by decide +kernel
theorem dX8_nextEvent_14 : decode cX8_nextEvent 14 = .ok (.getfield 7, 3) := by decide +kernel
theorem dX8_nextEvent_17 : decode cX8_nextEvent 17 = .ok (.iconst 4, 1) := by decide +kernel
theorem dX8_nextEvent_18 : decode cX8_nextEvent 18 = .ok (.laload, 1) := by decide +kernel
theorem dX8_nextEvent_19 : decode cX8_nextEvent 19 = .ok (.lcmp, 1) := by decide +kernel
theorem dX8_nextEvent_20 : decode cX8_nextEvent 20 = .ok (.ifCond .ge 29, 3) := by decide +kernel
theorem dX8_nextEvent_23 : decode cX8_nextEvent 23 = .ok (.aload_n 0, 1) := by decide +kernel
theorem dX8_nextEvent_24 : decode cX8_nextEvent 24 = .ok (.lload_n 1, 1) := by decide +kernel
theorem dX8_nextEvent_25 : decode cX8_nextEvent 25 = .ok (.aload_n 0, 1) := by decide +kernel
theorem dX8_nextEvent_26 : decode cX8_nextEvent 26 = .ok (.getfield 7, 3) := by decide +kernel
theorem dX8_nextEvent_29 : decode cX8_nextEvent 29 = .ok (.sipush 309, 3) := by decide +kernel
theorem dX8_nextEvent_32 : decode cX8_nextEvent 32 = .ok (.iconst 4, 1) := by decide +kernel
theorem dX8_nextEvent_33 : decode cX8_nextEvent 33 = .ok (.iload_n 3, 1) := by decide +kernel
theorem dX8_nextEvent_34 : decode cX8_nextEvent 34 = .ok (.imul, 1) := by decide +kernel
theorem dX8_nextEvent_35 : decode cX8_nextEvent 35 = .ok (.iadd, 1) := by decide +kernel
theorem dX8_nextEvent_36 : decode cX8_nextEvent 36 = .ok (.iconst 3, 1) := by decide +kernel
theorem dX8_nextEvent_37 : decode cX8_nextEvent 37 = .ok (.iadd, 1) := by decide +kernel
theorem dX8_nextEvent_38 : decode cX8_nextEvent 38 = .ok (.laload, 1) := by decide +kernel
theorem dX8_nextEvent_39 : decode cX8_nextEvent 39 = .ok (.invokevirtual 348, 3) := by decide +kernel
theorem dX8_nextEvent_42 : decode cX8_nextEvent 42 = .ok (.lstore_n 1, 1) := by decide +kernel
theorem dX8_nextEvent_43 : decode cX8_nextEvent 43 = .ok (.iinc 3 1, 3) := by decide +kernel
theorem dX8_nextEvent_46 : decode cX8_nextEvent 46 = .ok (.goto (-35), 3) := by decide +kernel
theorem dX8_nextEvent_49 : decode cX8_nextEvent 49 = .ok (.iconst 0, 1) := by decide +kernel
theorem dX8_nextEvent_50 : decode cX8_nextEvent 50 = .ok (.istore_n 3, 1) := by decide +kernel
theorem dX8_nextEvent_51 : decode cX8_nextEvent 51 = .ok (.iload_n 3, 1) := by decide +kernel
theorem dX8_nextEvent_52 : decode cX8_nextEvent 52 = .ok (.bipush 16, 2) := by decide +kernel
theorem dX8_nextEvent_54 : decode cX8_nextEvent 54 = .ok (.if_icmp .ge 51, 3) := by decide +kernel
theorem dX8_nextEvent_57 : decode cX8_nextEvent 57 = .ok (.aload_n 0, 1) := by decide +kernel
theorem dX8_nextEvent_58 : decode cX8_nextEvent 58 = .ok (.getfield 7, 3) := by decide +kernel
theorem dX8_nextEvent_61 : decode cX8_nextEvent 61 = .ok (.bipush 53, 2) := by decide +kernel
theorem dX8_nextEvent_63 : decode cX8_nextEvent 63 = .ok (.iload_n 3, 1) := by decide +kernel
theorem dX8_nextEvent_64 : decode cX8_nextEvent 64 = .ok (.iadd, 1) := by decide +kernel
theorem dX8_nextEvent_65 : decode cX8_nextEvent 65 = .ok (.laload, 1) := by decide +kernel
theorem dX8_nextEvent_66 : decode cX8_nextEvent 66 = .ok (.ldc2_w 37, 3) := by decide +kernel
theorem dX8_nextEvent_69 : decode cX8_nextEvent 69 = .ok (.lcmp, 1) := by decide +kernel
theorem dX8_nextEvent_70 : decode cX8_nextEvent 70 = .ok (.ifCond .ne 7, 3) := by decide +kernel
theorem dX8_nextEvent_73 : decode cX8_nextEvent 73 = .ok (.lload_n 1, 1) := by decide +kernel
theorem dX8_nextEvent_74 : decode cX8_nextEvent 74 = .ok (.goto 24, 3) := by decide +kernel
theorem dX8_nextEvent_77 : decode cX8_nextEvent 77 = .ok (.aload_n 0, 1) := by decide +kernel
theorem dX8_nextEvent_78 : decode cX8_nextEvent 78 = .ok (.lload_n 1, 1) := by decide +kernel
theorem dX8_nextEvent_79 : decode cX8_nextEvent 79 = .ok (.aload_n 0, 1) := by decide +kernel
theorem dX8_nextEvent_80 : decode cX8_nextEvent 80 = .ok (.getfield 7, 3) := by decide +kernel
theorem dX8_nextEvent_83 : decode cX8_nextEvent 83 = .ok (.bipush 53, 2) := by decide +kernel
theorem dX8_nextEvent_85 : decode cX8_nextEvent 85 = .ok (.iload_n 3, 1) := by decide +kernel
theorem dX8_nextEvent_86 : decode cX8_nextEvent 86 = .ok (.iadd, 1) := by decide +kernel
theorem dX8_nextEvent_87 : decode cX8_nextEvent 87 = .ok (.laload, 1) := by decide +kernel
theorem dX8_nextEvent_88 : decode cX8_nextEvent 88 = .ok (.aload_n 0, 1) := by decide +kernel
theorem dX8_nextEvent_89 : decode cX8_nextEvent 89 = .ok (.getfield 7, 3) := by decide +kernel
theorem dX8_nextEvent_92 : decode cX8_nextEvent 92 = .ok (.iconst 1, 1) := by decide +kernel
theorem dX8_nextEvent_93 : decode cX8_nextEvent 93 = .ok (.laload, 1) := by decide +kernel
theorem dX8_nextEvent_94 : decode cX8_nextEvent 94 = .ok (.ladd, 1) := by decide +kernel
theorem dX8_nextEvent_95 : decode cX8_nextEvent 95 = .ok (.invokevirtual 348, 3) := by decide +kernel
theorem dX8_nextEvent_98 : decode cX8_nextEvent 98 = .ok (.lstore_n 1, 1) := by decide +kernel
theorem dX8_nextEvent_99 : decode cX8_nextEvent 99 = .ok (.iinc 3 1, 3) := by decide +kernel
theorem dX8_nextEvent_102 : decode cX8_nextEvent 102 = .ok (.goto (-51), 3) := by decide +kernel
theorem dX8_nextEvent_105 : decode cX8_nextEvent 105 = .ok (.lload_n 1, 1) := by decide +kernel
theorem dX8_nextEvent_106 : decode cX8_nextEvent 106 = .ok (.l2i, 1) := by decide +kernel
theorem dX8_nextEvent_107 : decode cX8_nextEvent 107 = .ok (.ireturn, 1) := by decide +kernel
set_option maxRecDepth 20000 in
theorem ggX8_share_X8_lacks : GoodIn wsX8_share wsX8_lacks := goodIn_r _ [6, 1, 7, 8, 5, 9, 10, 11, 12, 13, 14, 15, 16, 37, 38, 39, 40, 41, 42, 43, 44, 45, 46, 47, 48, 49, 50, 51, 52, 53, 54] (by decide +kernel) (by decide +kernel)
set_option maxRecDepth 20000 in
theorem gX8_share_X8_lacks : GoodIn wsX8_share (wsV RX8 326 RX8 yX8_lacks wsX8_lacks) := goodIn_app (goodIn_of _ (by decide +kernel)) ggX8_share_X8_lacks
set_option maxRecDepth 20000 in
theorem ggX8_share_X8_limitOf : GoodIn wsX8_share wsX8_limitOf := goodIn_r _ [20, 21, 22, 23, 24, 5, 25, 26, 27, 28, 29, 30, 31, 32, 37, 38, 39, 40, 41, 42, 43, 44, 45, 46, 47, 48, 49, 50, 51, 52, 53, 54] (by decide +kernel) (by decide +kernel)
set_option maxRecDepth 20000 in
theorem gX8_share_X8_limitOf : GoodIn wsX8_share (wsV RX8 266 RX8 yX8_limitOf wsX8_limitOf) := goodIn_app (goodIn_of _ (by decide +kernel)) ggX8_share_X8_limitOf
set_option maxRecDepth 20000 in
theorem ggX8_share_X8_usedOf : GoodIn wsX8_share wsX8_usedOf := goodIn_r _ [36, 21, 23, 24, 5, 25, 37, 38, 39, 40, 41, 42, 43, 44, 45, 46, 47, 48, 49, 50, 51, 52, 53, 54] (by decide +kernel) (by decide +kernel)
set_option maxRecDepth 20000 in
theorem gX8_share_X8_usedOf : GoodIn wsX8_share (wsV RX8 273 RX8 yX8_usedOf wsX8_usedOf) := goodIn_app (goodIn_of _ (by decide +kernel)) ggX8_share_X8_usedOf
theorem dX8_share_0 : decode cX8_share 0 = .ok (.aload_n 0, 1) := by decide +kernel
theorem dX8_share_1 : decode cX8_share 1 = .ok (.iload_n 1, 1) := by decide +kernel
theorem dX8_share_2 : decode cX8_share 2 = .ok (.iload_n 2, 1) := by decide +kernel
theorem dX8_share_3 : decode cX8_share 3 = .ok (.invokevirtual 326, 3) := by decide +kernel
theorem dX8_share_6 : decode cX8_share 6 = .ok (.ifCond .eq 5, 3) := by decide +kernel
theorem dX8_share_9 : decode cX8_share 9 = .ok (.fconst 0, 1) := by decide +kernel
theorem dX8_share_10 : decode cX8_share 10 = .ok (.freturn, 1) := by decide +kernel
theorem dX8_share_11 : decode cX8_share 11 = .ok (.aload_n 0, 1) := by decide +kernel
theorem dX8_share_12 : decode cX8_share 12 = .ok (.iload_n 1, 1) := by decide +kernel
theorem dX8_share_13 : decode cX8_share 13 = .ok (.iload_n 2, 1) := by decide +kernel
theorem dX8_share_14 : decode cX8_share 14 = .ok (.iconst 1, 1) := by decide +kernel
theorem dX8_share_15 : decode cX8_share 15 = .ok (.invokevirtual 266, 3) := by decide +kernel
theorem dX8_share_18 : decode cX8_share 18 = .ok (.lstore_n 3, 1) := by decide +kernel
theorem dX8_share_19 : decode cX8_share 19 = .ok (.aload_n 0, 1) := by decide +kernel
theorem dX8_share_20 : decode cX8_share 20 = .ok (.lload_n 3, 1) := by decide +kernel
theorem dX8_share_21 : decode cX8_share 21 = .ok (.lconst 0, 1) := by decide +kernel
theorem dX8_share_22 : decode cX8_share 22 = .ok (.lcmp, 1) := by decide +kernel
theorem dX8_share_23 : decode cX8_share 23 = .ok (.ifCond .gt 7, 3) := by decide +kernel
theorem dX8_share_26 : decode cX8_share 26 = .ok (.iconst 2, 1) := by decide +kernel
theorem dX8_share_27 : decode cX8_share 27 = .ok (.goto 4, 3) := by decide +kernel
theorem dX8_share_30 : decode cX8_share 30 = .ok (.iconst 0, 1) := by decide +kernel
theorem dX8_share_31 : decode cX8_share 31 = .ok (.putfield 43, 3) := by decide +kernel
theorem dX8_share_34 : decode cX8_share 34 = .ok (.aload_n 0, 1) := by decide +kernel
theorem dX8_share_35 : decode cX8_share 35 = .ok (.getfield 43, 3) := by decide +kernel
theorem dX8_share_38 : decode cX8_share 38 = .ok (.ifCond .le 7, 3) := by decide +kernel
theorem dX8_share_41 : decode cX8_share 41 = .ok (.fconst 0, 1) := by decide +kernel
theorem dX8_share_42 : decode cX8_share 42 = .ok (.goto 13, 3) := by decide +kernel
theorem dX8_share_45 : decode cX8_share 45 = .ok (.aload_n 0, 1) := by decide +kernel
theorem dX8_share_46 : decode cX8_share 46 = .ok (.iload_n 1, 1) := by decide +kernel
theorem dX8_share_47 : decode cX8_share 47 = .ok (.iload_n 2, 1) := by decide +kernel
theorem dX8_share_48 : decode cX8_share 48 = .ok (.invokevirtual 273, 3) := by decide +kernel
theorem dX8_share_51 : decode cX8_share 51 = .ok (.l2f, 1) := by decide +kernel
theorem dX8_share_52 : decode cX8_share 52 = .ok (.lload_n 3, 1) := by decide +kernel
theorem dX8_share_53 : decode cX8_share 53 = .ok (.l2f, 1) := by decide +kernel
theorem dX8_share_54 : decode cX8_share 54 = .ok (.fdiv, 1) := by decide +kernel
theorem dX8_share_55 : decode cX8_share 55 = .ok (.freturn, 1) := by decide +kernel
set_option maxRecDepth 20000 in
theorem ggX8_isRefused_X8_limitOf : GoodIn wsX8_isRefused wsX8_limitOf := goodIn_r _ [8, 2, 1, 9, 10, 7, 11, 12, 13, 14, 15, 16, 17, 18, 23, 24, 25, 26, 27, 28, 29, 30, 31, 32, 33, 34, 35, 36, 37, 38, 39, 40] (by decide +kernel) (by decide +kernel)
set_option maxRecDepth 20000 in
theorem gX8_isRefused_X8_limitOf : GoodIn wsX8_isRefused (wsV RX8 266 RX8 yX8_limitOf wsX8_limitOf) := goodIn_app (goodIn_of _ (by decide +kernel)) ggX8_isRefused_X8_limitOf
set_option maxRecDepth 20000 in
theorem ggX8_isRefused_X8_usedOf : GoodIn wsX8_isRefused wsX8_usedOf := goodIn_r _ [22, 2, 9, 10, 7, 11, 23, 24, 25, 26, 27, 28, 29, 30, 31, 32, 33, 34, 35, 36, 37, 38, 39, 40] (by decide +kernel) (by decide +kernel)
set_option maxRecDepth 20000 in
theorem gX8_isRefused_X8_usedOf : GoodIn wsX8_isRefused (wsV RX8 273 RX8 yX8_usedOf wsX8_usedOf) := goodIn_app (goodIn_of _ (by decide +kernel)) ggX8_isRefused_X8_usedOf
theorem dX8_isRefused_0 : decode cX8_isRefused 0 = .ok (.aload_n 0, 1) := by decide +kernel
theorem dX8_isRefused_1 : decode cX8_isRefused 1 = .ok (.iload_n 1, 1) := by decide +kernel
theorem dX8_isRefused_2 : decode cX8_isRefused 2 = .ok (.iconst 0, 1) := by decide +kernel
theorem dX8_isRefused_3 : decode cX8_isRefused 3 = .ok (.iconst 1, 1) := by decide +kernel
theorem dX8_isRefused_4 : decode cX8_isRefused 4 = .ok (.invokevirtual 266, 3) := by decide +kernel
theorem dX8_isRefused_7 : decode cX8_isRefused 7 = .ok (.ldc2_w 37, 3) := by decide +kernel
theorem dX8_isRefused_10 : decode cX8_isRefused 10 = .ok (.lcmp, 1) := by decide +kernel
theorem dX8_isRefused_11 : decode cX8_isRefused 11 = .ok (.ifCond .eq 30, 3) := by decide +kernel
theorem dX8_isRefused_14 : decode cX8_isRefused 14 = .ok (.aload_n 0, 1) := by decide +kernel
theorem dX8_isRefused_15 : decode cX8_isRefused 15 = .ok (.iload_n 2, 1) := by decide +kernel
theorem dX8_isRefused_16 : decode cX8_isRefused 16 = .ok (.iconst 0, 1) := by decide +kernel
theorem dX8_isRefused_17 : decode cX8_isRefused 17 = .ok (.iconst 1, 1) := by decide +kernel
theorem dX8_isRefused_18 : decode cX8_isRefused 18 = .ok (.invokevirtual 266, 3) := by decide +kernel
theorem dX8_isRefused_21 : decode cX8_isRefused 21 = .ok (.ldc2_w 37, 3) := by decide +kernel
theorem dX8_isRefused_24 : decode cX8_isRefused 24 = .ok (.lcmp, 1) := by decide +kernel
theorem dX8_isRefused_25 : decode cX8_isRefused 25 = .ok (.ifCond .eq 16, 3) := by decide +kernel
theorem dX8_isRefused_28 : decode cX8_isRefused 28 = .ok (.aload_n 0, 1) := by decide +kernel
theorem dX8_isRefused_29 : decode cX8_isRefused 29 = .ok (.getfield 7, 3) := by decide +kernel
theorem dX8_isRefused_32 : decode cX8_isRefused 32 = .ok (.iconst 4, 1) := by decide +kernel
theorem dX8_isRefused_33 : decode cX8_isRefused 33 = .ok (.laload, 1) := by decide +kernel
theorem dX8_isRefused_34 : decode cX8_isRefused 34 = .ok (.ldc2_w 351, 3) := by decide +kernel
theorem dX8_isRefused_37 : decode cX8_isRefused 37 = .ok (.lcmp, 1) := by decide +kernel
theorem dX8_isRefused_38 : decode cX8_isRefused 38 = .ok (.ifCond .ne 5, 3) := by decide +kernel
theorem dX8_isRefused_41 : decode cX8_isRefused 41 = .ok (.iconst 1, 1) := by decide +kernel
theorem dX8_isRefused_42 : decode cX8_isRefused 42 = .ok (.ireturn, 1) := by decide +kernel
theorem dX8_isRefused_43 : decode cX8_isRefused 43 = .ok (.iload_n 3, 1) := by decide +kernel
theorem dX8_isRefused_44 : decode cX8_isRefused 44 = .ok (.i2l, 1) := by decide +kernel
theorem dX8_isRefused_45 : decode cX8_isRefused 45 = .ok (.aload_n 0, 1) := by decide +kernel
theorem dX8_isRefused_46 : decode cX8_isRefused 46 = .ok (.iload_n 1, 1) := by decide +kernel
theorem dX8_isRefused_47 : decode cX8_isRefused 47 = .ok (.iconst 0, 1) := by decide +kernel
theorem dX8_isRefused_48 : decode cX8_isRefused 48 = .ok (.iconst 1, 1) := by decide +kernel
theorem dX8_isRefused_49 : decode cX8_isRefused 49 = .ok (.invokevirtual 266, 3) := by decide +kernel
theorem dX8_isRefused_52 : decode cX8_isRefused 52 = .ok (.aload_n 0, 1) := by decide +kernel
theorem dX8_isRefused_53 : decode cX8_isRefused 53 = .ok (.iload_n 1, 1) := by decide +kernel
theorem dX8_isRefused_54 : decode cX8_isRefused 54 = .ok (.iconst 0, 1) := by decide +kernel
theorem dX8_isRefused_55 : decode cX8_isRefused 55 = .ok (.invokevirtual 273, 3) := by decide +kernel
theorem dX8_isRefused_58 : decode cX8_isRefused 58 = .ok (.lsub, 1) := by decide +kernel
theorem dX8_isRefused_59 : decode cX8_isRefused 59 = .ok (.lcmp, 1) := by decide +kernel
theorem dX8_isRefused_60 : decode cX8_isRefused 60 = .ok (.ifCond .le 7, 3) := by decide +kernel
theorem dX8_isRefused_63 : decode cX8_isRefused 63 = .ok (.iconst 1, 1) := by decide +kernel
theorem dX8_isRefused_64 : decode cX8_isRefused 64 = .ok (.goto 4, 3) := by decide +kernel
theorem dX8_isRefused_67 : decode cX8_isRefused 67 = .ok (.iconst 0, 1) := by decide +kernel
theorem dX8_isRefused_68 : decode cX8_isRefused 68 = .ok (.ireturn, 1) := by decide +kernel
set_option maxRecDepth 20000 in
theorem ggX8_gift_X8_isProject : GoodIn wsX8_gift wsX8_isProject := goodIn_r _ [8, 9, 10, 11, 7, 12] (by decide +kernel) (by decide +kernel)
set_option maxRecDepth 20000 in
theorem gX8_gift_X8_isProject : GoodIn wsX8_gift (va_wsS RX8 320 yX8_isProject wsX8_isProject) := goodIn_app (goodIn_of _ (by decide +kernel)) ggX8_gift_X8_isProject
set_option maxRecDepth 20000 in
theorem ggX8_gift_X8_isIn : GoodIn wsX8_gift wsX8_isIn := goodIn_r _ [12] (by decide +kernel) (by decide +kernel)
set_option maxRecDepth 20000 in
theorem gX8_gift_X8_isIn : GoodIn wsX8_gift (va_wsS RX8 59 yX8_isIn wsX8_isIn) := goodIn_app (goodIn_of _ (by decide +kernel)) ggX8_gift_X8_isIn
set_option maxRecDepth 20000 in
theorem ggX8_gift_X8_isRefused : GoodIn wsX8_gift wsX8_isRefused := goodIn_r _ [16, 17, 4, 18, 19, 20, 21, 7, 22, 23, 24, 25, 26, 27, 28, 29, 30, 31, 32, 33, 34, 35, 36, 47, 48, 49, 50, 51, 52, 53, 54, 55, 56, 57, 58, 59, 60, 61, 62, 63, 64] (by decide +kernel) (by decide +kernel)
set_option maxRecDepth 20000 in
theorem gX8_gift_X8_isRefused : GoodIn wsX8_gift (wsV RX8 353 RX8 yX8_isRefused wsX8_isRefused) := goodIn_app (goodIn_of _ (by decide +kernel)) ggX8_gift_X8_isRefused
set_option maxRecDepth 20000 in
theorem ggX8_gift_X8_keeps : GoodIn wsX8_gift wsX8_keeps := goodIn_r _ [40, 41, 42, 4, 47, 48, 49, 50, 51, 52, 53, 54, 55, 56, 57, 58, 59, 60, 61, 62, 63, 64] (by decide +kernel) (by decide +kernel)
set_option maxRecDepth 20000 in
theorem gX8_gift_X8_keeps : GoodIn wsX8_gift (wsV RX8 179 RX8 yX8_keeps wsX8_keeps) := goodIn_app (goodIn_of _ (by decide +kernel)) ggX8_gift_X8_keeps
set_option maxRecDepth 20000 in
theorem ggX8_gift_X8_setsClocks : GoodIn wsX8_gift wsX8_setsClocks := goodIn_r _ [46, 17, 4, 19, 20, 21, 7, 22, 23, 24, 25, 26, 27, 28, 29, 30, 31, 32, 47, 48, 49, 50, 51, 52, 53, 54, 55, 56, 57, 58, 59, 60, 61, 62, 63, 64] (by decide +kernel) (by decide +kernel)
set_option maxRecDepth 20000 in
theorem gX8_gift_X8_setsClocks : GoodIn wsX8_gift (wsV RX8 186 RX8 yX8_setsClocks wsX8_setsClocks) := goodIn_app (goodIn_of _ (by decide +kernel)) ggX8_gift_X8_setsClocks
theorem dX8_gift_0 : decode cX8_gift 0 = .ok (.iload_n 1, 1) := by decide +kernel
theorem dX8_gift_1 : decode cX8_gift 1 = .ok (.invokestatic 320, 3) := by decide +kernel
theorem dX8_gift_4 : decode cX8_gift 4 = .ok (.ifCond .eq 44, 3) := by decide +kernel
theorem dX8_gift_7 : decode cX8_gift 7 = .ok (.iload_n 2, 1) := by decide +kernel
theorem dX8_gift_8 : decode cX8_gift 8 = .ok (.invokestatic 320, 3) := by decide +kernel
theorem dX8_gift_11 : decode cX8_gift 11 = .ok (.ifCond .eq 37, 3) := by decide +kernel
theorem dX8_gift_14 : decode cX8_gift 14 = .ok (.iload_n 1, 1) := by decide +kernel
theorem dX8_gift_15 : decode cX8_gift 15 = .ok (.iload_n 2, 1) := by decide +kernel
theorem dX8_gift_16 : decode cX8_gift 16 = .ok (.if_icmp .eq 32, 3) := by decide +kernel
theorem dX8_gift_19 : decode cX8_gift 19 = .ok (.iload_n 3, 1) := by decide +kernel
theorem dX8_gift_20 : decode cX8_gift 20 = .ok (.i2l, 1) := by decide +kernel
theorem dX8_gift_21 : decode cX8_gift 21 = .ok (.lconst 1, 1) := by decide +kernel
theorem dX8_gift_22 : decode cX8_gift 22 = .ok (.ldc2_w 315, 3) := by decide +kernel
theorem dX8_gift_25 : decode cX8_gift 25 = .ok (.invokestatic 59, 3) := by decide +kernel
theorem dX8_gift_28 : decode cX8_gift 28 = .ok (.ifCond .eq 20, 3) := by decide +kernel
theorem dX8_gift_31 : decode cX8_gift 31 = .ok (.iload 4, 2) := by decide +kernel
theorem dX8_gift_33 : decode cX8_gift 33 = .ok (.i2l, 1) := by decide +kernel
theorem dX8_gift_34 : decode cX8_gift 34 = .ok (.lconst 1, 1) := by decide +kernel
theorem dX8_gift_35 : decode cX8_gift 35 = .ok (.ldc2_w 343, 3) := by decide +kernel
theorem dX8_gift_38 : decode cX8_gift 38 = .ok (.invokestatic 59, 3) := by decide +kernel
theorem dX8_gift_41 : decode cX8_gift 41 = .ok (.ifCond .eq 7, 3) := by decide +kernel
theorem dX8_gift_44 : decode cX8_gift 44 = .ok (.iconst 1, 1) := by decide +kernel
theorem dX8_gift_45 : decode cX8_gift 45 = .ok (.goto 4, 3) := by decide +kernel
theorem dX8_gift_48 : decode cX8_gift 48 = .ok (.iconst 0, 1) := by decide +kernel
theorem dX8_gift_49 : decode cX8_gift 49 = .ok (.istore 5, 2) := by decide +kernel
theorem dX8_gift_51 : decode cX8_gift 51 = .ok (.aload_n 0, 1) := by decide +kernel
theorem dX8_gift_52 : decode cX8_gift 52 = .ok (.iload 5, 2) := by decide +kernel
theorem dX8_gift_54 : decode cX8_gift 54 = .ok (.ifCond .ne 7, 3) := by decide +kernel
theorem dX8_gift_57 : decode cX8_gift 57 = .ok (.iconst 1, 1) := by decide +kernel
theorem dX8_gift_58 : decode cX8_gift 58 = .ok (.goto 18, 3) := by decide +kernel
theorem dX8_gift_61 : decode cX8_gift 61 = .ok (.aload_n 0, 1) := by decide +kernel
theorem dX8_gift_62 : decode cX8_gift 62 = .ok (.iload_n 1, 1) := by decide +kernel
theorem dX8_gift_63 : decode cX8_gift 63 = .ok (.iload_n 2, 1) := by decide +kernel
theorem dX8_gift_64 : decode cX8_gift 64 = .ok (.iload_n 3, 1) := by decide +kernel
theorem dX8_gift_65 : decode cX8_gift 65 = .ok (.invokevirtual 353, 3) := by decide +kernel
theorem dX8_gift_68 : decode cX8_gift 68 = .ok (.ifCond .eq 7, 3) := by decide +kernel
theorem dX8_gift_71 : decode cX8_gift 71 = .ok (.iconst 2, 1) := by decide +kernel
theorem dX8_gift_72 : decode cX8_gift 72 = .ok (.goto 4, 3) := by decide +kernel
theorem dX8_gift_75 : decode cX8_gift 75 = .ok (.iconst 0, 1) := by decide +kernel
theorem dX8_gift_76 : decode cX8_gift 76 = .ok (.putfield 43, 3) := by decide +kernel
theorem dX8_gift_79 : decode cX8_gift 79 = .ok (.aload_n 0, 1) := by decide +kernel
theorem dX8_gift_80 : decode cX8_gift 80 = .ok (.getfield 43, 3) := by decide +kernel
theorem dX8_gift_83 : decode cX8_gift 83 = .ok (.ifCond .le 5, 3) := by decide +kernel
theorem dX8_gift_86 : decode cX8_gift 86 = .ok (.iconst 0, 1) := by decide +kernel
theorem dX8_gift_87 : decode cX8_gift 87 = .ok (.ireturn, 1) := by decide +kernel
theorem dX8_gift_88 : decode cX8_gift 88 = .ok (.aload_n 0, 1) := by decide +kernel
theorem dX8_gift_89 : decode cX8_gift 89 = .ok (.invokevirtual 179, 3) := by decide +kernel
theorem dX8_gift_92 : decode cX8_gift 92 = .ok (.sipush 309, 3) := by decide +kernel
theorem dX8_gift_95 : decode cX8_gift 95 = .ok (.iconst 4, 1) := by decide +kernel
theorem dX8_gift_96 : decode cX8_gift 96 = .ok (.aload_n 0, 1) := by decide +kernel
theorem dX8_gift_97 : decode cX8_gift 97 = .ok (.getfield 7, 3) := by decide +kernel
theorem dX8_gift_100 : decode cX8_gift 100 = .ok (.iconst 4, 1) := by decide +kernel
theorem dX8_gift_101 : decode cX8_gift 101 = .ok (.laload, 1) := by decide +kernel
theorem dX8_gift_102 : decode cX8_gift 102 = .ok (.l2i, 1) := by decide +kernel
theorem dX8_gift_103 : decode cX8_gift 103 = .ok (.imul, 1) := by decide +kernel
theorem dX8_gift_104 : decode cX8_gift 104 = .ok (.iadd, 1) := by decide +kernel
theorem dX8_gift_105 : decode cX8_gift 105 = .ok (.istore 6, 2) := by decide +kernel
theorem dX8_gift_107 : decode cX8_gift 107 = .ok (.aload_n 0, 1) := by decide +kernel
theorem dX8_gift_108 : decode cX8_gift 108 = .ok (.getfield 7, 3) := by decide +kernel
theorem dX8_gift_111 : decode cX8_gift 111 = .ok (.iload 6, 2) := by decide +kernel
theorem dX8_gift_113 : decode cX8_gift 113 = .ok (.iconst 0, 1) := by decide +kernel
theorem dX8_gift_114 : decode cX8_gift 114 = .ok (.iadd, 1) := by decide +kernel
theorem dX8_gift_115 : decode cX8_gift 115 = .ok (.iload_n 1, 1) := by decide +kernel
theorem dX8_gift_116 : decode cX8_gift 116 = .ok (.i2l, 1) := by decide +kernel
theorem dX8_gift_117 : decode cX8_gift 117 = .ok (.lastore, 1) := by decide +kernel
theorem dX8_gift_118 : decode cX8_gift 118 = .ok (.aload_n 0, 1) := by decide +kernel
theorem dX8_gift_119 : decode cX8_gift 119 = .ok (.getfield 7, 3) := by decide +kernel
theorem dX8_gift_122 : decode cX8_gift 122 = .ok (.iload 6, 2) := by decide +kernel
theorem dX8_gift_124 : decode cX8_gift 124 = .ok (.iconst 1, 1) := by decide +kernel
theorem dX8_gift_125 : decode cX8_gift 125 = .ok (.iadd, 1) := by decide +kernel
theorem dX8_gift_126 : decode cX8_gift 126 = .ok (.iload_n 2, 1) := by decide +kernel
theorem dX8_gift_127 : decode cX8_gift 127 = .ok (.i2l, 1) := by decide +kernel
theorem dX8_gift_128 : decode cX8_gift 128 = .ok (.lastore, 1) := by decide +kernel
theorem dX8_gift_129 : decode cX8_gift 129 = .ok (.aload_n 0, 1) := by decide +kernel
theorem dX8_gift_130 : decode cX8_gift 130 = .ok (.getfield 7, 3) := by decide +kernel
theorem dX8_gift_133 : decode cX8_gift 133 = .ok (.iload 6, 2) := by decide +kernel
theorem dX8_gift_135 : decode cX8_gift 135 = .ok (.iconst 2, 1) := by decide +kernel
theorem dX8_gift_136 : decode cX8_gift 136 = .ok (.iadd, 1) := by decide +kernel
theorem dX8_gift_137 : decode cX8_gift 137 = .ok (.iload_n 3, 1) := by decide +kernel
theorem dX8_gift_138 : decode cX8_gift 138 = .ok (.i2l, 1) := by decide +kernel
theorem dX8_gift_139 : decode cX8_gift 139 = .ok (.lastore, 1) := by decide +kernel
theorem dX8_gift_140 : decode cX8_gift 140 = .ok (.aload_n 0, 1) := by decide +kernel
theorem dX8_gift_141 : decode cX8_gift 141 = .ok (.getfield 7, 3) := by decide +kernel
theorem dX8_gift_144 : decode cX8_gift 144 = .ok (.iload 6, 2) := by decide +kernel
theorem dX8_gift_146 : decode cX8_gift 146 = .ok (.iconst 3, 1) := by decide +kernel
theorem dX8_gift_147 : decode cX8_gift 147 = .ok (.iadd, 1) := by decide +kernel
theorem dX8_gift_148 : decode cX8_gift 148 = .ok (.aload_n 0, 1) := by decide +kernel
theorem dX8_gift_149 : decode cX8_gift 149 = .ok (.getfield 7, 3) := by decide +kernel
theorem dX8_gift_152 : decode cX8_gift 152 = .ok (.iconst 0, 1) := by decide +kernel
theorem dX8_gift_153 : decode cX8_gift 153 = .ok (.laload, 1) := by decide +kernel
theorem dX8_gift_154 : decode cX8_gift 154 = .ok (.iload 4, 2) := by decide +kernel
theorem dX8_gift_156 : decode cX8_gift 156 = .ok (.i2l, 1) := by decide +kernel
theorem dX8_gift_157 : decode cX8_gift 157 = .ok (.ladd, 1) := by decide +kernel
theorem dX8_gift_158 : decode cX8_gift 158 = .ok (.lastore, 1) := by decide +kernel
theorem dX8_gift_159 : decode cX8_gift 159 = .ok (.aload_n 0, 1) := by decide +kernel
theorem dX8_gift_160 : decode cX8_gift 160 = .ok (.getfield 7, 3) := by decide +kernel
theorem dX8_gift_163 : decode cX8_gift 163 = .ok (.iconst 4, 1) := by decide +kernel
theorem dX8_gift_164 : decode cX8_gift 164 = .ok (.dup2, 1) := by decide +kernel
theorem dX8_gift_165 : decode cX8_gift 165 = .ok (.laload, 1) := by decide +kernel
theorem dX8_gift_166 : decode cX8_gift 166 = .ok (.lconst 1, 1) := by decide +kernel
theorem dX8_gift_167 : decode cX8_gift 167 = .ok (.ladd, 1) := by decide +kernel
theorem dX8_gift_168 : decode cX8_gift 168 = .ok (.lastore, 1) := by decide +kernel
theorem dX8_gift_169 : decode cX8_gift 169 = .ok (.aload_n 0, 1) := by decide +kernel
theorem dX8_gift_170 : decode cX8_gift 170 = .ok (.invokevirtual 186, 3) := by decide +kernel
theorem dX8_gift_173 : decode cX8_gift 173 = .ok (.aload_n 0, 1) := by decide +kernel
theorem dX8_gift_174 : decode cX8_gift 174 = .ok (.getfield 7, 3) := by decide +kernel
theorem dX8_gift_177 : decode cX8_gift 177 = .ok (.iconst 4, 1) := by decide +kernel
theorem dX8_gift_178 : decode cX8_gift 178 = .ok (.laload, 1) := by decide +kernel
theorem dX8_gift_179 : decode cX8_gift 179 = .ok (.l2i, 1) := by decide +kernel
theorem dX8_gift_180 : decode cX8_gift 180 = .ok (.iconst 1, 1) := by decide +kernel
theorem dX8_gift_181 : decode cX8_gift 181 = .ok (.isub, 1) := by decide +kernel
theorem dX8_gift_182 : decode cX8_gift 182 = .ok (.ireturn, 1) := by decide +kernel
set_option maxRecDepth 20000 in
theorem ggX8_isGift_X8_isIn : GoodIn wsX8_isGift wsX8_isIn := goodIn_r _ [5] (by decide +kernel) (by decide +kernel)
set_option maxRecDepth 20000 in
theorem gX8_isGift_X8_isIn : GoodIn wsX8_isGift (va_wsS RX8 59 yX8_isIn wsX8_isIn) := goodIn_app (goodIn_of _ (by decide +kernel)) ggX8_isGift_X8_isIn
theorem dX8_isGift_0 : decode cX8_isGift 0 = .ok (.iload_n 1, 1) := by decide +kernel
theorem dX8_isGift_1 : decode cX8_isGift 1 = .ok (.i2l, 1) := by decide +kernel
theorem dX8_isGift_2 : decode cX8_isGift 2 = .ok (.lconst 0, 1) := by decide +kernel
theorem dX8_isGift_3 : decode cX8_isGift 3 = .ok (.aload_n 0, 1) := by decide +kernel
theorem dX8_isGift_4 : decode cX8_isGift 4 = .ok (.getfield 7, 3) := by decide +kernel
theorem dX8_isGift_7 : decode cX8_isGift 7 = .ok (.iconst 4, 1) := by decide +kernel
theorem dX8_isGift_8 : decode cX8_isGift 8 = .ok (.laload, 1) := by decide +kernel
theorem dX8_isGift_9 : decode cX8_isGift 9 = .ok (.lconst 1, 1) := by decide +kernel
theorem dX8_isGift_10 : decode cX8_isGift 10 = .ok (.lsub, 1) := by decide +kernel
theorem dX8_isGift_11 : decode cX8_isGift 11 = .ok (.invokestatic 59, 3) := by decide +kernel
theorem dX8_isGift_14 : decode cX8_isGift 14 = .ok (.ireturn, 1) := by decide +kernel
set_option maxRecDepth 20000 in
theorem ggX8_giftOf_X8_isGift : GoodIn wsX8_giftOf wsX8_isGift := goodIn_r _ [8, 3, 9, 10, 7, 11, 12, 13, 14, 15, 16, 17, 18, 19, 20, 21, 22, 23, 24, 25, 26, 27, 28, 29] (by decide +kernel) (by decide +kernel)
set_option maxRecDepth 20000 in
theorem gX8_giftOf_X8_isGift : GoodIn wsX8_giftOf (wsV RX8 357 RX8 yX8_isGift wsX8_isGift) := goodIn_app (goodIn_of _ (by decide +kernel)) ggX8_giftOf_X8_isGift
set_option maxRecDepth 20000 in
theorem ggX8_giftOf_X8_isIn : GoodIn wsX8_giftOf wsX8_isIn := goodIn_r _ [11] (by decide +kernel) (by decide +kernel)
set_option maxRecDepth 20000 in
theorem gX8_giftOf_X8_isIn : GoodIn wsX8_giftOf (va_wsS RX8 59 yX8_isIn wsX8_isIn) := goodIn_app (goodIn_of _ (by decide +kernel)) ggX8_giftOf_X8_isIn
theorem dX8_giftOf_0 : decode cX8_giftOf 0 = .ok (.aload_n 0, 1) := by decide +kernel
theorem dX8_giftOf_1 : decode cX8_giftOf 1 = .ok (.aload_n 0, 1) := by decide +kernel
theorem dX8_giftOf_2 : decode cX8_giftOf 2 = .ok (.iload_n 1, 1) := by decide +kernel
theorem dX8_giftOf_3 : decode cX8_giftOf 3 = .ok (.invokevirtual 357, 3) := by decide +kernel
theorem dX8_giftOf_6 : decode cX8_giftOf 6 = .ok (.ifCond .ne 7, 3) := by decide +kernel
theorem dX8_giftOf_9 : decode cX8_giftOf 9 = .ok (.iconst 1, 1) := by decide +kernel
theorem dX8_giftOf_10 : decode cX8_giftOf 10 = .ok (.goto 20, 3) := by decide +kernel
theorem dX8_giftOf_13 : decode cX8_giftOf 13 = .ok (.iload_n 2, 1) := by decide +kernel
theorem dX8_giftOf_14 : decode cX8_giftOf 14 = .ok (.i2l, 1) := by decide +kernel
theorem dX8_giftOf_15 : decode cX8_giftOf 15 = .ok (.lconst 0, 1) := by decide +kernel
theorem dX8_giftOf_16 : decode cX8_giftOf 16 = .ok (.ldc2_w 360, 3) := by decide +kernel
theorem dX8_giftOf_19 : decode cX8_giftOf 19 = .ok (.invokestatic 59, 3) := by decide +kernel
theorem dX8_giftOf_22 : decode cX8_giftOf 22 = .ok (.ifCond .eq 7, 3) := by decide +kernel
theorem dX8_giftOf_25 : decode cX8_giftOf 25 = .ok (.iconst 0, 1) := by decide +kernel
theorem dX8_giftOf_26 : decode cX8_giftOf 26 = .ok (.goto 4, 3) := by decide +kernel
theorem dX8_giftOf_29 : decode cX8_giftOf 29 = .ok (.iconst 2, 1) := by decide +kernel
theorem dX8_giftOf_30 : decode cX8_giftOf 30 = .ok (.putfield 43, 3) := by decide +kernel
theorem dX8_giftOf_33 : decode cX8_giftOf 33 = .ok (.aload_n 0, 1) := by decide +kernel
theorem dX8_giftOf_34 : decode cX8_giftOf 34 = .ok (.getfield 43, 3) := by decide +kernel
theorem dX8_giftOf_37 : decode cX8_giftOf 37 = .ok (.ifCond .le 7, 3) := by decide +kernel
theorem dX8_giftOf_40 : decode cX8_giftOf 40 = .ok (.iconst 0, 1) := by decide +kernel
theorem dX8_giftOf_41 : decode cX8_giftOf 41 = .ok (.goto 18, 3) := by decide +kernel
theorem dX8_giftOf_44 : decode cX8_giftOf 44 = .ok (.aload_n 0, 1) := by decide +kernel
theorem dX8_giftOf_45 : decode cX8_giftOf 45 = .ok (.getfield 7, 3) := by decide +kernel
theorem dX8_giftOf_48 : decode cX8_giftOf 48 = .ok (.sipush 309, 3) := by decide +kernel
theorem dX8_giftOf_51 : decode cX8_giftOf 51 = .ok (.iconst 4, 1) := by decide +kernel
theorem dX8_giftOf_52 : decode cX8_giftOf 52 = .ok (.iload_n 1, 1) := by decide +kernel
theorem dX8_giftOf_53 : decode cX8_giftOf 53 = .ok (.imul, 1) := by decide +kernel
theorem dX8_giftOf_54 : decode cX8_giftOf 54 = .ok (.iadd, 1) := by decide +kernel
theorem dX8_giftOf_55 : decode cX8_giftOf 55 = .ok (.iload_n 2, 1) := by decide +kernel
theorem dX8_giftOf_56 : decode cX8_giftOf 56 = .ok (.iadd, 1) := by decide +kernel
theorem dX8_giftOf_57 : decode cX8_giftOf 57 = .ok (.laload, 1) := by decide +kernel
theorem dX8_giftOf_58 : decode cX8_giftOf 58 = .ok (.l2i, 1) := by decide +kernel
theorem dX8_giftOf_59 : decode cX8_giftOf 59 = .ok (.ireturn, 1) := by decide +kernel
set_option maxRecDepth 20000 in
theorem ggX8_endGift_X8_isGift : GoodIn wsX8_endGift wsX8_isGift := goodIn_r _ [7, 2, 8, 9, 6, 10, 42, 43, 44, 45, 46, 47, 48, 49, 50, 51, 52, 53, 54, 55, 56, 57, 58, 59] (by decide +kernel) (by decide +kernel)
set_option maxRecDepth 20000 in
theorem gX8_endGift_X8_isGift : GoodIn wsX8_endGift (wsV RX8 357 RX8 yX8_isGift wsX8_isGift) := goodIn_app (goodIn_of _ (by decide +kernel)) ggX8_endGift_X8_isGift
set_option maxRecDepth 20000 in
theorem ggX8_endGift_X8_keeps : GoodIn wsX8_endGift wsX8_keeps := goodIn_r _ [14, 15, 16, 2, 42, 43, 44, 45, 46, 47, 48, 49, 50, 51, 52, 53, 54, 55, 56, 57, 58, 59] (by decide +kernel) (by decide +kernel)
set_option maxRecDepth 20000 in
theorem gX8_endGift_X8_keeps : GoodIn wsX8_endGift (wsV RX8 179 RX8 yX8_keeps wsX8_keeps) := goodIn_app (goodIn_of _ (by decide +kernel)) ggX8_endGift_X8_keeps
set_option maxRecDepth 20000 in
theorem ggX8_endGift_X8_dropsGift : GoodIn wsX8_endGift wsX8_dropsGift := goodIn_r _ [20, 2, 21, 22, 42, 43, 44, 45, 46, 47, 48, 49, 50, 51, 52, 53, 54, 55, 56, 57, 58, 59] (by decide +kernel) (by decide +kernel)
set_option maxRecDepth 20000 in
theorem gX8_endGift_X8_dropsGift : GoodIn wsX8_endGift (wsV RX8 345 RX8 yX8_dropsGift wsX8_dropsGift) := goodIn_app (goodIn_of _ (by decide +kernel)) ggX8_endGift_X8_dropsGift
set_option maxRecDepth 20000 in
theorem ggX8_endGift_X8_setsClocks : GoodIn wsX8_endGift wsX8_setsClocks := goodIn_r _ [26, 27, 2, 28, 29, 30, 6, 31, 32, 33, 34, 35, 36, 37, 38, 39, 40, 41, 42, 43, 44, 45, 46, 47, 48, 49, 50, 51, 52, 53, 54, 55, 56, 57, 58, 59] (by decide +kernel) (by decide +kernel)
set_option maxRecDepth 20000 in
theorem gX8_endGift_X8_setsClocks : GoodIn wsX8_endGift (wsV RX8 186 RX8 yX8_setsClocks wsX8_setsClocks) := goodIn_app (goodIn_of _ (by decide +kernel)) ggX8_endGift_X8_setsClocks
theorem dX8_endGift_0 : decode cX8_endGift 0 = .ok (.aload_n 0, 1) := by decide +kernel
theorem dX8_endGift_1 : decode cX8_endGift 1 = .ok (.aload_n 0, 1) := by decide +kernel
theorem dX8_endGift_2 : decode cX8_endGift 2 = .ok (.iload_n 1, 1) := by decide +kernel
theorem dX8_endGift_3 : decode cX8_endGift 3 = .ok (.invokevirtual 357, 3) := by decide +kernel
theorem dX8_endGift_6 : decode cX8_endGift 6 = .ok (.ifCond .eq 7, 3) := by decide +kernel
theorem dX8_endGift_9 : decode cX8_endGift 9 = .ok (.iconst 0, 1) := by decide +kernel
theorem dX8_endGift_10 : decode cX8_endGift 10 = .ok (.goto 4, 3) := by decide +kernel
theorem dX8_endGift_13 : decode cX8_endGift 13 = .ok (.iconst 1, 1) := by decide +kernel
theorem dX8_endGift_14 : decode cX8_endGift 14 = .ok (.putfield 43, 3) := by decide +kernel
theorem dX8_endGift_17 : decode cX8_endGift 17 = .ok (.aload_n 0, 1) := by decide +kernel
theorem dX8_endGift_18 : decode cX8_endGift 18 = .ok (.getfield 43, 3) := by decide +kernel
theorem dX8_endGift_21 : decode cX8_endGift 21 = .ok (.ifCond .le 5, 3) := by decide +kernel
theorem dX8_endGift_24 : decode cX8_endGift 24 = .ok (.iconst 0, 1) := by decide +kernel
theorem dX8_endGift_25 : decode cX8_endGift 25 = .ok (.ireturn, 1) := by decide +kernel
theorem dX8_endGift_26 : decode cX8_endGift 26 = .ok (.aload_n 0, 1) := by decide +kernel
theorem dX8_endGift_27 : decode cX8_endGift 27 = .ok (.invokevirtual 179, 3) := by decide +kernel
theorem dX8_endGift_30 : decode cX8_endGift 30 = .ok (.aload_n 0, 1) := by decide +kernel
theorem dX8_endGift_31 : decode cX8_endGift 31 = .ok (.iload_n 1, 1) := by decide +kernel
theorem dX8_endGift_32 : decode cX8_endGift 32 = .ok (.invokevirtual 345, 3) := by decide +kernel
theorem dX8_endGift_35 : decode cX8_endGift 35 = .ok (.aload_n 0, 1) := by decide +kernel
theorem dX8_endGift_36 : decode cX8_endGift 36 = .ok (.invokevirtual 186, 3) := by decide +kernel
theorem dX8_endGift_39 : decode cX8_endGift 39 = .ok (.aload_n 0, 1) := by decide +kernel
theorem dX8_endGift_40 : decode cX8_endGift 40 = .ok (.getfield 7, 3) := by decide +kernel
theorem dX8_endGift_43 : decode cX8_endGift 43 = .ok (.iconst 4, 1) := by decide +kernel
theorem dX8_endGift_44 : decode cX8_endGift 44 = .ok (.laload, 1) := by decide +kernel
theorem dX8_endGift_45 : decode cX8_endGift 45 = .ok (.l2i, 1) := by decide +kernel
theorem dX8_endGift_46 : decode cX8_endGift 46 = .ok (.ireturn, 1) := by decide +kernel
set_option maxRecDepth 20000 in
theorem ggX8_adjust_X8_lacks : GoodIn wsX8_adjust wsX8_lacks := goodIn_r _ [10, 4, 11, 12, 9, 13, 14, 15, 16, 17, 18, 19, 20, 50, 51, 52, 53, 54, 55, 56, 57, 58, 59, 60, 61, 62, 63, 64, 65, 66, 67] (by decide +kernel) (by decide +kernel)
set_option maxRecDepth 20000 in
theorem gX8_adjust_X8_lacks : GoodIn wsX8_adjust (wsV RX8 326 RX8 yX8_lacks wsX8_lacks) := goodIn_app (goodIn_of _ (by decide +kernel)) ggX8_adjust_X8_lacks
set_option maxRecDepth 20000 in
theorem ggX8_adjust_X8_usedOf : GoodIn wsX8_adjust wsX8_usedOf := goodIn_r _ [24, 5, 25, 26, 9, 27, 50, 51, 52, 53, 54, 55, 56, 57, 58, 59, 60, 61, 62, 63, 64, 65, 66, 67] (by decide +kernel) (by decide +kernel)
set_option maxRecDepth 20000 in
theorem gX8_adjust_X8_usedOf : GoodIn wsX8_adjust (wsV RX8 273 RX8 yX8_usedOf wsX8_usedOf) := goodIn_app (goodIn_of _ (by decide +kernel)) ggX8_adjust_X8_usedOf
set_option maxRecDepth 20000 in
theorem ggX8_adjust_X8_isIn : GoodIn wsX8_adjust wsX8_isIn := goodIn_r _ [17] (by decide +kernel) (by decide +kernel)
set_option maxRecDepth 20000 in
theorem gX8_adjust_X8_isIn : GoodIn wsX8_adjust (va_wsS RX8 59 yX8_isIn wsX8_isIn) := goodIn_app (goodIn_of _ (by decide +kernel)) ggX8_adjust_X8_isIn
set_option maxRecDepth 20000 in
theorem ggX8_adjust_X8_keeps : GoodIn wsX8_adjust wsX8_keeps := goodIn_r _ [31, 32, 33, 5, 50, 51, 52, 53, 54, 55, 56, 57, 58, 59, 60, 61, 62, 63, 64, 65, 66, 67] (by decide +kernel) (by decide +kernel)
set_option maxRecDepth 20000 in
theorem gX8_adjust_X8_keeps : GoodIn wsX8_adjust (wsV RX8 179 RX8 yX8_keeps wsX8_keeps) := goodIn_app (goodIn_of _ (by decide +kernel)) ggX8_adjust_X8_keeps
set_option maxRecDepth 20000 in
theorem ggX8_adjust_X8_place : GoodIn wsX8_adjust wsX8_place := goodIn_r _ [27] (by decide +kernel) (by decide +kernel)
set_option maxRecDepth 20000 in
theorem gX8_adjust_X8_place : GoodIn wsX8_adjust (va_wsS RX8 255 yX8_place wsX8_place) := goodIn_app (goodIn_of _ (by decide +kernel)) ggX8_adjust_X8_place
set_option maxRecDepth 20000 in
theorem ggX8_adjust_X8_setsClocks : GoodIn wsX8_adjust wsX8_setsClocks := goodIn_r _ [37, 38, 5, 39, 40, 41, 9, 42, 25, 26, 27, 43, 44, 45, 46, 47, 48, 49, 50, 51, 52, 53, 54, 55, 56, 57, 58, 59, 60, 61, 62, 63, 64, 65, 66, 67] (by decide +kernel) (by decide +kernel)
set_option maxRecDepth 20000 in
theorem gX8_adjust_X8_setsClocks : GoodIn wsX8_adjust (wsV RX8 186 RX8 yX8_setsClocks wsX8_setsClocks) := goodIn_app (goodIn_of _ (by decide +kernel)) ggX8_adjust_X8_setsClocks
theorem dX8_adjust_0 : decode cX8_adjust 0 = .ok (.aload_n 0, 1) := by decide +kernel
theorem dX8_adjust_1 : decode cX8_adjust 1 = .ok (.iload_n 1, 1) := by decide +kernel
theorem dX8_adjust_2 : decode cX8_adjust 2 = .ok (.iload_n 2, 1) := by decide +kernel
theorem dX8_adjust_3 : decode cX8_adjust 3 = .ok (.invokevirtual 326, 3) := by decide +kernel
theorem dX8_adjust_6 : decode cX8_adjust 6 = .ok (.ifCond .eq 5, 3) := by decide +kernel
theorem dX8_adjust_9 : decode cX8_adjust 9 = .ok (.iconst 0, 1) := by decide +kernel
theorem dX8_adjust_10 : decode cX8_adjust 10 = .ok (.ireturn, 1) := by decide +kernel
theorem dX8_adjust_11 : decode cX8_adjust 11 = .ok (.aload_n 0, 1) := by decide +kernel
theorem dX8_adjust_12 : decode cX8_adjust 12 = .ok (.iload_n 1, 1) := by decide +kernel
theorem dX8_adjust_13 : decode cX8_adjust 13 = .ok (.iload_n 2, 1) := by decide +kernel
theorem dX8_adjust_14 : decode cX8_adjust 14 = .ok (.invokevirtual 273, 3) := by decide +kernel
theorem dX8_adjust_17 : decode cX8_adjust 17 = .ok (.iload_n 3, 1) := by decide +kernel
theorem dX8_adjust_18 : decode cX8_adjust 18 = .ok (.i2l, 1) := by decide +kernel
theorem dX8_adjust_19 : decode cX8_adjust 19 = .ok (.ladd, 1) := by decide +kernel
theorem dX8_adjust_20 : decode cX8_adjust 20 = .ok (.lstore 4, 2) := by decide +kernel
theorem dX8_adjust_22 : decode cX8_adjust 22 = .ok (.aload_n 0, 1) := by decide +kernel
theorem dX8_adjust_23 : decode cX8_adjust 23 = .ok (.iload_n 3, 1) := by decide +kernel
theorem dX8_adjust_24 : decode cX8_adjust 24 = .ok (.i2l, 1) := by decide +kernel
theorem dX8_adjust_25 : decode cX8_adjust 25 = .ok (.ldc2_w 362, 3) := by decide +kernel
theorem dX8_adjust_28 : decode cX8_adjust 28 = .ok (.ldc2_w 315, 3) := by decide +kernel
theorem dX8_adjust_31 : decode cX8_adjust 31 = .ok (.invokestatic 59, 3) := by decide +kernel
theorem dX8_adjust_34 : decode cX8_adjust 34 = .ok (.ifCond .ne 7, 3) := by decide +kernel
theorem dX8_adjust_37 : decode cX8_adjust 37 = .ok (.iconst 1, 1) := by decide +kernel
theorem dX8_adjust_38 : decode cX8_adjust 38 = .ok (.goto 20, 3) := by decide +kernel
theorem dX8_adjust_41 : decode cX8_adjust 41 = .ok (.lload 4, 2) := by decide +kernel
theorem dX8_adjust_43 : decode cX8_adjust 43 = .ok (.lconst 0, 1) := by decide +kernel
theorem dX8_adjust_44 : decode cX8_adjust 44 = .ok (.ldc2_w 364, 3) := by decide +kernel
theorem dX8_adjust_47 : decode cX8_adjust 47 = .ok (.invokestatic 59, 3) := by decide +kernel
theorem dX8_adjust_50 : decode cX8_adjust 50 = .ok (.ifCond .eq 7, 3) := by decide +kernel
theorem dX8_adjust_53 : decode cX8_adjust 53 = .ok (.iconst 0, 1) := by decide +kernel
theorem dX8_adjust_54 : decode cX8_adjust 54 = .ok (.goto 4, 3) := by decide +kernel
theorem dX8_adjust_57 : decode cX8_adjust 57 = .ok (.iconst 2, 1) := by decide +kernel
theorem dX8_adjust_58 : decode cX8_adjust 58 = .ok (.putfield 43, 3) := by decide +kernel
theorem dX8_adjust_61 : decode cX8_adjust 61 = .ok (.aload_n 0, 1) := by decide +kernel
theorem dX8_adjust_62 : decode cX8_adjust 62 = .ok (.getfield 43, 3) := by decide +kernel
theorem dX8_adjust_65 : decode cX8_adjust 65 = .ok (.ifCond .le 5, 3) := by decide +kernel
theorem dX8_adjust_68 : decode cX8_adjust 68 = .ok (.iconst 0, 1) := by decide +kernel
theorem dX8_adjust_69 : decode cX8_adjust 69 = .ok (.ireturn, 1) := by decide +kernel
theorem dX8_adjust_70 : decode cX8_adjust 70 = .ok (.aload_n 0, 1) := by decide +kernel
theorem dX8_adjust_71 : decode cX8_adjust 71 = .ok (.invokevirtual 179, 3) := by decide +kernel
theorem dX8_adjust_74 : decode cX8_adjust 74 = .ok (.aload_n 0, 1) := by decide +kernel
theorem dX8_adjust_75 : decode cX8_adjust 75 = .ok (.getfield 7, 3) := by decide +kernel
theorem dX8_adjust_78 : decode cX8_adjust 78 = .ok (.bipush 37, 2) := by decide +kernel
theorem dX8_adjust_80 : decode cX8_adjust 80 = .ok (.iload_n 1, 1) := by decide +kernel
theorem dX8_adjust_81 : decode cX8_adjust 81 = .ok (.iload_n 2, 1) := by decide +kernel
theorem dX8_adjust_82 : decode cX8_adjust 82 = .ok (.invokestatic 255, 3) := by decide +kernel
theorem dX8_adjust_85 : decode cX8_adjust 85 = .ok (.iadd, 1) := by decide +kernel
theorem dX8_adjust_86 : decode cX8_adjust 86 = .ok (.lload 4, 2) := by decide +kernel
theorem dX8_adjust_88 : decode cX8_adjust 88 = .ok (.lastore, 1) := by decide +kernel
theorem dX8_adjust_89 : decode cX8_adjust 89 = .ok (.aload_n 0, 1) := by decide +kernel
theorem dX8_adjust_90 : decode cX8_adjust 90 = .ok (.invokevirtual 186, 3) := by decide +kernel
theorem dX8_adjust_93 : decode cX8_adjust 93 = .ok (.lload 4, 2) := by decide +kernel
theorem dX8_adjust_95 : decode cX8_adjust 95 = .ok (.l2i, 1) := by decide +kernel
theorem dX8_adjust_96 : decode cX8_adjust 96 = .ok (.ireturn, 1) := by decide +kernel
set_option maxRecDepth 20000 in
theorem ggX8_repair_X8_keeps : GoodIn wsX8_repair wsX8_keeps := goodIn_r _ [7, 8, 9, 2, 49, 50, 51, 52, 53, 54, 55, 56, 57, 58, 59, 60, 61, 62, 63, 64, 65, 66] (by decide +kernel) (by decide +kernel)
set_option maxRecDepth 20000 in
theorem gX8_repair_X8_keeps : GoodIn wsX8_repair (wsV RX8 179 RX8 yX8_keeps wsX8_keeps) := goodIn_app (goodIn_of _ (by decide +kernel)) ggX8_repair_X8_keeps
set_option maxRecDepth 20000 in
theorem ggX8_repair_X8_countedOf : GoodIn wsX8_repair wsX8_countedOf := goodIn_r _ [13, 2, 14, 15, 16, 6, 17, 18, 19, 20, 21, 22, 23, 24, 25, 26, 27, 28, 29, 49, 50, 51, 52, 53, 54, 55, 56, 57, 58, 59, 60, 61, 62, 63, 64, 65, 66] (by decide +kernel) (by decide +kernel)
set_option maxRecDepth 20000 in
theorem gX8_repair_X8_countedOf : GoodIn wsX8_repair (wsV RX8 182 RX8 yX8_countedOf wsX8_countedOf) := goodIn_app (goodIn_of _ (by decide +kernel)) ggX8_repair_X8_countedOf
set_option maxRecDepth 20000 in
theorem ggX8_repair_X8_setsClocks : GoodIn wsX8_repair wsX8_setsClocks := goodIn_r _ [33, 34, 2, 35, 36, 37, 6, 38, 39, 40, 41, 42, 43, 44, 45, 46, 47, 48, 49, 50, 51, 52, 53, 54, 55, 56, 57, 58, 59, 60, 61, 62, 63, 64, 65, 66] (by decide +kernel) (by decide +kernel)
set_option maxRecDepth 20000 in
theorem gX8_repair_X8_setsClocks : GoodIn wsX8_repair (wsV RX8 186 RX8 yX8_setsClocks wsX8_setsClocks) := goodIn_app (goodIn_of _ (by decide +kernel)) ggX8_repair_X8_setsClocks
theorem dX8_repair_0 : decode cX8_repair 0 = .ok (.aload_n 0, 1) := by decide +kernel
theorem dX8_repair_1 : decode cX8_repair 1 = .ok (.iconst 0, 1) := by decide +kernel
theorem dX8_repair_2 : decode cX8_repair 2 = .ok (.putfield 43, 3) := by decide +kernel
theorem dX8_repair_5 : decode cX8_repair 5 = .ok (.aload_n 0, 1) := by decide +kernel
theorem dX8_repair_6 : decode cX8_repair 6 = .ok (.invokevirtual 179, 3) := by decide +kernel
theorem dX8_repair_9 : decode cX8_repair 9 = .ok (.iconst 0, 1) := by decide +kernel
theorem dX8_repair_10 : decode cX8_repair 10 = .ok (.istore_n 1, 1) := by decide +kernel
theorem dX8_repair_11 : decode cX8_repair 11 = .ok (.iconst 0, 1) := by decide +kernel
theorem dX8_repair_12 : decode cX8_repair 12 = .ok (.istore_n 2, 1) := by decide +kernel
theorem dX8_repair_13 : decode cX8_repair 13 = .ok (.iload_n 2, 1) := by decide +kernel
theorem dX8_repair_14 : decode cX8_repair 14 = .ok (.bipush 16, 2) := by decide +kernel
theorem dX8_repair_16 : decode cX8_repair 16 = .ok (.if_icmp .ge 52, 3) := by decide +kernel
theorem dX8_repair_19 : decode cX8_repair 19 = .ok (.aload_n 0, 1) := by decide +kernel
theorem dX8_repair_20 : decode cX8_repair 20 = .ok (.iload_n 2, 1) := by decide +kernel
theorem dX8_repair_21 : decode cX8_repair 21 = .ok (.iconst 2, 1) := by decide +kernel
theorem dX8_repair_22 : decode cX8_repair 22 = .ok (.idiv, 1) := by decide +kernel
theorem dX8_repair_23 : decode cX8_repair 23 = .ok (.iload_n 2, 1) := by decide +kernel
theorem dX8_repair_24 : decode cX8_repair 24 = .ok (.iconst 2, 1) := by decide +kernel
theorem dX8_repair_25 : decode cX8_repair 25 = .ok (.irem, 1) := by decide +kernel
theorem dX8_repair_26 : decode cX8_repair 26 = .ok (.invokevirtual 182, 3) := by decide +kernel
theorem dX8_repair_29 : decode cX8_repair 29 = .ok (.lstore_n 3, 1) := by decide +kernel
theorem dX8_repair_30 : decode cX8_repair 30 = .ok (.iload_n 1, 1) := by decide +kernel
theorem dX8_repair_31 : decode cX8_repair 31 = .ok (.lload_n 3, 1) := by decide +kernel
theorem dX8_repair_32 : decode cX8_repair 32 = .ok (.aload_n 0, 1) := by decide +kernel
theorem dX8_repair_33 : decode cX8_repair 33 = .ok (.getfield 7, 3) := by decide +kernel
theorem dX8_repair_36 : decode cX8_repair 36 = .ok (.bipush 37, 2) := by decide +kernel
theorem dX8_repair_38 : decode cX8_repair 38 = .ok (.iload_n 2, 1) := by decide +kernel
theorem dX8_repair_39 : decode cX8_repair 39 = .ok (.iadd, 1) := by decide +kernel
theorem dX8_repair_40 : decode cX8_repair 40 = .ok (.laload, 1) := by decide +kernel
theorem dX8_repair_41 : decode cX8_repair 41 = .ok (.lcmp, 1) := by decide +kernel
theorem dX8_repair_42 : decode cX8_repair 42 = .ok (.ifCond .ne 7, 3) := by decide +kernel
theorem dX8_repair_45 : decode cX8_repair 45 = .ok (.iconst 0, 1) := by decide +kernel
theorem dX8_repair_46 : decode cX8_repair 46 = .ok (.goto 4, 3) := by decide +kernel
theorem dX8_repair_49 : decode cX8_repair 49 = .ok (.iconst 1, 1) := by decide +kernel
theorem dX8_repair_50 : decode cX8_repair 50 = .ok (.iadd, 1) := by decide +kernel
theorem dX8_repair_51 : decode cX8_repair 51 = .ok (.istore_n 1, 1) := by decide +kernel
theorem dX8_repair_52 : decode cX8_repair 52 = .ok (.aload_n 0, 1) := by decide +kernel
theorem dX8_repair_53 : decode cX8_repair 53 = .ok (.getfield 7, 3) := by decide +kernel
theorem dX8_repair_56 : decode cX8_repair 56 = .ok (.bipush 37, 2) := by decide +kernel
theorem dX8_repair_58 : decode cX8_repair 58 = .ok (.iload_n 2, 1) := by decide +kernel
theorem dX8_repair_59 : decode cX8_repair 59 = .ok (.iadd, 1) := by decide +kernel
theorem dX8_repair_60 : decode cX8_repair 60 = .ok (.lload_n 3, 1) := by decide +kernel
theorem dX8_repair_61 : decode cX8_repair 61 = .ok (.lastore, 1) := by decide +kernel
theorem dX8_repair_62 : decode cX8_repair 62 = .ok (.iinc 2 1, 3) := by decide +kernel
theorem dX8_repair_65 : decode cX8_repair 65 = .ok (.goto (-52), 3) := by decide +kernel
theorem dX8_repair_68 : decode cX8_repair 68 = .ok (.aload_n 0, 1) := by decide +kernel
theorem dX8_repair_69 : decode cX8_repair 69 = .ok (.invokevirtual 186, 3) := by decide +kernel
theorem dX8_repair_72 : decode cX8_repair 72 = .ok (.iload_n 1, 1) := by decide +kernel
theorem dX8_repair_73 : decode cX8_repair 73 = .ok (.ireturn, 1) := by decide +kernel
theorem dX8_says_0 : decode cX8_says 0 = .ok (.aload_n 0, 1) := by decide +kernel
theorem dX8_says_1 : decode cX8_says 1 = .ok (.getfield 27, 3) := by decide +kernel
theorem dX8_says_4 : decode cX8_says 4 = .ok (.aload_n 0, 1) := by decide +kernel
theorem dX8_says_5 : decode cX8_says 5 = .ok (.getfield 366, 3) := by decide +kernel
theorem dX8_says_8 : decode cX8_says 8 = .ok (.iload_n 1, 1) := by decide +kernel
theorem dX8_says_9 : decode cX8_says 9 = .ok (.iastore, 1) := by decide +kernel
theorem dX8_says_10 : decode cX8_says 10 = .ok (.aload_n 0, 1) := by decide +kernel
theorem dX8_says_11 : decode cX8_says 11 = .ok (.dup, 1) := by decide +kernel
theorem dX8_says_12 : decode cX8_says 12 = .ok (.getfield 366, 3) := by decide +kernel
theorem dX8_says_15 : decode cX8_says 15 = .ok (.iconst 1, 1) := by decide +kernel
theorem dX8_says_16 : decode cX8_says 16 = .ok (.iadd, 1) := by decide +kernel
theorem dX8_says_17 : decode cX8_says 17 = .ok (.putfield 366, 3) := by decide +kernel
theorem dX8_says_20 : decode cX8_says 20 = .ok (.return_, 1) := by decide +kernel
set_option maxRecDepth 20000 in
theorem ggX8_saysNumber_X8_saysNumber : GoodIn wsX8_saysNumber wsX8_saysNumber := goodIn_r _ [0, 1, 2, 3, 4, 5, 6, 7, 8, 9, 10, 11, 12, 13, 14, 15, 16, 17, 18, 19, 20, 21, 22, 23, 24, 25, 26, 27, 28, 29, 30] (by decide +kernel) (by decide +kernel)
set_option maxRecDepth 20000 in
theorem gX8_saysNumber_X8_saysNumber : GoodIn wsX8_saysNumber (wsV RX8 369 RX8 yX8_saysNumber wsX8_saysNumber) := goodIn_app (goodIn_of _ (by decide +kernel)) ggX8_saysNumber_X8_saysNumber
set_option maxRecDepth 20000 in
theorem ggX8_saysNumber_X8_says : GoodIn wsX8_saysNumber wsX8_says := goodIn_r _ [10, 11, 12, 13, 14, 15, 16, 17, 18, 19, 20, 21, 22, 23, 24, 25, 26, 27, 28, 29, 30] (by decide +kernel) (by decide +kernel)
set_option maxRecDepth 20000 in
theorem gX8_saysNumber_X8_says : GoodIn wsX8_saysNumber (wsV RX8 373 RX8 yX8_says wsX8_says) := goodIn_app (goodIn_of _ (by decide +kernel)) ggX8_saysNumber_X8_says
theorem dX8_saysNumber_0 : decode cX8_saysNumber 0 = .ok (.lload_n 1, 1) := by decide +kernel
theorem dX8_saysNumber_1 : decode cX8_saysNumber 1 = .ok (.ldc2_w 223, 3) := by decide +kernel
theorem dX8_saysNumber_4 : decode cX8_saysNumber 4 = .ok (.lcmp, 1) := by decide +kernel
theorem dX8_saysNumber_5 : decode cX8_saysNumber 5 = .ok (.ifCond .le 12, 3) := by decide +kernel
theorem dX8_saysNumber_8 : decode cX8_saysNumber 8 = .ok (.aload_n 0, 1) := by decide +kernel
theorem dX8_saysNumber_9 : decode cX8_saysNumber 9 = .ok (.lload_n 1, 1) := by decide +kernel
theorem dX8_saysNumber_10 : decode cX8_saysNumber 10 = .ok (.ldc2_w 39, 3) := by decide +kernel
theorem dX8_saysNumber_13 : decode cX8_saysNumber 13 = .ok (.ldiv, 1) := by decide +kernel
theorem dX8_saysNumber_14 : decode cX8_saysNumber 14 = .ok (.invokevirtual 369, 3) := by decide +kernel
theorem dX8_saysNumber_17 : decode cX8_saysNumber 17 = .ok (.aload_n 0, 1) := by decide +kernel
theorem dX8_saysNumber_18 : decode cX8_saysNumber 18 = .ok (.bipush 48, 2) := by decide +kernel
theorem dX8_saysNumber_20 : decode cX8_saysNumber 20 = .ok (.lload_n 1, 1) := by decide +kernel
theorem dX8_saysNumber_21 : decode cX8_saysNumber 21 = .ok (.ldc2_w 39, 3) := by decide +kernel
theorem dX8_saysNumber_24 : decode cX8_saysNumber 24 = .ok (.lrem, 1) := by decide +kernel
theorem dX8_saysNumber_25 : decode cX8_saysNumber 25 = .ok (.l2i, 1) := by decide +kernel
theorem dX8_saysNumber_26 : decode cX8_saysNumber 26 = .ok (.iadd, 1) := by decide +kernel
theorem dX8_saysNumber_27 : decode cX8_saysNumber 27 = .ok (.invokevirtual 373, 3) := by decide +kernel
theorem dX8_saysNumber_30 : decode cX8_saysNumber 30 = .ok (.return_, 1) := by decide +kernel
set_option maxRecDepth 20000 in
theorem ggX8_saysName_X8_saysName : GoodIn wsX8_saysName wsX8_saysName := goodIn_r _ [0, 1, 2, 3, 4, 5, 6, 7, 8, 9, 10, 11, 12, 13, 14, 15, 16, 17, 18, 19, 20, 21, 22, 23, 24, 25, 26, 27, 28, 29] (by decide +kernel) (by decide +kernel)
set_option maxRecDepth 20000 in
theorem gX8_saysName_X8_saysName : GoodIn wsX8_saysName (wsV RX8 376 RX8 yX8_saysName wsX8_saysName) := goodIn_app (goodIn_of _ (by decide +kernel)) ggX8_saysName_X8_saysName
set_option maxRecDepth 20000 in
theorem ggX8_saysName_X8_says : GoodIn wsX8_saysName wsX8_says := goodIn_r _ [9, 10, 11, 12, 13, 14, 15, 16, 17, 18, 19, 20, 21, 22, 23, 24, 25, 26, 27, 28, 29] (by decide +kernel) (by decide +kernel)
set_option maxRecDepth 20000 in
theorem gX8_saysName_X8_says : GoodIn wsX8_saysName (wsV RX8 373 RX8 yX8_says wsX8_says) := goodIn_app (goodIn_of _ (by decide +kernel)) ggX8_saysName_X8_says
theorem dX8_saysName_0 : decode cX8_saysName 0 = .ok (.lload_n 1, 1) := by decide +kernel
theorem dX8_saysName_1 : decode cX8_saysName 1 = .ok (.ldc2_w 243, 3) := by decide +kernel
theorem dX8_saysName_4 : decode cX8_saysName 4 = .ok (.lcmp, 1) := by decide +kernel
theorem dX8_saysName_5 : decode cX8_saysName 5 = .ok (.ifCond .le 10, 3) := by decide +kernel
theorem dX8_saysName_8 : decode cX8_saysName 8 = .ok (.aload_n 0, 1) := by decide +kernel
theorem dX8_saysName_9 : decode cX8_saysName 9 = .ok (.lload_n 1, 1) := by decide +kernel
theorem dX8_saysName_10 : decode cX8_saysName 10 = .ok (.iconst 5, 1) := by decide +kernel
theorem dX8_saysName_11 : decode cX8_saysName 11 = .ok (.lshr, 1) := by decide +kernel
theorem dX8_saysName_12 : decode cX8_saysName 12 = .ok (.invokevirtual 376, 3) := by decide +kernel
theorem dX8_saysName_15 : decode cX8_saysName 15 = .ok (.aload_n 0, 1) := by decide +kernel
theorem dX8_saysName_16 : decode cX8_saysName 16 = .ok (.bipush 96, 2) := by decide +kernel
theorem dX8_saysName_18 : decode cX8_saysName 18 = .ok (.lload_n 1, 1) := by decide +kernel
theorem dX8_saysName_19 : decode cX8_saysName 19 = .ok (.ldc2_w 243, 3) := by decide +kernel
theorem dX8_saysName_22 : decode cX8_saysName 22 = .ok (.land, 1) := by decide +kernel
theorem dX8_saysName_23 : decode cX8_saysName 23 = .ok (.l2i, 1) := by decide +kernel
theorem dX8_saysName_24 : decode cX8_saysName 24 = .ok (.iadd, 1) := by decide +kernel
theorem dX8_saysName_25 : decode cX8_saysName 25 = .ok (.invokevirtual 373, 3) := by decide +kernel
theorem dX8_saysName_28 : decode cX8_saysName 28 = .ok (.return_, 1) := by decide +kernel
set_option maxRecDepth 20000 in
theorem ggX8_saysPath_X8_parentOf : GoodIn wsX8_saysPath wsX8_parentOf := goodIn_r _ [6, 1, 21, 22, 23, 24, 25, 26, 27, 28, 29, 30, 31, 32, 33, 34, 35, 36, 37, 38] (by decide +kernel) (by decide +kernel)
set_option maxRecDepth 20000 in
theorem gX8_saysPath_X8_parentOf : GoodIn wsX8_saysPath (wsV RX8 194 RX8 yX8_parentOf wsX8_parentOf) := goodIn_app (goodIn_of _ (by decide +kernel)) ggX8_saysPath_X8_parentOf
set_option maxRecDepth 20000 in
theorem ggX8_saysPath_X8_saysPath : GoodIn wsX8_saysPath wsX8_saysPath := goodIn_r _ [0, 1, 2, 3, 4, 5, 6, 7, 8, 9, 10, 11, 12, 13, 14, 15, 16, 17, 18, 19, 20, 21, 22, 23, 24, 25, 26, 27, 28, 29, 30, 31, 32, 33, 34, 35, 36, 37, 38] (by decide +kernel) (by decide +kernel)
set_option maxRecDepth 20000 in
theorem gX8_saysPath_X8_saysPath : GoodIn wsX8_saysPath (wsV RX8 379 RX8 yX8_saysPath wsX8_saysPath) := goodIn_app (goodIn_of _ (by decide +kernel)) ggX8_saysPath_X8_saysPath
set_option maxRecDepth 20000 in
theorem ggX8_saysPath_X8_says : GoodIn wsX8_saysPath wsX8_says := goodIn_r _ [13, 14, 15, 21, 22, 23, 24, 25, 26, 27, 28, 29, 30, 31, 32, 33, 34, 35, 36, 37, 38] (by decide +kernel) (by decide +kernel)
set_option maxRecDepth 20000 in
theorem gX8_saysPath_X8_says : GoodIn wsX8_saysPath (wsV RX8 373 RX8 yX8_says wsX8_says) := goodIn_app (goodIn_of _ (by decide +kernel)) ggX8_saysPath_X8_says
set_option maxRecDepth 20000 in
theorem ggX8_saysPath_X8_saysName : GoodIn wsX8_saysPath wsX8_saysName := goodIn_r _ [19, 20, 16, 17, 18, 5, 10, 11, 12, 13, 14, 15, 21, 22, 23, 24, 25, 26, 27, 28, 29, 30, 31, 32, 33, 34, 35, 36, 37, 38] (by decide +kernel) (by decide +kernel)
set_option maxRecDepth 20000 in
theorem gX8_saysPath_X8_saysName : GoodIn wsX8_saysPath (wsV RX8 376 RX8 yX8_saysName wsX8_saysName) := goodIn_app (goodIn_of _ (by decide +kernel)) ggX8_saysPath_X8_saysName
theorem dX8_saysPath_0 : decode cX8_saysPath 0 = .ok (.iload_n 1, 1) := by decide +kernel
theorem dX8_saysPath_1 : decode cX8_saysPath 1 = .ok (.ifCond .le 18, 3) := by decide +kernel
theorem dX8_saysPath_4 : decode cX8_saysPath 4 = .ok (.aload_n 0, 1) := by decide +kernel
theorem dX8_saysPath_5 : decode cX8_saysPath 5 = .ok (.aload_n 0, 1) := by decide +kernel
theorem dX8_saysPath_6 : decode cX8_saysPath 6 = .ok (.iload_n 1, 1) := by decide +kernel
theorem dX8_saysPath_7 : decode cX8_saysPath 7 = .ok (.invokevirtual 194, 3) := by decide +kernel
theorem dX8_saysPath_10 : decode cX8_saysPath 10 = .ok (.invokevirtual 379, 3) := by decide +kernel
theorem dX8_saysPath_13 : decode cX8_saysPath 13 = .ok (.aload_n 0, 1) := by decide +kernel
theorem dX8_saysPath_14 : decode cX8_saysPath 14 = .ok (.bipush 47, 2) := by decide +kernel
theorem dX8_saysPath_16 : decode cX8_saysPath 16 = .ok (.invokevirtual 373, 3) := by decide +kernel
theorem dX8_saysPath_19 : decode cX8_saysPath 19 = .ok (.aload_n 0, 1) := by decide +kernel
theorem dX8_saysPath_20 : decode cX8_saysPath 20 = .ok (.aload_n 0, 1) := by decide +kernel
theorem dX8_saysPath_21 : decode cX8_saysPath 21 = .ok (.getfield 7, 3) := by decide +kernel
theorem dX8_saysPath_24 : decode cX8_saysPath 24 = .ok (.sipush 149, 3) := by decide +kernel
theorem dX8_saysPath_27 : decode cX8_saysPath 27 = .ok (.iload_n 1, 1) := by decide +kernel
theorem dX8_saysPath_28 : decode cX8_saysPath 28 = .ok (.iadd, 1) := by decide +kernel
theorem dX8_saysPath_29 : decode cX8_saysPath 29 = .ok (.laload, 1) := by decide +kernel
theorem dX8_saysPath_30 : decode cX8_saysPath 30 = .ok (.invokevirtual 376, 3) := by decide +kernel
theorem dX8_saysPath_33 : decode cX8_saysPath 33 = .ok (.return_, 1) := by decide +kernel
set_option maxRecDepth 20000 in
theorem ggX8_writePath_X8_isFolder : GoodIn wsX8_writePath wsX8_isFolder := goodIn_r _ [7, 8, 9, 10, 6, 11, 30, 31, 32, 33, 34, 35, 36, 37, 38, 39, 40, 41, 42, 43, 44, 45, 46, 47] (by decide +kernel) (by decide +kernel)
set_option maxRecDepth 20000 in
theorem gX8_writePath_X8_isFolder : GoodIn wsX8_writePath (wsV RX8 220 RX8 yX8_isFolder wsX8_isFolder) := goodIn_app (goodIn_of _ (by decide +kernel)) ggX8_writePath_X8_isFolder
set_option maxRecDepth 20000 in
theorem ggX8_writePath_X8_saysPath : GoodIn wsX8_writePath wsX8_saysPath := goodIn_r _ [15, 8, 16, 17, 18, 6, 19, 12, 13, 14, 20, 21, 22, 23, 24, 2, 25, 26, 27, 28, 29, 30, 31, 32, 33, 34, 35, 36, 37, 38, 39, 40, 41, 42, 43, 44, 45, 46, 47] (by decide +kernel) (by decide +kernel)
set_option maxRecDepth 20000 in
theorem gX8_writePath_X8_saysPath : GoodIn wsX8_writePath (wsV RX8 379 RX8 yX8_saysPath wsX8_saysPath) := goodIn_app (goodIn_of _ (by decide +kernel)) ggX8_writePath_X8_saysPath
theorem dX8_writePath_0 : decode cX8_writePath 0 = .ok (.aload_n 0, 1) := by decide +kernel
theorem dX8_writePath_1 : decode cX8_writePath 1 = .ok (.aload_n 0, 1) := by decide +kernel
theorem dX8_writePath_2 : decode cX8_writePath 2 = .ok (.iload_n 1, 1) := by decide +kernel
theorem dX8_writePath_3 : decode cX8_writePath 3 = .ok (.invokevirtual 220, 3) := by decide +kernel
theorem dX8_writePath_6 : decode cX8_writePath 6 = .ok (.ifCond .eq 7, 3) := by decide +kernel
theorem dX8_writePath_9 : decode cX8_writePath 9 = .ok (.iconst 0, 1) := by decide +kernel
theorem dX8_writePath_10 : decode cX8_writePath 10 = .ok (.goto 4, 3) := by decide +kernel
theorem dX8_writePath_13 : decode cX8_writePath 13 = .ok (.iconst 1, 1) := by decide +kernel
theorem dX8_writePath_14 : decode cX8_writePath 14 = .ok (.putfield 43, 3) := by decide +kernel
theorem dX8_writePath_17 : decode cX8_writePath 17 = .ok (.aload_n 0, 1) := by decide +kernel
theorem dX8_writePath_18 : decode cX8_writePath 18 = .ok (.getfield 43, 3) := by decide +kernel
theorem dX8_writePath_21 : decode cX8_writePath 21 = .ok (.ifCond .le 5, 3) := by decide +kernel
theorem dX8_writePath_24 : decode cX8_writePath 24 = .ok (.iconst 0, 1) := by decide +kernel
theorem dX8_writePath_25 : decode cX8_writePath 25 = .ok (.ireturn, 1) := by decide +kernel
theorem dX8_writePath_26 : decode cX8_writePath 26 = .ok (.aload_n 0, 1) := by decide +kernel
theorem dX8_writePath_27 : decode cX8_writePath 27 = .ok (.iconst 0, 1) := by decide +kernel
theorem dX8_writePath_28 : decode cX8_writePath 28 = .ok (.putfield 366, 3) := by decide +kernel
theorem dX8_writePath_31 : decode cX8_writePath 31 = .ok (.aload_n 0, 1) := by decide +kernel
theorem dX8_writePath_32 : decode cX8_writePath 32 = .ok (.iload_n 1, 1) := by decide +kernel
theorem dX8_writePath_33 : decode cX8_writePath 33 = .ok (.invokevirtual 379, 3) := by decide +kernel
theorem dX8_writePath_36 : decode cX8_writePath 36 = .ok (.aload_n 0, 1) := by decide +kernel
theorem dX8_writePath_37 : decode cX8_writePath 37 = .ok (.getfield 366, 3) := by decide +kernel
theorem dX8_writePath_40 : decode cX8_writePath 40 = .ok (.ireturn, 1) := by decide +kernel
set_option maxRecDepth 20000 in
theorem ggX8_writeAccounts_X8_isProject : GoodIn wsX8_writeAccounts wsX8_isProject := goodIn_r _ [7, 8, 9, 10, 6, 11] (by decide +kernel) (by decide +kernel)
set_option maxRecDepth 20000 in
theorem gX8_writeAccounts_X8_isProject : GoodIn wsX8_writeAccounts (va_wsS RX8 320 yX8_isProject wsX8_isProject) := goodIn_app (goodIn_of _ (by decide +kernel)) ggX8_writeAccounts_X8_isProject
set_option maxRecDepth 20000 in
theorem ggX8_writeAccounts_X8_saysNumber : GoodIn wsX8_writeAccounts wsX8_saysNumber := goodIn_r _ [15, 16, 17, 12, 13, 14, 6, 18, 19, 20, 21, 22, 2, 58, 59, 60, 61, 62, 63, 64, 65, 66, 67, 68, 69, 70, 71, 72, 73, 74, 75] (by decide +kernel) (by decide +kernel)
set_option maxRecDepth 20000 in
theorem gX8_writeAccounts_X8_saysNumber : GoodIn wsX8_writeAccounts (wsV RX8 369 RX8 yX8_saysNumber wsX8_saysNumber) := goodIn_app (goodIn_of _ (by decide +kernel)) ggX8_writeAccounts_X8_saysNumber
set_option maxRecDepth 20000 in
theorem ggX8_writeAccounts_X8_says : GoodIn wsX8_writeAccounts wsX8_says := goodIn_r _ [21, 22, 2, 58, 59, 60, 61, 62, 63, 64, 65, 66, 67, 68, 69, 70, 71, 72, 73, 74, 75] (by decide +kernel) (by decide +kernel)
set_option maxRecDepth 20000 in
theorem gX8_writeAccounts_X8_says : GoodIn wsX8_writeAccounts (wsV RX8 373 RX8 yX8_says wsX8_says) := goodIn_app (goodIn_of _ (by decide +kernel)) ggX8_writeAccounts_X8_says
set_option maxRecDepth 20000 in
theorem ggX8_writeAccounts_X8_usedOf : GoodIn wsX8_writeAccounts wsX8_usedOf := goodIn_r _ [26, 27, 28, 29, 6, 30, 58, 59, 60, 61, 62, 63, 64, 65, 66, 67, 68, 69, 70, 71, 72, 73, 74, 75] (by decide +kernel) (by decide +kernel)
set_option maxRecDepth 20000 in
theorem gX8_writeAccounts_X8_usedOf : GoodIn wsX8_writeAccounts (wsV RX8 273 RX8 yX8_usedOf wsX8_usedOf) := goodIn_app (goodIn_of _ (by decide +kernel)) ggX8_writeAccounts_X8_usedOf
set_option maxRecDepth 20000 in
theorem ggX8_writeAccounts_X8_limitOf : GoodIn wsX8_writeAccounts wsX8_limitOf := goodIn_r _ [34, 27, 3, 28, 29, 6, 30, 35, 36, 37, 38, 39, 40, 41, 58, 59, 60, 61, 62, 63, 64, 65, 66, 67, 68, 69, 70, 71, 72, 73, 74, 75] (by decide +kernel) (by decide +kernel)
set_option maxRecDepth 20000 in
theorem gX8_writeAccounts_X8_limitOf : GoodIn wsX8_writeAccounts (wsV RX8 266 RX8 yX8_limitOf wsX8_limitOf) := goodIn_app (goodIn_of _ (by decide +kernel)) ggX8_writeAccounts_X8_limitOf
set_option maxRecDepth 20000 in
theorem ggX8_writeAccounts_X8_stateOf : GoodIn wsX8_writeAccounts wsX8_stateOf := goodIn_r _ [45, 3, 46, 47, 48, 6, 49, 31, 32, 33, 34, 27, 28, 29, 30, 35, 36, 37, 38, 39, 40, 41, 23, 24, 25, 26, 50, 51, 52, 53, 54, 55, 56, 57, 58, 59, 60, 61, 62, 63, 64, 65, 66, 67, 68, 69, 70, 71, 72, 73, 74, 75] (by decide +kernel) (by decide +kernel)
set_option maxRecDepth 20000 in
theorem gX8_writeAccounts_X8_stateOf : GoodIn wsX8_writeAccounts (wsV RX8 334 RX8 yX8_stateOf wsX8_stateOf) := goodIn_app (goodIn_of _ (by decide +kernel)) ggX8_writeAccounts_X8_stateOf
theorem dX8_writeAccounts_0 : decode cX8_writeAccounts 0 = .ok (.aload_n 0, 1) := by decide +kernel
theorem dX8_writeAccounts_1 : decode cX8_writeAccounts 1 = .ok (.iload_n 1, 1) := by decide +kernel
theorem dX8_writeAccounts_2 : decode cX8_writeAccounts 2 = .ok (.invokestatic 320, 3) := by decide +kernel
theorem dX8_writeAccounts_5 : decode cX8_writeAccounts 5 = .ok (.ifCond .eq 7, 3) := by decide +kernel
theorem dX8_writeAccounts_8 : decode cX8_writeAccounts 8 = .ok (.iconst 0, 1) := by decide +kernel
theorem dX8_writeAccounts_9 : decode cX8_writeAccounts 9 = .ok (.goto 4, 3) := by decide +kernel
theorem dX8_writeAccounts_12 : decode cX8_writeAccounts 12 = .ok (.iconst 1, 1) := by decide +kernel
theorem dX8_writeAccounts_13 : decode cX8_writeAccounts 13 = .ok (.putfield 43, 3) := by decide +kernel
theorem dX8_writeAccounts_16 : decode cX8_writeAccounts 16 = .ok (.aload_n 0, 1) := by decide +kernel
theorem dX8_writeAccounts_17 : decode cX8_writeAccounts 17 = .ok (.getfield 43, 3) := by decide +kernel
theorem dX8_writeAccounts_20 : decode cX8_writeAccounts 20 = .ok (.ifCond .le 5, 3) := by decide +kernel
theorem dX8_writeAccounts_23 : decode cX8_writeAccounts 23 = .ok (.iconst 0, 1) := by decide +kernel
theorem dX8_writeAccounts_24 : decode cX8_writeAccounts 24 = .ok (.ireturn, 1) := by decide +kernel
theorem dX8_writeAccounts_25 : decode cX8_writeAccounts 25 = .ok (.aload_n 0, 1) := by decide +kernel
theorem dX8_writeAccounts_26 : decode cX8_writeAccounts 26 = .ok (.iconst 0, 1) := by decide +kernel
theorem dX8_writeAccounts_27 : decode cX8_writeAccounts 27 = .ok (.putfield 366, 3) := by decide +kernel
theorem dX8_writeAccounts_30 : decode cX8_writeAccounts 30 = .ok (.aload_n 0, 1) := by decide +kernel
theorem dX8_writeAccounts_31 : decode cX8_writeAccounts 31 = .ok (.iload_n 1, 1) := by decide +kernel
theorem dX8_writeAccounts_32 : decode cX8_writeAccounts 32 = .ok (.i2l, 1) := by decide +kernel
theorem dX8_writeAccounts_33 : decode cX8_writeAccounts 33 = .ok (.invokevirtual 369, 3) := by decide +kernel
theorem dX8_writeAccounts_36 : decode cX8_writeAccounts 36 = .ok (.aload_n 0, 1) := by decide +kernel
theorem dX8_writeAccounts_37 : decode cX8_writeAccounts 37 = .ok (.bipush 58, 2) := by decide +kernel
theorem dX8_writeAccounts_39 : decode cX8_writeAccounts 39 = .ok (.invokevirtual 373, 3) := by decide +kernel
theorem dX8_writeAccounts_42 : decode cX8_writeAccounts 42 = .ok (.iconst 0, 1) := by decide +kernel
theorem dX8_writeAccounts_43 : decode cX8_writeAccounts 43 = .ok (.istore_n 2, 1) := by decide +kernel
theorem dX8_writeAccounts_44 : decode cX8_writeAccounts 44 = .ok (.iload_n 2, 1) := by decide +kernel
theorem dX8_writeAccounts_45 : decode cX8_writeAccounts 45 = .ok (.iconst 2, 1) := by decide +kernel
theorem dX8_writeAccounts_46 : decode cX8_writeAccounts 46 = .ok (.if_icmp .ge 96, 3) := by decide +kernel
theorem dX8_writeAccounts_49 : decode cX8_writeAccounts 49 = .ok (.aload_n 0, 1) := by decide +kernel
theorem dX8_writeAccounts_50 : decode cX8_writeAccounts 50 = .ok (.bipush 32, 2) := by decide +kernel
theorem dX8_writeAccounts_52 : decode cX8_writeAccounts 52 = .ok (.invokevirtual 373, 3) := by decide +kernel
theorem dX8_writeAccounts_55 : decode cX8_writeAccounts 55 = .ok (.aload_n 0, 1) := by decide +kernel
theorem dX8_writeAccounts_56 : decode cX8_writeAccounts 56 = .ok (.aload_n 0, 1) := by decide +kernel
theorem dX8_writeAccounts_57 : decode cX8_writeAccounts 57 = .ok (.iload_n 1, 1) := by decide +kernel
theorem dX8_writeAccounts_58 : decode cX8_writeAccounts 58 = .ok (.iload_n 2, 1) := by decide +kernel
theorem dX8_writeAccounts_59 : decode cX8_writeAccounts 59 = .ok (.invokevirtual 273, 3) := by decide +kernel
theorem dX8_writeAccounts_62 : decode cX8_writeAccounts 62 = .ok (.invokevirtual 369, 3) := by decide +kernel
theorem dX8_writeAccounts_65 : decode cX8_writeAccounts 65 = .ok (.aload_n 0, 1) := by decide +kernel
theorem dX8_writeAccounts_66 : decode cX8_writeAccounts 66 = .ok (.bipush 47, 2) := by decide +kernel
theorem dX8_writeAccounts_68 : decode cX8_writeAccounts 68 = .ok (.invokevirtual 373, 3) := by decide +kernel
theorem dX8_writeAccounts_71 : decode cX8_writeAccounts 71 = .ok (.aload_n 0, 1) := by decide +kernel
theorem dX8_writeAccounts_72 : decode cX8_writeAccounts 72 = .ok (.iload_n 1, 1) := by decide +kernel
theorem dX8_writeAccounts_73 : decode cX8_writeAccounts 73 = .ok (.iload_n 2, 1) := by decide +kernel
theorem dX8_writeAccounts_74 : decode cX8_writeAccounts 74 = .ok (.iconst 1, 1) := by decide +kernel
theorem dX8_writeAccounts_75 : decode cX8_writeAccounts 75 = .ok (.invokevirtual 266, 3) := by decide +kernel
theorem dX8_writeAccounts_78 : decode cX8_writeAccounts 78 = .ok (.ldc2_w 37, 3) := by decide +kernel
theorem dX8_writeAccounts_81 : decode cX8_writeAccounts 81 = .ok (.lcmp, 1) := by decide +kernel
theorem dX8_writeAccounts_82 : decode cX8_writeAccounts 82 = .ok (.ifCond .ne 12, 3) := by decide +kernel
theorem dX8_writeAccounts_85 : decode cX8_writeAccounts 85 = .ok (.aload_n 0, 1) := by decide +kernel
theorem dX8_writeAccounts_86 : decode cX8_writeAccounts 86 = .ok (.bipush 45, 2) := by decide +kernel
theorem dX8_writeAccounts_88 : decode cX8_writeAccounts 88 = .ok (.invokevirtual 373, 3) := by decide +kernel
theorem dX8_writeAccounts_91 : decode cX8_writeAccounts 91 = .ok (.goto 14, 3) := by decide +kernel
theorem dX8_writeAccounts_94 : decode cX8_writeAccounts 94 = .ok (.aload_n 0, 1) := by decide +kernel
theorem dX8_writeAccounts_95 : decode cX8_writeAccounts 95 = .ok (.aload_n 0, 1) := by decide +kernel
theorem dX8_writeAccounts_96 : decode cX8_writeAccounts 96 = .ok (.iload_n 1, 1) := by decide +kernel
theorem dX8_writeAccounts_97 : decode cX8_writeAccounts 97 = .ok (.iload_n 2, 1) := by decide +kernel
theorem dX8_writeAccounts_98 : decode cX8_writeAccounts 98 = .ok (.iconst 1, 1) := by decide +kernel
theorem dX8_writeAccounts_99 : decode cX8_writeAccounts 99 = .ok (.invokevirtual 266, 3) := by decide +kernel
theorem dX8_writeAccounts_102 : decode cX8_writeAccounts 102 = .ok (.invokevirtual 369, 3) := by decide +kernel
theorem dX8_writeAccounts_105 : decode cX8_writeAccounts 105 = .ok (.aload_n 0, 1) := by decide +kernel
theorem dX8_writeAccounts_106 : decode cX8_writeAccounts 106 = .ok (.iload_n 1, 1) := by decide +kernel
theorem dX8_writeAccounts_107 : decode cX8_writeAccounts 107 = .ok (.iload_n 2, 1) := by decide +kernel
theorem dX8_writeAccounts_108 : decode cX8_writeAccounts 108 = .ok (.invokevirtual 334, 3) := by decide +kernel
theorem dX8_writeAccounts_111 : decode cX8_writeAccounts 111 = .ok (.iconst 2, 1) := by decide +kernel
theorem dX8_writeAccounts_112 : decode cX8_writeAccounts 112 = .ok (.if_icmp .lt 24, 3) := by decide +kernel
theorem dX8_writeAccounts_115 : decode cX8_writeAccounts 115 = .ok (.aload_n 0, 1) := by decide +kernel
theorem dX8_writeAccounts_116 : decode cX8_writeAccounts 116 = .ok (.aload_n 0, 1) := by decide +kernel
theorem dX8_writeAccounts_117 : decode cX8_writeAccounts 117 = .ok (.iload_n 1, 1) := by decide +kernel
theorem dX8_writeAccounts_118 : decode cX8_writeAccounts 118 = .ok (.iload_n 2, 1) := by decide +kernel
theorem dX8_writeAccounts_119 : decode cX8_writeAccounts 119 = .ok (.invokevirtual 334, 3) := by decide +kernel
theorem dX8_writeAccounts_122 : decode cX8_writeAccounts 122 = .ok (.iconst 2, 1) := by decide +kernel
theorem dX8_writeAccounts_123 : decode cX8_writeAccounts 123 = .ok (.if_icmp .ne 8, 3) := by decide +kernel
theorem dX8_writeAccounts_126 : decode cX8_writeAccounts 126 = .ok (.bipush 43, 2) := by decide +kernel
theorem dX8_writeAccounts_128 : decode cX8_writeAccounts 128 = .ok (.goto 5, 3) := by decide +kernel
theorem dX8_writeAccounts_131 : decode cX8_writeAccounts 131 = .ok (.bipush 33, 2) := by decide +kernel
theorem dX8_writeAccounts_133 : decode cX8_writeAccounts 133 = .ok (.invokevirtual 373, 3) := by decide +kernel
theorem dX8_writeAccounts_136 : decode cX8_writeAccounts 136 = .ok (.iinc 2 1, 3) := by decide +kernel
theorem dX8_writeAccounts_139 : decode cX8_writeAccounts 139 = .ok (.goto (-95), 3) := by decide +kernel
theorem dX8_writeAccounts_142 : decode cX8_writeAccounts 142 = .ok (.aload_n 0, 1) := by decide +kernel
theorem dX8_writeAccounts_143 : decode cX8_writeAccounts 143 = .ok (.getfield 366, 3) := by decide +kernel
theorem dX8_writeAccounts_146 : decode cX8_writeAccounts 146 = .ok (.ireturn, 1) := by decide +kernel
set_option maxRecDepth 20000 in
theorem ggX8_writtenByte_X8_isIn : GoodIn wsX8_writtenByte wsX8_isIn := goodIn_r _ [7] (by decide +kernel) (by decide +kernel)
set_option maxRecDepth 20000 in
theorem gX8_writtenByte_X8_isIn : GoodIn wsX8_writtenByte (va_wsS RX8 59 yX8_isIn wsX8_isIn) := goodIn_app (goodIn_of _ (by decide +kernel)) ggX8_writtenByte_X8_isIn
theorem dX8_writtenByte_0 : decode cX8_writtenByte 0 = .ok (.aload_n 0, 1) := by decide +kernel
theorem dX8_writtenByte_1 : decode cX8_writtenByte 1 = .ok (.iload_n 1, 1) := by decide +kernel
theorem dX8_writtenByte_2 : decode cX8_writtenByte 2 = .ok (.i2l, 1) := by decide +kernel
theorem dX8_writtenByte_3 : decode cX8_writtenByte 3 = .ok (.lconst 0, 1) := by decide +kernel
theorem dX8_writtenByte_4 : decode cX8_writtenByte 4 = .ok (.aload_n 0, 1) := by decide +kernel
theorem dX8_writtenByte_5 : decode cX8_writtenByte 5 = .ok (.getfield 366, 3) := by decide +kernel
theorem dX8_writtenByte_8 : decode cX8_writtenByte 8 = .ok (.iconst 1, 1) := by decide +kernel
theorem dX8_writtenByte_9 : decode cX8_writtenByte 9 = .ok (.isub, 1) := by decide +kernel
theorem dX8_writtenByte_10 : decode cX8_writtenByte 10 = .ok (.i2l, 1) := by decide +kernel
theorem dX8_writtenByte_11 : decode cX8_writtenByte 11 = .ok (.invokestatic 59, 3) := by decide +kernel
theorem dX8_writtenByte_14 : decode cX8_writtenByte 14 = .ok (.ifCond .eq 7, 3) := by decide +kernel
theorem dX8_writtenByte_17 : decode cX8_writtenByte 17 = .ok (.iconst 0, 1) := by decide +kernel
theorem dX8_writtenByte_18 : decode cX8_writtenByte 18 = .ok (.goto 4, 3) := by decide +kernel
theorem dX8_writtenByte_21 : decode cX8_writtenByte 21 = .ok (.iconst 1, 1) := by decide +kernel
theorem dX8_writtenByte_22 : decode cX8_writtenByte 22 = .ok (.putfield 43, 3) := by decide +kernel
theorem dX8_writtenByte_25 : decode cX8_writtenByte 25 = .ok (.aload_n 0, 1) := by decide +kernel
theorem dX8_writtenByte_26 : decode cX8_writtenByte 26 = .ok (.getfield 43, 3) := by decide +kernel
theorem dX8_writtenByte_29 : decode cX8_writtenByte 29 = .ok (.ifCond .le 7, 3) := by decide +kernel
theorem dX8_writtenByte_32 : decode cX8_writtenByte 32 = .ok (.iconst 0, 1) := by decide +kernel
theorem dX8_writtenByte_33 : decode cX8_writtenByte 33 = .ok (.goto 9, 3) := by decide +kernel
theorem dX8_writtenByte_36 : decode cX8_writtenByte 36 = .ok (.aload_n 0, 1) := by decide +kernel
theorem dX8_writtenByte_37 : decode cX8_writtenByte 37 = .ok (.getfield 27, 3) := by decide +kernel
theorem dX8_writtenByte_40 : decode cX8_writtenByte 40 = .ok (.iload_n 1, 1) := by decide +kernel
theorem dX8_writtenByte_41 : decode cX8_writtenByte 41 = .ok (.iaload, 1) := by decide +kernel
theorem dX8_writtenByte_42 : decode cX8_writtenByte 42 = .ok (.ireturn, 1) := by decide +kernel
