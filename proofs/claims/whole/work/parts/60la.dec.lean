set_option maxRecDepth 20000 in
theorem ggX8_readsLimits_X8_must : GoodIn wsX8_readsLimits wsX8_must := goodIn_r _ [10, 2, 11, 12, 13, 9, 14, 15, 16, 17, 18, 19, 20, 21, 22, 23, 3, 4, 24, 25, 26, 27, 28, 29, 30, 31, 32, 33, 34, 35, 36, 37, 38, 39, 40, 41, 42, 47, 48, 49, 50, 51, 52, 53, 54, 55, 56, 57, 58, 59, 60, 61, 62, 63, 64] (by decide +kernel) (by decide +kernel)
set_option maxRecDepth 20000 in
theorem gX8_readsLimits_X8_must : GoodIn wsX8_readsLimits (wsV RX8 126 RX8 yX8_must wsX8_must) := goodIn_app (goodIn_of _ (by decide +kernel)) ggX8_readsLimits_X8_must
set_option maxRecDepth 20000 in
theorem ggX8_readsLimits_X8_takes : GoodIn wsX8_readsLimits wsX8_takes := goodIn_r _ [46, 2, 3, 4, 11, 12, 13, 9, 14, 15, 16, 35, 36, 37, 17, 18, 19, 20, 21, 22, 23, 24, 25, 26, 27, 28, 29, 30, 31, 32, 33, 34, 38, 39, 40, 41, 42, 47, 48, 49, 50, 51, 52, 53, 54, 55, 56, 57, 58, 59, 60, 61, 62, 63, 64] (by decide +kernel) (by decide +kernel)
set_option maxRecDepth 20000 in
theorem gX8_readsLimits_X8_takes : GoodIn wsX8_readsLimits (wsV RX8 130 RX8 yX8_takes wsX8_takes) := goodIn_app (goodIn_of _ (by decide +kernel)) ggX8_readsLimits_X8_takes
set_option maxRecDepth 20000 in
theorem ggX8_readsLimits_X8_fails : GoodIn wsX8_readsLimits wsX8_fails := goodIn_r _ [14, 2, 15, 16, 47, 48, 49, 50, 51, 52, 53, 54, 55, 56, 57, 58, 59, 60, 61, 62, 63, 64] (by decide +kernel) (by decide +kernel)
set_option maxRecDepth 20000 in
theorem gX8_readsLimits_X8_fails : GoodIn wsX8_readsLimits (wsV RX8 111 RX8 yX8_fails wsX8_fails) := goodIn_app (goodIn_of _ (by decide +kernel)) ggX8_readsLimits_X8_fails
theorem dX8_readsLimits_0 : decode cX8_readsLimits 0 = .ok (.aload_n 0, 1) := by decide +kernel
theorem dX8_readsLimits_1 : decode cX8_readsLimits 1 = .ok (.iconst 1, 1) := by decide +kernel
theorem dX8_readsLimits_2 : decode cX8_readsLimits 2 = .ok (.invokevirtual 126, 3) := by decide +kernel
theorem dX8_readsLimits_5 : decode cX8_readsLimits 5 = .ok (.aload_n 0, 1) := by decide +kernel
theorem dX8_readsLimits_6 : decode cX8_readsLimits 6 = .ok (.iconst 0, 1) := by decide +kernel
theorem dX8_readsLimits_7 : decode cX8_readsLimits 7 = .ok (.bipush 7, 2) := by decide +kernel
theorem dX8_readsLimits_9 : decode cX8_readsLimits 9 = .ok (.invokevirtual 130, 3) := by decide +kernel
theorem dX8_readsLimits_12 : decode cX8_readsLimits 12 = .ok (.istore_n 1, 1) := by decide +kernel
theorem dX8_readsLimits_13 : decode cX8_readsLimits 13 = .ok (.iconst 0, 1) := by decide +kernel
theorem dX8_readsLimits_14 : decode cX8_readsLimits 14 = .ok (.istore_n 2, 1) := by decide +kernel
theorem dX8_readsLimits_15 : decode cX8_readsLimits 15 = .ok (.iload_n 2, 1) := by decide +kernel
theorem dX8_readsLimits_16 : decode cX8_readsLimits 16 = .ok (.iconst 2, 1) := by decide +kernel
theorem dX8_readsLimits_17 : decode cX8_readsLimits 17 = .ok (.if_icmp .ge 92, 3) := by decide +kernel
theorem dX8_readsLimits_20 : decode cX8_readsLimits 20 = .ok (.aload_n 0, 1) := by decide +kernel
theorem dX8_readsLimits_21 : decode cX8_readsLimits 21 = .ok (.iconst 0, 1) := by decide +kernel
theorem dX8_readsLimits_22 : decode cX8_readsLimits 22 = .ok (.ldc 134, 2) := by decide +kernel
theorem dX8_readsLimits_24 : decode cX8_readsLimits 24 = .ok (.invokevirtual 130, 3) := by decide +kernel
theorem dX8_readsLimits_27 : decode cX8_readsLimits 27 = .ok (.istore_n 3, 1) := by decide +kernel
theorem dX8_readsLimits_28 : decode cX8_readsLimits 28 = .ok (.aload_n 0, 1) := by decide +kernel
theorem dX8_readsLimits_29 : decode cX8_readsLimits 29 = .ok (.getfield 95, 3) := by decide +kernel
theorem dX8_readsLimits_32 : decode cX8_readsLimits 32 = .ok (.ifCond .ne 32, 3) := by decide +kernel
theorem dX8_readsLimits_35 : decode cX8_readsLimits 35 = .ok (.aload_n 0, 1) := by decide +kernel
theorem dX8_readsLimits_36 : decode cX8_readsLimits 36 = .ok (.getfield 81, 3) := by decide +kernel
theorem dX8_readsLimits_39 : decode cX8_readsLimits 39 = .ok (.iconst 1, 1) := by decide +kernel
theorem dX8_readsLimits_40 : decode cX8_readsLimits 40 = .ok (.if_icmp .ne 24, 3) := by decide +kernel
theorem dX8_readsLimits_43 : decode cX8_readsLimits 43 = .ok (.aload_n 0, 1) := by decide +kernel
theorem dX8_readsLimits_44 : decode cX8_readsLimits 44 = .ok (.getfield 91, 3) := by decide +kernel
theorem dX8_readsLimits_47 : decode cX8_readsLimits 47 = .ok (.ifCond .le 17, 3) := by decide +kernel
theorem dX8_readsLimits_50 : decode cX8_readsLimits 50 = .ok (.aload_n 0, 1) := by decide +kernel
theorem dX8_readsLimits_51 : decode cX8_readsLimits 51 = .ok (.getfield 91, 3) := by decide +kernel
theorem dX8_readsLimits_54 : decode cX8_readsLimits 54 = .ok (.iload_n 3, 1) := by decide +kernel
theorem dX8_readsLimits_55 : decode cX8_readsLimits 55 = .ok (.if_icmp .ge 9, 3) := by decide +kernel
theorem dX8_readsLimits_58 : decode cX8_readsLimits 58 = .ok (.aload_n 0, 1) := by decide +kernel
theorem dX8_readsLimits_59 : decode cX8_readsLimits 59 = .ok (.bipush (-3), 2) := by decide +kernel
theorem dX8_readsLimits_61 : decode cX8_readsLimits 61 = .ok (.invokevirtual 111, 3) := by decide +kernel
theorem dX8_readsLimits_64 : decode cX8_readsLimits 64 = .ok (.aload_n 0, 1) := by decide +kernel
theorem dX8_readsLimits_65 : decode cX8_readsLimits 65 = .ok (.iconst 0, 1) := by decide +kernel
theorem dX8_readsLimits_66 : decode cX8_readsLimits 66 = .ok (.ldc 134, 2) := by decide +kernel
theorem dX8_readsLimits_68 : decode cX8_readsLimits 68 = .ok (.invokevirtual 130, 3) := by decide +kernel
theorem dX8_readsLimits_71 : decode cX8_readsLimits 71 = .ok (.istore 4, 2) := by decide +kernel
theorem dX8_readsLimits_73 : decode cX8_readsLimits 73 = .ok (.aload_n 0, 1) := by decide +kernel
theorem dX8_readsLimits_74 : decode cX8_readsLimits 74 = .ok (.getfield 13, 3) := by decide +kernel
theorem dX8_readsLimits_77 : decode cX8_readsLimits 77 = .ok (.iconst 5, 1) := by decide +kernel
theorem dX8_readsLimits_78 : decode cX8_readsLimits 78 = .ok (.iconst 2, 1) := by decide +kernel
theorem dX8_readsLimits_79 : decode cX8_readsLimits 79 = .ok (.iload_n 1, 1) := by decide +kernel
theorem dX8_readsLimits_80 : decode cX8_readsLimits 80 = .ok (.imul, 1) := by decide +kernel
theorem dX8_readsLimits_81 : decode cX8_readsLimits 81 = .ok (.iadd, 1) := by decide +kernel
theorem dX8_readsLimits_82 : decode cX8_readsLimits 82 = .ok (.iload_n 2, 1) := by decide +kernel
theorem dX8_readsLimits_83 : decode cX8_readsLimits 83 = .ok (.iadd, 1) := by decide +kernel
theorem dX8_readsLimits_84 : decode cX8_readsLimits 84 = .ok (.iload_n 3, 1) := by decide +kernel
theorem dX8_readsLimits_85 : decode cX8_readsLimits 85 = .ok (.i2l, 1) := by decide +kernel
theorem dX8_readsLimits_86 : decode cX8_readsLimits 86 = .ok (.lastore, 1) := by decide +kernel
theorem dX8_readsLimits_87 : decode cX8_readsLimits 87 = .ok (.aload_n 0, 1) := by decide +kernel
theorem dX8_readsLimits_88 : decode cX8_readsLimits 88 = .ok (.getfield 13, 3) := by decide +kernel
theorem dX8_readsLimits_91 : decode cX8_readsLimits 91 = .ok (.bipush 21, 2) := by decide +kernel
theorem dX8_readsLimits_93 : decode cX8_readsLimits 93 = .ok (.iconst 2, 1) := by decide +kernel
theorem dX8_readsLimits_94 : decode cX8_readsLimits 94 = .ok (.iload_n 1, 1) := by decide +kernel
theorem dX8_readsLimits_95 : decode cX8_readsLimits 95 = .ok (.imul, 1) := by decide +kernel
theorem dX8_readsLimits_96 : decode cX8_readsLimits 96 = .ok (.iadd, 1) := by decide +kernel
theorem dX8_readsLimits_97 : decode cX8_readsLimits 97 = .ok (.iload_n 2, 1) := by decide +kernel
theorem dX8_readsLimits_98 : decode cX8_readsLimits 98 = .ok (.iadd, 1) := by decide +kernel
theorem dX8_readsLimits_99 : decode cX8_readsLimits 99 = .ok (.iload 4, 2) := by decide +kernel
theorem dX8_readsLimits_101 : decode cX8_readsLimits 101 = .ok (.i2l, 1) := by decide +kernel
theorem dX8_readsLimits_102 : decode cX8_readsLimits 102 = .ok (.lastore, 1) := by decide +kernel
theorem dX8_readsLimits_103 : decode cX8_readsLimits 103 = .ok (.iinc 2 1, 3) := by decide +kernel
theorem dX8_readsLimits_106 : decode cX8_readsLimits 106 = .ok (.goto (-91), 3) := by decide +kernel
theorem dX8_readsLimits_109 : decode cX8_readsLimits 109 = .ok (.return_, 1) := by decide +kernel
