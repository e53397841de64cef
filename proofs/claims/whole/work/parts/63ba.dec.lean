theorem dX8_append_0 : decode cX8_append 0 = .ok (.aload_n 0, 1) := by decide +kernel
theorem dX8_append_1 : decode cX8_append 1 = .ok (.aload_n 0, 1) := by decide +kernel
theorem dX8_append_2 : decode cX8_append 2 = .ok (.getfield 49, 3) := by decide +kernel
theorem dX8_append_5 : decode cX8_append 5 = .ok (.bipush 20, 2) := by decide +kernel
theorem dX8_append_7 : decode cX8_append 7 = .ok (.iadd, 1) := by decide +kernel
theorem dX8_append_8 : decode cX8_append 8 = .ok (.sipush 900, 3) := by decide +kernel
theorem dX8_append_11 : decode cX8_append 11 = .ok (.if_icmp .le 7, 3) := by decide +kernel
theorem dX8_append_14 : decode cX8_append 14 = .ok (.iconst 1, 1) := by decide +kernel
theorem dX8_append_15 : decode cX8_append 15 = .ok (.goto 4, 3) := by decide +kernel
theorem dX8_append_18 : decode cX8_append 18 = .ok (.iconst 0, 1) := by decide +kernel
theorem dX8_append_19 : decode cX8_append 19 = .ok (.putfield 43, 3) := by decide +kernel
theorem dX8_append_22 : decode cX8_append 22 = .ok (.aload_n 0, 1) := by decide +kernel
theorem dX8_append_23 : decode cX8_append 23 = .ok (.getfield 43, 3) := by decide +kernel
theorem dX8_append_26 : decode cX8_append 26 = .ok (.ifCond .le 5, 3) := by decide +kernel
theorem dX8_append_29 : decode cX8_append 29 = .ok (.iconst 0, 1) := by decide +kernel
theorem dX8_append_30 : decode cX8_append 30 = .ok (.ireturn, 1) := by decide +kernel
theorem dX8_append_31 : decode cX8_append 31 = .ok (.iconst 0, 1) := by decide +kernel
theorem dX8_append_32 : decode cX8_append 32 = .ok (.istore 6, 2) := by decide +kernel
theorem dX8_append_34 : decode cX8_append 34 = .ok (.iload 6, 2) := by decide +kernel
theorem dX8_append_36 : decode cX8_append 36 = .ok (.bipush 20, 2) := by decide +kernel
theorem dX8_append_38 : decode cX8_append 38 = .ok (.if_icmp .ge 93, 3) := by decide +kernel
theorem dX8_append_41 : decode cX8_append 41 = .ok (.iload 6, 2) := by decide +kernel
theorem dX8_append_43 : decode cX8_append 43 = .ok (.iconst 4, 1) := by decide +kernel
theorem dX8_append_44 : decode cX8_append 44 = .ok (.if_icmp .ge 7, 3) := by decide +kernel
theorem dX8_append_47 : decode cX8_append 47 = .ok (.iload_n 1, 1) := by decide +kernel
theorem dX8_append_48 : decode cX8_append 48 = .ok (.goto 39, 3) := by decide +kernel
theorem dX8_append_51 : decode cX8_append 51 = .ok (.iload 6, 2) := by decide +kernel
theorem dX8_append_53 : decode cX8_append 53 = .ok (.bipush 8, 2) := by decide +kernel
theorem dX8_append_55 : decode cX8_append 55 = .ok (.if_icmp .ge 7, 3) := by decide +kernel
theorem dX8_append_58 : decode cX8_append 58 = .ok (.iload_n 2, 1) := by decide +kernel
theorem dX8_append_59 : decode cX8_append 59 = .ok (.goto 28, 3) := by decide +kernel
theorem dX8_append_62 : decode cX8_append 62 = .ok (.iload 6, 2) := by decide +kernel
theorem dX8_append_64 : decode cX8_append 64 = .ok (.bipush 12, 2) := by decide +kernel
theorem dX8_append_66 : decode cX8_append 66 = .ok (.if_icmp .ge 7, 3) := by decide +kernel
theorem dX8_append_69 : decode cX8_append 69 = .ok (.iload_n 3, 1) := by decide +kernel
theorem dX8_append_70 : decode cX8_append 70 = .ok (.goto 17, 3) := by decide +kernel
theorem dX8_append_73 : decode cX8_append 73 = .ok (.iload 6, 2) := by decide +kernel
theorem dX8_append_75 : decode cX8_append 75 = .ok (.bipush 16, 2) := by decide +kernel
theorem dX8_append_77 : decode cX8_append 77 = .ok (.if_icmp .ge 8, 3) := by decide +kernel
theorem dX8_append_80 : decode cX8_append 80 = .ok (.iload 4, 2) := by decide +kernel
theorem dX8_append_82 : decode cX8_append 82 = .ok (.goto 5, 3) := by decide +kernel
theorem dX8_append_85 : decode cX8_append 85 = .ok (.iload 5, 2) := by decide +kernel
theorem dX8_append_87 : decode cX8_append 87 = .ok (.istore 7, 2) := by decide +kernel
theorem dX8_append_89 : decode cX8_append 89 = .ok (.aload_n 0, 1) := by decide +kernel
theorem dX8_append_90 : decode cX8_append 90 = .ok (.getfield 19, 3) := by decide +kernel
theorem dX8_append_93 : decode cX8_append 93 = .ok (.aload_n 0, 1) := by decide +kernel
theorem dX8_append_94 : decode cX8_append 94 = .ok (.getfield 49, 3) := by decide +kernel
theorem dX8_append_97 : decode cX8_append 97 = .ok (.iload 7, 2) := by decide +kernel
theorem dX8_append_99 : decode cX8_append 99 = .ok (.bipush 24, 2) := by decide +kernel
theorem dX8_append_101 : decode cX8_append 101 = .ok (.bipush 8, 2) := by decide +kernel
theorem dX8_append_103 : decode cX8_append 103 = .ok (.iload 6, 2) := by decide +kernel
theorem dX8_append_105 : decode cX8_append 105 = .ok (.iconst 4, 1) := by decide +kernel
theorem dX8_append_106 : decode cX8_append 106 = .ok (.irem, 1) := by decide +kernel
theorem dX8_append_107 : decode cX8_append 107 = .ok (.imul, 1) := by decide +kernel
theorem dX8_append_108 : decode cX8_append 108 = .ok (.isub, 1) := by decide +kernel
theorem dX8_append_109 : decode cX8_append 109 = .ok (.ishr, 1) := by decide +kernel
theorem dX8_append_110 : decode cX8_append 110 = .ok (.sipush 255, 3) := by decide +kernel
theorem dX8_append_113 : decode cX8_append 113 = .ok (.iand, 1) := by decide +kernel
theorem dX8_append_114 : decode cX8_append 114 = .ok (.iastore, 1) := by decide +kernel
theorem dX8_append_115 : decode cX8_append 115 = .ok (.aload_n 0, 1) := by decide +kernel
theorem dX8_append_116 : decode cX8_append 116 = .ok (.dup, 1) := by decide +kernel
theorem dX8_append_117 : decode cX8_append 117 = .ok (.getfield 49, 3) := by decide +kernel
theorem dX8_append_120 : decode cX8_append 120 = .ok (.iconst 1, 1) := by decide +kernel
theorem dX8_append_121 : decode cX8_append 121 = .ok (.iadd, 1) := by decide +kernel
theorem dX8_append_122 : decode cX8_append 122 = .ok (.putfield 49, 3) := by decide +kernel
theorem dX8_append_125 : decode cX8_append 125 = .ok (.iinc 6 1, 3) := by decide +kernel
theorem dX8_append_128 : decode cX8_append 128 = .ok (.goto (-94), 3) := by decide +kernel
theorem dX8_append_131 : decode cX8_append 131 = .ok (.aload_n 0, 1) := by decide +kernel
theorem dX8_append_132 : decode cX8_append 132 = .ok (.getfield 49, 3) := by decide +kernel
theorem dX8_append_135 : decode cX8_append 135 = .ok (.ireturn, 1) := by decide +kernel
