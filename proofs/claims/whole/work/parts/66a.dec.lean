set_option maxRecDepth 20000 in
theorem ggX7_append_X1_putFour : GoodIn wsX7_append wsX1_putFour := goodIn_r _ [9, 10, 11, 12, 8, 13, 14, 15, 23, 24] (by decide +kernel) (by decide +kernel)
set_option maxRecDepth 20000 in
theorem gX7_append_X1_putFour : GoodIn wsX7_append (wsV RX7 50 RX1 yX1_putFour wsX1_putFour) := goodIn_app (goodIn_of _ (by decide +kernel)) ggX7_append_X1_putFour
theorem dX7_append_0 : decode cX7_append 0 = .ok (.aload_n 0, 1) := by decide +kernel
theorem dX7_append_1 : decode cX7_append 1 = .ok (.getfield 23, 3) := by decide +kernel
theorem dX7_append_4 : decode cX7_append 4 = .ok (.getfield 39, 3) := by decide +kernel
theorem dX7_append_7 : decode cX7_append 7 = .ok (.sipush 880, 3) := by decide +kernel
theorem dX7_append_10 : decode cX7_append 10 = .ok (.if_icmp .le 13, 3) := by decide +kernel
theorem dX7_append_13 : decode cX7_append 13 = .ok (.new 43, 3) := by decide +kernel
theorem dX7_append_16 : decode cX7_append 16 = .ok (.dup, 1) := by decide +kernel
theorem dX7_append_17 : decode cX7_append 17 = .ok (.ldc 45, 2) := by decide +kernel
theorem dX7_append_19 : decode cX7_append 19 = .ok (.invokespecial 47, 3) := by decide +kernel
theorem dX7_append_22 : decode cX7_append 22 = .ok (.athrow, 1) := by decide +kernel
theorem dX7_append_23 : decode cX7_append 23 = .ok (.aload_n 0, 1) := by decide +kernel
theorem dX7_append_24 : decode cX7_append 24 = .ok (.getfield 23, 3) := by decide +kernel
theorem dX7_append_27 : decode cX7_append 27 = .ok (.iload_n 1, 1) := by decide +kernel
theorem dX7_append_28 : decode cX7_append 28 = .ok (.invokevirtual 50, 3) := by decide +kernel
theorem dX7_append_31 : decode cX7_append 31 = .ok (.aload_n 0, 1) := by decide +kernel
theorem dX7_append_32 : decode cX7_append 32 = .ok (.getfield 23, 3) := by decide +kernel
theorem dX7_append_35 : decode cX7_append 35 = .ok (.iload_n 2, 1) := by decide +kernel
theorem dX7_append_36 : decode cX7_append 36 = .ok (.invokevirtual 50, 3) := by decide +kernel
theorem dX7_append_39 : decode cX7_append 39 = .ok (.aload_n 0, 1) := by decide +kernel
theorem dX7_append_40 : decode cX7_append 40 = .ok (.getfield 23, 3) := by decide +kernel
theorem dX7_append_43 : decode cX7_append 43 = .ok (.iload_n 3, 1) := by decide +kernel
theorem dX7_append_44 : decode cX7_append 44 = .ok (.invokevirtual 50, 3) := by decide +kernel
theorem dX7_append_47 : decode cX7_append 47 = .ok (.aload_n 0, 1) := by decide +kernel
theorem dX7_append_48 : decode cX7_append 48 = .ok (.getfield 23, 3) := by decide +kernel
theorem dX7_append_51 : decode cX7_append 51 = .ok (.iload 4, 2) := by decide +kernel
theorem dX7_append_53 : decode cX7_append 53 = .ok (.invokevirtual 50, 3) := by decide +kernel
theorem dX7_append_56 : decode cX7_append 56 = .ok (.aload_n 0, 1) := by decide +kernel
theorem dX7_append_57 : decode cX7_append 57 = .ok (.getfield 23, 3) := by decide +kernel
theorem dX7_append_60 : decode cX7_append 60 = .ok (.iload 5, 2) := by decide +kernel
theorem dX7_append_62 : decode cX7_append 62 = .ok (.invokevirtual 50, 3) := by decide +kernel
theorem dX7_append_65 : decode cX7_append 65 = .ok (.aload_n 0, 1) := by decide +kernel
theorem dX7_append_66 : decode cX7_append 66 = .ok (.getfield 23, 3) := by decide +kernel
theorem dX7_append_69 : decode cX7_append 69 = .ok (.getfield 39, 3) := by decide +kernel
theorem dX7_append_72 : decode cX7_append 72 = .ok (.ireturn, 1) := by decide +kernel
