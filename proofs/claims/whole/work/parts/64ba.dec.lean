theorem dX8_says_0 : decode cX8_says 0 = .ok (.aload_n 0, 1) := by decide +kernel
theorem dX8_says_1 : decode cX8_says 1 = .ok (.getfield 27, 3) := by decide +kernel
theorem dX8_says_4 : decode cX8_says 4 = .ok (.aload_n 0, 1) := by decide +kernel
theorem dX8_says_5 : decode cX8_says 5 = .ok (.getfield 366, 3) := by decide +kernel
theorem dX8_says_8 : decode cX8_says 8 = .ok (.iload_n 1, 1) := by decide +kernel
theorem dX8_says_9 : decode cX8_says 9 = .ok (.iastore, 1) := by decide +kernel
theorem dX8_says_10 : decode cX8_says 10 = .ok (.aload_n 0, 1) := by decide +kernel
theorem dX8_says_11 : decode cX8_says 11 = .ok (.dup, 1) := by decide +kernel
theorem dX8_says_12 : decode cX8_says 12 = .ok (.getfield 366, 3) := by decide +kernel
theorem dX8_says_15 : decode cX8_says 15 = .ok (.iconst 1, 1) := by decide +kernel
theorem dX8_says_16 : decode cX8_says 16 = .ok (.iadd, 1) := by decide +kernel
theorem dX8_says_17 : decode cX8_says 17 = .ok (.putfield 366, 3) := by decide +kernel
theorem dX8_says_20 : decode cX8_says 20 = .ok (.return_, 1) := by decide +kernel
set_option maxRecDepth 20000 in
theorem ggX8_writtenByte_X8_isIn : GoodIn wsX8_writtenByte wsX8_isIn := goodIn_r _ [7] (by decide +kernel) (by decide +kernel)
set_option maxRecDepth 20000 in
theorem gX8_writtenByte_X8_isIn : GoodIn wsX8_writtenByte (va_wsS RX8 59 yX8_isIn wsX8_isIn) := goodIn_app (goodIn_of _ (by decide +kernel)) ggX8_writtenByte_X8_isIn
theorem dX8_writtenByte_0 : decode cX8_writtenByte 0 = .ok (.aload_n 0, 1) := by decide +kernel
theorem dX8_writtenByte_1 : decode cX8_writtenByte 1 = .ok (.iload_n 1, 1) := by decide +kernel
theorem dX8_writtenByte_2 : decode cX8_writtenByte 2 = .ok (.i2l, 1) := by decide +kernel
theorem dX8_writtenByte_3 : decode cX8_writtenByte 3 = .ok (.lconst 0, 1) := by decide +kernel
theorem dX8_writtenByte_4 : decode cX8_writtenByte 4 = .ok (.aload_n 0, 1) := by decide +kernel
theorem dX8_writtenByte_5 : decode cX8_writtenByte 5 = .ok (.getfield 366, 3) := by decide +kernel
theorem dX8_writtenByte_8 : decode cX8_writtenByte 8 = .ok (.iconst 1, 1) := by decide +kernel
theorem dX8_writtenByte_9 : decode cX8_writtenByte 9 = .ok (.isub, 1) := by decide +kernel
theorem dX8_writtenByte_10 : decode cX8_writtenByte 10 = .ok (.i2l, 1) := by decide +kernel
theorem dX8_writtenByte_11 : decode cX8_writtenByte 11 = .ok (.invokestatic 59, 3) := by decide +kernel
theorem dX8_writtenByte_14 : decode cX8_writtenByte 14 = .ok (.ifCond .eq 7, 3) := by decide +kernel
theorem dX8_writtenByte_17 : decode cX8_writtenByte 17 = .ok (.iconst 0, 1) := by decide +kernel
theorem dX8_writtenByte_18 : decode cX8_writtenByte 18 = .ok (.goto 4, 3) := by decide +kernel
theorem dX8_writtenByte_21 : decode cX8_writtenByte 21 = .ok (.iconst 1, 1) := by decide +kernel
theorem dX8_writtenByte_22 : decode cX8_writtenByte 22 = .ok (.putfield 43, 3) := by decide +kernel
theorem dX8_writtenByte_25 : decode cX8_writtenByte 25 = .ok (.aload_n 0, 1) := by decide +kernel
theorem dX8_writtenByte_26 : decode cX8_writtenByte 26 = .ok (.getfield 43, 3) := by decide +kernel
theorem dX8_writtenByte_29 : decode cX8_writtenByte 29 = .ok (.ifCond .le 7, 3) := by decide +kernel
theorem dX8_writtenByte_32 : decode cX8_writtenByte 32 = .ok (.iconst 0, 1) := by decide +kernel
theorem dX8_writtenByte_33 : decode cX8_writtenByte 33 = .ok (.goto 9, 3) := by decide +kernel
theorem dX8_writtenByte_36 : decode cX8_writtenByte 36 = .ok (.aload_n 0, 1) := by decide +kernel
theorem dX8_writtenByte_37 : decode cX8_writtenByte 37 = .ok (.getfield 27, 3) := by decide +kernel
theorem dX8_writtenByte_40 : decode cX8_writtenByte 40 = .ok (.iload_n 1, 1) := by decide +kernel
theorem dX8_writtenByte_41 : decode cX8_writtenByte 41 = .ok (.iaload, 1) := by decide +kernel
theorem dX8_writtenByte_42 : decode cX8_writtenByte 42 = .ok (.ireturn, 1) := by decide +kernel
