set_option maxRecDepth 20000 in
theorem ggX0_init_X0_clear : GoodIn wsX0_init wsX0_clear := goodIn_r _ [13, 5, 6, 7, 8, 14, 15, 16, 17] (by decide +kernel) (by decide +kernel)
set_option maxRecDepth 20000 in
theorem gX0_init_X0_clear : GoodIn wsX0_init (wsV RX0 24 RX0 yX0_clear wsX0_clear) := goodIn_app (goodIn_of _ (by decide +kernel)) ggX0_init_X0_clear
theorem dX0_init_0 : decode cX0_init 0 = .ok (.aload_n 0, 1) := by decide +kernel
theorem dX0_init_1 : decode cX0_init 1 = .ok (.invokespecial 3, 3) := by decide +kernel
theorem dX0_init_4 : decode cX0_init 4 = .ok (.aload_n 0, 1) := by decide +kernel
theorem dX0_init_5 : decode cX0_init 5 = .ok (.bipush 16, 2) := by decide +kernel
theorem dX0_init_7 : decode cX0_init 7 = .ok (.newarray .int, 2) := by decide +kernel
theorem dX0_init_9 : decode cX0_init 9 = .ok (.putfield 9, 3) := by decide +kernel
theorem dX0_init_12 : decode cX0_init 12 = .ok (.aload_n 0, 1) := by decide +kernel
theorem dX0_init_13 : decode cX0_init 13 = .ok (.bipush 16, 2) := by decide +kernel
theorem dX0_init_15 : decode cX0_init 15 = .ok (.newarray .int, 2) := by decide +kernel
theorem dX0_init_17 : decode cX0_init 17 = .ok (.putfield 15, 3) := by decide +kernel
theorem dX0_init_20 : decode cX0_init 20 = .ok (.aload_n 0, 1) := by decide +kernel
theorem dX0_init_21 : decode cX0_init 21 = .ok (.bipush 16, 2) := by decide +kernel
theorem dX0_init_23 : decode cX0_init 23 = .ok (.newarray .int, 2) := by decide +kernel
theorem dX0_init_25 : decode cX0_init 25 = .ok (.putfield 18, 3) := by decide +kernel
theorem dX0_init_28 : decode cX0_init 28 = .ok (.aload_n 0, 1) := by decide +kernel
theorem dX0_init_29 : decode cX0_init 29 = .ok (.bipush 16, 2) := by decide +kernel
theorem dX0_init_31 : decode cX0_init 31 = .ok (.newarray .int, 2) := by decide +kernel
theorem dX0_init_33 : decode cX0_init 33 = .ok (.putfield 21, 3) := by decide +kernel
theorem dX0_init_36 : decode cX0_init 36 = .ok (.aload_n 0, 1) := by decide +kernel
theorem dX0_init_37 : decode cX0_init 37 = .ok (.invokevirtual 24, 3) := by decide +kernel
theorem dX0_init_40 : decode cX0_init 40 = .ok (.return_, 1) := by decide +kernel
theorem dX0_clear_0 : decode cX0_clear 0 = .ok (.iconst 0, 1) := by decide +kernel
theorem dX0_clear_1 : decode cX0_clear 1 = .ok (.istore_n 1, 1) := by decide +kernel
theorem dX0_clear_2 : decode cX0_clear 2 = .ok (.iload_n 1, 1) := by decide +kernel
theorem dX0_clear_3 : decode cX0_clear 3 = .ok (.bipush 16, 2) := by decide +kernel
theorem dX0_clear_5 : decode cX0_clear 5 = .ok (.if_icmp .ge 37, 3) := by decide +kernel
theorem dX0_clear_8 : decode cX0_clear 8 = .ok (.aload_n 0, 1) := by decide +kernel
theorem dX0_clear_9 : decode cX0_clear 9 = .ok (.getfield 9, 3) := by decide +kernel
theorem dX0_clear_12 : decode cX0_clear 12 = .ok (.iload_n 1, 1) := by decide +kernel
theorem dX0_clear_13 : decode cX0_clear 13 = .ok (.iconst 0, 1) := by decide +kernel
theorem dX0_clear_14 : decode cX0_clear 14 = .ok (.iastore, 1) := by decide +kernel
theorem dX0_clear_15 : decode cX0_clear 15 = .ok (.aload_n 0, 1) := by decide +kernel
theorem dX0_clear_16 : decode cX0_clear 16 = .ok (.getfield 15, 3) := by decide +kernel
theorem dX0_clear_19 : decode cX0_clear 19 = .ok (.iload_n 1, 1) := by decide +kernel
theorem dX0_clear_20 : decode cX0_clear 20 = .ok (.iconst 0, 1) := by decide +kernel
theorem dX0_clear_21 : decode cX0_clear 21 = .ok (.iastore, 1) := by decide +kernel
theorem dX0_clear_22 : decode cX0_clear 22 = .ok (.aload_n 0, 1) := by decide +kernel
theorem dX0_clear_23 : decode cX0_clear 23 = .ok (.getfield 18, 3) := by decide +kernel
theorem dX0_clear_26 : decode cX0_clear 26 = .ok (.iload_n 1, 1) := by decide +kernel
theorem dX0_clear_27 : decode cX0_clear 27 = .ok (.iconst 0, 1) := by decide +kernel
theorem dX0_clear_28 : decode cX0_clear 28 = .ok (.iastore, 1) := by decide +kernel
theorem dX0_clear_29 : decode cX0_clear 29 = .ok (.aload_n 0, 1) := by decide +kernel
theorem dX0_clear_30 : decode cX0_clear 30 = .ok (.getfield 21, 3) := by decide +kernel
theorem dX0_clear_33 : decode cX0_clear 33 = .ok (.iload_n 1, 1) := by decide +kernel
theorem dX0_clear_34 : decode cX0_clear 34 = .ok (.iconst (-1), 1) := by decide +kernel
theorem dX0_clear_35 : decode cX0_clear 35 = .ok (.iastore, 1) := by decide +kernel
theorem dX0_clear_36 : decode cX0_clear 36 = .ok (.iinc 1 1, 3) := by decide +kernel
theorem dX0_clear_39 : decode cX0_clear 39 = .ok (.goto (-37), 3) := by decide +kernel
theorem dX0_clear_42 : decode cX0_clear 42 = .ok (.return_, 1) := by decide +kernel
theorem dX0_copyFrom_0 : decode cX0_copyFrom 0 = .ok (.aload_n 1, 1) := by decide +kernel
theorem dX0_copyFrom_1 : decode cX0_copyFrom 1 = .ok (.getfield 9, 3) := by decide +kernel
theorem dX0_copyFrom_4 : decode cX0_copyFrom 4 = .ok (.iconst 0, 1) := by decide +kernel
theorem dX0_copyFrom_5 : decode cX0_copyFrom 5 = .ok (.aload_n 0, 1) := by decide +kernel
theorem dX0_copyFrom_6 : decode cX0_copyFrom 6 = .ok (.getfield 9, 3) := by decide +kernel
theorem dX0_copyFrom_9 : decode cX0_copyFrom 9 = .ok (.iconst 0, 1) := by decide +kernel
theorem dX0_copyFrom_10 : decode cX0_copyFrom 10 = .ok (.bipush 16, 2) := by decide +kernel
theorem dX0_copyFrom_12 : decode cX0_copyFrom 12 = .ok (.invokestatic 27, 3) := by decide +kernel
theorem dX0_copyFrom_15 : decode cX0_copyFrom 15 = .ok (.aload_n 1, 1) := by decide +kernel
theorem dX0_copyFrom_16 : decode cX0_copyFrom 16 = .ok (.getfield 15, 3) := by decide +kernel
theorem dX0_copyFrom_19 : decode cX0_copyFrom 19 = .ok (.iconst 0, 1) := by decide +kernel
theorem dX0_copyFrom_20 : decode cX0_copyFrom 20 = .ok (.aload_n 0, 1) := by decide +kernel
theorem dX0_copyFrom_21 : decode cX0_copyFrom 21 = .ok (.getfield 15, 3) := by decide +kernel
theorem dX0_copyFrom_24 : decode cX0_copyFrom 24 = .ok (.iconst 0, 1) := by decide +kernel
theorem dX0_copyFrom_25 : decode cX0_copyFrom 25 = .ok (.bipush 16, 2) := by decide +kernel
theorem dX0_copyFrom_27 : decode cX0_copyFrom 27 = .ok (.invokestatic 27, 3) := by decide +kernel
theorem dX0_copyFrom_30 : decode cX0_copyFrom 30 = .ok (.aload_n 1, 1) := by decide +kernel
theorem dX0_copyFrom_31 : decode cX0_copyFrom 31 = .ok (.getfield 18, 3) := by decide +kernel
theorem dX0_copyFrom_34 : decode cX0_copyFrom 34 = .ok (.iconst 0, 1) := by decide +kernel
theorem dX0_copyFrom_35 : decode cX0_copyFrom 35 = .ok (.aload_n 0, 1) := by decide +kernel
theorem dX0_copyFrom_36 : decode cX0_copyFrom 36 = .ok (.getfield 18, 3) := by decide +kernel
theorem dX0_copyFrom_39 : decode cX0_copyFrom 39 = .ok (.iconst 0, 1) := by decide +kernel
theorem dX0_copyFrom_40 : decode cX0_copyFrom 40 = .ok (.bipush 16, 2) := by decide +kernel
theorem dX0_copyFrom_42 : decode cX0_copyFrom 42 = .ok (.invokestatic 27, 3) := by decide +kernel
theorem dX0_copyFrom_45 : decode cX0_copyFrom 45 = .ok (.aload_n 1, 1) := by decide +kernel
theorem dX0_copyFrom_46 : decode cX0_copyFrom 46 = .ok (.getfield 21, 3) := by decide +kernel
theorem dX0_copyFrom_49 : decode cX0_copyFrom 49 = .ok (.iconst 0, 1) := by decide +kernel
theorem dX0_copyFrom_50 : decode cX0_copyFrom 50 = .ok (.aload_n 0, 1) := by decide +kernel
theorem dX0_copyFrom_51 : decode cX0_copyFrom 51 = .ok (.getfield 21, 3) := by decide +kernel
theorem dX0_copyFrom_54 : decode cX0_copyFrom 54 = .ok (.iconst 0, 1) := by decide +kernel
theorem dX0_copyFrom_55 : decode cX0_copyFrom 55 = .ok (.bipush 16, 2) := by decide +kernel
theorem dX0_copyFrom_57 : decode cX0_copyFrom 57 = .ok (.invokestatic 27, 3) := by decide +kernel
theorem dX0_copyFrom_60 : decode cX0_copyFrom 60 = .ok (.return_, 1) := by decide +kernel
theorem dX0_amountOf_0 : decode cX0_amountOf 0 = .ok (.iload_n 1, 1) := by decide +kernel
theorem dX0_amountOf_1 : decode cX0_amountOf 1 = .ok (.ifCond .lt 18, 3) := by decide +kernel
theorem dX0_amountOf_4 : decode cX0_amountOf 4 = .ok (.iload_n 1, 1) := by decide +kernel
theorem dX0_amountOf_5 : decode cX0_amountOf 5 = .ok (.bipush 16, 2) := by decide +kernel
theorem dX0_amountOf_7 : decode cX0_amountOf 7 = .ok (.if_icmp .ge 12, 3) := by decide +kernel
theorem dX0_amountOf_10 : decode cX0_amountOf 10 = .ok (.aload_n 0, 1) := by decide +kernel
theorem dX0_amountOf_11 : decode cX0_amountOf 11 = .ok (.getfield 9, 3) := by decide +kernel
theorem dX0_amountOf_14 : decode cX0_amountOf 14 = .ok (.iload_n 1, 1) := by decide +kernel
theorem dX0_amountOf_15 : decode cX0_amountOf 15 = .ok (.iaload, 1) := by decide +kernel
theorem dX0_amountOf_16 : decode cX0_amountOf 16 = .ok (.goto 4, 3) := by decide +kernel
theorem dX0_amountOf_19 : decode cX0_amountOf 19 = .ok (.iconst 0, 1) := by decide +kernel
theorem dX0_amountOf_20 : decode cX0_amountOf 20 = .ok (.ireturn, 1) := by decide +kernel
theorem dX0_setAmount_0 : decode cX0_setAmount 0 = .ok (.iload_n 1, 1) := by decide +kernel
theorem dX0_setAmount_1 : decode cX0_setAmount 1 = .ok (.ifCond .lt 16, 3) := by decide +kernel
theorem dX0_setAmount_4 : decode cX0_setAmount 4 = .ok (.iload_n 1, 1) := by decide +kernel
theorem dX0_setAmount_5 : decode cX0_setAmount 5 = .ok (.bipush 16, 2) := by decide +kernel
theorem dX0_setAmount_7 : decode cX0_setAmount 7 = .ok (.if_icmp .ge 10, 3) := by decide +kernel
theorem dX0_setAmount_10 : decode cX0_setAmount 10 = .ok (.aload_n 0, 1) := by decide +kernel
theorem dX0_setAmount_11 : decode cX0_setAmount 11 = .ok (.getfield 9, 3) := by decide +kernel
theorem dX0_setAmount_14 : decode cX0_setAmount 14 = .ok (.iload_n 1, 1) := by decide +kernel
theorem dX0_setAmount_15 : decode cX0_setAmount 15 = .ok (.iload_n 2, 1) := by decide +kernel
theorem dX0_setAmount_16 : decode cX0_setAmount 16 = .ok (.iastore, 1) := by decide +kernel
theorem dX0_setAmount_17 : decode cX0_setAmount 17 = .ok (.return_, 1) := by decide +kernel
theorem dX0_limitOf_0 : decode cX0_limitOf 0 = .ok (.iload_n 2, 1) := by decide +kernel
theorem dX0_limitOf_1 : decode cX0_limitOf 1 = .ok (.ifCond .eq 10, 3) := by decide +kernel
theorem dX0_limitOf_4 : decode cX0_limitOf 4 = .ok (.aload_n 0, 1) := by decide +kernel
theorem dX0_limitOf_5 : decode cX0_limitOf 5 = .ok (.getfield 18, 3) := by decide +kernel
theorem dX0_limitOf_8 : decode cX0_limitOf 8 = .ok (.goto 7, 3) := by decide +kernel
theorem dX0_limitOf_11 : decode cX0_limitOf 11 = .ok (.aload_n 0, 1) := by decide +kernel
theorem dX0_limitOf_12 : decode cX0_limitOf 12 = .ok (.getfield 15, 3) := by decide +kernel
theorem dX0_limitOf_15 : decode cX0_limitOf 15 = .ok (.astore_n 3, 1) := by decide +kernel
theorem dX0_limitOf_16 : decode cX0_limitOf 16 = .ok (.iload_n 1, 1) := by decide +kernel
theorem dX0_limitOf_17 : decode cX0_limitOf 17 = .ok (.ifCond .lt 15, 3) := by decide +kernel
theorem dX0_limitOf_20 : decode cX0_limitOf 20 = .ok (.iload_n 1, 1) := by decide +kernel
theorem dX0_limitOf_21 : decode cX0_limitOf 21 = .ok (.bipush 16, 2) := by decide +kernel
theorem dX0_limitOf_23 : decode cX0_limitOf 23 = .ok (.if_icmp .ge 9, 3) := by decide +kernel
theorem dX0_limitOf_26 : decode cX0_limitOf 26 = .ok (.aload_n 3, 1) := by decide +kernel
theorem dX0_limitOf_27 : decode cX0_limitOf 27 = .ok (.iload_n 1, 1) := by decide +kernel
theorem dX0_limitOf_28 : decode cX0_limitOf 28 = .ok (.iaload, 1) := by decide +kernel
theorem dX0_limitOf_29 : decode cX0_limitOf 29 = .ok (.goto 4, 3) := by decide +kernel
theorem dX0_limitOf_32 : decode cX0_limitOf 32 = .ok (.iconst 0, 1) := by decide +kernel
theorem dX0_limitOf_33 : decode cX0_limitOf 33 = .ok (.ireturn, 1) := by decide +kernel
set_option maxRecDepth 20000 in
theorem ggX0_hasLimit_X0_limitOf : GoodIn wsX0_hasLimit wsX0_limitOf := goodIn_r _ [5, 6, 7, 8, 9, 10, 11] (by decide +kernel) (by decide +kernel)
set_option maxRecDepth 20000 in
theorem gX0_hasLimit_X0_limitOf : GoodIn wsX0_hasLimit (wsV RX0 33 RX0 yX0_limitOf wsX0_limitOf) := goodIn_app (goodIn_of _ (by decide +kernel)) ggX0_hasLimit_X0_limitOf
theorem dX0_hasLimit_0 : decode cX0_hasLimit 0 = .ok (.aload_n 0, 1) := by decide +kernel
theorem dX0_hasLimit_1 : decode cX0_hasLimit 1 = .ok (.iload_n 1, 1) := by decide +kernel
theorem dX0_hasLimit_2 : decode cX0_hasLimit 2 = .ok (.iconst 0, 1) := by decide +kernel
theorem dX0_hasLimit_3 : decode cX0_hasLimit 3 = .ok (.invokevirtual 33, 3) := by decide +kernel
theorem dX0_hasLimit_6 : decode cX0_hasLimit 6 = .ok (.ifCond .gt 12, 3) := by decide +kernel
theorem dX0_hasLimit_9 : decode cX0_hasLimit 9 = .ok (.aload_n 0, 1) := by decide +kernel
theorem dX0_hasLimit_10 : decode cX0_hasLimit 10 = .ok (.iload_n 1, 1) := by decide +kernel
theorem dX0_hasLimit_11 : decode cX0_hasLimit 11 = .ok (.iconst 1, 1) := by decide +kernel
theorem dX0_hasLimit_12 : decode cX0_hasLimit 12 = .ok (.invokevirtual 33, 3) := by decide +kernel
theorem dX0_hasLimit_15 : decode cX0_hasLimit 15 = .ok (.ifCond .le 7, 3) := by decide +kernel
theorem dX0_hasLimit_18 : decode cX0_hasLimit 18 = .ok (.iconst 1, 1) := by decide +kernel
theorem dX0_hasLimit_19 : decode cX0_hasLimit 19 = .ok (.goto 4, 3) := by decide +kernel
theorem dX0_hasLimit_22 : decode cX0_hasLimit 22 = .ok (.iconst 0, 1) := by decide +kernel
theorem dX0_hasLimit_23 : decode cX0_hasLimit 23 = .ok (.ireturn, 1) := by decide +kernel
theorem dX0_setLimits_0 : decode cX0_setLimits 0 = .ok (.iload_n 1, 1) := by decide +kernel
theorem dX0_setLimits_1 : decode cX0_setLimits 1 = .ok (.ifCond .lt 23, 3) := by decide +kernel
theorem dX0_setLimits_4 : decode cX0_setLimits 4 = .ok (.iload_n 1, 1) := by decide +kernel
theorem dX0_setLimits_5 : decode cX0_setLimits 5 = .ok (.bipush 16, 2) := by decide +kernel
theorem dX0_setLimits_7 : decode cX0_setLimits 7 = .ok (.if_icmp .ge 17, 3) := by decide +kernel
theorem dX0_setLimits_10 : decode cX0_setLimits 10 = .ok (.aload_n 0, 1) := by decide +kernel
theorem dX0_setLimits_11 : decode cX0_setLimits 11 = .ok (.getfield 15, 3) := by decide +kernel
theorem dX0_setLimits_14 : decode cX0_setLimits 14 = .ok (.iload_n 1, 1) := by decide +kernel
theorem dX0_setLimits_15 : decode cX0_setLimits 15 = .ok (.iload_n 2, 1) := by decide +kernel
theorem dX0_setLimits_16 : decode cX0_setLimits 16 = .ok (.iastore, 1) := by decide +kernel
theorem dX0_setLimits_17 : decode cX0_setLimits 17 = .ok (.aload_n 0, 1) := by decide +kernel
theorem dX0_setLimits_18 : decode cX0_setLimits 18 = .ok (.getfield 18, 3) := by decide +kernel
theorem dX0_setLimits_21 : decode cX0_setLimits 21 = .ok (.iload_n 1, 1) := by decide +kernel
theorem dX0_setLimits_22 : decode cX0_setLimits 22 = .ok (.iload_n 3, 1) := by decide +kernel
theorem dX0_setLimits_23 : decode cX0_setLimits 23 = .ok (.iastore, 1) := by decide +kernel
theorem dX0_setLimits_24 : decode cX0_setLimits 24 = .ok (.return_, 1) := by decide +kernel
theorem dX0_clockOf_0 : decode cX0_clockOf 0 = .ok (.iload_n 1, 1) := by decide +kernel
theorem dX0_clockOf_1 : decode cX0_clockOf 1 = .ok (.ifCond .lt 18, 3) := by decide +kernel
theorem dX0_clockOf_4 : decode cX0_clockOf 4 = .ok (.iload_n 1, 1) := by decide +kernel
theorem dX0_clockOf_5 : decode cX0_clockOf 5 = .ok (.bipush 16, 2) := by decide +kernel
theorem dX0_clockOf_7 : decode cX0_clockOf 7 = .ok (.if_icmp .ge 12, 3) := by decide +kernel
theorem dX0_clockOf_10 : decode cX0_clockOf 10 = .ok (.aload_n 0, 1) := by decide +kernel
theorem dX0_clockOf_11 : decode cX0_clockOf 11 = .ok (.getfield 21, 3) := by decide +kernel
theorem dX0_clockOf_14 : decode cX0_clockOf 14 = .ok (.iload_n 1, 1) := by decide +kernel
theorem dX0_clockOf_15 : decode cX0_clockOf 15 = .ok (.iaload, 1) := by decide +kernel
theorem dX0_clockOf_16 : decode cX0_clockOf 16 = .ok (.goto 4, 3) := by decide +kernel
theorem dX0_clockOf_19 : decode cX0_clockOf 19 = .ok (.iconst (-1), 1) := by decide +kernel
theorem dX0_clockOf_20 : decode cX0_clockOf 20 = .ok (.ireturn, 1) := by decide +kernel
theorem dX0_setClock_0 : decode cX0_setClock 0 = .ok (.iload_n 1, 1) := by decide +kernel
theorem dX0_setClock_1 : decode cX0_setClock 1 = .ok (.ifCond .lt 16, 3) := by decide +kernel
theorem dX0_setClock_4 : decode cX0_setClock 4 = .ok (.iload_n 1, 1) := by decide +kernel
theorem dX0_setClock_5 : decode cX0_setClock 5 = .ok (.bipush 16, 2) := by decide +kernel
theorem dX0_setClock_7 : decode cX0_setClock 7 = .ok (.if_icmp .ge 10, 3) := by decide +kernel
theorem dX0_setClock_10 : decode cX0_setClock 10 = .ok (.aload_n 0, 1) := by decide +kernel
theorem dX0_setClock_11 : decode cX0_setClock 11 = .ok (.getfield 21, 3) := by decide +kernel
theorem dX0_setClock_14 : decode cX0_setClock 14 = .ok (.iload_n 1, 1) := by decide +kernel
theorem dX0_setClock_15 : decode cX0_setClock 15 = .ok (.iload_n 2, 1) := by decide +kernel
theorem dX0_setClock_16 : decode cX0_setClock 16 = .ok (.iastore, 1) := by decide +kernel
theorem dX0_setClock_17 : decode cX0_setClock 17 = .ok (.return_, 1) := by decide +kernel
set_option maxRecDepth 20000 in
theorem ggX0_add_X0_amountOf : GoodIn wsX0_add wsX0_amountOf := goodIn_r _ [9, 10, 15, 16, 17, 18] (by decide +kernel) (by decide +kernel)
set_option maxRecDepth 20000 in
theorem gX0_add_X0_amountOf : GoodIn wsX0_add (wsV RX0 37 RX0 yX0_amountOf wsX0_amountOf) := goodIn_app (goodIn_of _ (by decide +kernel)) ggX0_add_X0_amountOf
set_option maxRecDepth 20000 in
theorem ggX0_add_X0_setAmount : GoodIn wsX0_add wsX0_setAmount := goodIn_r _ [14, 10, 15, 16, 17, 18] (by decide +kernel) (by decide +kernel)
set_option maxRecDepth 20000 in
theorem gX0_add_X0_setAmount : GoodIn wsX0_add (wsV RX0 47 RX0 yX0_setAmount wsX0_setAmount) := goodIn_app (goodIn_of _ (by decide +kernel)) ggX0_add_X0_setAmount
theorem dX0_add_0 : decode cX0_add 0 = .ok (.aload_n 0, 1) := by decide +kernel
theorem dX0_add_1 : decode cX0_add 1 = .ok (.iload_n 1, 1) := by decide +kernel
theorem dX0_add_2 : decode cX0_add 2 = .ok (.aload_n 0, 1) := by decide +kernel
theorem dX0_add_3 : decode cX0_add 3 = .ok (.iload_n 1, 1) := by decide +kernel
theorem dX0_add_4 : decode cX0_add 4 = .ok (.invokevirtual 37, 3) := by decide +kernel
theorem dX0_add_7 : decode cX0_add 7 = .ok (.iload_n 2, 1) := by decide +kernel
theorem dX0_add_8 : decode cX0_add 8 = .ok (.iadd, 1) := by decide +kernel
theorem dX0_add_9 : decode cX0_add 9 = .ok (.iconst 0, 1) := by decide +kernel
theorem dX0_add_10 : decode cX0_add 10 = .ok (.invokestatic 41, 3) := by decide +kernel
theorem dX0_add_13 : decode cX0_add 13 = .ok (.invokevirtual 47, 3) := by decide +kernel
theorem dX0_add_16 : decode cX0_add 16 = .ok (.return_, 1) := by decide +kernel
set_option maxRecDepth 20000 in
theorem ggX0_change_X7_accountOf : GoodIn wsX0_change wsX7_accountOf := goodIn_r _ [3] (by decide +kernel) (by decide +kernel)
set_option maxRecDepth 20000 in
theorem gX0_change_X7_accountOf_n51 : GoodIn wsX0_change (wsX7_accountOf) := ggX0_change_X7_accountOf
set_option maxRecDepth 20000 in
theorem ggX0_change_X0_add : GoodIn wsX0_change wsX0_add := goodIn_r _ [8, 9, 10, 11, 12, 13, 14, 15, 7, 16, 17, 18, 19, 20, 21, 22, 23, 24, 25] (by decide +kernel) (by decide +kernel)
set_option maxRecDepth 20000 in
theorem gX0_change_X0_add : GoodIn wsX0_change (wsV RX0 54 RX0 yX0_add wsX0_add) := goodIn_app (goodIn_of _ (by decide +kernel)) ggX0_change_X0_add
theorem dX0_change_0 : decode cX0_change 0 = .ok (.iload_n 1, 1) := by decide +kernel
theorem dX0_change_1 : decode cX0_change 1 = .ok (.iconst (-1), 1) := by decide +kernel
theorem dX0_change_2 : decode cX0_change 2 = .ok (.if_icmp .eq 23, 3) := by decide +kernel
theorem dX0_change_5 : decode cX0_change 5 = .ok (.aload_n 0, 1) := by decide +kernel
theorem dX0_change_6 : decode cX0_change 6 = .ok (.iload_n 1, 1) := by decide +kernel
theorem dX0_change_7 : decode cX0_change 7 = .ok (.iconst 0, 1) := by decide +kernel
theorem dX0_change_8 : decode cX0_change 8 = .ok (.invokestatic 51, 3) := by decide +kernel
theorem dX0_change_11 : decode cX0_change 11 = .ok (.iload_n 2, 1) := by decide +kernel
theorem dX0_change_12 : decode cX0_change 12 = .ok (.invokevirtual 54, 3) := by decide +kernel
theorem dX0_change_15 : decode cX0_change 15 = .ok (.aload_n 0, 1) := by decide +kernel
theorem dX0_change_16 : decode cX0_change 16 = .ok (.iload_n 1, 1) := by decide +kernel
theorem dX0_change_17 : decode cX0_change 17 = .ok (.iconst 1, 1) := by decide +kernel
theorem dX0_change_18 : decode cX0_change 18 = .ok (.invokestatic 51, 3) := by decide +kernel
theorem dX0_change_21 : decode cX0_change 21 = .ok (.iload_n 3, 1) := by decide +kernel
theorem dX0_change_22 : decode cX0_change 22 = .ok (.invokevirtual 54, 3) := by decide +kernel
theorem dX0_change_25 : decode cX0_change 25 = .ok (.return_, 1) := by decide +kernel
set_option maxRecDepth 20000 in
theorem ggX0_transfer_X0_change : GoodIn wsX0_transfer wsX0_change := goodIn_r _ [5, 6, 7, 8, 9, 10, 11, 4, 12, 13, 14, 15, 16, 17, 18, 19, 20, 21, 22, 23, 24, 25, 26, 27, 28, 29] (by decide +kernel) (by decide +kernel)
set_option maxRecDepth 20000 in
theorem gX0_transfer_X0_change : GoodIn wsX0_transfer (wsV RX0 57 RX0 yX0_change wsX0_change) := goodIn_app (goodIn_of _ (by decide +kernel)) ggX0_transfer_X0_change
theorem dX0_transfer_0 : decode cX0_transfer 0 = .ok (.iload_n 1, 1) := by decide +kernel
theorem dX0_transfer_1 : decode cX0_transfer 1 = .ok (.iload_n 2, 1) := by decide +kernel
theorem dX0_transfer_2 : decode cX0_transfer 2 = .ok (.if_icmp .eq 21, 3) := by decide +kernel
theorem dX0_transfer_5 : decode cX0_transfer 5 = .ok (.aload_n 0, 1) := by decide +kernel
theorem dX0_transfer_6 : decode cX0_transfer 6 = .ok (.iload_n 2, 1) := by decide +kernel
theorem dX0_transfer_7 : decode cX0_transfer 7 = .ok (.iload_n 3, 1) := by decide +kernel
theorem dX0_transfer_8 : decode cX0_transfer 8 = .ok (.iload 4, 2) := by decide +kernel
theorem dX0_transfer_10 : decode cX0_transfer 10 = .ok (.invokevirtual 57, 3) := by decide +kernel
theorem dX0_transfer_13 : decode cX0_transfer 13 = .ok (.aload_n 0, 1) := by decide +kernel
theorem dX0_transfer_14 : decode cX0_transfer 14 = .ok (.iload_n 1, 1) := by decide +kernel
theorem dX0_transfer_15 : decode cX0_transfer 15 = .ok (.iload_n 3, 1) := by decide +kernel
theorem dX0_transfer_16 : decode cX0_transfer 16 = .ok (.ineg, 1) := by decide +kernel
theorem dX0_transfer_17 : decode cX0_transfer 17 = .ok (.iload 4, 2) := by decide +kernel
theorem dX0_transfer_19 : decode cX0_transfer 19 = .ok (.ineg, 1) := by decide +kernel
theorem dX0_transfer_20 : decode cX0_transfer 20 = .ok (.invokevirtual 57, 3) := by decide +kernel
theorem dX0_transfer_23 : decode cX0_transfer 23 = .ok (.return_, 1) := by decide +kernel
theorem dX1_init_0 : decode cX1_init 0 = .ok (.aload_n 0, 1) := by decide +kernel
theorem dX1_init_1 : decode cX1_init 1 = .ok (.invokespecial 3, 3) := by decide +kernel
theorem dX1_init_4 : decode cX1_init 4 = .ok (.aload_n 0, 1) := by decide +kernel
theorem dX1_init_5 : decode cX1_init 5 = .ok (.sipush 900, 3) := by decide +kernel
theorem dX1_init_8 : decode cX1_init 8 = .ok (.newarray .byte, 2) := by decide +kernel
theorem dX1_init_10 : decode cX1_init 10 = .ok (.putfield 9, 3) := by decide +kernel
theorem dX1_init_13 : decode cX1_init 13 = .ok (.return_, 1) := by decide +kernel
theorem dX1_put_0 : decode cX1_put 0 = .ok (.aload_n 0, 1) := by decide +kernel
theorem dX1_put_1 : decode cX1_put 1 = .ok (.getfield 15, 3) := by decide +kernel
theorem dX1_put_4 : decode cX1_put 4 = .ok (.ifCond .lt 34, 3) := by decide +kernel
theorem dX1_put_7 : decode cX1_put 7 = .ok (.aload_n 0, 1) := by decide +kernel
theorem dX1_put_8 : decode cX1_put 8 = .ok (.getfield 15, 3) := by decide +kernel
theorem dX1_put_11 : decode cX1_put 11 = .ok (.sipush 900, 3) := by decide +kernel
theorem dX1_put_14 : decode cX1_put 14 = .ok (.if_icmp .ge 24, 3) := by decide +kernel
theorem dX1_put_17 : decode cX1_put 17 = .ok (.aload_n 0, 1) := by decide +kernel
theorem dX1_put_18 : decode cX1_put 18 = .ok (.getfield 9, 3) := by decide +kernel
theorem dX1_put_21 : decode cX1_put 21 = .ok (.aload_n 0, 1) := by decide +kernel
theorem dX1_put_22 : decode cX1_put 22 = .ok (.getfield 15, 3) := by decide +kernel
theorem dX1_put_25 : decode cX1_put 25 = .ok (.iload_n 1, 1) := by decide +kernel
theorem dX1_put_26 : decode cX1_put 26 = .ok (.i2b, 1) := by decide +kernel
theorem dX1_put_27 : decode cX1_put 27 = .ok (.bastore, 1) := by decide +kernel
theorem dX1_put_28 : decode cX1_put 28 = .ok (.aload_n 0, 1) := by decide +kernel
theorem dX1_put_29 : decode cX1_put 29 = .ok (.dup, 1) := by decide +kernel
theorem dX1_put_30 : decode cX1_put 30 = .ok (.getfield 15, 3) := by decide +kernel
theorem dX1_put_33 : decode cX1_put 33 = .ok (.iconst 1, 1) := by decide +kernel
theorem dX1_put_34 : decode cX1_put 34 = .ok (.iadd, 1) := by decide +kernel
theorem dX1_put_35 : decode cX1_put 35 = .ok (.putfield 15, 3) := by decide +kernel
theorem dX1_put_38 : decode cX1_put 38 = .ok (.return_, 1) := by decide +kernel
set_option maxRecDepth 20000 in
theorem ggX1_putFour_X1_put : GoodIn wsX1_putFour wsX1_put := goodIn_r _ [5, 6, 7, 8, 9] (by decide +kernel) (by decide +kernel)
set_option maxRecDepth 20000 in
theorem gX1_putFour_X1_put : GoodIn wsX1_putFour (wsV RX1 19 RX1 yX1_put wsX1_put) := goodIn_app (goodIn_of _ (by decide +kernel)) ggX1_putFour_X1_put
theorem dX1_putFour_0 : decode cX1_putFour 0 = .ok (.aload_n 0, 1) := by decide +kernel
theorem dX1_putFour_1 : decode cX1_putFour 1 = .ok (.iload_n 1, 1) := by decide +kernel
theorem dX1_putFour_2 : decode cX1_putFour 2 = .ok (.bipush 24, 2) := by decide +kernel
theorem dX1_putFour_4 : decode cX1_putFour 4 = .ok (.ishr, 1) := by decide +kernel
theorem dX1_putFour_5 : decode cX1_putFour 5 = .ok (.invokevirtual 19, 3) := by decide +kernel
theorem dX1_putFour_8 : decode cX1_putFour 8 = .ok (.aload_n 0, 1) := by decide +kernel
theorem dX1_putFour_9 : decode cX1_putFour 9 = .ok (.iload_n 1, 1) := by decide +kernel
theorem dX1_putFour_10 : decode cX1_putFour 10 = .ok (.bipush 16, 2) := by decide +kernel
theorem dX1_putFour_12 : decode cX1_putFour 12 = .ok (.ishr, 1) := by decide +kernel
theorem dX1_putFour_13 : decode cX1_putFour 13 = .ok (.invokevirtual 19, 3) := by decide +kernel
theorem dX1_putFour_16 : decode cX1_putFour 16 = .ok (.aload_n 0, 1) := by decide +kernel
theorem dX1_putFour_17 : decode cX1_putFour 17 = .ok (.iload_n 1, 1) := by decide +kernel
theorem dX1_putFour_18 : decode cX1_putFour 18 = .ok (.bipush 8, 2) := by decide +kernel
theorem dX1_putFour_20 : decode cX1_putFour 20 = .ok (.ishr, 1) := by decide +kernel
theorem dX1_putFour_21 : decode cX1_putFour 21 = .ok (.invokevirtual 19, 3) := by decide +kernel
theorem dX1_putFour_24 : decode cX1_putFour 24 = .ok (.aload_n 0, 1) := by decide +kernel
theorem dX1_putFour_25 : decode cX1_putFour 25 = .ok (.iload_n 1, 1) := by decide +kernel
theorem dX1_putFour_26 : decode cX1_putFour 26 = .ok (.invokevirtual 19, 3) := by decide +kernel
theorem dX1_putFour_29 : decode cX1_putFour 29 = .ok (.return_, 1) := by decide +kernel
set_option maxRecDepth 20000 in
theorem ggX1_putName_X1_put : GoodIn wsX1_putName wsX1_put := goodIn_r _ [6, 7, 8, 9, 10] (by decide +kernel) (by decide +kernel)
set_option maxRecDepth 20000 in
theorem gX1_putName_X1_put : GoodIn wsX1_putName (wsV RX1 19 RX1 yX1_put wsX1_put) := goodIn_app (goodIn_of _ (by decide +kernel)) ggX1_putName_X1_put
theorem dX1_putName_0 : decode cX1_putName 0 = .ok (.bipush 35, 2) := by decide +kernel
theorem dX1_putName_2 : decode cX1_putName 2 = .ok (.istore_n 3, 1) := by decide +kernel
theorem dX1_putName_3 : decode cX1_putName 3 = .ok (.iload_n 3, 1) := by decide +kernel
theorem dX1_putName_4 : decode cX1_putName 4 = .ok (.ifCond .lt 35, 3) := by decide +kernel
theorem dX1_putName_7 : decode cX1_putName 7 = .ok (.lload_n 1, 1) := by decide +kernel
theorem dX1_putName_8 : decode cX1_putName 8 = .ok (.iload_n 3, 1) := by decide +kernel
theorem dX1_putName_9 : decode cX1_putName 9 = .ok (.lshr, 1) := by decide +kernel
theorem dX1_putName_10 : decode cX1_putName 10 = .ok (.ldc2_w 23, 3) := by decide +kernel
theorem dX1_putName_13 : decode cX1_putName 13 = .ok (.land, 1) := by decide +kernel
theorem dX1_putName_14 : decode cX1_putName 14 = .ok (.l2i, 1) := by decide +kernel
theorem dX1_putName_15 : decode cX1_putName 15 = .ok (.istore 4, 2) := by decide +kernel
theorem dX1_putName_17 : decode cX1_putName 17 = .ok (.iload 4, 2) := by decide +kernel
theorem dX1_putName_19 : decode cX1_putName 19 = .ok (.ifCond .le 14, 3) := by decide +kernel
theorem dX1_putName_22 : decode cX1_putName 22 = .ok (.aload_n 0, 1) := by decide +kernel
theorem dX1_putName_23 : decode cX1_putName 23 = .ok (.bipush 97, 2) := by decide +kernel
theorem dX1_putName_25 : decode cX1_putName 25 = .ok (.iload 4, 2) := by decide +kernel
theorem dX1_putName_27 : decode cX1_putName 27 = .ok (.iadd, 1) := by decide +kernel
theorem dX1_putName_28 : decode cX1_putName 28 = .ok (.iconst 1, 1) := by decide +kernel
theorem dX1_putName_29 : decode cX1_putName 29 = .ok (.isub, 1) := by decide +kernel
theorem dX1_putName_30 : decode cX1_putName 30 = .ok (.invokevirtual 19, 3) := by decide +kernel
theorem dX1_putName_33 : decode cX1_putName 33 = .ok (.iinc 3 (-5), 3) := by decide +kernel
theorem dX1_putName_36 : decode cX1_putName 36 = .ok (.goto (-33), 3) := by decide +kernel
theorem dX1_putName_39 : decode cX1_putName 39 = .ok (.return_, 1) := by decide +kernel
set_option maxRecDepth 20000 in
theorem ggX1_putNumber_X1_put : GoodIn wsX1_putNumber wsX1_put := goodIn_r _ [6, 7, 8, 9, 10] (by decide +kernel) (by decide +kernel)
set_option maxRecDepth 20000 in
theorem gX1_putNumber_X1_put : GoodIn wsX1_putNumber (wsV RX1 19 RX1 yX1_put wsX1_put) := goodIn_app (goodIn_of _ (by decide +kernel)) ggX1_putNumber_X1_put
theorem dX1_putNumber_0 : decode cX1_putNumber 0 = .ok (.iconst 0, 1) := by decide +kernel
theorem dX1_putNumber_1 : decode cX1_putNumber 1 = .ok (.istore_n 2, 1) := by decide +kernel
theorem dX1_putNumber_2 : decode cX1_putNumber 2 = .ok (.ldc 25, 2) := by decide +kernel
theorem dX1_putNumber_4 : decode cX1_putNumber 4 = .ok (.istore_n 3, 1) := by decide +kernel
theorem dX1_putNumber_5 : decode cX1_putNumber 5 = .ok (.iload_n 3, 1) := by decide +kernel
theorem dX1_putNumber_6 : decode cX1_putNumber 6 = .ok (.ifCond .le 52, 3) := by decide +kernel
theorem dX1_putNumber_9 : decode cX1_putNumber 9 = .ok (.iload_n 1, 1) := by decide +kernel
theorem dX1_putNumber_10 : decode cX1_putNumber 10 = .ok (.iload_n 3, 1) := by decide +kernel
theorem dX1_putNumber_11 : decode cX1_putNumber 11 = .ok (.idiv, 1) := by decide +kernel
theorem dX1_putNumber_12 : decode cX1_putNumber 12 = .ok (.bipush 10, 2) := by decide +kernel
theorem dX1_putNumber_14 : decode cX1_putNumber 14 = .ok (.irem, 1) := by decide +kernel
theorem dX1_putNumber_15 : decode cX1_putNumber 15 = .ok (.istore 4, 2) := by decide +kernel
theorem dX1_putNumber_17 : decode cX1_putNumber 17 = .ok (.iload_n 2, 1) := by decide +kernel
theorem dX1_putNumber_18 : decode cX1_putNumber 18 = .ok (.ifCond .ne 13, 3) := by decide +kernel
theorem dX1_putNumber_21 : decode cX1_putNumber 21 = .ok (.iload 4, 2) := by decide +kernel
theorem dX1_putNumber_23 : decode cX1_putNumber 23 = .ok (.ifCond .gt 8, 3) := by decide +kernel
theorem dX1_putNumber_26 : decode cX1_putNumber 26 = .ok (.iload_n 3, 1) := by decide +kernel
theorem dX1_putNumber_27 : decode cX1_putNumber 27 = .ok (.iconst 1, 1) := by decide +kernel
theorem dX1_putNumber_28 : decode cX1_putNumber 28 = .ok (.if_icmp .ne 7, 3) := by decide +kernel
theorem dX1_putNumber_31 : decode cX1_putNumber 31 = .ok (.iconst 1, 1) := by decide +kernel
theorem dX1_putNumber_32 : decode cX1_putNumber 32 = .ok (.goto 4, 3) := by decide +kernel
theorem dX1_putNumber_35 : decode cX1_putNumber 35 = .ok (.iconst 0, 1) := by decide +kernel
theorem dX1_putNumber_36 : decode cX1_putNumber 36 = .ok (.istore_n 2, 1) := by decide +kernel
theorem dX1_putNumber_37 : decode cX1_putNumber 37 = .ok (.iload_n 2, 1) := by decide +kernel
theorem dX1_putNumber_38 : decode cX1_putNumber 38 = .ok (.ifCond .eq 12, 3) := by decide +kernel
theorem dX1_putNumber_41 : decode cX1_putNumber 41 = .ok (.aload_n 0, 1) := by decide +kernel
theorem dX1_putNumber_42 : decode cX1_putNumber 42 = .ok (.bipush 48, 2) := by decide +kernel
theorem dX1_putNumber_44 : decode cX1_putNumber 44 = .ok (.iload 4, 2) := by decide +kernel
theorem dX1_putNumber_46 : decode cX1_putNumber 46 = .ok (.iadd, 1) := by decide +kernel
theorem dX1_putNumber_47 : decode cX1_putNumber 47 = .ok (.invokevirtual 19, 3) := by decide +kernel
theorem dX1_putNumber_50 : decode cX1_putNumber 50 = .ok (.iload_n 3, 1) := by decide +kernel
theorem dX1_putNumber_51 : decode cX1_putNumber 51 = .ok (.bipush 10, 2) := by decide +kernel
theorem dX1_putNumber_53 : decode cX1_putNumber 53 = .ok (.idiv, 1) := by decide +kernel
theorem dX1_putNumber_54 : decode cX1_putNumber 54 = .ok (.istore_n 3, 1) := by decide +kernel
theorem dX1_putNumber_55 : decode cX1_putNumber 55 = .ok (.goto (-50), 3) := by decide +kernel
theorem dX1_putNumber_58 : decode cX1_putNumber 58 = .ok (.return_, 1) := by decide +kernel
theorem dX1_byteAt_0 : decode cX1_byteAt 0 = .ok (.iload_n 1, 1) := by decide +kernel
theorem dX1_byteAt_1 : decode cX1_byteAt 1 = .ok (.ifCond .lt 31, 3) := by decide +kernel
theorem dX1_byteAt_4 : decode cX1_byteAt 4 = .ok (.iload_n 1, 1) := by decide +kernel
theorem dX1_byteAt_5 : decode cX1_byteAt 5 = .ok (.aload_n 0, 1) := by decide +kernel
theorem dX1_byteAt_6 : decode cX1_byteAt 6 = .ok (.getfield 15, 3) := by decide +kernel
theorem dX1_byteAt_9 : decode cX1_byteAt 9 = .ok (.if_icmp .ge 23, 3) := by decide +kernel
theorem dX1_byteAt_12 : decode cX1_byteAt 12 = .ok (.iload_n 1, 1) := by decide +kernel
theorem dX1_byteAt_13 : decode cX1_byteAt 13 = .ok (.sipush 900, 3) := by decide +kernel
theorem dX1_byteAt_16 : decode cX1_byteAt 16 = .ok (.if_icmp .ge 16, 3) := by decide +kernel
theorem dX1_byteAt_19 : decode cX1_byteAt 19 = .ok (.aload_n 0, 1) := by decide +kernel
theorem dX1_byteAt_20 : decode cX1_byteAt 20 = .ok (.getfield 9, 3) := by decide +kernel
theorem dX1_byteAt_23 : decode cX1_byteAt 23 = .ok (.iload_n 1, 1) := by decide +kernel
theorem dX1_byteAt_24 : decode cX1_byteAt 24 = .ok (.baload, 1) := by decide +kernel
theorem dX1_byteAt_25 : decode cX1_byteAt 25 = .ok (.sipush 255, 3) := by decide +kernel
theorem dX1_byteAt_28 : decode cX1_byteAt 28 = .ok (.iand, 1) := by decide +kernel
theorem dX1_byteAt_29 : decode cX1_byteAt 29 = .ok (.goto 4, 3) := by decide +kernel
theorem dX1_byteAt_32 : decode cX1_byteAt 32 = .ok (.iconst (-1), 1) := by decide +kernel
theorem dX1_byteAt_33 : decode cX1_byteAt 33 = .ok (.ireturn, 1) := by decide +kernel
theorem dX2_init_0 : decode cX2_init 0 = .ok (.aload_n 0, 1) := by decide +kernel
theorem dX2_init_1 : decode cX2_init 1 = .ok (.invokespecial 3, 3) := by decide +kernel
theorem dX2_init_4 : decode cX2_init 4 = .ok (.aload_n 0, 1) := by decide +kernel
theorem dX2_init_5 : decode cX2_init 5 = .ok (.bipush 60, 2) := by decide +kernel
theorem dX2_init_7 : decode cX2_init 7 = .ok (.newarray .int, 2) := by decide +kernel
theorem dX2_init_9 : decode cX2_init 9 = .ok (.putfield 9, 3) := by decide +kernel
theorem dX2_init_12 : decode cX2_init 12 = .ok (.aload_n 0, 1) := by decide +kernel
theorem dX2_init_13 : decode cX2_init 13 = .ok (.bipush 60, 2) := by decide +kernel
theorem dX2_init_15 : decode cX2_init 15 = .ok (.newarray .int, 2) := by decide +kernel
theorem dX2_init_17 : decode cX2_init 17 = .ok (.putfield 15, 3) := by decide +kernel
theorem dX2_init_20 : decode cX2_init 20 = .ok (.return_, 1) := by decide +kernel
theorem dX2_copyFrom_0 : decode cX2_copyFrom 0 = .ok (.aload_n 1, 1) := by decide +kernel
theorem dX2_copyFrom_1 : decode cX2_copyFrom 1 = .ok (.getfield 9, 3) := by decide +kernel
theorem dX2_copyFrom_4 : decode cX2_copyFrom 4 = .ok (.iconst 0, 1) := by decide +kernel
theorem dX2_copyFrom_5 : decode cX2_copyFrom 5 = .ok (.aload_n 0, 1) := by decide +kernel
theorem dX2_copyFrom_6 : decode cX2_copyFrom 6 = .ok (.getfield 9, 3) := by decide +kernel
theorem dX2_copyFrom_9 : decode cX2_copyFrom 9 = .ok (.iconst 0, 1) := by decide +kernel
theorem dX2_copyFrom_10 : decode cX2_copyFrom 10 = .ok (.bipush 60, 2) := by decide +kernel
theorem dX2_copyFrom_12 : decode cX2_copyFrom 12 = .ok (.invokestatic 18, 3) := by decide +kernel
theorem dX2_copyFrom_15 : decode cX2_copyFrom 15 = .ok (.aload_n 1, 1) := by decide +kernel
theorem dX2_copyFrom_16 : decode cX2_copyFrom 16 = .ok (.getfield 15, 3) := by decide +kernel
theorem dX2_copyFrom_19 : decode cX2_copyFrom 19 = .ok (.iconst 0, 1) := by decide +kernel
theorem dX2_copyFrom_20 : decode cX2_copyFrom 20 = .ok (.aload_n 0, 1) := by decide +kernel
theorem dX2_copyFrom_21 : decode cX2_copyFrom 21 = .ok (.getfield 15, 3) := by decide +kernel
theorem dX2_copyFrom_24 : decode cX2_copyFrom 24 = .ok (.iconst 0, 1) := by decide +kernel
theorem dX2_copyFrom_25 : decode cX2_copyFrom 25 = .ok (.bipush 60, 2) := by decide +kernel
theorem dX2_copyFrom_27 : decode cX2_copyFrom 27 = .ok (.invokestatic 18, 3) := by decide +kernel
theorem dX2_copyFrom_30 : decode cX2_copyFrom 30 = .ok (.aload_n 0, 1) := by decide +kernel
theorem dX2_copyFrom_31 : decode cX2_copyFrom 31 = .ok (.aload_n 1, 1) := by decide +kernel
theorem dX2_copyFrom_32 : decode cX2_copyFrom 32 = .ok (.getfield 24, 3) := by decide +kernel
theorem dX2_copyFrom_35 : decode cX2_copyFrom 35 = .ok (.putfield 24, 3) := by decide +kernel
theorem dX2_copyFrom_38 : decode cX2_copyFrom 38 = .ok (.return_, 1) := by decide +kernel
theorem dX2_has_0 : decode cX2_has 0 = .ok (.iload_n 1, 1) := by decide +kernel
theorem dX2_has_1 : decode cX2_has 1 = .ok (.ifCond .lt 15, 3) := by decide +kernel
theorem dX2_has_4 : decode cX2_has 4 = .ok (.iload_n 1, 1) := by decide +kernel
theorem dX2_has_5 : decode cX2_has 5 = .ok (.aload_n 0, 1) := by decide +kernel
theorem dX2_has_6 : decode cX2_has 6 = .ok (.getfield 24, 3) := by decide +kernel
theorem dX2_has_9 : decode cX2_has 9 = .ok (.if_icmp .ge 7, 3) := by decide +kernel
theorem dX2_has_12 : decode cX2_has 12 = .ok (.iconst 1, 1) := by decide +kernel
theorem dX2_has_13 : decode cX2_has 13 = .ok (.goto 4, 3) := by decide +kernel
theorem dX2_has_16 : decode cX2_has 16 = .ok (.iconst 0, 1) := by decide +kernel
theorem dX2_has_17 : decode cX2_has 17 = .ok (.ireturn, 1) := by decide +kernel
theorem dX2_isFull_0 : decode cX2_isFull 0 = .ok (.aload_n 0, 1) := by decide +kernel
theorem dX2_isFull_1 : decode cX2_isFull 1 = .ok (.getfield 24, 3) := by decide +kernel
theorem dX2_isFull_4 : decode cX2_isFull 4 = .ok (.bipush 60, 2) := by decide +kernel
theorem dX2_isFull_6 : decode cX2_isFull 6 = .ok (.if_icmp .lt 7, 3) := by decide +kernel
theorem dX2_isFull_9 : decode cX2_isFull 9 = .ok (.iconst 1, 1) := by decide +kernel
theorem dX2_isFull_10 : decode cX2_isFull 10 = .ok (.goto 4, 3) := by decide +kernel
theorem dX2_isFull_13 : decode cX2_isFull 13 = .ok (.iconst 0, 1) := by decide +kernel
theorem dX2_isFull_14 : decode cX2_isFull 14 = .ok (.ireturn, 1) := by decide +kernel
set_option maxRecDepth 20000 in
theorem ggX2_placeOf_X2_has : GoodIn wsX2_placeOf wsX2_has := goodIn_r _ [6, 7, 8, 9, 10] (by decide +kernel) (by decide +kernel)
set_option maxRecDepth 20000 in
theorem gX2_placeOf_X2_has : GoodIn wsX2_placeOf (wsV RX2 28 RX2 yX2_has wsX2_has) := goodIn_app (goodIn_of _ (by decide +kernel)) ggX2_placeOf_X2_has
theorem dX2_placeOf_0 : decode cX2_placeOf 0 = .ok (.aload_n 0, 1) := by decide +kernel
theorem dX2_placeOf_1 : decode cX2_placeOf 1 = .ok (.iload_n 1, 1) := by decide +kernel
theorem dX2_placeOf_2 : decode cX2_placeOf 2 = .ok (.invokevirtual 28, 3) := by decide +kernel
theorem dX2_placeOf_5 : decode cX2_placeOf 5 = .ok (.ifCond .eq 12, 3) := by decide +kernel
theorem dX2_placeOf_8 : decode cX2_placeOf 8 = .ok (.aload_n 0, 1) := by decide +kernel
theorem dX2_placeOf_9 : decode cX2_placeOf 9 = .ok (.getfield 9, 3) := by decide +kernel
theorem dX2_placeOf_12 : decode cX2_placeOf 12 = .ok (.iload_n 1, 1) := by decide +kernel
theorem dX2_placeOf_13 : decode cX2_placeOf 13 = .ok (.iaload, 1) := by decide +kernel
theorem dX2_placeOf_14 : decode cX2_placeOf 14 = .ok (.goto 4, 3) := by decide +kernel
theorem dX2_placeOf_17 : decode cX2_placeOf 17 = .ok (.iconst (-1), 1) := by decide +kernel
theorem dX2_placeOf_18 : decode cX2_placeOf 18 = .ok (.ireturn, 1) := by decide +kernel
set_option maxRecDepth 20000 in
theorem ggX2_sizeOf_X2_has : GoodIn wsX2_sizeOf wsX2_has := goodIn_r _ [6, 7, 8, 9, 10] (by decide +kernel) (by decide +kernel)
set_option maxRecDepth 20000 in
theorem gX2_sizeOf_X2_has : GoodIn wsX2_sizeOf (wsV RX2 28 RX2 yX2_has wsX2_has) := goodIn_app (goodIn_of _ (by decide +kernel)) ggX2_sizeOf_X2_has
theorem dX2_sizeOf_0 : decode cX2_sizeOf 0 = .ok (.aload_n 0, 1) := by decide +kernel
theorem dX2_sizeOf_1 : decode cX2_sizeOf 1 = .ok (.iload_n 1, 1) := by decide +kernel
theorem dX2_sizeOf_2 : decode cX2_sizeOf 2 = .ok (.invokevirtual 28, 3) := by decide +kernel
theorem dX2_sizeOf_5 : decode cX2_sizeOf 5 = .ok (.ifCond .eq 12, 3) := by decide +kernel
theorem dX2_sizeOf_8 : decode cX2_sizeOf 8 = .ok (.aload_n 0, 1) := by decide +kernel
theorem dX2_sizeOf_9 : decode cX2_sizeOf 9 = .ok (.getfield 15, 3) := by decide +kernel
theorem dX2_sizeOf_12 : decode cX2_sizeOf 12 = .ok (.iload_n 1, 1) := by decide +kernel
theorem dX2_sizeOf_13 : decode cX2_sizeOf 13 = .ok (.iaload, 1) := by decide +kernel
theorem dX2_sizeOf_14 : decode cX2_sizeOf 14 = .ok (.goto 4, 3) := by decide +kernel
theorem dX2_sizeOf_17 : decode cX2_sizeOf 17 = .ok (.iconst 0, 1) := by decide +kernel
theorem dX2_sizeOf_18 : decode cX2_sizeOf 18 = .ok (.ireturn, 1) := by decide +kernel
set_option maxRecDepth 20000 in
theorem ggX2_weightOf_X2_sizeOf : GoodIn wsX2_weightOf wsX2_sizeOf := goodIn_r _ [5, 6, 7, 8, 9, 4, 10, 11, 12, 13, 14] (by decide +kernel) (by decide +kernel)
set_option maxRecDepth 20000 in
theorem gX2_weightOf_X2_sizeOf : GoodIn wsX2_weightOf (wsV RX2 32 RX2 yX2_sizeOf wsX2_sizeOf) := goodIn_app (goodIn_of _ (by decide +kernel)) ggX2_weightOf_X2_sizeOf
theorem dX2_weightOf_0 : decode cX2_weightOf 0 = .ok (.iload_n 2, 1) := by decide +kernel
theorem dX2_weightOf_1 : decode cX2_weightOf 1 = .ok (.ifCond .ne 11, 3) := by decide +kernel
theorem dX2_weightOf_4 : decode cX2_weightOf 4 = .ok (.aload_n 0, 1) := by decide +kernel
theorem dX2_weightOf_5 : decode cX2_weightOf 5 = .ok (.iload_n 1, 1) := by decide +kernel
theorem dX2_weightOf_6 : decode cX2_weightOf 6 = .ok (.invokevirtual 32, 3) := by decide +kernel
theorem dX2_weightOf_9 : decode cX2_weightOf 9 = .ok (.goto 4, 3) := by decide +kernel
theorem dX2_weightOf_12 : decode cX2_weightOf 12 = .ok (.iconst 1, 1) := by decide +kernel
theorem dX2_weightOf_13 : decode cX2_weightOf 13 = .ok (.ireturn, 1) := by decide +kernel
set_option maxRecDepth 20000 in
theorem ggX2_setPlace_X2_has : GoodIn wsX2_setPlace wsX2_has := goodIn_r _ [6, 7, 8, 9, 10] (by decide +kernel) (by decide +kernel)
set_option maxRecDepth 20000 in
theorem gX2_setPlace_X2_has : GoodIn wsX2_setPlace (wsV RX2 28 RX2 yX2_has wsX2_has) := goodIn_app (goodIn_of _ (by decide +kernel)) ggX2_setPlace_X2_has
theorem dX2_setPlace_0 : decode cX2_setPlace 0 = .ok (.aload_n 0, 1) := by decide +kernel
theorem dX2_setPlace_1 : decode cX2_setPlace 1 = .ok (.iload_n 1, 1) := by decide +kernel
theorem dX2_setPlace_2 : decode cX2_setPlace 2 = .ok (.invokevirtual 28, 3) := by decide +kernel
theorem dX2_setPlace_5 : decode cX2_setPlace 5 = .ok (.ifCond .eq 10, 3) := by decide +kernel
theorem dX2_setPlace_8 : decode cX2_setPlace 8 = .ok (.aload_n 0, 1) := by decide +kernel
theorem dX2_setPlace_9 : decode cX2_setPlace 9 = .ok (.getfield 9, 3) := by decide +kernel
theorem dX2_setPlace_12 : decode cX2_setPlace 12 = .ok (.iload_n 1, 1) := by decide +kernel
theorem dX2_setPlace_13 : decode cX2_setPlace 13 = .ok (.iload_n 2, 1) := by decide +kernel
theorem dX2_setPlace_14 : decode cX2_setPlace 14 = .ok (.iastore, 1) := by decide +kernel
theorem dX2_setPlace_15 : decode cX2_setPlace 15 = .ok (.return_, 1) := by decide +kernel
set_option maxRecDepth 20000 in
theorem ggX2_setSize_X2_has : GoodIn wsX2_setSize wsX2_has := goodIn_r _ [6, 7, 8, 9, 10] (by decide +kernel) (by decide +kernel)
set_option maxRecDepth 20000 in
theorem gX2_setSize_X2_has : GoodIn wsX2_setSize (wsV RX2 28 RX2 yX2_has wsX2_has) := goodIn_app (goodIn_of _ (by decide +kernel)) ggX2_setSize_X2_has
theorem dX2_setSize_0 : decode cX2_setSize 0 = .ok (.aload_n 0, 1) := by decide +kernel
theorem dX2_setSize_1 : decode cX2_setSize 1 = .ok (.iload_n 1, 1) := by decide +kernel
theorem dX2_setSize_2 : decode cX2_setSize 2 = .ok (.invokevirtual 28, 3) := by decide +kernel
theorem dX2_setSize_5 : decode cX2_setSize 5 = .ok (.ifCond .eq 10, 3) := by decide +kernel
theorem dX2_setSize_8 : decode cX2_setSize 8 = .ok (.aload_n 0, 1) := by decide +kernel
theorem dX2_setSize_9 : decode cX2_setSize 9 = .ok (.getfield 15, 3) := by decide +kernel
theorem dX2_setSize_12 : decode cX2_setSize 12 = .ok (.iload_n 1, 1) := by decide +kernel
theorem dX2_setSize_13 : decode cX2_setSize 13 = .ok (.iload_n 2, 1) := by decide +kernel
theorem dX2_setSize_14 : decode cX2_setSize 14 = .ok (.iastore, 1) := by decide +kernel
theorem dX2_setSize_15 : decode cX2_setSize 15 = .ok (.return_, 1) := by decide +kernel
set_option maxRecDepth 20000 in
theorem ggX2_add_X2_isFull : GoodIn wsX2_add wsX2_isFull := goodIn_r _ [8, 2, 9, 10, 11] (by decide +kernel) (by decide +kernel)
set_option maxRecDepth 20000 in
theorem gX2_add_X2_isFull : GoodIn wsX2_add (wsV RX2 36 RX2 yX2_isFull wsX2_isFull) := goodIn_app (goodIn_of _ (by decide +kernel)) ggX2_add_X2_isFull
theorem dX2_add_0 : decode cX2_add 0 = .ok (.aload_n 0, 1) := by decide +kernel
theorem dX2_add_1 : decode cX2_add 1 = .ok (.invokevirtual 36, 3) := by decide +kernel
theorem dX2_add_4 : decode cX2_add 4 = .ok (.ifCond .ne 33, 3) := by decide +kernel
theorem dX2_add_7 : decode cX2_add 7 = .ok (.aload_n 0, 1) := by decide +kernel
theorem dX2_add_8 : decode cX2_add 8 = .ok (.getfield 9, 3) := by decide +kernel
theorem dX2_add_11 : decode cX2_add 11 = .ok (.aload_n 0, 1) := by decide +kernel
theorem dX2_add_12 : decode cX2_add 12 = .ok (.getfield 24, 3) := by decide +kernel
theorem dX2_add_15 : decode cX2_add 15 = .ok (.iload_n 1, 1) := by decide +kernel
theorem dX2_add_16 : decode cX2_add 16 = .ok (.iastore, 1) := by decide +kernel
theorem dX2_add_17 : decode cX2_add 17 = .ok (.aload_n 0, 1) := by decide +kernel
theorem dX2_add_18 : decode cX2_add 18 = .ok (.getfield 15, 3) := by decide +kernel
theorem dX2_add_21 : decode cX2_add 21 = .ok (.aload_n 0, 1) := by decide +kernel
theorem dX2_add_22 : decode cX2_add 22 = .ok (.getfield 24, 3) := by decide +kernel
theorem dX2_add_25 : decode cX2_add 25 = .ok (.iload_n 2, 1) := by decide +kernel
theorem dX2_add_26 : decode cX2_add 26 = .ok (.iastore, 1) := by decide +kernel
theorem dX2_add_27 : decode cX2_add 27 = .ok (.aload_n 0, 1) := by decide +kernel
theorem dX2_add_28 : decode cX2_add 28 = .ok (.dup, 1) := by decide +kernel
theorem dX2_add_29 : decode cX2_add 29 = .ok (.getfield 24, 3) := by decide +kernel
theorem dX2_add_32 : decode cX2_add 32 = .ok (.iconst 1, 1) := by decide +kernel
theorem dX2_add_33 : decode cX2_add 33 = .ok (.iadd, 1) := by decide +kernel
theorem dX2_add_34 : decode cX2_add 34 = .ok (.putfield 24, 3) := by decide +kernel
theorem dX2_add_37 : decode cX2_add 37 = .ok (.return_, 1) := by decide +kernel
set_option maxRecDepth 20000 in
theorem ggX2_removeAt_X2_has : GoodIn wsX2_removeAt wsX2_has := goodIn_r _ [8, 1, 9, 10, 11] (by decide +kernel) (by decide +kernel)
set_option maxRecDepth 20000 in
theorem gX2_removeAt_X2_has : GoodIn wsX2_removeAt (wsV RX2 28 RX2 yX2_has wsX2_has) := goodIn_app (goodIn_of _ (by decide +kernel)) ggX2_removeAt_X2_has
theorem dX2_removeAt_0 : decode cX2_removeAt 0 = .ok (.aload_n 0, 1) := by decide +kernel
theorem dX2_removeAt_1 : decode cX2_removeAt 1 = .ok (.iload_n 1, 1) := by decide +kernel
theorem dX2_removeAt_2 : decode cX2_removeAt 2 = .ok (.invokevirtual 28, 3) := by decide +kernel
theorem dX2_removeAt_5 : decode cX2_removeAt 5 = .ok (.ifCond .ne 4, 3) := by decide +kernel
theorem dX2_removeAt_8 : decode cX2_removeAt 8 = .ok (.return_, 1) := by decide +kernel
theorem dX2_removeAt_9 : decode cX2_removeAt 9 = .ok (.aload_n 0, 1) := by decide +kernel
theorem dX2_removeAt_10 : decode cX2_removeAt 10 = .ok (.dup, 1) := by decide +kernel
theorem dX2_removeAt_11 : decode cX2_removeAt 11 = .ok (.getfield 24, 3) := by decide +kernel
theorem dX2_removeAt_14 : decode cX2_removeAt 14 = .ok (.iconst 1, 1) := by decide +kernel
theorem dX2_removeAt_15 : decode cX2_removeAt 15 = .ok (.isub, 1) := by decide +kernel
theorem dX2_removeAt_16 : decode cX2_removeAt 16 = .ok (.putfield 24, 3) := by decide +kernel
theorem dX2_removeAt_19 : decode cX2_removeAt 19 = .ok (.iload_n 1, 1) := by decide +kernel
theorem dX2_removeAt_20 : decode cX2_removeAt 20 = .ok (.istore_n 2, 1) := by decide +kernel
theorem dX2_removeAt_21 : decode cX2_removeAt 21 = .ok (.iload_n 2, 1) := by decide +kernel
theorem dX2_removeAt_22 : decode cX2_removeAt 22 = .ok (.aload_n 0, 1) := by decide +kernel
theorem dX2_removeAt_23 : decode cX2_removeAt 23 = .ok (.getfield 24, 3) := by decide +kernel
theorem dX2_removeAt_26 : decode cX2_removeAt 26 = .ok (.if_icmp .ge 37, 3) := by decide +kernel
theorem dX2_removeAt_29 : decode cX2_removeAt 29 = .ok (.aload_n 0, 1) := by decide +kernel
theorem dX2_removeAt_30 : decode cX2_removeAt 30 = .ok (.getfield 9, 3) := by decide +kernel
theorem dX2_removeAt_33 : decode cX2_removeAt 33 = .ok (.iload_n 2, 1) := by decide +kernel
theorem dX2_removeAt_34 : decode cX2_removeAt 34 = .ok (.aload_n 0, 1) := by decide +kernel
theorem dX2_removeAt_35 : decode cX2_removeAt 35 = .ok (.getfield 9, 3) := by decide +kernel
theorem dX2_removeAt_38 : decode cX2_removeAt 38 = .ok (.iload_n 2, 1) := by decide +kernel
theorem dX2_removeAt_39 : decode cX2_removeAt 39 = .ok (.iconst 1, 1) := by decide +kernel
theorem dX2_removeAt_40 : decode cX2_removeAt 40 = .ok (.iadd, 1) := by decide +kernel
theorem dX2_removeAt_41 : decode cX2_removeAt 41 = .ok (.iaload, 1) := by decide +kernel
theorem dX2_removeAt_42 : decode cX2_removeAt 42 = .ok (.iastore, 1) := by decide +kernel
theorem dX2_removeAt_43 : decode cX2_removeAt 43 = .ok (.aload_n 0, 1) := by decide +kernel
theorem dX2_removeAt_44 : decode cX2_removeAt 44 = .ok (.getfield 15, 3) := by decide +kernel
theorem dX2_removeAt_47 : decode cX2_removeAt 47 = .ok (.iload_n 2, 1) := by decide +kernel
theorem dX2_removeAt_48 : decode cX2_removeAt 48 = .ok (.aload_n 0, 1) := by decide +kernel
theorem dX2_removeAt_49 : decode cX2_removeAt 49 = .ok (.getfield 15, 3) := by decide +kernel
theorem dX2_removeAt_52 : decode cX2_removeAt 52 = .ok (.iload_n 2, 1) := by decide +kernel
theorem dX2_removeAt_53 : decode cX2_removeAt 53 = .ok (.iconst 1, 1) := by decide +kernel
theorem dX2_removeAt_54 : decode cX2_removeAt 54 = .ok (.iadd, 1) := by decide +kernel
theorem dX2_removeAt_55 : decode cX2_removeAt 55 = .ok (.iaload, 1) := by decide +kernel
theorem dX2_removeAt_56 : decode cX2_removeAt 56 = .ok (.iastore, 1) := by decide +kernel
theorem dX2_removeAt_57 : decode cX2_removeAt 57 = .ok (.iinc 2 1, 3) := by decide +kernel
theorem dX2_removeAt_60 : decode cX2_removeAt 60 = .ok (.goto (-39), 3) := by decide +kernel
theorem dX2_removeAt_63 : decode cX2_removeAt 63 = .ok (.return_, 1) := by decide +kernel
theorem dX2_totalIn_0 : decode cX2_totalIn 0 = .ok (.iconst 0, 1) := by decide +kernel
theorem dX2_totalIn_1 : decode cX2_totalIn 1 = .ok (.istore_n 2, 1) := by decide +kernel
theorem dX2_totalIn_2 : decode cX2_totalIn 2 = .ok (.iconst 0, 1) := by decide +kernel
theorem dX2_totalIn_3 : decode cX2_totalIn 3 = .ok (.istore_n 3, 1) := by decide +kernel
theorem dX2_totalIn_4 : decode cX2_totalIn 4 = .ok (.iload_n 3, 1) := by decide +kernel
theorem dX2_totalIn_5 : decode cX2_totalIn 5 = .ok (.aload_n 0, 1) := by decide +kernel
theorem dX2_totalIn_6 : decode cX2_totalIn 6 = .ok (.getfield 24, 3) := by decide +kernel
theorem dX2_totalIn_9 : decode cX2_totalIn 9 = .ok (.if_icmp .ge 22, 3) := by decide +kernel
theorem dX2_totalIn_12 : decode cX2_totalIn 12 = .ok (.aload_n 0, 1) := by decide +kernel
theorem dX2_totalIn_13 : decode cX2_totalIn 13 = .ok (.getfield 9, 3) := by decide +kernel
theorem dX2_totalIn_16 : decode cX2_totalIn 16 = .ok (.iload_n 3, 1) := by decide +kernel
theorem dX2_totalIn_17 : decode cX2_totalIn 17 = .ok (.iaload, 1) := by decide +kernel
theorem dX2_totalIn_18 : decode cX2_totalIn 18 = .ok (.iload_n 1, 1) := by decide +kernel
theorem dX2_totalIn_19 : decode cX2_totalIn 19 = .ok (.if_icmp .ne 6, 3) := by decide +kernel
theorem dX2_totalIn_22 : decode cX2_totalIn 22 = .ok (.iinc 2 1, 3) := by decide +kernel
theorem dX2_totalIn_25 : decode cX2_totalIn 25 = .ok (.iinc 3 1, 3) := by decide +kernel
theorem dX2_totalIn_28 : decode cX2_totalIn 28 = .ok (.goto (-24), 3) := by decide +kernel
theorem dX2_totalIn_31 : decode cX2_totalIn 31 = .ok (.iload_n 2, 1) := by decide +kernel
theorem dX2_totalIn_32 : decode cX2_totalIn 32 = .ok (.ireturn, 1) := by decide +kernel
theorem dX2_closeGap_0 : decode cX2_closeGap 0 = .ok (.iconst 0, 1) := by decide +kernel
theorem dX2_closeGap_1 : decode cX2_closeGap 1 = .ok (.istore_n 2, 1) := by decide +kernel
theorem dX2_closeGap_2 : decode cX2_closeGap 2 = .ok (.iload_n 2, 1) := by decide +kernel
theorem dX2_closeGap_3 : decode cX2_closeGap 3 = .ok (.aload_n 0, 1) := by decide +kernel
theorem dX2_closeGap_4 : decode cX2_closeGap 4 = .ok (.getfield 24, 3) := by decide +kernel
theorem dX2_closeGap_7 : decode cX2_closeGap 7 = .ok (.if_icmp .ge 29, 3) := by decide +kernel
theorem dX2_closeGap_10 : decode cX2_closeGap 10 = .ok (.aload_n 0, 1) := by decide +kernel
theorem dX2_closeGap_11 : decode cX2_closeGap 11 = .ok (.getfield 9, 3) := by decide +kernel
theorem dX2_closeGap_14 : decode cX2_closeGap 14 = .ok (.iload_n 2, 1) := by decide +kernel
theorem dX2_closeGap_15 : decode cX2_closeGap 15 = .ok (.iaload, 1) := by decide +kernel
theorem dX2_closeGap_16 : decode cX2_closeGap 16 = .ok (.iload_n 1, 1) := by decide +kernel
theorem dX2_closeGap_17 : decode cX2_closeGap 17 = .ok (.if_icmp .le 13, 3) := by decide +kernel
theorem dX2_closeGap_20 : decode cX2_closeGap 20 = .ok (.aload_n 0, 1) := by decide +kernel
theorem dX2_closeGap_21 : decode cX2_closeGap 21 = .ok (.getfield 9, 3) := by decide +kernel
theorem dX2_closeGap_24 : decode cX2_closeGap 24 = .ok (.iload_n 2, 1) := by decide +kernel
theorem dX2_closeGap_25 : decode cX2_closeGap 25 = .ok (.dup2, 1) := by decide +kernel
theorem dX2_closeGap_26 : decode cX2_closeGap 26 = .ok (.iaload, 1) := by decide +kernel
theorem dX2_closeGap_27 : decode cX2_closeGap 27 = .ok (.iconst 1, 1) := by decide +kernel
theorem dX2_closeGap_28 : decode cX2_closeGap 28 = .ok (.isub, 1) := by decide +kernel
theorem dX2_closeGap_29 : decode cX2_closeGap 29 = .ok (.iastore, 1) := by decide +kernel
theorem dX2_closeGap_30 : decode cX2_closeGap 30 = .ok (.iinc 2 1, 3) := by decide +kernel
theorem dX2_closeGap_33 : decode cX2_closeGap 33 = .ok (.goto (-31), 3) := by decide +kernel
theorem dX2_closeGap_36 : decode cX2_closeGap 36 = .ok (.return_, 1) := by decide +kernel
set_option maxRecDepth 20000 in
theorem ggX3_init_X3_clear : GoodIn wsX3_init wsX3_clear := goodIn_r _ [13, 5, 7, 14, 8, 15, 16, 17, 18, 19] (by decide +kernel) (by decide +kernel)
set_option maxRecDepth 20000 in
theorem gX3_init_X3_clear : GoodIn wsX3_init (wsV RX3 22 RX3 yX3_clear wsX3_clear) := goodIn_app (goodIn_of _ (by decide +kernel)) ggX3_init_X3_clear
theorem dX3_init_0 : decode cX3_init 0 = .ok (.aload_n 0, 1) := by decide +kernel
theorem dX3_init_1 : decode cX3_init 1 = .ok (.invokespecial 3, 3) := by decide +kernel
theorem dX3_init_4 : decode cX3_init 4 = .ok (.aload_n 0, 1) := by decide +kernel
theorem dX3_init_5 : decode cX3_init 5 = .ok (.bipush 40, 2) := by decide +kernel
theorem dX3_init_7 : decode cX3_init 7 = .ok (.newarray .int, 2) := by decide +kernel
theorem dX3_init_9 : decode cX3_init 9 = .ok (.putfield 9, 3) := by decide +kernel
theorem dX3_init_12 : decode cX3_init 12 = .ok (.aload_n 0, 1) := by decide +kernel
theorem dX3_init_13 : decode cX3_init 13 = .ok (.bipush 40, 2) := by decide +kernel
theorem dX3_init_15 : decode cX3_init 15 = .ok (.newarray .long, 2) := by decide +kernel
theorem dX3_init_17 : decode cX3_init 17 = .ok (.putfield 15, 3) := by decide +kernel
theorem dX3_init_20 : decode cX3_init 20 = .ok (.aload_n 0, 1) := by decide +kernel
theorem dX3_init_21 : decode cX3_init 21 = .ok (.bipush 40, 2) := by decide +kernel
theorem dX3_init_23 : decode cX3_init 23 = .ok (.newarray .int, 2) := by decide +kernel
theorem dX3_init_25 : decode cX3_init 25 = .ok (.putfield 19, 3) := by decide +kernel
theorem dX3_init_28 : decode cX3_init 28 = .ok (.aload_n 0, 1) := by decide +kernel
theorem dX3_init_29 : decode cX3_init 29 = .ok (.invokevirtual 22, 3) := by decide +kernel
theorem dX3_init_32 : decode cX3_init 32 = .ok (.return_, 1) := by decide +kernel
theorem dX3_clear_0 : decode cX3_clear 0 = .ok (.aload_n 0, 1) := by decide +kernel
theorem dX3_clear_1 : decode cX3_clear 1 = .ok (.getfield 9, 3) := by decide +kernel
theorem dX3_clear_4 : decode cX3_clear 4 = .ok (.iconst 0, 1) := by decide +kernel
theorem dX3_clear_5 : decode cX3_clear 5 = .ok (.iconst (-1), 1) := by decide +kernel
theorem dX3_clear_6 : decode cX3_clear 6 = .ok (.iastore, 1) := by decide +kernel
theorem dX3_clear_7 : decode cX3_clear 7 = .ok (.aload_n 0, 1) := by decide +kernel
theorem dX3_clear_8 : decode cX3_clear 8 = .ok (.getfield 15, 3) := by decide +kernel
theorem dX3_clear_11 : decode cX3_clear 11 = .ok (.iconst 0, 1) := by decide +kernel
theorem dX3_clear_12 : decode cX3_clear 12 = .ok (.ldc2_w 25, 3) := by decide +kernel
theorem dX3_clear_15 : decode cX3_clear 15 = .ok (.lastore, 1) := by decide +kernel
theorem dX3_clear_16 : decode cX3_clear 16 = .ok (.aload_n 0, 1) := by decide +kernel
theorem dX3_clear_17 : decode cX3_clear 17 = .ok (.getfield 19, 3) := by decide +kernel
theorem dX3_clear_20 : decode cX3_clear 20 = .ok (.iconst 0, 1) := by decide +kernel
theorem dX3_clear_21 : decode cX3_clear 21 = .ok (.iconst (-1), 1) := by decide +kernel
theorem dX3_clear_22 : decode cX3_clear 22 = .ok (.iastore, 1) := by decide +kernel
theorem dX3_clear_23 : decode cX3_clear 23 = .ok (.aload_n 0, 1) := by decide +kernel
theorem dX3_clear_24 : decode cX3_clear 24 = .ok (.iconst 1, 1) := by decide +kernel
theorem dX3_clear_25 : decode cX3_clear 25 = .ok (.putfield 27, 3) := by decide +kernel
theorem dX3_clear_28 : decode cX3_clear 28 = .ok (.return_, 1) := by decide +kernel
theorem dX3_copyFrom_0 : decode cX3_copyFrom 0 = .ok (.aload_n 1, 1) := by decide +kernel
theorem dX3_copyFrom_1 : decode cX3_copyFrom 1 = .ok (.getfield 9, 3) := by decide +kernel
theorem dX3_copyFrom_4 : decode cX3_copyFrom 4 = .ok (.iconst 0, 1) := by decide +kernel
theorem dX3_copyFrom_5 : decode cX3_copyFrom 5 = .ok (.aload_n 0, 1) := by decide +kernel
theorem dX3_copyFrom_6 : decode cX3_copyFrom 6 = .ok (.getfield 9, 3) := by decide +kernel
theorem dX3_copyFrom_9 : decode cX3_copyFrom 9 = .ok (.iconst 0, 1) := by decide +kernel
theorem dX3_copyFrom_10 : decode cX3_copyFrom 10 = .ok (.bipush 40, 2) := by decide +kernel
theorem dX3_copyFrom_12 : decode cX3_copyFrom 12 = .ok (.invokestatic 31, 3) := by decide +kernel
theorem dX3_copyFrom_15 : decode cX3_copyFrom 15 = .ok (.aload_n 1, 1) := by decide +kernel
theorem dX3_copyFrom_16 : decode cX3_copyFrom 16 = .ok (.getfield 15, 3) := by decide +kernel
theorem dX3_copyFrom_19 : decode cX3_copyFrom 19 = .ok (.iconst 0, 1) := by decide +kernel
theorem dX3_copyFrom_20 : decode cX3_copyFrom 20 = .ok (.aload_n 0, 1) := by decide +kernel
theorem dX3_copyFrom_21 : decode cX3_copyFrom 21 = .ok (.getfield 15, 3) := by decide +kernel
theorem dX3_copyFrom_24 : decode cX3_copyFrom 24 = .ok (.iconst 0, 1) := by decide +kernel
theorem dX3_copyFrom_25 : decode cX3_copyFrom 25 = .ok (.bipush 40, 2) := by decide +kernel
theorem dX3_copyFrom_27 : decode cX3_copyFrom 27 = .ok (.invokestatic 31, 3) := by decide +kernel
theorem dX3_copyFrom_30 : decode cX3_copyFrom 30 = .ok (.aload_n 1, 1) := by decide +kernel
theorem dX3_copyFrom_31 : decode cX3_copyFrom 31 = .ok (.getfield 19, 3) := by decide +kernel
theorem dX3_copyFrom_34 : decode cX3_copyFrom 34 = .ok (.iconst 0, 1) := by decide +kernel
theorem dX3_copyFrom_35 : decode cX3_copyFrom 35 = .ok (.aload_n 0, 1) := by decide +kernel
theorem dX3_copyFrom_36 : decode cX3_copyFrom 36 = .ok (.getfield 19, 3) := by decide +kernel
theorem dX3_copyFrom_39 : decode cX3_copyFrom 39 = .ok (.iconst 0, 1) := by decide +kernel
theorem dX3_copyFrom_40 : decode cX3_copyFrom 40 = .ok (.bipush 40, 2) := by decide +kernel
theorem dX3_copyFrom_42 : decode cX3_copyFrom 42 = .ok (.invokestatic 31, 3) := by decide +kernel
theorem dX3_copyFrom_45 : decode cX3_copyFrom 45 = .ok (.aload_n 0, 1) := by decide +kernel
theorem dX3_copyFrom_46 : decode cX3_copyFrom 46 = .ok (.aload_n 1, 1) := by decide +kernel
theorem dX3_copyFrom_47 : decode cX3_copyFrom 47 = .ok (.getfield 27, 3) := by decide +kernel
theorem dX3_copyFrom_50 : decode cX3_copyFrom 50 = .ok (.putfield 27, 3) := by decide +kernel
theorem dX3_copyFrom_53 : decode cX3_copyFrom 53 = .ok (.return_, 1) := by decide +kernel
theorem dX3_has_0 : decode cX3_has 0 = .ok (.iload_n 1, 1) := by decide +kernel
theorem dX3_has_1 : decode cX3_has 1 = .ok (.ifCond .lt 15, 3) := by decide +kernel
theorem dX3_has_4 : decode cX3_has 4 = .ok (.iload_n 1, 1) := by decide +kernel
theorem dX3_has_5 : decode cX3_has 5 = .ok (.aload_n 0, 1) := by decide +kernel
theorem dX3_has_6 : decode cX3_has 6 = .ok (.getfield 27, 3) := by decide +kernel
theorem dX3_has_9 : decode cX3_has 9 = .ok (.if_icmp .ge 7, 3) := by decide +kernel
theorem dX3_has_12 : decode cX3_has 12 = .ok (.iconst 1, 1) := by decide +kernel
theorem dX3_has_13 : decode cX3_has 13 = .ok (.goto 4, 3) := by decide +kernel
theorem dX3_has_16 : decode cX3_has 16 = .ok (.iconst 0, 1) := by decide +kernel
theorem dX3_has_17 : decode cX3_has 17 = .ok (.ireturn, 1) := by decide +kernel
theorem dX3_isFull_0 : decode cX3_isFull 0 = .ok (.aload_n 0, 1) := by decide +kernel
theorem dX3_isFull_1 : decode cX3_isFull 1 = .ok (.getfield 27, 3) := by decide +kernel
theorem dX3_isFull_4 : decode cX3_isFull 4 = .ok (.bipush 40, 2) := by decide +kernel
theorem dX3_isFull_6 : decode cX3_isFull 6 = .ok (.if_icmp .lt 7, 3) := by decide +kernel
theorem dX3_isFull_9 : decode cX3_isFull 9 = .ok (.iconst 1, 1) := by decide +kernel
theorem dX3_isFull_10 : decode cX3_isFull 10 = .ok (.goto 4, 3) := by decide +kernel
theorem dX3_isFull_13 : decode cX3_isFull 13 = .ok (.iconst 0, 1) := by decide +kernel
theorem dX3_isFull_14 : decode cX3_isFull 14 = .ok (.ireturn, 1) := by decide +kernel
set_option maxRecDepth 20000 in
theorem ggX3_parentOf_X3_has : GoodIn wsX3_parentOf wsX3_has := goodIn_r _ [6, 7, 8, 9, 10, 11] (by decide +kernel) (by decide +kernel)
set_option maxRecDepth 20000 in
theorem gX3_parentOf_X3_has : GoodIn wsX3_parentOf (wsV RX3 37 RX3 yX3_has wsX3_has) := goodIn_app (goodIn_of _ (by decide +kernel)) ggX3_parentOf_X3_has
theorem dX3_parentOf_0 : decode cX3_parentOf 0 = .ok (.aload_n 0, 1) := by decide +kernel
theorem dX3_parentOf_1 : decode cX3_parentOf 1 = .ok (.iload_n 1, 1) := by decide +kernel
theorem dX3_parentOf_2 : decode cX3_parentOf 2 = .ok (.invokevirtual 37, 3) := by decide +kernel
theorem dX3_parentOf_5 : decode cX3_parentOf 5 = .ok (.ifCond .eq 12, 3) := by decide +kernel
theorem dX3_parentOf_8 : decode cX3_parentOf 8 = .ok (.aload_n 0, 1) := by decide +kernel
theorem dX3_parentOf_9 : decode cX3_parentOf 9 = .ok (.getfield 9, 3) := by decide +kernel
theorem dX3_parentOf_12 : decode cX3_parentOf 12 = .ok (.iload_n 1, 1) := by decide +kernel
theorem dX3_parentOf_13 : decode cX3_parentOf 13 = .ok (.iaload, 1) := by decide +kernel
theorem dX3_parentOf_14 : decode cX3_parentOf 14 = .ok (.goto 4, 3) := by decide +kernel
theorem dX3_parentOf_17 : decode cX3_parentOf 17 = .ok (.iconst (-1), 1) := by decide +kernel
theorem dX3_parentOf_18 : decode cX3_parentOf 18 = .ok (.ireturn, 1) := by decide +kernel
set_option maxRecDepth 20000 in
theorem ggX3_nameOf_X3_has : GoodIn wsX3_nameOf wsX3_has := goodIn_r _ [6, 7, 8, 9, 10, 11] (by decide +kernel) (by decide +kernel)
set_option maxRecDepth 20000 in
theorem gX3_nameOf_X3_has : GoodIn wsX3_nameOf (wsV RX3 37 RX3 yX3_has wsX3_has) := goodIn_app (goodIn_of _ (by decide +kernel)) ggX3_nameOf_X3_has
theorem dX3_nameOf_0 : decode cX3_nameOf 0 = .ok (.aload_n 0, 1) := by decide +kernel
theorem dX3_nameOf_1 : decode cX3_nameOf 1 = .ok (.iload_n 1, 1) := by decide +kernel
theorem dX3_nameOf_2 : decode cX3_nameOf 2 = .ok (.invokevirtual 37, 3) := by decide +kernel
theorem dX3_nameOf_5 : decode cX3_nameOf 5 = .ok (.ifCond .eq 12, 3) := by decide +kernel
theorem dX3_nameOf_8 : decode cX3_nameOf 8 = .ok (.aload_n 0, 1) := by decide +kernel
theorem dX3_nameOf_9 : decode cX3_nameOf 9 = .ok (.getfield 15, 3) := by decide +kernel
theorem dX3_nameOf_12 : decode cX3_nameOf 12 = .ok (.iload_n 1, 1) := by decide +kernel
theorem dX3_nameOf_13 : decode cX3_nameOf 13 = .ok (.laload, 1) := by decide +kernel
theorem dX3_nameOf_14 : decode cX3_nameOf 14 = .ok (.goto 4, 3) := by decide +kernel
theorem dX3_nameOf_17 : decode cX3_nameOf 17 = .ok (.lconst 0, 1) := by decide +kernel
theorem dX3_nameOf_18 : decode cX3_nameOf 18 = .ok (.lreturn, 1) := by decide +kernel
set_option maxRecDepth 20000 in
theorem ggX3_tagOf_X3_has : GoodIn wsX3_tagOf wsX3_has := goodIn_r _ [6, 7, 8, 9, 10, 11] (by decide +kernel) (by decide +kernel)
set_option maxRecDepth 20000 in
theorem gX3_tagOf_X3_has : GoodIn wsX3_tagOf (wsV RX3 37 RX3 yX3_has wsX3_has) := goodIn_app (goodIn_of _ (by decide +kernel)) ggX3_tagOf_X3_has
theorem dX3_tagOf_0 : decode cX3_tagOf 0 = .ok (.aload_n 0, 1) := by decide +kernel
theorem dX3_tagOf_1 : decode cX3_tagOf 1 = .ok (.iload_n 1, 1) := by decide +kernel
theorem dX3_tagOf_2 : decode cX3_tagOf 2 = .ok (.invokevirtual 37, 3) := by decide +kernel
theorem dX3_tagOf_5 : decode cX3_tagOf 5 = .ok (.ifCond .eq 12, 3) := by decide +kernel
theorem dX3_tagOf_8 : decode cX3_tagOf 8 = .ok (.aload_n 0, 1) := by decide +kernel
theorem dX3_tagOf_9 : decode cX3_tagOf 9 = .ok (.getfield 19, 3) := by decide +kernel
theorem dX3_tagOf_12 : decode cX3_tagOf 12 = .ok (.iload_n 1, 1) := by decide +kernel
theorem dX3_tagOf_13 : decode cX3_tagOf 13 = .ok (.iaload, 1) := by decide +kernel
theorem dX3_tagOf_14 : decode cX3_tagOf 14 = .ok (.goto 4, 3) := by decide +kernel
theorem dX3_tagOf_17 : decode cX3_tagOf 17 = .ok (.iconst (-1), 1) := by decide +kernel
theorem dX3_tagOf_18 : decode cX3_tagOf 18 = .ok (.ireturn, 1) := by decide +kernel
set_option maxRecDepth 20000 in
theorem ggX3_setParent_X3_has : GoodIn wsX3_setParent wsX3_has := goodIn_r _ [6, 7, 8, 9, 10, 11] (by decide +kernel) (by decide +kernel)
set_option maxRecDepth 20000 in
theorem gX3_setParent_X3_has : GoodIn wsX3_setParent (wsV RX3 37 RX3 yX3_has wsX3_has) := goodIn_app (goodIn_of _ (by decide +kernel)) ggX3_setParent_X3_has
theorem dX3_setParent_0 : decode cX3_setParent 0 = .ok (.aload_n 0, 1) := by decide +kernel
theorem dX3_setParent_1 : decode cX3_setParent 1 = .ok (.iload_n 1, 1) := by decide +kernel
theorem dX3_setParent_2 : decode cX3_setParent 2 = .ok (.invokevirtual 37, 3) := by decide +kernel
theorem dX3_setParent_5 : decode cX3_setParent 5 = .ok (.ifCond .eq 10, 3) := by decide +kernel
theorem dX3_setParent_8 : decode cX3_setParent 8 = .ok (.aload_n 0, 1) := by decide +kernel
theorem dX3_setParent_9 : decode cX3_setParent 9 = .ok (.getfield 9, 3) := by decide +kernel
theorem dX3_setParent_12 : decode cX3_setParent 12 = .ok (.iload_n 1, 1) := by decide +kernel
theorem dX3_setParent_13 : decode cX3_setParent 13 = .ok (.iload_n 2, 1) := by decide +kernel
theorem dX3_setParent_14 : decode cX3_setParent 14 = .ok (.iastore, 1) := by decide +kernel
theorem dX3_setParent_15 : decode cX3_setParent 15 = .ok (.return_, 1) := by decide +kernel
set_option maxRecDepth 20000 in
theorem ggX3_setTag_X3_has : GoodIn wsX3_setTag wsX3_has := goodIn_r _ [6, 7, 8, 9, 10, 11] (by decide +kernel) (by decide +kernel)
set_option maxRecDepth 20000 in
theorem gX3_setTag_X3_has : GoodIn wsX3_setTag (wsV RX3 37 RX3 yX3_has wsX3_has) := goodIn_app (goodIn_of _ (by decide +kernel)) ggX3_setTag_X3_has
theorem dX3_setTag_0 : decode cX3_setTag 0 = .ok (.aload_n 0, 1) := by decide +kernel
theorem dX3_setTag_1 : decode cX3_setTag 1 = .ok (.iload_n 1, 1) := by decide +kernel
theorem dX3_setTag_2 : decode cX3_setTag 2 = .ok (.invokevirtual 37, 3) := by decide +kernel
theorem dX3_setTag_5 : decode cX3_setTag 5 = .ok (.ifCond .eq 10, 3) := by decide +kernel
theorem dX3_setTag_8 : decode cX3_setTag 8 = .ok (.aload_n 0, 1) := by decide +kernel
theorem dX3_setTag_9 : decode cX3_setTag 9 = .ok (.getfield 19, 3) := by decide +kernel
theorem dX3_setTag_12 : decode cX3_setTag 12 = .ok (.iload_n 1, 1) := by decide +kernel
theorem dX3_setTag_13 : decode cX3_setTag 13 = .ok (.iload_n 2, 1) := by decide +kernel
theorem dX3_setTag_14 : decode cX3_setTag 14 = .ok (.iastore, 1) := by decide +kernel
theorem dX3_setTag_15 : decode cX3_setTag 15 = .ok (.return_, 1) := by decide +kernel
theorem dX3_numberOf_0 : decode cX3_numberOf 0 = .ok (.iconst 0, 1) := by decide +kernel
theorem dX3_numberOf_1 : decode cX3_numberOf 1 = .ok (.istore_n 3, 1) := by decide +kernel
theorem dX3_numberOf_2 : decode cX3_numberOf 2 = .ok (.iload_n 3, 1) := by decide +kernel
theorem dX3_numberOf_3 : decode cX3_numberOf 3 = .ok (.aload_n 0, 1) := by decide +kernel
theorem dX3_numberOf_4 : decode cX3_numberOf 4 = .ok (.getfield 27, 3) := by decide +kernel
theorem dX3_numberOf_7 : decode cX3_numberOf 7 = .ok (.if_icmp .ge 22, 3) := by decide +kernel
theorem dX3_numberOf_10 : decode cX3_numberOf 10 = .ok (.aload_n 0, 1) := by decide +kernel
theorem dX3_numberOf_11 : decode cX3_numberOf 11 = .ok (.getfield 15, 3) := by decide +kernel
theorem dX3_numberOf_14 : decode cX3_numberOf 14 = .ok (.iload_n 3, 1) := by decide +kernel
theorem dX3_numberOf_15 : decode cX3_numberOf 15 = .ok (.laload, 1) := by decide +kernel
theorem dX3_numberOf_16 : decode cX3_numberOf 16 = .ok (.lload_n 1, 1) := by decide +kernel
theorem dX3_numberOf_17 : decode cX3_numberOf 17 = .ok (.lcmp, 1) := by decide +kernel
theorem dX3_numberOf_18 : decode cX3_numberOf 18 = .ok (.ifCond .ne 5, 3) := by decide +kernel
theorem dX3_numberOf_21 : decode cX3_numberOf 21 = .ok (.iload_n 3, 1) := by decide +kernel
theorem dX3_numberOf_22 : decode cX3_numberOf 22 = .ok (.ireturn, 1) := by decide +kernel
theorem dX3_numberOf_23 : decode cX3_numberOf 23 = .ok (.iinc 3 1, 3) := by decide +kernel
theorem dX3_numberOf_26 : decode cX3_numberOf 26 = .ok (.goto (-24), 3) := by decide +kernel
theorem dX3_numberOf_29 : decode cX3_numberOf 29 = .ok (.iconst (-1), 1) := by decide +kernel
theorem dX3_numberOf_30 : decode cX3_numberOf 30 = .ok (.ireturn, 1) := by decide +kernel
set_option maxRecDepth 20000 in
theorem ggX3_add_X3_isFull : GoodIn wsX3_add wsX3_isFull := goodIn_r _ [9, 2, 10, 11, 12, 13] (by decide +kernel) (by decide +kernel)
set_option maxRecDepth 20000 in
theorem gX3_add_X3_isFull : GoodIn wsX3_add (wsV RX3 41 RX3 yX3_isFull wsX3_isFull) := goodIn_app (goodIn_of _ (by decide +kernel)) ggX3_add_X3_isFull
theorem dX3_add_0 : decode cX3_add 0 = .ok (.aload_n 0, 1) := by decide +kernel
theorem dX3_add_1 : decode cX3_add 1 = .ok (.invokevirtual 41, 3) := by decide +kernel
theorem dX3_add_4 : decode cX3_add 4 = .ok (.ifCond .ne 43, 3) := by decide +kernel
theorem dX3_add_7 : decode cX3_add 7 = .ok (.aload_n 0, 1) := by decide +kernel
theorem dX3_add_8 : decode cX3_add 8 = .ok (.getfield 9, 3) := by decide +kernel
theorem dX3_add_11 : decode cX3_add 11 = .ok (.aload_n 0, 1) := by decide +kernel
theorem dX3_add_12 : decode cX3_add 12 = .ok (.getfield 27, 3) := by decide +kernel
theorem dX3_add_15 : decode cX3_add 15 = .ok (.iload_n 1, 1) := by decide +kernel
theorem dX3_add_16 : decode cX3_add 16 = .ok (.iastore, 1) := by decide +kernel
theorem dX3_add_17 : decode cX3_add 17 = .ok (.aload_n 0, 1) := by decide +kernel
theorem dX3_add_18 : decode cX3_add 18 = .ok (.getfield 15, 3) := by decide +kernel
theorem dX3_add_21 : decode cX3_add 21 = .ok (.aload_n 0, 1) := by decide +kernel
theorem dX3_add_22 : decode cX3_add 22 = .ok (.getfield 27, 3) := by decide +kernel
theorem dX3_add_25 : decode cX3_add 25 = .ok (.lload_n 2, 1) := by decide +kernel
theorem dX3_add_26 : decode cX3_add 26 = .ok (.lastore, 1) := by decide +kernel
theorem dX3_add_27 : decode cX3_add 27 = .ok (.aload_n 0, 1) := by decide +kernel
theorem dX3_add_28 : decode cX3_add 28 = .ok (.getfield 19, 3) := by decide +kernel
theorem dX3_add_31 : decode cX3_add 31 = .ok (.aload_n 0, 1) := by decide +kernel
theorem dX3_add_32 : decode cX3_add 32 = .ok (.getfield 27, 3) := by decide +kernel
theorem dX3_add_35 : decode cX3_add 35 = .ok (.iconst (-1), 1) := by decide +kernel
theorem dX3_add_36 : decode cX3_add 36 = .ok (.iastore, 1) := by decide +kernel
theorem dX3_add_37 : decode cX3_add 37 = .ok (.aload_n 0, 1) := by decide +kernel
theorem dX3_add_38 : decode cX3_add 38 = .ok (.dup, 1) := by decide +kernel
theorem dX3_add_39 : decode cX3_add 39 = .ok (.getfield 27, 3) := by decide +kernel
theorem dX3_add_42 : decode cX3_add 42 = .ok (.iconst 1, 1) := by decide +kernel
theorem dX3_add_43 : decode cX3_add 43 = .ok (.iadd, 1) := by decide +kernel
theorem dX3_add_44 : decode cX3_add 44 = .ok (.putfield 27, 3) := by decide +kernel
theorem dX3_add_47 : decode cX3_add 47 = .ok (.return_, 1) := by decide +kernel
set_option maxRecDepth 20000 in
theorem ggX3_removeAt_X3_has : GoodIn wsX3_removeAt wsX3_has := goodIn_r _ [9, 1, 10, 11, 12, 13] (by decide +kernel) (by decide +kernel)
set_option maxRecDepth 20000 in
theorem gX3_removeAt_X3_has : GoodIn wsX3_removeAt (wsV RX3 37 RX3 yX3_has wsX3_has) := goodIn_app (goodIn_of _ (by decide +kernel)) ggX3_removeAt_X3_has
theorem dX3_removeAt_0 : decode cX3_removeAt 0 = .ok (.aload_n 0, 1) := by decide +kernel
theorem dX3_removeAt_1 : decode cX3_removeAt 1 = .ok (.iload_n 1, 1) := by decide +kernel
theorem dX3_removeAt_2 : decode cX3_removeAt 2 = .ok (.invokevirtual 37, 3) := by decide +kernel
theorem dX3_removeAt_5 : decode cX3_removeAt 5 = .ok (.ifCond .ne 4, 3) := by decide +kernel
theorem dX3_removeAt_8 : decode cX3_removeAt 8 = .ok (.return_, 1) := by decide +kernel
theorem dX3_removeAt_9 : decode cX3_removeAt 9 = .ok (.aload_n 0, 1) := by decide +kernel
theorem dX3_removeAt_10 : decode cX3_removeAt 10 = .ok (.dup, 1) := by decide +kernel
theorem dX3_removeAt_11 : decode cX3_removeAt 11 = .ok (.getfield 27, 3) := by decide +kernel
theorem dX3_removeAt_14 : decode cX3_removeAt 14 = .ok (.iconst 1, 1) := by decide +kernel
theorem dX3_removeAt_15 : decode cX3_removeAt 15 = .ok (.isub, 1) := by decide +kernel
theorem dX3_removeAt_16 : decode cX3_removeAt 16 = .ok (.putfield 27, 3) := by decide +kernel
theorem dX3_removeAt_19 : decode cX3_removeAt 19 = .ok (.iload_n 1, 1) := by decide +kernel
theorem dX3_removeAt_20 : decode cX3_removeAt 20 = .ok (.istore_n 2, 1) := by decide +kernel
theorem dX3_removeAt_21 : decode cX3_removeAt 21 = .ok (.iload_n 2, 1) := by decide +kernel
theorem dX3_removeAt_22 : decode cX3_removeAt 22 = .ok (.aload_n 0, 1) := by decide +kernel
theorem dX3_removeAt_23 : decode cX3_removeAt 23 = .ok (.getfield 27, 3) := by decide +kernel
theorem dX3_removeAt_26 : decode cX3_removeAt 26 = .ok (.if_icmp .ge 51, 3) := by decide +kernel
theorem dX3_removeAt_29 : decode cX3_removeAt 29 = .ok (.aload_n 0, 1) := by decide +kernel
theorem dX3_removeAt_30 : decode cX3_removeAt 30 = .ok (.getfield 9, 3) := by decide +kernel
theorem dX3_removeAt_33 : decode cX3_removeAt 33 = .ok (.iload_n 2, 1) := by decide +kernel
theorem dX3_removeAt_34 : decode cX3_removeAt 34 = .ok (.aload_n 0, 1) := by decide +kernel
theorem dX3_removeAt_35 : decode cX3_removeAt 35 = .ok (.getfield 9, 3) := by decide +kernel
theorem dX3_removeAt_38 : decode cX3_removeAt 38 = .ok (.iload_n 2, 1) := by decide +kernel
theorem dX3_removeAt_39 : decode cX3_removeAt 39 = .ok (.iconst 1, 1) := by decide +kernel
theorem dX3_removeAt_40 : decode cX3_removeAt 40 = .ok (.iadd, 1) := by decide +kernel
theorem dX3_removeAt_41 : decode cX3_removeAt 41 = .ok (.iaload, 1) := by decide +kernel
theorem dX3_removeAt_42 : decode cX3_removeAt 42 = .ok (.iastore, 1) := by decide +kernel
theorem dX3_removeAt_43 : decode cX3_removeAt 43 = .ok (.aload_n 0, 1) := by decide +kernel
theorem dX3_removeAt_44 : decode cX3_removeAt 44 = .ok (.getfield 15, 3) := by decide +kernel
theorem dX3_removeAt_47 : decode cX3_removeAt 47 = .ok (.iload_n 2, 1) := by decide +kernel
theorem dX3_removeAt_48 : decode cX3_removeAt 48 = .ok (.aload_n 0, 1) := by decide +kernel
theorem dX3_removeAt_49 : decode cX3_removeAt 49 = .ok (.getfield 15, 3) := by decide +kernel
theorem dX3_removeAt_52 : decode cX3_removeAt 52 = .ok (.iload_n 2, 1) := by decide +kernel
theorem dX3_removeAt_53 : decode cX3_removeAt 53 = .ok (.iconst 1, 1) := by decide +kernel
theorem dX3_removeAt_54 : decode cX3_removeAt 54 = .ok (.iadd, 1) := by decide +kernel
theorem dX3_removeAt_55 : decode cX3_removeAt 55 = .ok (.laload, 1) := by decide +kernel
theorem dX3_removeAt_56 : decode cX3_removeAt 56 = .ok (.lastore, 1) := by decide +kernel
theorem dX3_removeAt_57 : decode cX3_removeAt 57 = .ok (.aload_n 0, 1) := by decide +kernel
theorem dX3_removeAt_58 : decode cX3_removeAt 58 = .ok (.getfield 19, 3) := by decide +kernel
theorem dX3_removeAt_61 : decode cX3_removeAt 61 = .ok (.iload_n 2, 1) := by decide +kernel
theorem dX3_removeAt_62 : decode cX3_removeAt 62 = .ok (.aload_n 0, 1) := by decide +kernel
theorem dX3_removeAt_63 : decode cX3_removeAt 63 = .ok (.getfield 19, 3) := by decide +kernel
theorem dX3_removeAt_66 : decode cX3_removeAt 66 = .ok (.iload_n 2, 1) := by decide +kernel
theorem dX3_removeAt_67 : decode cX3_removeAt 67 = .ok (.iconst 1, 1) := by decide +kernel
theorem dX3_removeAt_68 : decode cX3_removeAt 68 = .ok (.iadd, 1) := by decide +kernel
theorem dX3_removeAt_69 : decode cX3_removeAt 69 = .ok (.iaload, 1) := by decide +kernel
theorem dX3_removeAt_70 : decode cX3_removeAt 70 = .ok (.iastore, 1) := by decide +kernel
theorem dX3_removeAt_71 : decode cX3_removeAt 71 = .ok (.iinc 2 1, 3) := by decide +kernel
theorem dX3_removeAt_74 : decode cX3_removeAt 74 = .ok (.goto (-53), 3) := by decide +kernel
theorem dX3_removeAt_77 : decode cX3_removeAt 77 = .ok (.iconst 0, 1) := by decide +kernel
theorem dX3_removeAt_78 : decode cX3_removeAt 78 = .ok (.istore_n 2, 1) := by decide +kernel
theorem dX3_removeAt_79 : decode cX3_removeAt 79 = .ok (.iload_n 2, 1) := by decide +kernel
theorem dX3_removeAt_80 : decode cX3_removeAt 80 = .ok (.aload_n 0, 1) := by decide +kernel
theorem dX3_removeAt_81 : decode cX3_removeAt 81 = .ok (.getfield 27, 3) := by decide +kernel
theorem dX3_removeAt_84 : decode cX3_removeAt 84 = .ok (.if_icmp .ge 29, 3) := by decide +kernel
theorem dX3_removeAt_87 : decode cX3_removeAt 87 = .ok (.aload_n 0, 1) := by decide +kernel
theorem dX3_removeAt_88 : decode cX3_removeAt 88 = .ok (.getfield 9, 3) := by decide +kernel
theorem dX3_removeAt_91 : decode cX3_removeAt 91 = .ok (.iload_n 2, 1) := by decide +kernel
theorem dX3_removeAt_92 : decode cX3_removeAt 92 = .ok (.iaload, 1) := by decide +kernel
theorem dX3_removeAt_93 : decode cX3_removeAt 93 = .ok (.iload_n 1, 1) := by decide +kernel
theorem dX3_removeAt_94 : decode cX3_removeAt 94 = .ok (.if_icmp .le 13, 3) := by decide +kernel
theorem dX3_removeAt_97 : decode cX3_removeAt 97 = .ok (.aload_n 0, 1) := by decide +kernel
theorem dX3_removeAt_98 : decode cX3_removeAt 98 = .ok (.getfield 9, 3) := by decide +kernel
theorem dX3_removeAt_101 : decode cX3_removeAt 101 = .ok (.iload_n 2, 1) := by decide +kernel
theorem dX3_removeAt_102 : decode cX3_removeAt 102 = .ok (.dup2, 1) := by decide +kernel
theorem dX3_removeAt_103 : decode cX3_removeAt 103 = .ok (.iaload, 1) := by decide +kernel
theorem dX3_removeAt_104 : decode cX3_removeAt 104 = .ok (.iconst 1, 1) := by decide +kernel
theorem dX3_removeAt_105 : decode cX3_removeAt 105 = .ok (.isub, 1) := by decide +kernel
theorem dX3_removeAt_106 : decode cX3_removeAt 106 = .ok (.iastore, 1) := by decide +kernel
theorem dX3_removeAt_107 : decode cX3_removeAt 107 = .ok (.iinc 2 1, 3) := by decide +kernel
theorem dX3_removeAt_110 : decode cX3_removeAt 110 = .ok (.goto (-31), 3) := by decide +kernel
theorem dX3_removeAt_113 : decode cX3_removeAt 113 = .ok (.return_, 1) := by decide +kernel
theorem dX3_taggedTotal_0 : decode cX3_taggedTotal 0 = .ok (.iconst 0, 1) := by decide +kernel
theorem dX3_taggedTotal_1 : decode cX3_taggedTotal 1 = .ok (.istore_n 1, 1) := by decide +kernel
theorem dX3_taggedTotal_2 : decode cX3_taggedTotal 2 = .ok (.iconst 0, 1) := by decide +kernel
theorem dX3_taggedTotal_3 : decode cX3_taggedTotal 3 = .ok (.istore_n 2, 1) := by decide +kernel
theorem dX3_taggedTotal_4 : decode cX3_taggedTotal 4 = .ok (.iload_n 2, 1) := by decide +kernel
theorem dX3_taggedTotal_5 : decode cX3_taggedTotal 5 = .ok (.aload_n 0, 1) := by decide +kernel
theorem dX3_taggedTotal_6 : decode cX3_taggedTotal 6 = .ok (.getfield 27, 3) := by decide +kernel
theorem dX3_taggedTotal_9 : decode cX3_taggedTotal 9 = .ok (.if_icmp .ge 22, 3) := by decide +kernel
theorem dX3_taggedTotal_12 : decode cX3_taggedTotal 12 = .ok (.aload_n 0, 1) := by decide +kernel
theorem dX3_taggedTotal_13 : decode cX3_taggedTotal 13 = .ok (.getfield 19, 3) := by decide +kernel
theorem dX3_taggedTotal_16 : decode cX3_taggedTotal 16 = .ok (.iload_n 2, 1) := by decide +kernel
theorem dX3_taggedTotal_17 : decode cX3_taggedTotal 17 = .ok (.iaload, 1) := by decide +kernel
theorem dX3_taggedTotal_18 : decode cX3_taggedTotal 18 = .ok (.iconst (-1), 1) := by decide +kernel
theorem dX3_taggedTotal_19 : decode cX3_taggedTotal 19 = .ok (.if_icmp .eq 6, 3) := by decide +kernel
theorem dX3_taggedTotal_22 : decode cX3_taggedTotal 22 = .ok (.iinc 1 1, 3) := by decide +kernel
theorem dX3_taggedTotal_25 : decode cX3_taggedTotal 25 = .ok (.iinc 2 1, 3) := by decide +kernel
theorem dX3_taggedTotal_28 : decode cX3_taggedTotal 28 = .ok (.goto (-24), 3) := by decide +kernel
theorem dX3_taggedTotal_31 : decode cX3_taggedTotal 31 = .ok (.iload_n 1, 1) := by decide +kernel
theorem dX3_taggedTotal_32 : decode cX3_taggedTotal 32 = .ok (.ireturn, 1) := by decide +kernel
theorem dX3_childrenOf_0 : decode cX3_childrenOf 0 = .ok (.iconst 0, 1) := by decide +kernel
theorem dX3_childrenOf_1 : decode cX3_childrenOf 1 = .ok (.istore_n 2, 1) := by decide +kernel
theorem dX3_childrenOf_2 : decode cX3_childrenOf 2 = .ok (.iconst 0, 1) := by decide +kernel
theorem dX3_childrenOf_3 : decode cX3_childrenOf 3 = .ok (.istore_n 3, 1) := by decide +kernel
theorem dX3_childrenOf_4 : decode cX3_childrenOf 4 = .ok (.iload_n 3, 1) := by decide +kernel
theorem dX3_childrenOf_5 : decode cX3_childrenOf 5 = .ok (.aload_n 0, 1) := by decide +kernel
theorem dX3_childrenOf_6 : decode cX3_childrenOf 6 = .ok (.getfield 27, 3) := by decide +kernel
theorem dX3_childrenOf_9 : decode cX3_childrenOf 9 = .ok (.if_icmp .ge 22, 3) := by decide +kernel
theorem dX3_childrenOf_12 : decode cX3_childrenOf 12 = .ok (.aload_n 0, 1) := by decide +kernel
theorem dX3_childrenOf_13 : decode cX3_childrenOf 13 = .ok (.getfield 9, 3) := by decide +kernel
theorem dX3_childrenOf_16 : decode cX3_childrenOf 16 = .ok (.iload_n 3, 1) := by decide +kernel
theorem dX3_childrenOf_17 : decode cX3_childrenOf 17 = .ok (.iaload, 1) := by decide +kernel
theorem dX3_childrenOf_18 : decode cX3_childrenOf 18 = .ok (.iload_n 1, 1) := by decide +kernel
theorem dX3_childrenOf_19 : decode cX3_childrenOf 19 = .ok (.if_icmp .ne 6, 3) := by decide +kernel
theorem dX3_childrenOf_22 : decode cX3_childrenOf 22 = .ok (.iinc 2 1, 3) := by decide +kernel
theorem dX3_childrenOf_25 : decode cX3_childrenOf 25 = .ok (.iinc 3 1, 3) := by decide +kernel
theorem dX3_childrenOf_28 : decode cX3_childrenOf 28 = .ok (.goto (-24), 3) := by decide +kernel
theorem dX3_childrenOf_31 : decode cX3_childrenOf 31 = .ok (.iload_n 2, 1) := by decide +kernel
theorem dX3_childrenOf_32 : decode cX3_childrenOf 32 = .ok (.ireturn, 1) := by decide +kernel
set_option maxRecDepth 20000 in
theorem ggX3_subtreeTotal_X3_isInSubtree : GoodIn wsX3_subtreeTotal wsX3_isInSubtree := goodIn_r _ [6, 7, 8, 9, 5, 10, 11, 12, 13, 14, 15, 1, 16, 17, 18, 19] (by decide +kernel) (by decide +kernel)
set_option maxRecDepth 20000 in
theorem gX3_subtreeTotal_X3_isInSubtree : GoodIn wsX3_subtreeTotal (wsV RX3 45 RX3 yX3_isInSubtree wsX3_isInSubtree) := goodIn_app (goodIn_of _ (by decide +kernel)) ggX3_subtreeTotal_X3_isInSubtree
theorem dX3_subtreeTotal_0 : decode cX3_subtreeTotal 0 = .ok (.iconst 0, 1) := by decide +kernel
theorem dX3_subtreeTotal_1 : decode cX3_subtreeTotal 1 = .ok (.istore_n 2, 1) := by decide +kernel
theorem dX3_subtreeTotal_2 : decode cX3_subtreeTotal 2 = .ok (.iconst 0, 1) := by decide +kernel
theorem dX3_subtreeTotal_3 : decode cX3_subtreeTotal 3 = .ok (.istore_n 3, 1) := by decide +kernel
theorem dX3_subtreeTotal_4 : decode cX3_subtreeTotal 4 = .ok (.iload_n 3, 1) := by decide +kernel
theorem dX3_subtreeTotal_5 : decode cX3_subtreeTotal 5 = .ok (.aload_n 0, 1) := by decide +kernel
theorem dX3_subtreeTotal_6 : decode cX3_subtreeTotal 6 = .ok (.getfield 27, 3) := by decide +kernel
theorem dX3_subtreeTotal_9 : decode cX3_subtreeTotal 9 = .ok (.if_icmp .ge 21, 3) := by decide +kernel
theorem dX3_subtreeTotal_12 : decode cX3_subtreeTotal 12 = .ok (.aload_n 0, 1) := by decide +kernel
theorem dX3_subtreeTotal_13 : decode cX3_subtreeTotal 13 = .ok (.iload_n 3, 1) := by decide +kernel
theorem dX3_subtreeTotal_14 : decode cX3_subtreeTotal 14 = .ok (.iload_n 1, 1) := by decide +kernel
theorem dX3_subtreeTotal_15 : decode cX3_subtreeTotal 15 = .ok (.invokevirtual 45, 3) := by decide +kernel
theorem dX3_subtreeTotal_18 : decode cX3_subtreeTotal 18 = .ok (.ifCond .eq 6, 3) := by decide +kernel
theorem dX3_subtreeTotal_21 : decode cX3_subtreeTotal 21 = .ok (.iinc 2 1, 3) := by decide +kernel
theorem dX3_subtreeTotal_24 : decode cX3_subtreeTotal 24 = .ok (.iinc 3 1, 3) := by decide +kernel
theorem dX3_subtreeTotal_27 : decode cX3_subtreeTotal 27 = .ok (.goto (-23), 3) := by decide +kernel
theorem dX3_subtreeTotal_30 : decode cX3_subtreeTotal 30 = .ok (.iload_n 2, 1) := by decide +kernel
theorem dX3_subtreeTotal_31 : decode cX3_subtreeTotal 31 = .ok (.ireturn, 1) := by decide +kernel
set_option maxRecDepth 20000 in
theorem ggX3_depthOf_X3_parentOf : GoodIn wsX3_depthOf wsX3_parentOf := goodIn_r _ [5, 6, 7, 8, 9, 4, 10, 11, 12, 13, 14, 15] (by decide +kernel) (by decide +kernel)
set_option maxRecDepth 20000 in
theorem gX3_depthOf_X3_parentOf : GoodIn wsX3_depthOf (wsV RX3 49 RX3 yX3_parentOf wsX3_parentOf) := goodIn_app (goodIn_of _ (by decide +kernel)) ggX3_depthOf_X3_parentOf
theorem dX3_depthOf_0 : decode cX3_depthOf 0 = .ok (.iconst 0, 1) := by decide +kernel
theorem dX3_depthOf_1 : decode cX3_depthOf 1 = .ok (.istore_n 2, 1) := by decide +kernel
theorem dX3_depthOf_2 : decode cX3_depthOf 2 = .ok (.aload_n 0, 1) := by decide +kernel
theorem dX3_depthOf_3 : decode cX3_depthOf 3 = .ok (.iload_n 1, 1) := by decide +kernel
theorem dX3_depthOf_4 : decode cX3_depthOf 4 = .ok (.invokevirtual 49, 3) := by decide +kernel
theorem dX3_depthOf_7 : decode cX3_depthOf 7 = .ok (.istore_n 3, 1) := by decide +kernel
theorem dX3_depthOf_8 : decode cX3_depthOf 8 = .ok (.iload_n 3, 1) := by decide +kernel
theorem dX3_depthOf_9 : decode cX3_depthOf 9 = .ok (.iconst (-1), 1) := by decide +kernel
theorem dX3_depthOf_10 : decode cX3_depthOf 10 = .ok (.if_icmp .eq 21, 3) := by decide +kernel
theorem dX3_depthOf_13 : decode cX3_depthOf 13 = .ok (.iload_n 2, 1) := by decide +kernel
theorem dX3_depthOf_14 : decode cX3_depthOf 14 = .ok (.bipush 40, 2) := by decide +kernel
theorem dX3_depthOf_16 : decode cX3_depthOf 16 = .ok (.if_icmp .ge 15, 3) := by decide +kernel
theorem dX3_depthOf_19 : decode cX3_depthOf 19 = .ok (.iinc 2 1, 3) := by decide +kernel
theorem dX3_depthOf_22 : decode cX3_depthOf 22 = .ok (.aload_n 0, 1) := by decide +kernel
theorem dX3_depthOf_23 : decode cX3_depthOf 23 = .ok (.iload_n 3, 1) := by decide +kernel
theorem dX3_depthOf_24 : decode cX3_depthOf 24 = .ok (.invokevirtual 49, 3) := by decide +kernel
theorem dX3_depthOf_27 : decode cX3_depthOf 27 = .ok (.istore_n 3, 1) := by decide +kernel
theorem dX3_depthOf_28 : decode cX3_depthOf 28 = .ok (.goto (-20), 3) := by decide +kernel
theorem dX3_depthOf_31 : decode cX3_depthOf 31 = .ok (.iload_n 2, 1) := by decide +kernel
theorem dX3_depthOf_32 : decode cX3_depthOf 32 = .ok (.ireturn, 1) := by decide +kernel
set_option maxRecDepth 20000 in
theorem ggX3_ancestorOf_X3_parentOf : GoodIn wsX3_ancestorOf wsX3_parentOf := goodIn_r _ [5, 6, 7, 8, 9, 4, 10, 11, 12, 13, 14, 15] (by decide +kernel) (by decide +kernel)
set_option maxRecDepth 20000 in
theorem gX3_ancestorOf_X3_parentOf : GoodIn wsX3_ancestorOf (wsV RX3 49 RX3 yX3_parentOf wsX3_parentOf) := goodIn_app (goodIn_of _ (by decide +kernel)) ggX3_ancestorOf_X3_parentOf
theorem dX3_ancestorOf_0 : decode cX3_ancestorOf 0 = .ok (.iload_n 1, 1) := by decide +kernel
theorem dX3_ancestorOf_1 : decode cX3_ancestorOf 1 = .ok (.istore_n 3, 1) := by decide +kernel
theorem dX3_ancestorOf_2 : decode cX3_ancestorOf 2 = .ok (.iconst 0, 1) := by decide +kernel
theorem dX3_ancestorOf_3 : decode cX3_ancestorOf 3 = .ok (.istore 4, 2) := by decide +kernel
theorem dX3_ancestorOf_5 : decode cX3_ancestorOf 5 = .ok (.iload 4, 2) := by decide +kernel
theorem dX3_ancestorOf_7 : decode cX3_ancestorOf 7 = .ok (.iload_n 2, 1) := by decide +kernel
theorem dX3_ancestorOf_8 : decode cX3_ancestorOf 8 = .ok (.if_icmp .ge 15, 3) := by decide +kernel
theorem dX3_ancestorOf_11 : decode cX3_ancestorOf 11 = .ok (.aload_n 0, 1) := by decide +kernel
theorem dX3_ancestorOf_12 : decode cX3_ancestorOf 12 = .ok (.iload_n 3, 1) := by decide +kernel
theorem dX3_ancestorOf_13 : decode cX3_ancestorOf 13 = .ok (.invokevirtual 49, 3) := by decide +kernel
theorem dX3_ancestorOf_16 : decode cX3_ancestorOf 16 = .ok (.istore_n 3, 1) := by decide +kernel
theorem dX3_ancestorOf_17 : decode cX3_ancestorOf 17 = .ok (.iinc 4 1, 3) := by decide +kernel
theorem dX3_ancestorOf_20 : decode cX3_ancestorOf 20 = .ok (.goto (-15), 3) := by decide +kernel
theorem dX3_ancestorOf_23 : decode cX3_ancestorOf 23 = .ok (.iload_n 3, 1) := by decide +kernel
theorem dX3_ancestorOf_24 : decode cX3_ancestorOf 24 = .ok (.ireturn, 1) := by decide +kernel
set_option maxRecDepth 20000 in
theorem ggX3_projectOf_X3_tagOf : GoodIn wsX3_projectOf wsX3_tagOf := goodIn_r _ [5, 6, 7, 8, 9, 4, 10, 11, 17, 18, 19, 20] (by decide +kernel) (by decide +kernel)
set_option maxRecDepth 20000 in
theorem gX3_projectOf_X3_tagOf : GoodIn wsX3_projectOf (wsV RX3 53 RX3 yX3_tagOf wsX3_tagOf) := goodIn_app (goodIn_of _ (by decide +kernel)) ggX3_projectOf_X3_tagOf
set_option maxRecDepth 20000 in
theorem ggX3_projectOf_X3_parentOf : GoodIn wsX3_projectOf wsX3_parentOf := goodIn_r _ [15, 16, 7, 8, 9, 4, 10, 11, 17, 18, 19, 20] (by decide +kernel) (by decide +kernel)
set_option maxRecDepth 20000 in
theorem gX3_projectOf_X3_parentOf : GoodIn wsX3_projectOf (wsV RX3 49 RX3 yX3_parentOf wsX3_parentOf) := goodIn_app (goodIn_of _ (by decide +kernel)) ggX3_projectOf_X3_parentOf
theorem dX3_projectOf_0 : decode cX3_projectOf 0 = .ok (.iload_n 1, 1) := by decide +kernel
theorem dX3_projectOf_1 : decode cX3_projectOf 1 = .ok (.istore_n 2, 1) := by decide +kernel
theorem dX3_projectOf_2 : decode cX3_projectOf 2 = .ok (.iconst 0, 1) := by decide +kernel
theorem dX3_projectOf_3 : decode cX3_projectOf 3 = .ok (.istore_n 3, 1) := by decide +kernel
theorem dX3_projectOf_4 : decode cX3_projectOf 4 = .ok (.iload_n 3, 1) := by decide +kernel
theorem dX3_projectOf_5 : decode cX3_projectOf 5 = .ok (.bipush 40, 2) := by decide +kernel
theorem dX3_projectOf_7 : decode cX3_projectOf 7 = .ok (.if_icmp .ge 35, 3) := by decide +kernel
theorem dX3_projectOf_10 : decode cX3_projectOf 10 = .ok (.iload_n 2, 1) := by decide +kernel
theorem dX3_projectOf_11 : decode cX3_projectOf 11 = .ok (.iconst (-1), 1) := by decide +kernel
theorem dX3_projectOf_12 : decode cX3_projectOf 12 = .ok (.if_icmp .eq 30, 3) := by decide +kernel
theorem dX3_projectOf_15 : decode cX3_projectOf 15 = .ok (.aload_n 0, 1) := by decide +kernel
theorem dX3_projectOf_16 : decode cX3_projectOf 16 = .ok (.iload_n 2, 1) := by decide +kernel
theorem dX3_projectOf_17 : decode cX3_projectOf 17 = .ok (.invokevirtual 53, 3) := by decide +kernel
theorem dX3_projectOf_20 : decode cX3_projectOf 20 = .ok (.iconst (-1), 1) := by decide +kernel
theorem dX3_projectOf_21 : decode cX3_projectOf 21 = .ok (.if_icmp .eq 9, 3) := by decide +kernel
theorem dX3_projectOf_24 : decode cX3_projectOf 24 = .ok (.aload_n 0, 1) := by decide +kernel
theorem dX3_projectOf_25 : decode cX3_projectOf 25 = .ok (.iload_n 2, 1) := by decide +kernel
theorem dX3_projectOf_26 : decode cX3_projectOf 26 = .ok (.invokevirtual 53, 3) := by decide +kernel
theorem dX3_projectOf_29 : decode cX3_projectOf 29 = .ok (.ireturn, 1) := by decide +kernel
theorem dX3_projectOf_30 : decode cX3_projectOf 30 = .ok (.aload_n 0, 1) := by decide +kernel
theorem dX3_projectOf_31 : decode cX3_projectOf 31 = .ok (.iload_n 2, 1) := by decide +kernel
theorem dX3_projectOf_32 : decode cX3_projectOf 32 = .ok (.invokevirtual 49, 3) := by decide +kernel
theorem dX3_projectOf_35 : decode cX3_projectOf 35 = .ok (.istore_n 2, 1) := by decide +kernel
theorem dX3_projectOf_36 : decode cX3_projectOf 36 = .ok (.iinc 3 1, 3) := by decide +kernel
theorem dX3_projectOf_39 : decode cX3_projectOf 39 = .ok (.goto (-35), 3) := by decide +kernel
theorem dX3_projectOf_42 : decode cX3_projectOf 42 = .ok (.iconst (-1), 1) := by decide +kernel
theorem dX3_projectOf_43 : decode cX3_projectOf 43 = .ok (.ireturn, 1) := by decide +kernel
set_option maxRecDepth 20000 in
theorem ggX3_projectIfTagged_X3_parentOf : GoodIn wsX3_projectIfTagged wsX3_parentOf := goodIn_r _ [5, 6, 7, 8, 9, 4, 10, 11, 21, 22, 23, 24] (by decide +kernel) (by decide +kernel)
set_option maxRecDepth 20000 in
theorem gX3_projectIfTagged_X3_parentOf : GoodIn wsX3_projectIfTagged (wsV RX3 49 RX3 yX3_parentOf wsX3_parentOf) := goodIn_app (goodIn_of _ (by decide +kernel)) ggX3_projectIfTagged_X3_parentOf
set_option maxRecDepth 20000 in
theorem ggX3_projectIfTagged_X3_projectOf : GoodIn wsX3_projectIfTagged wsX3_projectOf := goodIn_r _ [15, 16, 17, 18, 4, 19, 20, 7, 8, 9, 10, 11, 1, 2, 3, 5, 6, 21, 22, 23, 24] (by decide +kernel) (by decide +kernel)
set_option maxRecDepth 20000 in
theorem gX3_projectIfTagged_X3_projectOf : GoodIn wsX3_projectIfTagged (wsV RX3 56 RX3 yX3_projectOf wsX3_projectOf) := goodIn_app (goodIn_of _ (by decide +kernel)) ggX3_projectIfTagged_X3_projectOf
theorem dX3_projectIfTagged_0 : decode cX3_projectIfTagged 0 = .ok (.iload_n 2, 1) := by decide +kernel
theorem dX3_projectIfTagged_1 : decode cX3_projectIfTagged 1 = .ok (.iconst (-1), 1) := by decide +kernel
theorem dX3_projectIfTagged_2 : decode cX3_projectIfTagged 2 = .ok (.if_icmp .eq 7, 3) := by decide +kernel
theorem dX3_projectIfTagged_5 : decode cX3_projectIfTagged 5 = .ok (.iload_n 2, 1) := by decide +kernel
theorem dX3_projectIfTagged_6 : decode cX3_projectIfTagged 6 = .ok (.goto 12, 3) := by decide +kernel
theorem dX3_projectIfTagged_9 : decode cX3_projectIfTagged 9 = .ok (.aload_n 0, 1) := by decide +kernel
theorem dX3_projectIfTagged_10 : decode cX3_projectIfTagged 10 = .ok (.aload_n 0, 1) := by decide +kernel
theorem dX3_projectIfTagged_11 : decode cX3_projectIfTagged 11 = .ok (.iload_n 1, 1) := by decide +kernel
theorem dX3_projectIfTagged_12 : decode cX3_projectIfTagged 12 = .ok (.invokevirtual 49, 3) := by decide +kernel
theorem dX3_projectIfTagged_15 : decode cX3_projectIfTagged 15 = .ok (.invokevirtual 56, 3) := by decide +kernel
theorem dX3_projectIfTagged_18 : decode cX3_projectIfTagged 18 = .ok (.ireturn, 1) := by decide +kernel
set_option maxRecDepth 20000 in
theorem ggX3_projectIfMoved_X3_tagOf : GoodIn wsX3_projectIfMoved wsX3_tagOf := goodIn_r _ [5, 6, 7, 8, 9, 4, 10, 11, 21, 22, 23, 24] (by decide +kernel) (by decide +kernel)
set_option maxRecDepth 20000 in
theorem gX3_projectIfMoved_X3_tagOf : GoodIn wsX3_projectIfMoved (wsV RX3 53 RX3 yX3_tagOf wsX3_tagOf) := goodIn_app (goodIn_of _ (by decide +kernel)) ggX3_projectIfMoved_X3_tagOf
set_option maxRecDepth 20000 in
theorem ggX3_projectIfMoved_X3_projectOf : GoodIn wsX3_projectIfMoved wsX3_projectOf := goodIn_r _ [15, 1, 2, 3, 4, 5, 6, 7, 8, 9, 10, 11, 16, 17, 18, 19, 20, 21, 22, 23, 24] (by decide +kernel) (by decide +kernel)
set_option maxRecDepth 20000 in
theorem gX3_projectIfMoved_X3_projectOf : GoodIn wsX3_projectIfMoved (wsV RX3 56 RX3 yX3_projectOf wsX3_projectOf) := goodIn_app (goodIn_of _ (by decide +kernel)) ggX3_projectIfMoved_X3_projectOf
theorem dX3_projectIfMoved_0 : decode cX3_projectIfMoved 0 = .ok (.aload_n 0, 1) := by decide +kernel
theorem dX3_projectIfMoved_1 : decode cX3_projectIfMoved 1 = .ok (.iload_n 1, 1) := by decide +kernel
theorem dX3_projectIfMoved_2 : decode cX3_projectIfMoved 2 = .ok (.invokevirtual 53, 3) := by decide +kernel
theorem dX3_projectIfMoved_5 : decode cX3_projectIfMoved 5 = .ok (.iconst (-1), 1) := by decide +kernel
theorem dX3_projectIfMoved_6 : decode cX3_projectIfMoved 6 = .ok (.if_icmp .eq 11, 3) := by decide +kernel
theorem dX3_projectIfMoved_9 : decode cX3_projectIfMoved 9 = .ok (.aload_n 0, 1) := by decide +kernel
theorem dX3_projectIfMoved_10 : decode cX3_projectIfMoved 10 = .ok (.iload_n 1, 1) := by decide +kernel
theorem dX3_projectIfMoved_11 : decode cX3_projectIfMoved 11 = .ok (.invokevirtual 53, 3) := by decide +kernel
theorem dX3_projectIfMoved_14 : decode cX3_projectIfMoved 14 = .ok (.goto 8, 3) := by decide +kernel
theorem dX3_projectIfMoved_17 : decode cX3_projectIfMoved 17 = .ok (.aload_n 0, 1) := by decide +kernel
theorem dX3_projectIfMoved_18 : decode cX3_projectIfMoved 18 = .ok (.iload_n 2, 1) := by decide +kernel
theorem dX3_projectIfMoved_19 : decode cX3_projectIfMoved 19 = .ok (.invokevirtual 56, 3) := by decide +kernel
theorem dX3_projectIfMoved_22 : decode cX3_projectIfMoved 22 = .ok (.ireturn, 1) := by decide +kernel
set_option maxRecDepth 20000 in
theorem ggX3_isInSubtree_X3_parentOf : GoodIn wsX3_isInSubtree wsX3_parentOf := goodIn_r _ [5, 6, 7, 8, 9, 4, 10, 11, 12, 13, 14, 15] (by decide +kernel) (by decide +kernel)
set_option maxRecDepth 20000 in
theorem gX3_isInSubtree_X3_parentOf : GoodIn wsX3_isInSubtree (wsV RX3 49 RX3 yX3_parentOf wsX3_parentOf) := goodIn_app (goodIn_of _ (by decide +kernel)) ggX3_isInSubtree_X3_parentOf
theorem dX3_isInSubtree_0 : decode cX3_isInSubtree 0 = .ok (.iload_n 1, 1) := by decide +kernel
theorem dX3_isInSubtree_1 : decode cX3_isInSubtree 1 = .ok (.istore_n 3, 1) := by decide +kernel
theorem dX3_isInSubtree_2 : decode cX3_isInSubtree 2 = .ok (.iconst 0, 1) := by decide +kernel
theorem dX3_isInSubtree_3 : decode cX3_isInSubtree 3 = .ok (.istore 4, 2) := by decide +kernel
theorem dX3_isInSubtree_5 : decode cX3_isInSubtree 5 = .ok (.iload 4, 2) := by decide +kernel
theorem dX3_isInSubtree_7 : decode cX3_isInSubtree 7 = .ok (.bipush 40, 2) := by decide +kernel
theorem dX3_isInSubtree_9 : decode cX3_isInSubtree 9 = .ok (.if_icmp .ge 27, 3) := by decide +kernel
theorem dX3_isInSubtree_12 : decode cX3_isInSubtree 12 = .ok (.iload_n 3, 1) := by decide +kernel
theorem dX3_isInSubtree_13 : decode cX3_isInSubtree 13 = .ok (.iconst (-1), 1) := by decide +kernel
theorem dX3_isInSubtree_14 : decode cX3_isInSubtree 14 = .ok (.if_icmp .eq 22, 3) := by decide +kernel
theorem dX3_isInSubtree_17 : decode cX3_isInSubtree 17 = .ok (.iload_n 3, 1) := by decide +kernel
theorem dX3_isInSubtree_18 : decode cX3_isInSubtree 18 = .ok (.iload_n 2, 1) := by decide +kernel
theorem dX3_isInSubtree_19 : decode cX3_isInSubtree 19 = .ok (.if_icmp .ne 5, 3) := by decide +kernel
theorem dX3_isInSubtree_22 : decode cX3_isInSubtree 22 = .ok (.iconst 1, 1) := by decide +kernel
theorem dX3_isInSubtree_23 : decode cX3_isInSubtree 23 = .ok (.ireturn, 1) := by decide +kernel
theorem dX3_isInSubtree_24 : decode cX3_isInSubtree 24 = .ok (.aload_n 0, 1) := by decide +kernel
theorem dX3_isInSubtree_25 : decode cX3_isInSubtree 25 = .ok (.iload_n 3, 1) := by decide +kernel
theorem dX3_isInSubtree_26 : decode cX3_isInSubtree 26 = .ok (.invokevirtual 49, 3) := by decide +kernel
theorem dX3_isInSubtree_29 : decode cX3_isInSubtree 29 = .ok (.istore_n 3, 1) := by decide +kernel
theorem dX3_isInSubtree_30 : decode cX3_isInSubtree 30 = .ok (.iinc 4 1, 3) := by decide +kernel
theorem dX3_isInSubtree_33 : decode cX3_isInSubtree 33 = .ok (.goto (-28), 3) := by decide +kernel
theorem dX3_isInSubtree_36 : decode cX3_isInSubtree 36 = .ok (.iconst 0, 1) := by decide +kernel
theorem dX3_isInSubtree_37 : decode cX3_isInSubtree 37 = .ok (.ireturn, 1) := by decide +kernel
set_option maxRecDepth 20000 in
theorem ggX3_isOpenTo_X3_tagOf : GoodIn wsX3_isOpenTo wsX3_tagOf := goodIn_r _ [5, 6, 7, 8, 9, 4, 10, 11, 17, 18, 19, 20] (by decide +kernel) (by decide +kernel)
set_option maxRecDepth 20000 in
theorem gX3_isOpenTo_X3_tagOf : GoodIn wsX3_isOpenTo (wsV RX3 53 RX3 yX3_tagOf wsX3_tagOf) := goodIn_app (goodIn_of _ (by decide +kernel)) ggX3_isOpenTo_X3_tagOf
set_option maxRecDepth 20000 in
theorem ggX3_isOpenTo_X3_parentOf : GoodIn wsX3_isOpenTo wsX3_parentOf := goodIn_r _ [15, 16, 7, 8, 9, 4, 10, 11, 17, 18, 19, 20] (by decide +kernel) (by decide +kernel)
set_option maxRecDepth 20000 in
theorem gX3_isOpenTo_X3_parentOf : GoodIn wsX3_isOpenTo (wsV RX3 49 RX3 yX3_parentOf wsX3_parentOf) := goodIn_app (goodIn_of _ (by decide +kernel)) ggX3_isOpenTo_X3_parentOf
theorem dX3_isOpenTo_0 : decode cX3_isOpenTo 0 = .ok (.iload_n 1, 1) := by decide +kernel
theorem dX3_isOpenTo_1 : decode cX3_isOpenTo 1 = .ok (.istore_n 3, 1) := by decide +kernel
theorem dX3_isOpenTo_2 : decode cX3_isOpenTo 2 = .ok (.iconst 0, 1) := by decide +kernel
theorem dX3_isOpenTo_3 : decode cX3_isOpenTo 3 = .ok (.istore 4, 2) := by decide +kernel
theorem dX3_isOpenTo_5 : decode cX3_isOpenTo 5 = .ok (.iload 4, 2) := by decide +kernel
theorem dX3_isOpenTo_7 : decode cX3_isOpenTo 7 = .ok (.bipush 40, 2) := by decide +kernel
theorem dX3_isOpenTo_9 : decode cX3_isOpenTo 9 = .ok (.if_icmp .ge 38, 3) := by decide +kernel
theorem dX3_isOpenTo_12 : decode cX3_isOpenTo 12 = .ok (.iload_n 3, 1) := by decide +kernel
theorem dX3_isOpenTo_13 : decode cX3_isOpenTo 13 = .ok (.iconst (-1), 1) := by decide +kernel
theorem dX3_isOpenTo_14 : decode cX3_isOpenTo 14 = .ok (.if_icmp .eq 33, 3) := by decide +kernel
theorem dX3_isOpenTo_17 : decode cX3_isOpenTo 17 = .ok (.iload_n 3, 1) := by decide +kernel
theorem dX3_isOpenTo_18 : decode cX3_isOpenTo 18 = .ok (.iload_n 2, 1) := by decide +kernel
theorem dX3_isOpenTo_19 : decode cX3_isOpenTo 19 = .ok (.if_icmp .ne 5, 3) := by decide +kernel
theorem dX3_isOpenTo_22 : decode cX3_isOpenTo 22 = .ok (.iconst 1, 1) := by decide +kernel
theorem dX3_isOpenTo_23 : decode cX3_isOpenTo 23 = .ok (.ireturn, 1) := by decide +kernel
theorem dX3_isOpenTo_24 : decode cX3_isOpenTo 24 = .ok (.aload_n 0, 1) := by decide +kernel
theorem dX3_isOpenTo_25 : decode cX3_isOpenTo 25 = .ok (.iload_n 3, 1) := by decide +kernel
theorem dX3_isOpenTo_26 : decode cX3_isOpenTo 26 = .ok (.invokevirtual 53, 3) := by decide +kernel
theorem dX3_isOpenTo_29 : decode cX3_isOpenTo 29 = .ok (.iconst (-1), 1) := by decide +kernel
theorem dX3_isOpenTo_30 : decode cX3_isOpenTo 30 = .ok (.if_icmp .eq 5, 3) := by decide +kernel
theorem dX3_isOpenTo_33 : decode cX3_isOpenTo 33 = .ok (.iconst 0, 1) := by decide +kernel
theorem dX3_isOpenTo_34 : decode cX3_isOpenTo 34 = .ok (.ireturn, 1) := by decide +kernel
theorem dX3_isOpenTo_35 : decode cX3_isOpenTo 35 = .ok (.aload_n 0, 1) := by decide +kernel
theorem dX3_isOpenTo_36 : decode cX3_isOpenTo 36 = .ok (.iload_n 3, 1) := by decide +kernel
theorem dX3_isOpenTo_37 : decode cX3_isOpenTo 37 = .ok (.invokevirtual 49, 3) := by decide +kernel
theorem dX3_isOpenTo_40 : decode cX3_isOpenTo 40 = .ok (.istore_n 3, 1) := by decide +kernel
theorem dX3_isOpenTo_41 : decode cX3_isOpenTo 41 = .ok (.iinc 4 1, 3) := by decide +kernel
theorem dX3_isOpenTo_44 : decode cX3_isOpenTo 44 = .ok (.goto (-39), 3) := by decide +kernel
theorem dX3_isOpenTo_47 : decode cX3_isOpenTo 47 = .ok (.iconst 0, 1) := by decide +kernel
theorem dX3_isOpenTo_48 : decode cX3_isOpenTo 48 = .ok (.ireturn, 1) := by decide +kernel
set_option maxRecDepth 20000 in
theorem ggX3_nextChild_X3_parentOf : GoodIn wsX3_nextChild wsX3_parentOf := goodIn_r _ [6, 7, 8, 9, 10, 5, 11, 1, 12, 13, 14, 15] (by decide +kernel) (by decide +kernel)
set_option maxRecDepth 20000 in
theorem gX3_nextChild_X3_parentOf : GoodIn wsX3_nextChild (wsV RX3 49 RX3 yX3_parentOf wsX3_parentOf) := goodIn_app (goodIn_of _ (by decide +kernel)) ggX3_nextChild_X3_parentOf
theorem dX3_nextChild_0 : decode cX3_nextChild 0 = .ok (.iload_n 2, 1) := by decide +kernel
theorem dX3_nextChild_1 : decode cX3_nextChild 1 = .ok (.iconst 1, 1) := by decide +kernel
theorem dX3_nextChild_2 : decode cX3_nextChild 2 = .ok (.iadd, 1) := by decide +kernel
theorem dX3_nextChild_3 : decode cX3_nextChild 3 = .ok (.istore_n 3, 1) := by decide +kernel
theorem dX3_nextChild_4 : decode cX3_nextChild 4 = .ok (.iload_n 3, 1) := by decide +kernel
theorem dX3_nextChild_5 : decode cX3_nextChild 5 = .ok (.aload_n 0, 1) := by decide +kernel
theorem dX3_nextChild_6 : decode cX3_nextChild 6 = .ok (.getfield 27, 3) := by decide +kernel
theorem dX3_nextChild_9 : decode cX3_nextChild 9 = .ok (.if_icmp .ge 20, 3) := by decide +kernel
theorem dX3_nextChild_12 : decode cX3_nextChild 12 = .ok (.aload_n 0, 1) := by decide +kernel
theorem dX3_nextChild_13 : decode cX3_nextChild 13 = .ok (.iload_n 3, 1) := by decide +kernel
theorem dX3_nextChild_14 : decode cX3_nextChild 14 = .ok (.invokevirtual 49, 3) := by decide +kernel
theorem dX3_nextChild_17 : decode cX3_nextChild 17 = .ok (.iload_n 1, 1) := by decide +kernel
theorem dX3_nextChild_18 : decode cX3_nextChild 18 = .ok (.if_icmp .ne 5, 3) := by decide +kernel
theorem dX3_nextChild_21 : decode cX3_nextChild 21 = .ok (.iload_n 3, 1) := by decide +kernel
theorem dX3_nextChild_22 : decode cX3_nextChild 22 = .ok (.ireturn, 1) := by decide +kernel
theorem dX3_nextChild_23 : decode cX3_nextChild 23 = .ok (.iinc 3 1, 3) := by decide +kernel
theorem dX3_nextChild_26 : decode cX3_nextChild 26 = .ok (.goto (-22), 3) := by decide +kernel
theorem dX3_nextChild_29 : decode cX3_nextChild 29 = .ok (.iconst (-1), 1) := by decide +kernel
theorem dX3_nextChild_30 : decode cX3_nextChild 30 = .ok (.ireturn, 1) := by decide +kernel
set_option maxRecDepth 20000 in
theorem ggX3_nextInWalk_X3_nextChild : GoodIn wsX3_nextInWalk wsX3_nextChild := goodIn_r _ [5, 6, 7, 8, 9, 4, 10, 11, 12, 13, 14, 15, 16, 17, 18, 19] (by decide +kernel) (by decide +kernel)
set_option maxRecDepth 20000 in
theorem gX3_nextInWalk_X3_nextChild : GoodIn wsX3_nextInWalk (wsV RX3 59 RX3 yX3_nextChild wsX3_nextChild) := goodIn_app (goodIn_of _ (by decide +kernel)) ggX3_nextInWalk_X3_nextChild
set_option maxRecDepth 20000 in
theorem ggX3_nextInWalk_X3_parentOf : GoodIn wsX3_nextInWalk wsX3_parentOf := goodIn_r _ [10, 11, 12, 13, 14, 4, 15, 6, 16, 17, 18, 19] (by decide +kernel) (by decide +kernel)
set_option maxRecDepth 20000 in
theorem gX3_nextInWalk_X3_parentOf : GoodIn wsX3_nextInWalk (wsV RX3 49 RX3 yX3_parentOf wsX3_parentOf) := goodIn_app (goodIn_of _ (by decide +kernel)) ggX3_nextInWalk_X3_parentOf
theorem dX3_nextInWalk_0 : decode cX3_nextInWalk 0 = .ok (.aload_n 0, 1) := by decide +kernel
theorem dX3_nextInWalk_1 : decode cX3_nextInWalk 1 = .ok (.iload_n 1, 1) := by decide +kernel
theorem dX3_nextInWalk_2 : decode cX3_nextInWalk 2 = .ok (.iconst (-1), 1) := by decide +kernel
theorem dX3_nextInWalk_3 : decode cX3_nextInWalk 3 = .ok (.invokevirtual 59, 3) := by decide +kernel
theorem dX3_nextInWalk_6 : decode cX3_nextInWalk 6 = .ok (.istore_n 2, 1) := by decide +kernel
theorem dX3_nextInWalk_7 : decode cX3_nextInWalk 7 = .ok (.iload_n 1, 1) := by decide +kernel
theorem dX3_nextInWalk_8 : decode cX3_nextInWalk 8 = .ok (.istore_n 3, 1) := by decide +kernel
theorem dX3_nextInWalk_9 : decode cX3_nextInWalk 9 = .ok (.iconst 0, 1) := by decide +kernel
theorem dX3_nextInWalk_10 : decode cX3_nextInWalk 10 = .ok (.istore 4, 2) := by decide +kernel
theorem dX3_nextInWalk_12 : decode cX3_nextInWalk 12 = .ok (.iload 4, 2) := by decide +kernel
theorem dX3_nextInWalk_14 : decode cX3_nextInWalk 14 = .ok (.bipush 40, 2) := by decide +kernel
theorem dX3_nextInWalk_16 : decode cX3_nextInWalk 16 = .ok (.if_icmp .ge 35, 3) := by decide +kernel
theorem dX3_nextInWalk_19 : decode cX3_nextInWalk 19 = .ok (.iload_n 2, 1) := by decide +kernel
theorem dX3_nextInWalk_20 : decode cX3_nextInWalk 20 = .ok (.iconst (-1), 1) := by decide +kernel
theorem dX3_nextInWalk_21 : decode cX3_nextInWalk 21 = .ok (.if_icmp .ne 30, 3) := by decide +kernel
theorem dX3_nextInWalk_24 : decode cX3_nextInWalk 24 = .ok (.iload_n 3, 1) := by decide +kernel
theorem dX3_nextInWalk_25 : decode cX3_nextInWalk 25 = .ok (.ifCond .eq 26, 3) := by decide +kernel
theorem dX3_nextInWalk_28 : decode cX3_nextInWalk 28 = .ok (.aload_n 0, 1) := by decide +kernel
theorem dX3_nextInWalk_29 : decode cX3_nextInWalk 29 = .ok (.aload_n 0, 1) := by decide +kernel
theorem dX3_nextInWalk_30 : decode cX3_nextInWalk 30 = .ok (.iload_n 3, 1) := by decide +kernel
theorem dX3_nextInWalk_31 : decode cX3_nextInWalk 31 = .ok (.invokevirtual 49, 3) := by decide +kernel
theorem dX3_nextInWalk_34 : decode cX3_nextInWalk 34 = .ok (.iload_n 3, 1) := by decide +kernel
theorem dX3_nextInWalk_35 : decode cX3_nextInWalk 35 = .ok (.invokevirtual 59, 3) := by decide +kernel
theorem dX3_nextInWalk_38 : decode cX3_nextInWalk 38 = .ok (.istore_n 2, 1) := by decide +kernel
theorem dX3_nextInWalk_39 : decode cX3_nextInWalk 39 = .ok (.aload_n 0, 1) := by decide +kernel
theorem dX3_nextInWalk_40 : decode cX3_nextInWalk 40 = .ok (.iload_n 3, 1) := by decide +kernel
theorem dX3_nextInWalk_41 : decode cX3_nextInWalk 41 = .ok (.invokevirtual 49, 3) := by decide +kernel
theorem dX3_nextInWalk_44 : decode cX3_nextInWalk 44 = .ok (.istore_n 3, 1) := by decide +kernel
theorem dX3_nextInWalk_45 : decode cX3_nextInWalk 45 = .ok (.iinc 4 1, 3) := by decide +kernel
theorem dX3_nextInWalk_48 : decode cX3_nextInWalk 48 = .ok (.goto (-36), 3) := by decide +kernel
theorem dX3_nextInWalk_51 : decode cX3_nextInWalk 51 = .ok (.iload_n 2, 1) := by decide +kernel
theorem dX3_nextInWalk_52 : decode cX3_nextInWalk 52 = .ok (.ireturn, 1) := by decide +kernel
theorem dX4_init_0 : decode cX4_init 0 = .ok (.aload_n 0, 1) := by decide +kernel
theorem dX4_init_1 : decode cX4_init 1 = .ok (.invokespecial 3, 3) := by decide +kernel
theorem dX4_init_4 : decode cX4_init 4 = .ok (.aload_n 0, 1) := by decide +kernel
theorem dX4_init_5 : decode cX4_init 5 = .ok (.bipush 12, 2) := by decide +kernel
theorem dX4_init_7 : decode cX4_init 7 = .ok (.newarray .int, 2) := by decide +kernel
theorem dX4_init_9 : decode cX4_init 9 = .ok (.putfield 9, 3) := by decide +kernel
theorem dX4_init_12 : decode cX4_init 12 = .ok (.aload_n 0, 1) := by decide +kernel
theorem dX4_init_13 : decode cX4_init 13 = .ok (.bipush 12, 2) := by decide +kernel
theorem dX4_init_15 : decode cX4_init 15 = .ok (.newarray .int, 2) := by decide +kernel
theorem dX4_init_17 : decode cX4_init 17 = .ok (.putfield 15, 3) := by decide +kernel
theorem dX4_init_20 : decode cX4_init 20 = .ok (.aload_n 0, 1) := by decide +kernel
theorem dX4_init_21 : decode cX4_init 21 = .ok (.bipush 12, 2) := by decide +kernel
theorem dX4_init_23 : decode cX4_init 23 = .ok (.newarray .int, 2) := by decide +kernel
theorem dX4_init_25 : decode cX4_init 25 = .ok (.putfield 18, 3) := by decide +kernel
theorem dX4_init_28 : decode cX4_init 28 = .ok (.aload_n 0, 1) := by decide +kernel
theorem dX4_init_29 : decode cX4_init 29 = .ok (.bipush 12, 2) := by decide +kernel
theorem dX4_init_31 : decode cX4_init 31 = .ok (.newarray .int, 2) := by decide +kernel
theorem dX4_init_33 : decode cX4_init 33 = .ok (.putfield 21, 3) := by decide +kernel
theorem dX4_init_36 : decode cX4_init 36 = .ok (.return_, 1) := by decide +kernel
theorem dX4_copyFrom_0 : decode cX4_copyFrom 0 = .ok (.aload_n 1, 1) := by decide +kernel
theorem dX4_copyFrom_1 : decode cX4_copyFrom 1 = .ok (.getfield 9, 3) := by decide +kernel
theorem dX4_copyFrom_4 : decode cX4_copyFrom 4 = .ok (.iconst 0, 1) := by decide +kernel
theorem dX4_copyFrom_5 : decode cX4_copyFrom 5 = .ok (.aload_n 0, 1) := by decide +kernel
theorem dX4_copyFrom_6 : decode cX4_copyFrom 6 = .ok (.getfield 9, 3) := by decide +kernel
theorem dX4_copyFrom_9 : decode cX4_copyFrom 9 = .ok (.iconst 0, 1) := by decide +kernel
theorem dX4_copyFrom_10 : decode cX4_copyFrom 10 = .ok (.bipush 12, 2) := by decide +kernel
theorem dX4_copyFrom_12 : decode cX4_copyFrom 12 = .ok (.invokestatic 24, 3) := by decide +kernel
theorem dX4_copyFrom_15 : decode cX4_copyFrom 15 = .ok (.aload_n 1, 1) := by decide +kernel
theorem dX4_copyFrom_16 : decode cX4_copyFrom 16 = .ok (.getfield 15, 3) := by decide +kernel
theorem dX4_copyFrom_19 : decode cX4_copyFrom 19 = .ok (.iconst 0, 1) := by decide +kernel
theorem dX4_copyFrom_20 : decode cX4_copyFrom 20 = .ok (.aload_n 0, 1) := by decide +kernel
theorem dX4_copyFrom_21 : decode cX4_copyFrom 21 = .ok (.getfield 15, 3) := by decide +kernel
theorem dX4_copyFrom_24 : decode cX4_copyFrom 24 = .ok (.iconst 0, 1) := by decide +kernel
theorem dX4_copyFrom_25 : decode cX4_copyFrom 25 = .ok (.bipush 12, 2) := by decide +kernel
theorem dX4_copyFrom_27 : decode cX4_copyFrom 27 = .ok (.invokestatic 24, 3) := by decide +kernel
theorem dX4_copyFrom_30 : decode cX4_copyFrom 30 = .ok (.aload_n 1, 1) := by decide +kernel
theorem dX4_copyFrom_31 : decode cX4_copyFrom 31 = .ok (.getfield 18, 3) := by decide +kernel
theorem dX4_copyFrom_34 : decode cX4_copyFrom 34 = .ok (.iconst 0, 1) := by decide +kernel
theorem dX4_copyFrom_35 : decode cX4_copyFrom 35 = .ok (.aload_n 0, 1) := by decide +kernel
theorem dX4_copyFrom_36 : decode cX4_copyFrom 36 = .ok (.getfield 18, 3) := by decide +kernel
theorem dX4_copyFrom_39 : decode cX4_copyFrom 39 = .ok (.iconst 0, 1) := by decide +kernel
theorem dX4_copyFrom_40 : decode cX4_copyFrom 40 = .ok (.bipush 12, 2) := by decide +kernel
theorem dX4_copyFrom_42 : decode cX4_copyFrom 42 = .ok (.invokestatic 24, 3) := by decide +kernel
theorem dX4_copyFrom_45 : decode cX4_copyFrom 45 = .ok (.aload_n 1, 1) := by decide +kernel
theorem dX4_copyFrom_46 : decode cX4_copyFrom 46 = .ok (.getfield 21, 3) := by decide +kernel
theorem dX4_copyFrom_49 : decode cX4_copyFrom 49 = .ok (.iconst 0, 1) := by decide +kernel
theorem dX4_copyFrom_50 : decode cX4_copyFrom 50 = .ok (.aload_n 0, 1) := by decide +kernel
theorem dX4_copyFrom_51 : decode cX4_copyFrom 51 = .ok (.getfield 21, 3) := by decide +kernel
theorem dX4_copyFrom_54 : decode cX4_copyFrom 54 = .ok (.iconst 0, 1) := by decide +kernel
theorem dX4_copyFrom_55 : decode cX4_copyFrom 55 = .ok (.bipush 12, 2) := by decide +kernel
theorem dX4_copyFrom_57 : decode cX4_copyFrom 57 = .ok (.invokestatic 24, 3) := by decide +kernel
theorem dX4_copyFrom_60 : decode cX4_copyFrom 60 = .ok (.aload_n 0, 1) := by decide +kernel
theorem dX4_copyFrom_61 : decode cX4_copyFrom 61 = .ok (.aload_n 1, 1) := by decide +kernel
theorem dX4_copyFrom_62 : decode cX4_copyFrom 62 = .ok (.getfield 30, 3) := by decide +kernel
theorem dX4_copyFrom_65 : decode cX4_copyFrom 65 = .ok (.putfield 30, 3) := by decide +kernel
theorem dX4_copyFrom_68 : decode cX4_copyFrom 68 = .ok (.return_, 1) := by decide +kernel
theorem dX4_has_0 : decode cX4_has 0 = .ok (.iload_n 1, 1) := by decide +kernel
theorem dX4_has_1 : decode cX4_has 1 = .ok (.ifCond .lt 15, 3) := by decide +kernel
theorem dX4_has_4 : decode cX4_has 4 = .ok (.iload_n 1, 1) := by decide +kernel
theorem dX4_has_5 : decode cX4_has 5 = .ok (.aload_n 0, 1) := by decide +kernel
theorem dX4_has_6 : decode cX4_has 6 = .ok (.getfield 30, 3) := by decide +kernel
theorem dX4_has_9 : decode cX4_has 9 = .ok (.if_icmp .ge 7, 3) := by decide +kernel
theorem dX4_has_12 : decode cX4_has 12 = .ok (.iconst 1, 1) := by decide +kernel
theorem dX4_has_13 : decode cX4_has 13 = .ok (.goto 4, 3) := by decide +kernel
theorem dX4_has_16 : decode cX4_has 16 = .ok (.iconst 0, 1) := by decide +kernel
theorem dX4_has_17 : decode cX4_has 17 = .ok (.ireturn, 1) := by decide +kernel
theorem dX4_isFull_0 : decode cX4_isFull 0 = .ok (.aload_n 0, 1) := by decide +kernel
theorem dX4_isFull_1 : decode cX4_isFull 1 = .ok (.getfield 30, 3) := by decide +kernel
theorem dX4_isFull_4 : decode cX4_isFull 4 = .ok (.bipush 12, 2) := by decide +kernel
theorem dX4_isFull_6 : decode cX4_isFull 6 = .ok (.if_icmp .lt 7, 3) := by decide +kernel
theorem dX4_isFull_9 : decode cX4_isFull 9 = .ok (.iconst 1, 1) := by decide +kernel
theorem dX4_isFull_10 : decode cX4_isFull 10 = .ok (.goto 4, 3) := by decide +kernel
theorem dX4_isFull_13 : decode cX4_isFull 13 = .ok (.iconst 0, 1) := by decide +kernel
theorem dX4_isFull_14 : decode cX4_isFull 14 = .ok (.ireturn, 1) := by decide +kernel
set_option maxRecDepth 20000 in
theorem ggX4_giverOf_X4_has : GoodIn wsX4_giverOf wsX4_has := goodIn_r _ [6, 7, 8, 9, 10, 11, 12] (by decide +kernel) (by decide +kernel)
set_option maxRecDepth 20000 in
theorem gX4_giverOf_X4_has : GoodIn wsX4_giverOf (wsV RX4 34 RX4 yX4_has wsX4_has) := goodIn_app (goodIn_of _ (by decide +kernel)) ggX4_giverOf_X4_has
theorem dX4_giverOf_0 : decode cX4_giverOf 0 = .ok (.aload_n 0, 1) := by decide +kernel
theorem dX4_giverOf_1 : decode cX4_giverOf 1 = .ok (.iload_n 1, 1) := by decide +kernel
theorem dX4_giverOf_2 : decode cX4_giverOf 2 = .ok (.invokevirtual 34, 3) := by decide +kernel
theorem dX4_giverOf_5 : decode cX4_giverOf 5 = .ok (.ifCond .eq 12, 3) := by decide +kernel
theorem dX4_giverOf_8 : decode cX4_giverOf 8 = .ok (.aload_n 0, 1) := by decide +kernel
theorem dX4_giverOf_9 : decode cX4_giverOf 9 = .ok (.getfield 9, 3) := by decide +kernel
theorem dX4_giverOf_12 : decode cX4_giverOf 12 = .ok (.iload_n 1, 1) := by decide +kernel
theorem dX4_giverOf_13 : decode cX4_giverOf 13 = .ok (.iaload, 1) := by decide +kernel
theorem dX4_giverOf_14 : decode cX4_giverOf 14 = .ok (.goto 4, 3) := by decide +kernel
theorem dX4_giverOf_17 : decode cX4_giverOf 17 = .ok (.iconst (-1), 1) := by decide +kernel
theorem dX4_giverOf_18 : decode cX4_giverOf 18 = .ok (.ireturn, 1) := by decide +kernel
set_option maxRecDepth 20000 in
theorem ggX4_getterOf_X4_has : GoodIn wsX4_getterOf wsX4_has := goodIn_r _ [6, 7, 8, 9, 10, 11, 12] (by decide +kernel) (by decide +kernel)
set_option maxRecDepth 20000 in
theorem gX4_getterOf_X4_has : GoodIn wsX4_getterOf (wsV RX4 34 RX4 yX4_has wsX4_has) := goodIn_app (goodIn_of _ (by decide +kernel)) ggX4_getterOf_X4_has
theorem dX4_getterOf_0 : decode cX4_getterOf 0 = .ok (.aload_n 0, 1) := by decide +kernel
theorem dX4_getterOf_1 : decode cX4_getterOf 1 = .ok (.iload_n 1, 1) := by decide +kernel
theorem dX4_getterOf_2 : decode cX4_getterOf 2 = .ok (.invokevirtual 34, 3) := by decide +kernel
theorem dX4_getterOf_5 : decode cX4_getterOf 5 = .ok (.ifCond .eq 12, 3) := by decide +kernel
theorem dX4_getterOf_8 : decode cX4_getterOf 8 = .ok (.aload_n 0, 1) := by decide +kernel
theorem dX4_getterOf_9 : decode cX4_getterOf 9 = .ok (.getfield 15, 3) := by decide +kernel
theorem dX4_getterOf_12 : decode cX4_getterOf 12 = .ok (.iload_n 1, 1) := by decide +kernel
theorem dX4_getterOf_13 : decode cX4_getterOf 13 = .ok (.iaload, 1) := by decide +kernel
theorem dX4_getterOf_14 : decode cX4_getterOf 14 = .ok (.goto 4, 3) := by decide +kernel
theorem dX4_getterOf_17 : decode cX4_getterOf 17 = .ok (.iconst (-1), 1) := by decide +kernel
theorem dX4_getterOf_18 : decode cX4_getterOf 18 = .ok (.ireturn, 1) := by decide +kernel
set_option maxRecDepth 20000 in
theorem ggX4_blocksOf_X4_has : GoodIn wsX4_blocksOf wsX4_has := goodIn_r _ [6, 7, 8, 9, 10, 11, 12] (by decide +kernel) (by decide +kernel)
set_option maxRecDepth 20000 in
theorem gX4_blocksOf_X4_has : GoodIn wsX4_blocksOf (wsV RX4 34 RX4 yX4_has wsX4_has) := goodIn_app (goodIn_of _ (by decide +kernel)) ggX4_blocksOf_X4_has
theorem dX4_blocksOf_0 : decode cX4_blocksOf 0 = .ok (.aload_n 0, 1) := by decide +kernel
theorem dX4_blocksOf_1 : decode cX4_blocksOf 1 = .ok (.iload_n 1, 1) := by decide +kernel
theorem dX4_blocksOf_2 : decode cX4_blocksOf 2 = .ok (.invokevirtual 34, 3) := by decide +kernel
theorem dX4_blocksOf_5 : decode cX4_blocksOf 5 = .ok (.ifCond .eq 12, 3) := by decide +kernel
theorem dX4_blocksOf_8 : decode cX4_blocksOf 8 = .ok (.aload_n 0, 1) := by decide +kernel
theorem dX4_blocksOf_9 : decode cX4_blocksOf 9 = .ok (.getfield 18, 3) := by decide +kernel
theorem dX4_blocksOf_12 : decode cX4_blocksOf 12 = .ok (.iload_n 1, 1) := by decide +kernel
theorem dX4_blocksOf_13 : decode cX4_blocksOf 13 = .ok (.iaload, 1) := by decide +kernel
theorem dX4_blocksOf_14 : decode cX4_blocksOf 14 = .ok (.goto 4, 3) := by decide +kernel
theorem dX4_blocksOf_17 : decode cX4_blocksOf 17 = .ok (.iconst 0, 1) := by decide +kernel
theorem dX4_blocksOf_18 : decode cX4_blocksOf 18 = .ok (.ireturn, 1) := by decide +kernel
set_option maxRecDepth 20000 in
theorem ggX4_endOf_X4_has : GoodIn wsX4_endOf wsX4_has := goodIn_r _ [6, 7, 8, 9, 10, 11, 12] (by decide +kernel) (by decide +kernel)
set_option maxRecDepth 20000 in
theorem gX4_endOf_X4_has : GoodIn wsX4_endOf (wsV RX4 34 RX4 yX4_has wsX4_has) := goodIn_app (goodIn_of _ (by decide +kernel)) ggX4_endOf_X4_has
theorem dX4_endOf_0 : decode cX4_endOf 0 = .ok (.aload_n 0, 1) := by decide +kernel
theorem dX4_endOf_1 : decode cX4_endOf 1 = .ok (.iload_n 1, 1) := by decide +kernel
theorem dX4_endOf_2 : decode cX4_endOf 2 = .ok (.invokevirtual 34, 3) := by decide +kernel
theorem dX4_endOf_5 : decode cX4_endOf 5 = .ok (.ifCond .eq 12, 3) := by decide +kernel
theorem dX4_endOf_8 : decode cX4_endOf 8 = .ok (.aload_n 0, 1) := by decide +kernel
theorem dX4_endOf_9 : decode cX4_endOf 9 = .ok (.getfield 21, 3) := by decide +kernel
theorem dX4_endOf_12 : decode cX4_endOf 12 = .ok (.iload_n 1, 1) := by decide +kernel
theorem dX4_endOf_13 : decode cX4_endOf 13 = .ok (.iaload, 1) := by decide +kernel
theorem dX4_endOf_14 : decode cX4_endOf 14 = .ok (.goto 4, 3) := by decide +kernel
theorem dX4_endOf_17 : decode cX4_endOf 17 = .ok (.iconst (-1), 1) := by decide +kernel
theorem dX4_endOf_18 : decode cX4_endOf 18 = .ok (.ireturn, 1) := by decide +kernel
set_option maxRecDepth 20000 in
theorem ggX4_add_X4_isFull : GoodIn wsX4_add wsX4_isFull := goodIn_r _ [10, 2, 11, 12, 13, 14, 15] (by decide +kernel) (by decide +kernel)
set_option maxRecDepth 20000 in
theorem gX4_add_X4_isFull : GoodIn wsX4_add (wsV RX4 38 RX4 yX4_isFull wsX4_isFull) := goodIn_app (goodIn_of _ (by decide +kernel)) ggX4_add_X4_isFull
theorem dX4_add_0 : decode cX4_add 0 = .ok (.aload_n 0, 1) := by decide +kernel
theorem dX4_add_1 : decode cX4_add 1 = .ok (.invokevirtual 38, 3) := by decide +kernel
theorem dX4_add_4 : decode cX4_add 4 = .ok (.ifCond .ne 54, 3) := by decide +kernel
theorem dX4_add_7 : decode cX4_add 7 = .ok (.aload_n 0, 1) := by decide +kernel
theorem dX4_add_8 : decode cX4_add 8 = .ok (.getfield 9, 3) := by decide +kernel
theorem dX4_add_11 : decode cX4_add 11 = .ok (.aload_n 0, 1) := by decide +kernel
theorem dX4_add_12 : decode cX4_add 12 = .ok (.getfield 30, 3) := by decide +kernel
theorem dX4_add_15 : decode cX4_add 15 = .ok (.iload_n 1, 1) := by decide +kernel
theorem dX4_add_16 : decode cX4_add 16 = .ok (.iastore, 1) := by decide +kernel
theorem dX4_add_17 : decode cX4_add 17 = .ok (.aload_n 0, 1) := by decide +kernel
theorem dX4_add_18 : decode cX4_add 18 = .ok (.getfield 15, 3) := by decide +kernel
theorem dX4_add_21 : decode cX4_add 21 = .ok (.aload_n 0, 1) := by decide +kernel
theorem dX4_add_22 : decode cX4_add 22 = .ok (.getfield 30, 3) := by decide +kernel
theorem dX4_add_25 : decode cX4_add 25 = .ok (.iload_n 2, 1) := by decide +kernel
theorem dX4_add_26 : decode cX4_add 26 = .ok (.iastore, 1) := by decide +kernel
theorem dX4_add_27 : decode cX4_add 27 = .ok (.aload_n 0, 1) := by decide +kernel
theorem dX4_add_28 : decode cX4_add 28 = .ok (.getfield 18, 3) := by decide +kernel
theorem dX4_add_31 : decode cX4_add 31 = .ok (.aload_n 0, 1) := by decide +kernel
theorem dX4_add_32 : decode cX4_add 32 = .ok (.getfield 30, 3) := by decide +kernel
theorem dX4_add_35 : decode cX4_add 35 = .ok (.iload_n 3, 1) := by decide +kernel
theorem dX4_add_36 : decode cX4_add 36 = .ok (.iastore, 1) := by decide +kernel
theorem dX4_add_37 : decode cX4_add 37 = .ok (.aload_n 0, 1) := by decide +kernel
theorem dX4_add_38 : decode cX4_add 38 = .ok (.getfield 21, 3) := by decide +kernel
theorem dX4_add_41 : decode cX4_add 41 = .ok (.aload_n 0, 1) := by decide +kernel
theorem dX4_add_42 : decode cX4_add 42 = .ok (.getfield 30, 3) := by decide +kernel
theorem dX4_add_45 : decode cX4_add 45 = .ok (.iload 4, 2) := by decide +kernel
theorem dX4_add_47 : decode cX4_add 47 = .ok (.iastore, 1) := by decide +kernel
theorem dX4_add_48 : decode cX4_add 48 = .ok (.aload_n 0, 1) := by decide +kernel
theorem dX4_add_49 : decode cX4_add 49 = .ok (.dup, 1) := by decide +kernel
theorem dX4_add_50 : decode cX4_add 50 = .ok (.getfield 30, 3) := by decide +kernel
theorem dX4_add_53 : decode cX4_add 53 = .ok (.iconst 1, 1) := by decide +kernel
theorem dX4_add_54 : decode cX4_add 54 = .ok (.iadd, 1) := by decide +kernel
theorem dX4_add_55 : decode cX4_add 55 = .ok (.putfield 30, 3) := by decide +kernel
theorem dX4_add_58 : decode cX4_add 58 = .ok (.return_, 1) := by decide +kernel
set_option maxRecDepth 20000 in
theorem ggX4_removeAt_X4_has : GoodIn wsX4_removeAt wsX4_has := goodIn_r _ [10, 1, 11, 12, 13, 14, 15] (by decide +kernel) (by decide +kernel)
set_option maxRecDepth 20000 in
theorem gX4_removeAt_X4_has : GoodIn wsX4_removeAt (wsV RX4 34 RX4 yX4_has wsX4_has) := goodIn_app (goodIn_of _ (by decide +kernel)) ggX4_removeAt_X4_has
theorem dX4_removeAt_0 : decode cX4_removeAt 0 = .ok (.aload_n 0, 1) := by decide +kernel
theorem dX4_removeAt_1 : decode cX4_removeAt 1 = .ok (.iload_n 1, 1) := by decide +kernel
theorem dX4_removeAt_2 : decode cX4_removeAt 2 = .ok (.invokevirtual 34, 3) := by decide +kernel
theorem dX4_removeAt_5 : decode cX4_removeAt 5 = .ok (.ifCond .ne 4, 3) := by decide +kernel
theorem dX4_removeAt_8 : decode cX4_removeAt 8 = .ok (.return_, 1) := by decide +kernel
theorem dX4_removeAt_9 : decode cX4_removeAt 9 = .ok (.aload_n 0, 1) := by decide +kernel
theorem dX4_removeAt_10 : decode cX4_removeAt 10 = .ok (.dup, 1) := by decide +kernel
theorem dX4_removeAt_11 : decode cX4_removeAt 11 = .ok (.getfield 30, 3) := by decide +kernel
theorem dX4_removeAt_14 : decode cX4_removeAt 14 = .ok (.iconst 1, 1) := by decide +kernel
theorem dX4_removeAt_15 : decode cX4_removeAt 15 = .ok (.isub, 1) := by decide +kernel
theorem dX4_removeAt_16 : decode cX4_removeAt 16 = .ok (.putfield 30, 3) := by decide +kernel
theorem dX4_removeAt_19 : decode cX4_removeAt 19 = .ok (.iload_n 1, 1) := by decide +kernel
theorem dX4_removeAt_20 : decode cX4_removeAt 20 = .ok (.istore_n 2, 1) := by decide +kernel
theorem dX4_removeAt_21 : decode cX4_removeAt 21 = .ok (.iload_n 2, 1) := by decide +kernel
theorem dX4_removeAt_22 : decode cX4_removeAt 22 = .ok (.aload_n 0, 1) := by decide +kernel
theorem dX4_removeAt_23 : decode cX4_removeAt 23 = .ok (.getfield 30, 3) := by decide +kernel
theorem dX4_removeAt_26 : decode cX4_removeAt 26 = .ok (.if_icmp .ge 65, 3) := by decide +kernel
theorem dX4_removeAt_29 : decode cX4_removeAt 29 = .ok (.aload_n 0, 1) := by decide +kernel
theorem dX4_removeAt_30 : decode cX4_removeAt 30 = .ok (.getfield 9, 3) := by decide +kernel
theorem dX4_removeAt_33 : decode cX4_removeAt 33 = .ok (.iload_n 2, 1) := by decide +kernel
theorem dX4_removeAt_34 : decode cX4_removeAt 34 = .ok (.aload_n 0, 1) := by decide +kernel
theorem dX4_removeAt_35 : decode cX4_removeAt 35 = .ok (.getfield 9, 3) := by decide +kernel
theorem dX4_removeAt_38 : decode cX4_removeAt 38 = .ok (.iload_n 2, 1) := by decide +kernel
theorem dX4_removeAt_39 : decode cX4_removeAt 39 = .ok (.iconst 1, 1) := by decide +kernel
theorem dX4_removeAt_40 : decode cX4_removeAt 40 = .ok (.iadd, 1) := by decide +kernel
theorem dX4_removeAt_41 : decode cX4_removeAt 41 = .ok (.iaload, 1) := by decide +kernel
theorem dX4_removeAt_42 : decode cX4_removeAt 42 = .ok (.iastore, 1) := by decide +kernel
theorem dX4_removeAt_43 : decode cX4_removeAt 43 = .ok (.aload_n 0, 1) := by decide +kernel
theorem dX4_removeAt_44 : decode cX4_removeAt 44 = .ok (.getfield 15, 3) := by decide +kernel
theorem dX4_removeAt_47 : decode cX4_removeAt 47 = .ok (.iload_n 2, 1) := by decide +kernel
theorem dX4_removeAt_48 : decode cX4_removeAt 48 = .ok (.aload_n 0, 1) := by decide +kernel
theorem dX4_removeAt_49 : decode cX4_removeAt 49 = .ok (.getfield 15, 3) := by decide +kernel
theorem dX4_removeAt_52 : decode cX4_removeAt 52 = .ok (.iload_n 2, 1) := by decide +kernel
theorem dX4_removeAt_53 : decode cX4_removeAt 53 = .ok (.iconst 1, 1) := by decide +kernel
theorem dX4_removeAt_54 : decode cX4_removeAt 54 = .ok (.iadd, 1) := by decide +kernel
theorem dX4_removeAt_55 : decode cX4_removeAt 55 = .ok (.iaload, 1) := by decide +kernel
theorem dX4_removeAt_56 : decode cX4_removeAt 56 = .ok (.iastore, 1) := by decide +kernel
theorem dX4_removeAt_57 : decode cX4_removeAt 57 = .ok (.aload_n 0, 1) := by decide +kernel
theorem dX4_removeAt_58 : decode cX4_removeAt 58 = .ok (.getfield 18, 3) := by decide +kernel
theorem dX4_removeAt_61 : decode cX4_removeAt 61 = .ok (.iload_n 2, 1) := by decide +kernel
theorem dX4_removeAt_62 : decode cX4_removeAt 62 = .ok (.aload_n 0, 1) := by decide +kernel
theorem dX4_removeAt_63 : decode cX4_removeAt 63 = .ok (.getfield 18, 3) := by decide +kernel
theorem dX4_removeAt_66 : decode cX4_removeAt 66 = .ok (.iload_n 2, 1) := by decide +kernel
theorem dX4_removeAt_67 : decode cX4_removeAt 67 = .ok (.iconst 1, 1) := by decide +kernel
theorem dX4_removeAt_68 : decode cX4_removeAt 68 = .ok (.iadd, 1) := by decide +kernel
theorem dX4_removeAt_69 : decode cX4_removeAt 69 = .ok (.iaload, 1) := by decide +kernel
theorem dX4_removeAt_70 : decode cX4_removeAt 70 = .ok (.iastore, 1) := by decide +kernel
theorem dX4_removeAt_71 : decode cX4_removeAt 71 = .ok (.aload_n 0, 1) := by decide +kernel
theorem dX4_removeAt_72 : decode cX4_removeAt 72 = .ok (.getfield 21, 3) := by decide +kernel
theorem dX4_removeAt_75 : decode cX4_removeAt 75 = .ok (.iload_n 2, 1) := by decide +kernel
theorem dX4_removeAt_76 : decode cX4_removeAt 76 = .ok (.aload_n 0, 1) := by decide +kernel
theorem dX4_removeAt_77 : decode cX4_removeAt 77 = .ok (.getfield 21, 3) := by decide +kernel
theorem dX4_removeAt_80 : decode cX4_removeAt 80 = .ok (.iload_n 2, 1) := by decide +kernel
theorem dX4_removeAt_81 : decode cX4_removeAt 81 = .ok (.iconst 1, 1) := by decide +kernel
theorem dX4_removeAt_82 : decode cX4_removeAt 82 = .ok (.iadd, 1) := by decide +kernel
theorem dX4_removeAt_83 : decode cX4_removeAt 83 = .ok (.iaload, 1) := by decide +kernel
theorem dX4_removeAt_84 : decode cX4_removeAt 84 = .ok (.iastore, 1) := by decide +kernel
theorem dX4_removeAt_85 : decode cX4_removeAt 85 = .ok (.iinc 2 1, 3) := by decide +kernel
theorem dX4_removeAt_88 : decode cX4_removeAt 88 = .ok (.goto (-67), 3) := by decide +kernel
theorem dX4_removeAt_91 : decode cX4_removeAt 91 = .ok (.return_, 1) := by decide +kernel
set_option maxRecDepth 20000 in
theorem ggX4_removeEnded_X4_endOf : GoodIn wsX4_removeEnded wsX4_endOf := goodIn_r _ [6, 7, 8, 9, 10, 5, 11, 1, 19, 20, 21, 22, 23] (by decide +kernel) (by decide +kernel)
set_option maxRecDepth 20000 in
theorem gX4_removeEnded_X4_endOf : GoodIn wsX4_removeEnded (wsV RX4 42 RX4 yX4_endOf wsX4_endOf) := goodIn_app (goodIn_of _ (by decide +kernel)) ggX4_removeEnded_X4_endOf
set_option maxRecDepth 20000 in
theorem ggX4_removeEnded_X4_removeAt : GoodIn wsX4_removeEnded wsX4_removeAt := goodIn_r _ [15, 1, 16, 17, 18, 7, 8, 9, 10, 5, 11, 19, 20, 21, 22, 23] (by decide +kernel) (by decide +kernel)
set_option maxRecDepth 20000 in
theorem gX4_removeEnded_X4_removeAt : GoodIn wsX4_removeEnded (wsV RX4 46 RX4 yX4_removeAt wsX4_removeAt) := goodIn_app (goodIn_of _ (by decide +kernel)) ggX4_removeEnded_X4_removeAt
theorem dX4_removeEnded_0 : decode cX4_removeEnded 0 = .ok (.aload_n 0, 1) := by decide +kernel
theorem dX4_removeEnded_1 : decode cX4_removeEnded 1 = .ok (.getfield 30, 3) := by decide +kernel
theorem dX4_removeEnded_4 : decode cX4_removeEnded 4 = .ok (.istore_n 2, 1) := by decide +kernel
theorem dX4_removeEnded_5 : decode cX4_removeEnded 5 = .ok (.iload_n 2, 1) := by decide +kernel
theorem dX4_removeEnded_6 : decode cX4_removeEnded 6 = .ok (.iconst 1, 1) := by decide +kernel
theorem dX4_removeEnded_7 : decode cX4_removeEnded 7 = .ok (.isub, 1) := by decide +kernel
theorem dX4_removeEnded_8 : decode cX4_removeEnded 8 = .ok (.istore_n 3, 1) := by decide +kernel
theorem dX4_removeEnded_9 : decode cX4_removeEnded 9 = .ok (.iload_n 3, 1) := by decide +kernel
theorem dX4_removeEnded_10 : decode cX4_removeEnded 10 = .ok (.ifCond .lt 23, 3) := by decide +kernel
theorem dX4_removeEnded_13 : decode cX4_removeEnded 13 = .ok (.aload_n 0, 1) := by decide +kernel
theorem dX4_removeEnded_14 : decode cX4_removeEnded 14 = .ok (.iload_n 3, 1) := by decide +kernel
theorem dX4_removeEnded_15 : decode cX4_removeEnded 15 = .ok (.invokevirtual 42, 3) := by decide +kernel
theorem dX4_removeEnded_18 : decode cX4_removeEnded 18 = .ok (.iload_n 1, 1) := by decide +kernel
theorem dX4_removeEnded_19 : decode cX4_removeEnded 19 = .ok (.if_icmp .gt 8, 3) := by decide +kernel
theorem dX4_removeEnded_22 : decode cX4_removeEnded 22 = .ok (.aload_n 0, 1) := by decide +kernel
theorem dX4_removeEnded_23 : decode cX4_removeEnded 23 = .ok (.iload_n 3, 1) := by decide +kernel
theorem dX4_removeEnded_24 : decode cX4_removeEnded 24 = .ok (.invokevirtual 46, 3) := by decide +kernel
theorem dX4_removeEnded_27 : decode cX4_removeEnded 27 = .ok (.iinc 3 (-1), 3) := by decide +kernel
theorem dX4_removeEnded_30 : decode cX4_removeEnded 30 = .ok (.goto (-21), 3) := by decide +kernel
theorem dX4_removeEnded_33 : decode cX4_removeEnded 33 = .ok (.iload_n 2, 1) := by decide +kernel
theorem dX4_removeEnded_34 : decode cX4_removeEnded 34 = .ok (.aload_n 0, 1) := by decide +kernel
theorem dX4_removeEnded_35 : decode cX4_removeEnded 35 = .ok (.getfield 30, 3) := by decide +kernel
theorem dX4_removeEnded_38 : decode cX4_removeEnded 38 = .ok (.isub, 1) := by decide +kernel
theorem dX4_removeEnded_39 : decode cX4_removeEnded 39 = .ok (.ireturn, 1) := by decide +kernel
theorem dX4_firstEnd_0 : decode cX4_firstEnd 0 = .ok (.iconst (-1), 1) := by decide +kernel
theorem dX4_firstEnd_1 : decode cX4_firstEnd 1 = .ok (.istore_n 1, 1) := by decide +kernel
theorem dX4_firstEnd_2 : decode cX4_firstEnd 2 = .ok (.iconst 0, 1) := by decide +kernel
theorem dX4_firstEnd_3 : decode cX4_firstEnd 3 = .ok (.istore_n 2, 1) := by decide +kernel
theorem dX4_firstEnd_4 : decode cX4_firstEnd 4 = .ok (.iload_n 2, 1) := by decide +kernel
theorem dX4_firstEnd_5 : decode cX4_firstEnd 5 = .ok (.aload_n 0, 1) := by decide +kernel
theorem dX4_firstEnd_6 : decode cX4_firstEnd 6 = .ok (.getfield 30, 3) := by decide +kernel
theorem dX4_firstEnd_9 : decode cX4_firstEnd 9 = .ok (.if_icmp .ge 31, 3) := by decide +kernel
theorem dX4_firstEnd_12 : decode cX4_firstEnd 12 = .ok (.iload_n 1, 1) := by decide +kernel
theorem dX4_firstEnd_13 : decode cX4_firstEnd 13 = .ok (.iconst (-1), 1) := by decide +kernel
theorem dX4_firstEnd_14 : decode cX4_firstEnd 14 = .ok (.if_icmp .eq 13, 3) := by decide +kernel
theorem dX4_firstEnd_17 : decode cX4_firstEnd 17 = .ok (.aload_n 0, 1) := by decide +kernel
theorem dX4_firstEnd_18 : decode cX4_firstEnd 18 = .ok (.getfield 21, 3) := by decide +kernel
theorem dX4_firstEnd_21 : decode cX4_firstEnd 21 = .ok (.iload_n 2, 1) := by decide +kernel
theorem dX4_firstEnd_22 : decode cX4_firstEnd 22 = .ok (.iaload, 1) := by decide +kernel
theorem dX4_firstEnd_23 : decode cX4_firstEnd 23 = .ok (.iload_n 1, 1) := by decide +kernel
theorem dX4_firstEnd_24 : decode cX4_firstEnd 24 = .ok (.if_icmp .ge 10, 3) := by decide +kernel
theorem dX4_firstEnd_27 : decode cX4_firstEnd 27 = .ok (.aload_n 0, 1) := by decide +kernel
theorem dX4_firstEnd_28 : decode cX4_firstEnd 28 = .ok (.getfield 21, 3) := by decide +kernel
theorem dX4_firstEnd_31 : decode cX4_firstEnd 31 = .ok (.iload_n 2, 1) := by decide +kernel
theorem dX4_firstEnd_32 : decode cX4_firstEnd 32 = .ok (.iaload, 1) := by decide +kernel
theorem dX4_firstEnd_33 : decode cX4_firstEnd 33 = .ok (.istore_n 1, 1) := by decide +kernel
theorem dX4_firstEnd_34 : decode cX4_firstEnd 34 = .ok (.iinc 2 1, 3) := by decide +kernel
theorem dX4_firstEnd_37 : decode cX4_firstEnd 37 = .ok (.goto (-33), 3) := by decide +kernel
theorem dX4_firstEnd_40 : decode cX4_firstEnd 40 = .ok (.iload_n 1, 1) := by decide +kernel
theorem dX4_firstEnd_41 : decode cX4_firstEnd 41 = .ok (.ireturn, 1) := by decide +kernel
theorem dX4_concern_0 : decode cX4_concern 0 = .ok (.iconst 0, 1) := by decide +kernel
theorem dX4_concern_1 : decode cX4_concern 1 = .ok (.istore_n 2, 1) := by decide +kernel
theorem dX4_concern_2 : decode cX4_concern 2 = .ok (.iload_n 2, 1) := by decide +kernel
theorem dX4_concern_3 : decode cX4_concern 3 = .ok (.aload_n 0, 1) := by decide +kernel
theorem dX4_concern_4 : decode cX4_concern 4 = .ok (.getfield 30, 3) := by decide +kernel
theorem dX4_concern_7 : decode cX4_concern 7 = .ok (.if_icmp .ge 31, 3) := by decide +kernel
theorem dX4_concern_10 : decode cX4_concern 10 = .ok (.aload_n 0, 1) := by decide +kernel
theorem dX4_concern_11 : decode cX4_concern 11 = .ok (.getfield 9, 3) := by decide +kernel
theorem dX4_concern_14 : decode cX4_concern 14 = .ok (.iload_n 2, 1) := by decide +kernel
theorem dX4_concern_15 : decode cX4_concern 15 = .ok (.iaload, 1) := by decide +kernel
theorem dX4_concern_16 : decode cX4_concern 16 = .ok (.iload_n 1, 1) := by decide +kernel
theorem dX4_concern_17 : decode cX4_concern 17 = .ok (.if_icmp .eq 13, 3) := by decide +kernel
theorem dX4_concern_20 : decode cX4_concern 20 = .ok (.aload_n 0, 1) := by decide +kernel
theorem dX4_concern_21 : decode cX4_concern 21 = .ok (.getfield 15, 3) := by decide +kernel
theorem dX4_concern_24 : decode cX4_concern 24 = .ok (.iload_n 2, 1) := by decide +kernel
theorem dX4_concern_25 : decode cX4_concern 25 = .ok (.iaload, 1) := by decide +kernel
theorem dX4_concern_26 : decode cX4_concern 26 = .ok (.iload_n 1, 1) := by decide +kernel
theorem dX4_concern_27 : decode cX4_concern 27 = .ok (.if_icmp .ne 5, 3) := by decide +kernel
theorem dX4_concern_30 : decode cX4_concern 30 = .ok (.iconst 1, 1) := by decide +kernel
theorem dX4_concern_31 : decode cX4_concern 31 = .ok (.ireturn, 1) := by decide +kernel
theorem dX4_concern_32 : decode cX4_concern 32 = .ok (.iinc 2 1, 3) := by decide +kernel
theorem dX4_concern_35 : decode cX4_concern 35 = .ok (.goto (-33), 3) := by decide +kernel
theorem dX4_concern_38 : decode cX4_concern 38 = .ok (.iconst 0, 1) := by decide +kernel
theorem dX4_concern_39 : decode cX4_concern 39 = .ok (.ireturn, 1) := by decide +kernel
theorem dX4_balanceOf_0 : decode cX4_balanceOf 0 = .ok (.iconst 0, 1) := by decide +kernel
theorem dX4_balanceOf_1 : decode cX4_balanceOf 1 = .ok (.istore_n 2, 1) := by decide +kernel
theorem dX4_balanceOf_2 : decode cX4_balanceOf 2 = .ok (.iconst 0, 1) := by decide +kernel
theorem dX4_balanceOf_3 : decode cX4_balanceOf 3 = .ok (.istore_n 3, 1) := by decide +kernel
theorem dX4_balanceOf_4 : decode cX4_balanceOf 4 = .ok (.iload_n 3, 1) := by decide +kernel
theorem dX4_balanceOf_5 : decode cX4_balanceOf 5 = .ok (.aload_n 0, 1) := by decide +kernel
theorem dX4_balanceOf_6 : decode cX4_balanceOf 6 = .ok (.getfield 30, 3) := by decide +kernel
theorem dX4_balanceOf_9 : decode cX4_balanceOf 9 = .ok (.if_icmp .ge 47, 3) := by decide +kernel
theorem dX4_balanceOf_12 : decode cX4_balanceOf 12 = .ok (.aload_n 0, 1) := by decide +kernel
theorem dX4_balanceOf_13 : decode cX4_balanceOf 13 = .ok (.getfield 15, 3) := by decide +kernel
theorem dX4_balanceOf_16 : decode cX4_balanceOf 16 = .ok (.iload_n 3, 1) := by decide +kernel
theorem dX4_balanceOf_17 : decode cX4_balanceOf 17 = .ok (.iaload, 1) := by decide +kernel
theorem dX4_balanceOf_18 : decode cX4_balanceOf 18 = .ok (.iload_n 1, 1) := by decide +kernel
theorem dX4_balanceOf_19 : decode cX4_balanceOf 19 = .ok (.if_icmp .ne 12, 3) := by decide +kernel
theorem dX4_balanceOf_22 : decode cX4_balanceOf 22 = .ok (.iload_n 2, 1) := by decide +kernel
theorem dX4_balanceOf_23 : decode cX4_balanceOf 23 = .ok (.aload_n 0, 1) := by decide +kernel
theorem dX4_balanceOf_24 : decode cX4_balanceOf 24 = .ok (.getfield 18, 3) := by decide +kernel
theorem dX4_balanceOf_27 : decode cX4_balanceOf 27 = .ok (.iload_n 3, 1) := by decide +kernel
theorem dX4_balanceOf_28 : decode cX4_balanceOf 28 = .ok (.iaload, 1) := by decide +kernel
theorem dX4_balanceOf_29 : decode cX4_balanceOf 29 = .ok (.iadd, 1) := by decide +kernel
theorem dX4_balanceOf_30 : decode cX4_balanceOf 30 = .ok (.istore_n 2, 1) := by decide +kernel
theorem dX4_balanceOf_31 : decode cX4_balanceOf 31 = .ok (.aload_n 0, 1) := by decide +kernel
theorem dX4_balanceOf_32 : decode cX4_balanceOf 32 = .ok (.getfield 9, 3) := by decide +kernel
theorem dX4_balanceOf_35 : decode cX4_balanceOf 35 = .ok (.iload_n 3, 1) := by decide +kernel
theorem dX4_balanceOf_36 : decode cX4_balanceOf 36 = .ok (.iaload, 1) := by decide +kernel
theorem dX4_balanceOf_37 : decode cX4_balanceOf 37 = .ok (.iload_n 1, 1) := by decide +kernel
theorem dX4_balanceOf_38 : decode cX4_balanceOf 38 = .ok (.if_icmp .ne 12, 3) := by decide +kernel
theorem dX4_balanceOf_41 : decode cX4_balanceOf 41 = .ok (.iload_n 2, 1) := by decide +kernel
theorem dX4_balanceOf_42 : decode cX4_balanceOf 42 = .ok (.aload_n 0, 1) := by decide +kernel
theorem dX4_balanceOf_43 : decode cX4_balanceOf 43 = .ok (.getfield 18, 3) := by decide +kernel
theorem dX4_balanceOf_46 : decode cX4_balanceOf 46 = .ok (.iload_n 3, 1) := by decide +kernel
theorem dX4_balanceOf_47 : decode cX4_balanceOf 47 = .ok (.iaload, 1) := by decide +kernel
theorem dX4_balanceOf_48 : decode cX4_balanceOf 48 = .ok (.isub, 1) := by decide +kernel
theorem dX4_balanceOf_49 : decode cX4_balanceOf 49 = .ok (.istore_n 2, 1) := by decide +kernel
theorem dX4_balanceOf_50 : decode cX4_balanceOf 50 = .ok (.iinc 3 1, 3) := by decide +kernel
theorem dX4_balanceOf_53 : decode cX4_balanceOf 53 = .ok (.goto (-49), 3) := by decide +kernel
theorem dX4_balanceOf_56 : decode cX4_balanceOf 56 = .ok (.iload_n 2, 1) := by decide +kernel
theorem dX4_balanceOf_57 : decode cX4_balanceOf 57 = .ok (.ireturn, 1) := by decide +kernel
set_option maxRecDepth 20000 in
theorem ggX5_init_X6_init : GoodIn wsX5_init wsX6_init := goodIn_r _ [11, 12, 2, 3, 13, 14, 15, 16, 17, 18, 19, 20, 21, 22, 23, 24, 25, 26, 27, 28, 29, 30, 31, 32, 33, 34, 35, 36, 37, 38, 39, 40, 41, 42, 43, 44, 45, 46, 47, 48, 49, 50, 51, 52, 53, 54, 55, 56, 57, 58, 59, 60, 61, 62, 63, 64, 65, 66, 67, 68, 84, 85, 86, 87, 69, 70, 71, 72, 73, 74, 88, 89, 90, 91, 92, 93, 94, 95, 96, 97, 98, 99] (by decide +kernel) (by decide +kernel)
set_option maxRecDepth 20000 in
theorem gX5_init_X6_init_n11 : GoodIn wsX5_init (wsX6_init) := ggX5_init_X6_init
theorem dX5_init_0 : decode cX5_init 0 = .ok (.aload_n 0, 1) := by decide +kernel
theorem dX5_init_1 : decode cX5_init 1 = .ok (.invokespecial 3, 3) := by decide +kernel
theorem dX5_init_4 : decode cX5_init 4 = .ok (.aload_n 0, 1) := by decide +kernel
theorem dX5_init_5 : decode cX5_init 5 = .ok (.new 9, 3) := by decide +kernel
theorem dX5_init_8 : decode cX5_init 8 = .ok (.dup, 1) := by decide +kernel
theorem dX5_init_9 : decode cX5_init 9 = .ok (.invokespecial 11, 3) := by decide +kernel
theorem dX5_init_12 : decode cX5_init 12 = .ok (.putfield 12, 3) := by decide +kernel
theorem dX5_init_15 : decode cX5_init 15 = .ok (.aload_n 0, 1) := by decide +kernel
theorem dX5_init_16 : decode cX5_init 16 = .ok (.iconst (-1), 1) := by decide +kernel
theorem dX5_init_17 : decode cX5_init 17 = .ok (.putfield 18, 3) := by decide +kernel
theorem dX5_init_20 : decode cX5_init 20 = .ok (.aload_n 0, 1) := by decide +kernel
theorem dX5_init_21 : decode cX5_init 21 = .ok (.aload_n 1, 1) := by decide +kernel
theorem dX5_init_22 : decode cX5_init 22 = .ok (.getfield 22, 3) := by decide +kernel
theorem dX5_init_25 : decode cX5_init 25 = .ok (.putfield 28, 3) := by decide +kernel
theorem dX5_init_28 : decode cX5_init 28 = .ok (.return_, 1) := by decide +kernel
set_option maxRecDepth 20000 in
theorem ggX5_readTree_X6_clear : GoodIn wsX5_readTree wsX6_clear := goodIn_r _ [15, 16, 17, 18, 19, 20, 21, 22, 23, 24, 25, 26, 27, 28, 29, 30, 31, 32, 33, 34, 35, 36, 37, 38, 39, 40, 41, 42, 152, 153, 154, 155, 156, 157, 158, 159, 160, 161, 162, 163, 164, 165, 166, 167, 168, 169, 170, 171, 172, 173] (by decide +kernel) (by decide +kernel)
set_option maxRecDepth 20000 in
theorem gX5_readTree_X6_clear : GoodIn wsX5_readTree (wsV RX5 44 RX6 yX6_clear wsX6_clear) := goodIn_app (goodIn_of _ (by decide +kernel)) ggX5_readTree_X6_clear
set_option maxRecDepth 20000 in
theorem ggX5_readTree_X5_beginToken : GoodIn wsX5_readTree wsX5_beginToken := goodIn_r _ [47, 7, 6, 1, 48, 145, 146, 147, 148, 149, 150, 151] (by decide +kernel) (by decide +kernel)
set_option maxRecDepth 20000 in
theorem gX5_readTree_X5_beginToken : GoodIn wsX5_readTree (wsV RX5 47 RX5 yX5_beginToken wsX5_beginToken) := goodIn_app (goodIn_of _ (by decide +kernel)) ggX5_readTree_X5_beginToken
set_option maxRecDepth 20000 in
theorem ggX5_readTree_X5_readStatement : GoodIn wsX5_readTree wsX5_readStatement := goodIn_r _ [52, 53, 54, 55, 56, 57, 58, 59, 60, 46, 61, 7, 6, 1, 48, 43, 44, 45, 47, 62, 63, 64, 65, 8, 9, 66, 67, 68, 69, 10, 70, 71, 72, 73, 74, 75, 2, 3, 4, 5, 76, 77, 78, 79, 80, 81, 82, 83, 84, 85, 86, 87, 37, 88, 40, 41, 89, 90, 91, 92, 93, 94, 95, 96, 27, 97, 33, 98, 99, 100, 101, 30, 102, 103, 104, 105, 106, 107, 108, 109, 29, 32, 110, 111, 112, 113, 114, 115, 116, 117, 118, 119, 120, 121, 122, 123, 124, 125, 126, 127, 128, 129, 130, 131, 132, 133, 134, 135, 136, 137, 138, 139, 140, 141, 142, 143, 144, 145, 146, 147, 148, 149, 150, 151, 152, 153, 154, 155, 156, 157, 170, 171, 172, 173, 166, 167, 168, 169, 158, 159, 160] (by decide +kernel) (by decide +kernel)
set_option maxRecDepth 20000 in
theorem gX5_readTree_X5_readStatement : GoodIn wsX5_readTree (wsV RX5 50 RX5 yX5_readStatement wsX5_readStatement) := goodIn_app (goodIn_of _ (by decide +kernel)) ggX5_readTree_X5_readStatement
theorem dX5_readTree_0 : decode cX5_readTree 0 = .ok (.aload_n 0, 1) := by decide +kernel
theorem dX5_readTree_1 : decode cX5_readTree 1 = .ok (.iload_n 1, 1) := by decide +kernel
theorem dX5_readTree_2 : decode cX5_readTree 2 = .ok (.aload_n 0, 1) := by decide +kernel
theorem dX5_readTree_3 : decode cX5_readTree 3 = .ok (.getfield 28, 3) := by decide +kernel
theorem dX5_readTree_6 : decode cX5_readTree 6 = .ok (.arraylength, 1) := by decide +kernel
theorem dX5_readTree_7 : decode cX5_readTree 7 = .ok (.invokestatic 29, 3) := by decide +kernel
theorem dX5_readTree_10 : decode cX5_readTree 10 = .ok (.putfield 35, 3) := by decide +kernel
theorem dX5_readTree_13 : decode cX5_readTree 13 = .ok (.aload_n 0, 1) := by decide +kernel
theorem dX5_readTree_14 : decode cX5_readTree 14 = .ok (.iconst 0, 1) := by decide +kernel
theorem dX5_readTree_15 : decode cX5_readTree 15 = .ok (.putfield 38, 3) := by decide +kernel
theorem dX5_readTree_18 : decode cX5_readTree 18 = .ok (.aload_n 0, 1) := by decide +kernel
theorem dX5_readTree_19 : decode cX5_readTree 19 = .ok (.iconst 0, 1) := by decide +kernel
theorem dX5_readTree_20 : decode cX5_readTree 20 = .ok (.putfield 41, 3) := by decide +kernel
theorem dX5_readTree_23 : decode cX5_readTree 23 = .ok (.aload_n 0, 1) := by decide +kernel
theorem dX5_readTree_24 : decode cX5_readTree 24 = .ok (.iconst (-1), 1) := by decide +kernel
theorem dX5_readTree_25 : decode cX5_readTree 25 = .ok (.putfield 18, 3) := by decide +kernel
theorem dX5_readTree_28 : decode cX5_readTree 28 = .ok (.aload_n 0, 1) := by decide +kernel
theorem dX5_readTree_29 : decode cX5_readTree 29 = .ok (.getfield 12, 3) := by decide +kernel
theorem dX5_readTree_32 : decode cX5_readTree 32 = .ok (.invokevirtual 44, 3) := by decide +kernel
theorem dX5_readTree_35 : decode cX5_readTree 35 = .ok (.aload_n 0, 1) := by decide +kernel
theorem dX5_readTree_36 : decode cX5_readTree 36 = .ok (.invokevirtual 47, 3) := by decide +kernel
theorem dX5_readTree_39 : decode cX5_readTree 39 = .ok (.iconst 0, 1) := by decide +kernel
theorem dX5_readTree_40 : decode cX5_readTree 40 = .ok (.istore_n 2, 1) := by decide +kernel
theorem dX5_readTree_41 : decode cX5_readTree 41 = .ok (.iload_n 2, 1) := by decide +kernel
theorem dX5_readTree_42 : decode cX5_readTree 42 = .ok (.sipush 900, 3) := by decide +kernel
theorem dX5_readTree_45 : decode cX5_readTree 45 = .ok (.if_icmp .ge 35, 3) := by decide +kernel
theorem dX5_readTree_48 : decode cX5_readTree 48 = .ok (.aload_n 0, 1) := by decide +kernel
theorem dX5_readTree_49 : decode cX5_readTree 49 = .ok (.getfield 41, 3) := by decide +kernel
theorem dX5_readTree_52 : decode cX5_readTree 52 = .ok (.ifCond .ne 28, 3) := by decide +kernel
theorem dX5_readTree_55 : decode cX5_readTree 55 = .ok (.aload_n 0, 1) := by decide +kernel
theorem dX5_readTree_56 : decode cX5_readTree 56 = .ok (.getfield 38, 3) := by decide +kernel
theorem dX5_readTree_59 : decode cX5_readTree 59 = .ok (.aload_n 0, 1) := by decide +kernel
theorem dX5_readTree_60 : decode cX5_readTree 60 = .ok (.getfield 35, 3) := by decide +kernel
theorem dX5_readTree_63 : decode cX5_readTree 63 = .ok (.if_icmp .ge 17, 3) := by decide +kernel
theorem dX5_readTree_66 : decode cX5_readTree 66 = .ok (.aload_n 0, 1) := by decide +kernel
theorem dX5_readTree_67 : decode cX5_readTree 67 = .ok (.invokevirtual 50, 3) := by decide +kernel
theorem dX5_readTree_70 : decode cX5_readTree 70 = .ok (.aload_n 0, 1) := by decide +kernel
theorem dX5_readTree_71 : decode cX5_readTree 71 = .ok (.invokevirtual 47, 3) := by decide +kernel
theorem dX5_readTree_74 : decode cX5_readTree 74 = .ok (.iinc 2 1, 3) := by decide +kernel
theorem dX5_readTree_77 : decode cX5_readTree 77 = .ok (.goto (-36), 3) := by decide +kernel
theorem dX5_readTree_80 : decode cX5_readTree 80 = .ok (.return_, 1) := by decide +kernel
theorem dX5_fail_0 : decode cX5_fail 0 = .ok (.aload_n 0, 1) := by decide +kernel
theorem dX5_fail_1 : decode cX5_fail 1 = .ok (.getfield 41, 3) := by decide +kernel
theorem dX5_fail_4 : decode cX5_fail 4 = .ok (.ifCond .ne 16, 3) := by decide +kernel
theorem dX5_fail_7 : decode cX5_fail 7 = .ok (.aload_n 0, 1) := by decide +kernel
theorem dX5_fail_8 : decode cX5_fail 8 = .ok (.iload_n 1, 1) := by decide +kernel
theorem dX5_fail_9 : decode cX5_fail 9 = .ok (.putfield 41, 3) := by decide +kernel
theorem dX5_fail_12 : decode cX5_fail 12 = .ok (.aload_n 0, 1) := by decide +kernel
theorem dX5_fail_13 : decode cX5_fail 13 = .ok (.aload_n 0, 1) := by decide +kernel
theorem dX5_fail_14 : decode cX5_fail 14 = .ok (.getfield 53, 3) := by decide +kernel
theorem dX5_fail_17 : decode cX5_fail 17 = .ok (.putfield 18, 3) := by decide +kernel
theorem dX5_fail_20 : decode cX5_fail 20 = .ok (.return_, 1) := by decide +kernel
theorem dX5_beginToken_0 : decode cX5_beginToken 0 = .ok (.aload_n 0, 1) := by decide +kernel
theorem dX5_beginToken_1 : decode cX5_beginToken 1 = .ok (.getfield 38, 3) := by decide +kernel
theorem dX5_beginToken_4 : decode cX5_beginToken 4 = .ok (.aload_n 0, 1) := by decide +kernel
theorem dX5_beginToken_5 : decode cX5_beginToken 5 = .ok (.getfield 35, 3) := by decide +kernel
theorem dX5_beginToken_8 : decode cX5_beginToken 8 = .ok (.if_icmp .ge 30, 3) := by decide +kernel
theorem dX5_beginToken_11 : decode cX5_beginToken 11 = .ok (.aload_n 0, 1) := by decide +kernel
theorem dX5_beginToken_12 : decode cX5_beginToken 12 = .ok (.getfield 28, 3) := by decide +kernel
theorem dX5_beginToken_15 : decode cX5_beginToken 15 = .ok (.aload_n 0, 1) := by decide +kernel
theorem dX5_beginToken_16 : decode cX5_beginToken 16 = .ok (.getfield 38, 3) := by decide +kernel
theorem dX5_beginToken_19 : decode cX5_beginToken 19 = .ok (.baload, 1) := by decide +kernel
theorem dX5_beginToken_20 : decode cX5_beginToken 20 = .ok (.bipush 32, 2) := by decide +kernel
theorem dX5_beginToken_22 : decode cX5_beginToken 22 = .ok (.if_icmp .ne 16, 3) := by decide +kernel
theorem dX5_beginToken_25 : decode cX5_beginToken 25 = .ok (.aload_n 0, 1) := by decide +kernel
theorem dX5_beginToken_26 : decode cX5_beginToken 26 = .ok (.dup, 1) := by decide +kernel
theorem dX5_beginToken_27 : decode cX5_beginToken 27 = .ok (.getfield 38, 3) := by decide +kernel
theorem dX5_beginToken_30 : decode cX5_beginToken 30 = .ok (.iconst 1, 1) := by decide +kernel
theorem dX5_beginToken_31 : decode cX5_beginToken 31 = .ok (.iadd, 1) := by decide +kernel
theorem dX5_beginToken_32 : decode cX5_beginToken 32 = .ok (.putfield 38, 3) := by decide +kernel
theorem dX5_beginToken_35 : decode cX5_beginToken 35 = .ok (.goto (-35), 3) := by decide +kernel
theorem dX5_beginToken_38 : decode cX5_beginToken 38 = .ok (.aload_n 0, 1) := by decide +kernel
theorem dX5_beginToken_39 : decode cX5_beginToken 39 = .ok (.aload_n 0, 1) := by decide +kernel
theorem dX5_beginToken_40 : decode cX5_beginToken 40 = .ok (.getfield 38, 3) := by decide +kernel
theorem dX5_beginToken_43 : decode cX5_beginToken 43 = .ok (.putfield 53, 3) := by decide +kernel
theorem dX5_beginToken_46 : decode cX5_beginToken 46 = .ok (.return_, 1) := by decide +kernel
set_option maxRecDepth 20000 in
theorem ggX5_readStatement_X5_readWord : GoodIn wsX5_readStatement wsX5_readWord := goodIn_r _ [10, 11, 12, 13, 14, 15, 16, 17, 9, 18, 19, 20, 21, 22, 23, 24, 117, 118, 119, 120, 121, 122, 123] (by decide +kernel) (by decide +kernel)
set_option maxRecDepth 20000 in
theorem gX5_readStatement_X5_readWord : GoodIn wsX5_readStatement (wsV RX5 56 RX5 yX5_readWord wsX5_readWord) := goodIn_app (goodIn_of _ (by decide +kernel)) ggX5_readStatement_X5_readWord
set_option maxRecDepth 20000 in
theorem ggX5_readStatement_X5_readGrace : GoodIn wsX5_readStatement wsX5_readGrace := goodIn_r _ [28, 23, 29, 30, 31, 32, 33, 9, 34, 11, 12, 13, 35, 36, 37, 38, 39, 14, 15, 16, 17, 18, 19, 20, 21, 22, 24, 117, 118, 119, 120, 121, 122, 123, 124, 125, 126, 127, 128, 129] (by decide +kernel) (by decide +kernel)
set_option maxRecDepth 20000 in
theorem gX5_readStatement_X5_readGrace : GoodIn wsX5_readStatement (wsV RX5 62 RX5 yX5_readGrace wsX5_readGrace) := goodIn_app (goodIn_of _ (by decide +kernel)) ggX5_readStatement_X5_readGrace
set_option maxRecDepth 20000 in
theorem ggX5_readStatement_X5_readLimits : GoodIn wsX5_readStatement wsX5_readLimits := goodIn_r _ [43, 44, 23, 29, 45, 31, 32, 33, 9, 34, 11, 12, 13, 35, 36, 37, 38, 39, 14, 15, 16, 17, 18, 19, 20, 21, 22, 24, 46, 47, 48, 49, 50, 51, 52, 53, 54, 55, 117, 118, 119, 120, 121, 122, 123, 124, 125, 126, 127, 128, 129, 130, 131, 132, 133] (by decide +kernel) (by decide +kernel)
set_option maxRecDepth 20000 in
theorem gX5_readStatement_X5_readLimits : GoodIn wsX5_readStatement (wsV RX5 67 RX5 yX5_readLimits wsX5_readLimits) := goodIn_app (goodIn_of _ (by decide +kernel)) ggX5_readStatement_X5_readLimits
set_option maxRecDepth 20000 in
theorem ggX5_readStatement_X5_readFolder : GoodIn wsX5_readStatement wsX5_readFolder := goodIn_r _ [59, 29, 60, 23, 61, 62, 63, 64, 65, 66, 19, 20, 21, 9, 22, 14, 24, 6, 7, 8, 10, 11, 12, 13, 15, 16, 17, 18, 67, 68, 69, 70, 71, 72, 73, 74, 75, 76, 77, 78, 79, 80, 81, 82, 117, 118, 119, 120, 121, 122, 123, 124, 125, 126, 127, 128, 129, 134, 135, 136, 137] (by decide +kernel) (by decide +kernel)
set_option maxRecDepth 20000 in
theorem gX5_readStatement_X5_readFolder : GoodIn wsX5_readStatement (wsV RX5 72 RX5 yX5_readFolder wsX5_readFolder) := goodIn_app (goodIn_of _ (by decide +kernel)) ggX5_readStatement_X5_readFolder
set_option maxRecDepth 20000 in
theorem ggX5_readStatement_X5_readTag : GoodIn wsX5_readStatement wsX5_readTag := goodIn_r _ [86, 23, 29, 60, 72, 73, 74, 9, 75, 6, 7, 8, 10, 11, 12, 13, 14, 15, 16, 17, 18, 19, 20, 21, 22, 24, 67, 68, 69, 64, 70, 66, 71, 31, 32, 33, 34, 35, 36, 37, 38, 39, 87, 88, 89, 90, 81, 91, 92, 93, 94, 117, 118, 119, 120, 121, 122, 123, 124, 125, 126, 127, 128, 129, 134, 135, 136, 137] (by decide +kernel) (by decide +kernel)
set_option maxRecDepth 20000 in
theorem gX5_readStatement_X5_readTag : GoodIn wsX5_readStatement (wsV RX5 77 RX5 yX5_readTag wsX5_readTag) := goodIn_app (goodIn_of _ (by decide +kernel)) ggX5_readStatement_X5_readTag
set_option maxRecDepth 20000 in
theorem ggX5_readStatement_X5_readFile : GoodIn wsX5_readStatement wsX5_readFile := goodIn_r _ [98, 29, 99, 23, 100, 101, 102, 103, 104, 105, 19, 20, 21, 9, 22, 14, 24, 72, 73, 74, 75, 60, 6, 7, 8, 10, 11, 12, 13, 15, 16, 17, 18, 67, 68, 69, 64, 70, 66, 71, 31, 32, 33, 34, 35, 36, 37, 38, 39, 106, 107, 108, 109, 110, 111, 112, 117, 118, 119, 120, 121, 122, 123, 124, 125, 126, 127, 128, 129, 138, 139, 140, 134, 135, 136, 137] (by decide +kernel) (by decide +kernel)
set_option maxRecDepth 20000 in
theorem gX5_readStatement_X5_readFile : GoodIn wsX5_readStatement (wsV RX5 82 RX5 yX5_readFile wsX5_readFile) := goodIn_app (goodIn_of _ (by decide +kernel)) ggX5_readStatement_X5_readFile
set_option maxRecDepth 20000 in
theorem ggX5_readStatement_X5_fail : GoodIn wsX5_readStatement wsX5_fail := goodIn_r _ [22, 23, 14, 24, 117, 118, 119, 120, 121, 122, 123] (by decide +kernel) (by decide +kernel)
set_option maxRecDepth 20000 in
theorem gX5_readStatement_X5_fail : GoodIn wsX5_readStatement (wsV RX5 85 RX5 yX5_fail wsX5_fail) := goodIn_app (goodIn_of _ (by decide +kernel)) ggX5_readStatement_X5_fail
set_option maxRecDepth 20000 in
theorem ggX5_readStatement_X5_readSemicolon : GoodIn wsX5_readStatement wsX5_readSemicolon := goodIn_r _ [116, 11, 12, 13, 15, 16, 17, 9, 18, 14, 19, 20, 21, 22, 23, 24, 117, 118, 119, 120, 121, 122, 123] (by decide +kernel) (by decide +kernel)
set_option maxRecDepth 20000 in
theorem gX5_readStatement_X5_readSemicolon : GoodIn wsX5_readStatement (wsV RX5 89 RX5 yX5_readSemicolon wsX5_readSemicolon) := goodIn_app (goodIn_of _ (by decide +kernel)) ggX5_readStatement_X5_readSemicolon
theorem dX5_readStatement_0 : decode cX5_readStatement 0 = .ok (.aload_n 0, 1) := by decide +kernel
theorem dX5_readStatement_1 : decode cX5_readStatement 1 = .ok (.invokevirtual 56, 3) := by decide +kernel
theorem dX5_readStatement_4 : decode cX5_readStatement 4 = .ok (.lstore_n 1, 1) := by decide +kernel
theorem dX5_readStatement_5 : decode cX5_readStatement 5 = .ok (.lload_n 1, 1) := by decide +kernel
theorem dX5_readStatement_6 : decode cX5_readStatement 6 = .ok (.ldc2_w 60, 3) := by decide +kernel
theorem dX5_readStatement_9 : decode cX5_readStatement 9 = .ok (.lcmp, 1) := by decide +kernel
theorem dX5_readStatement_10 : decode cX5_readStatement 10 = .ok (.ifCond .ne 10, 3) := by decide +kernel
theorem dX5_readStatement_13 : decode cX5_readStatement 13 = .ok (.aload_n 0, 1) := by decide +kernel
theorem dX5_readStatement_14 : decode cX5_readStatement 14 = .ok (.invokevirtual 62, 3) := by decide +kernel
theorem dX5_readStatement_17 : decode cX5_readStatement 17 = .ok (.goto 69, 3) := by decide +kernel
theorem dX5_readStatement_20 : decode cX5_readStatement 20 = .ok (.lload_n 1, 1) := by decide +kernel
theorem dX5_readStatement_21 : decode cX5_readStatement 21 = .ok (.ldc2_w 65, 3) := by decide +kernel
theorem dX5_readStatement_24 : decode cX5_readStatement 24 = .ok (.lcmp, 1) := by decide +kernel
theorem dX5_readStatement_25 : decode cX5_readStatement 25 = .ok (.ifCond .ne 10, 3) := by decide +kernel
theorem dX5_readStatement_28 : decode cX5_readStatement 28 = .ok (.aload_n 0, 1) := by decide +kernel
theorem dX5_readStatement_29 : decode cX5_readStatement 29 = .ok (.invokevirtual 67, 3) := by decide +kernel
theorem dX5_readStatement_32 : decode cX5_readStatement 32 = .ok (.goto 54, 3) := by decide +kernel
theorem dX5_readStatement_35 : decode cX5_readStatement 35 = .ok (.lload_n 1, 1) := by decide +kernel
theorem dX5_readStatement_36 : decode cX5_readStatement 36 = .ok (.ldc2_w 70, 3) := by decide +kernel
theorem dX5_readStatement_39 : decode cX5_readStatement 39 = .ok (.lcmp, 1) := by decide +kernel
theorem dX5_readStatement_40 : decode cX5_readStatement 40 = .ok (.ifCond .ne 10, 3) := by decide +kernel
theorem dX5_readStatement_43 : decode cX5_readStatement 43 = .ok (.aload_n 0, 1) := by decide +kernel
theorem dX5_readStatement_44 : decode cX5_readStatement 44 = .ok (.invokevirtual 72, 3) := by decide +kernel
theorem dX5_readStatement_47 : decode cX5_readStatement 47 = .ok (.goto 39, 3) := by decide +kernel
theorem dX5_readStatement_50 : decode cX5_readStatement 50 = .ok (.lload_n 1, 1) := by decide +kernel
theorem dX5_readStatement_51 : decode cX5_readStatement 51 = .ok (.ldc2_w 75, 3) := by decide +kernel
theorem dX5_readStatement_54 : decode cX5_readStatement 54 = .ok (.lcmp, 1) := by decide +kernel
theorem dX5_readStatement_55 : decode cX5_readStatement 55 = .ok (.ifCond .ne 10, 3) := by decide +kernel
theorem dX5_readStatement_58 : decode cX5_readStatement 58 = .ok (.aload_n 0, 1) := by decide +kernel
theorem dX5_readStatement_59 : decode cX5_readStatement 59 = .ok (.invokevirtual 77, 3) := by decide +kernel
theorem dX5_readStatement_62 : decode cX5_readStatement 62 = .ok (.goto 24, 3) := by decide +kernel
theorem dX5_readStatement_65 : decode cX5_readStatement 65 = .ok (.lload_n 1, 1) := by decide +kernel
theorem dX5_readStatement_66 : decode cX5_readStatement 66 = .ok (.ldc2_w 80, 3) := by decide +kernel
theorem dX5_readStatement_69 : decode cX5_readStatement 69 = .ok (.lcmp, 1) := by decide +kernel
theorem dX5_readStatement_70 : decode cX5_readStatement 70 = .ok (.ifCond .ne 10, 3) := by decide +kernel
theorem dX5_readStatement_73 : decode cX5_readStatement 73 = .ok (.aload_n 0, 1) := by decide +kernel
theorem dX5_readStatement_74 : decode cX5_readStatement 74 = .ok (.invokevirtual 82, 3) := by decide +kernel
theorem dX5_readStatement_77 : decode cX5_readStatement 77 = .ok (.goto 9, 3) := by decide +kernel
theorem dX5_readStatement_80 : decode cX5_readStatement 80 = .ok (.aload_n 0, 1) := by decide +kernel
theorem dX5_readStatement_81 : decode cX5_readStatement 81 = .ok (.bipush (-2), 2) := by decide +kernel
theorem dX5_readStatement_83 : decode cX5_readStatement 83 = .ok (.invokevirtual 85, 3) := by decide +kernel
theorem dX5_readStatement_86 : decode cX5_readStatement 86 = .ok (.aload_n 0, 1) := by decide +kernel
theorem dX5_readStatement_87 : decode cX5_readStatement 87 = .ok (.invokevirtual 89, 3) := by decide +kernel
theorem dX5_readStatement_90 : decode cX5_readStatement 90 = .ok (.return_, 1) := by decide +kernel
set_option maxRecDepth 20000 in
theorem ggX5_readGrace_X5_readNumber : GoodIn wsX5_readGrace wsX5_readNumber := goodIn_r _ [8, 9, 10, 11, 12, 13, 14, 15, 16, 17, 18, 19, 20, 7, 21, 22, 23, 24, 25, 1, 26, 27, 28, 29, 30, 31, 32, 33] (by decide +kernel) (by decide +kernel)
set_option maxRecDepth 20000 in
theorem gX5_readGrace_X5_readNumber : GoodIn wsX5_readGrace (wsV RX5 92 RX5 yX5_readNumber wsX5_readNumber) := goodIn_app (goodIn_of _ (by decide +kernel)) ggX5_readGrace_X5_readNumber
theorem dX5_readGrace_0 : decode cX5_readGrace 0 = .ok (.aload_n 0, 1) := by decide +kernel
theorem dX5_readGrace_1 : decode cX5_readGrace 1 = .ok (.iconst 1, 1) := by decide +kernel
theorem dX5_readGrace_2 : decode cX5_readGrace 2 = .ok (.bipush 99, 2) := by decide +kernel
theorem dX5_readGrace_4 : decode cX5_readGrace 4 = .ok (.invokevirtual 92, 3) := by decide +kernel
theorem dX5_readGrace_7 : decode cX5_readGrace 7 = .ok (.istore_n 1, 1) := by decide +kernel
theorem dX5_readGrace_8 : decode cX5_readGrace 8 = .ok (.aload_n 0, 1) := by decide +kernel
theorem dX5_readGrace_9 : decode cX5_readGrace 9 = .ok (.getfield 41, 3) := by decide +kernel
theorem dX5_readGrace_12 : decode cX5_readGrace 12 = .ok (.ifCond .ne 11, 3) := by decide +kernel
theorem dX5_readGrace_15 : decode cX5_readGrace 15 = .ok (.aload_n 0, 1) := by decide +kernel
theorem dX5_readGrace_16 : decode cX5_readGrace 16 = .ok (.getfield 12, 3) := by decide +kernel
theorem dX5_readGrace_19 : decode cX5_readGrace 19 = .ok (.iload_n 1, 1) := by decide +kernel
theorem dX5_readGrace_20 : decode cX5_readGrace 20 = .ok (.putfield 95, 3) := by decide +kernel
theorem dX5_readGrace_23 : decode cX5_readGrace 23 = .ok (.return_, 1) := by decide +kernel
set_option maxRecDepth 20000 in
theorem ggX5_readLimits_X5_readNumber : GoodIn wsX5_readLimits wsX5_readNumber := goodIn_r _ [9, 10, 11, 12, 13, 14, 15, 16, 17, 18, 19, 20, 21, 8, 22, 23, 24, 25, 26, 2, 27, 38, 39, 40, 41, 42, 43, 44] (by decide +kernel) (by decide +kernel)
set_option maxRecDepth 20000 in
theorem gX5_readLimits_X5_readNumber : GoodIn wsX5_readLimits (wsV RX5 92 RX5 yX5_readNumber wsX5_readNumber) := goodIn_app (goodIn_of _ (by decide +kernel)) ggX5_readLimits_X5_readNumber
set_option maxRecDepth 20000 in
theorem ggX5_readLimits_X5_fail : GoodIn wsX5_readLimits wsX5_fail := goodIn_r _ [26, 2, 18, 27, 38, 39, 40, 41, 42, 43, 44] (by decide +kernel) (by decide +kernel)
set_option maxRecDepth 20000 in
theorem gX5_readLimits_X5_fail : GoodIn wsX5_readLimits (wsV RX5 85 RX5 yX5_fail wsX5_fail) := goodIn_app (goodIn_of _ (by decide +kernel)) ggX5_readLimits_X5_fail
set_option maxRecDepth 20000 in
theorem ggX5_readLimits_X7_accountOf : GoodIn wsX5_readLimits wsX7_accountOf := goodIn_r _ [30] (by decide +kernel) (by decide +kernel)
set_option maxRecDepth 20000 in
theorem gX5_readLimits_X7_accountOf_n103 : GoodIn wsX5_readLimits (wsX7_accountOf) := ggX5_readLimits_X7_accountOf
set_option maxRecDepth 20000 in
theorem ggX5_readLimits_X0_setLimits : GoodIn wsX5_readLimits wsX0_setLimits := goodIn_r _ [35, 36, 37, 51, 52, 53, 54] (by decide +kernel) (by decide +kernel)
set_option maxRecDepth 20000 in
theorem gX5_readLimits_X0_setLimits : GoodIn wsX5_readLimits (wsV RX5 106 RX0 yX0_setLimits wsX0_setLimits) := goodIn_app (goodIn_of _ (by decide +kernel)) ggX5_readLimits_X0_setLimits
theorem dX5_readLimits_0 : decode cX5_readLimits 0 = .ok (.aload_n 0, 1) := by decide +kernel
theorem dX5_readLimits_1 : decode cX5_readLimits 1 = .ok (.iconst 0, 1) := by decide +kernel
theorem dX5_readLimits_2 : decode cX5_readLimits 2 = .ok (.bipush 7, 2) := by decide +kernel
theorem dX5_readLimits_4 : decode cX5_readLimits 4 = .ok (.invokevirtual 92, 3) := by decide +kernel
theorem dX5_readLimits_7 : decode cX5_readLimits 7 = .ok (.istore_n 1, 1) := by decide +kernel
theorem dX5_readLimits_8 : decode cX5_readLimits 8 = .ok (.iconst 0, 1) := by decide +kernel
theorem dX5_readLimits_9 : decode cX5_readLimits 9 = .ok (.istore_n 2, 1) := by decide +kernel
theorem dX5_readLimits_10 : decode cX5_readLimits 10 = .ok (.iload_n 2, 1) := by decide +kernel
theorem dX5_readLimits_11 : decode cX5_readLimits 11 = .ok (.iconst 2, 1) := by decide +kernel
theorem dX5_readLimits_12 : decode cX5_readLimits 12 = .ok (.if_icmp .ge 68, 3) := by decide +kernel
theorem dX5_readLimits_15 : decode cX5_readLimits 15 = .ok (.aload_n 0, 1) := by decide +kernel
theorem dX5_readLimits_16 : decode cX5_readLimits 16 = .ok (.iconst 0, 1) := by decide +kernel
theorem dX5_readLimits_17 : decode cX5_readLimits 17 = .ok (.ldc 98, 2) := by decide +kernel
theorem dX5_readLimits_19 : decode cX5_readLimits 19 = .ok (.invokevirtual 92, 3) := by decide +kernel
theorem dX5_readLimits_22 : decode cX5_readLimits 22 = .ok (.istore_n 3, 1) := by decide +kernel
theorem dX5_readLimits_23 : decode cX5_readLimits 23 = .ok (.aload_n 0, 1) := by decide +kernel
theorem dX5_readLimits_24 : decode cX5_readLimits 24 = .ok (.iconst 0, 1) := by decide +kernel
theorem dX5_readLimits_25 : decode cX5_readLimits 25 = .ok (.ldc 98, 2) := by decide +kernel
theorem dX5_readLimits_27 : decode cX5_readLimits 27 = .ok (.invokevirtual 92, 3) := by decide +kernel
theorem dX5_readLimits_30 : decode cX5_readLimits 30 = .ok (.istore 4, 2) := by decide +kernel
theorem dX5_readLimits_32 : decode cX5_readLimits 32 = .ok (.iload 4, 2) := by decide +kernel
theorem dX5_readLimits_34 : decode cX5_readLimits 34 = .ok (.ifCond .le 15, 3) := by decide +kernel
theorem dX5_readLimits_37 : decode cX5_readLimits 37 = .ok (.iload 4, 2) := by decide +kernel
theorem dX5_readLimits_39 : decode cX5_readLimits 39 = .ok (.iload_n 3, 1) := by decide +kernel
theorem dX5_readLimits_40 : decode cX5_readLimits 40 = .ok (.if_icmp .ge 9, 3) := by decide +kernel
theorem dX5_readLimits_43 : decode cX5_readLimits 43 = .ok (.aload_n 0, 1) := by decide +kernel
theorem dX5_readLimits_44 : decode cX5_readLimits 44 = .ok (.bipush (-3), 2) := by decide +kernel
theorem dX5_readLimits_46 : decode cX5_readLimits 46 = .ok (.invokevirtual 85, 3) := by decide +kernel
theorem dX5_readLimits_49 : decode cX5_readLimits 49 = .ok (.aload_n 0, 1) := by decide +kernel
theorem dX5_readLimits_50 : decode cX5_readLimits 50 = .ok (.getfield 41, 3) := by decide +kernel
theorem dX5_readLimits_53 : decode cX5_readLimits 53 = .ok (.ifCond .ne 21, 3) := by decide +kernel
theorem dX5_readLimits_56 : decode cX5_readLimits 56 = .ok (.aload_n 0, 1) := by decide +kernel
theorem dX5_readLimits_57 : decode cX5_readLimits 57 = .ok (.getfield 12, 3) := by decide +kernel
theorem dX5_readLimits_60 : decode cX5_readLimits 60 = .ok (.getfield 99, 3) := by decide +kernel
theorem dX5_readLimits_63 : decode cX5_readLimits 63 = .ok (.iload_n 1, 1) := by decide +kernel
theorem dX5_readLimits_64 : decode cX5_readLimits 64 = .ok (.iload_n 2, 1) := by decide +kernel
theorem dX5_readLimits_65 : decode cX5_readLimits 65 = .ok (.invokestatic 103, 3) := by decide +kernel
theorem dX5_readLimits_68 : decode cX5_readLimits 68 = .ok (.iload_n 3, 1) := by decide +kernel
theorem dX5_readLimits_69 : decode cX5_readLimits 69 = .ok (.iload 4, 2) := by decide +kernel
theorem dX5_readLimits_71 : decode cX5_readLimits 71 = .ok (.invokevirtual 106, 3) := by decide +kernel
theorem dX5_readLimits_74 : decode cX5_readLimits 74 = .ok (.iinc 2 1, 3) := by decide +kernel
theorem dX5_readLimits_77 : decode cX5_readLimits 77 = .ok (.goto (-67), 3) := by decide +kernel
theorem dX5_readLimits_80 : decode cX5_readLimits 80 = .ok (.return_, 1) := by decide +kernel
set_option maxRecDepth 20000 in
theorem ggX5_readFolder_X3_isFull : GoodIn wsX5_readFolder wsX3_isFull := goodIn_r _ [8, 9, 57, 58, 59, 60] (by decide +kernel) (by decide +kernel)
set_option maxRecDepth 20000 in
theorem gX5_readFolder_X3_isFull : GoodIn wsX5_readFolder (wsV RX5 116 RX3 yX3_isFull wsX3_isFull) := goodIn_app (goodIn_of _ (by decide +kernel)) ggX5_readFolder_X3_isFull
set_option maxRecDepth 20000 in
theorem ggX5_readFolder_X5_fail : GoodIn wsX5_readFolder wsX5_fail := goodIn_r _ [14, 3, 15, 16, 44, 45, 46, 47, 48, 49, 50] (by decide +kernel) (by decide +kernel)
set_option maxRecDepth 20000 in
theorem gX5_readFolder_X5_fail : GoodIn wsX5_readFolder (wsV RX5 85 RX5 yX5_fail wsX5_fail) := goodIn_app (goodIn_of _ (by decide +kernel)) ggX5_readFolder_X5_fail
set_option maxRecDepth 20000 in
theorem ggX5_readFolder_X5_readWord : GoodIn wsX5_readFolder wsX5_readWord := goodIn_r _ [20, 21, 22, 23, 15, 24, 25, 26, 13, 27, 10, 11, 12, 14, 3, 16, 44, 45, 46, 47, 48, 49, 50] (by decide +kernel) (by decide +kernel)
set_option maxRecDepth 20000 in
theorem gX5_readFolder_X5_readWord : GoodIn wsX5_readFolder (wsV RX5 56 RX5 yX5_readWord wsX5_readWord) := goodIn_app (goodIn_of _ (by decide +kernel)) ggX5_readFolder_X5_readWord
set_option maxRecDepth 20000 in
theorem ggX5_readFolder_X3_numberOf : GoodIn wsX5_readFolder wsX3_numberOf := goodIn_r _ [31, 9, 32, 57, 58, 59, 60] (by decide +kernel) (by decide +kernel)
set_option maxRecDepth 20000 in
theorem gX5_readFolder_X3_numberOf : GoodIn wsX5_readFolder (wsV RX5 122 RX3 yX3_numberOf wsX3_numberOf) := goodIn_app (goodIn_of _ (by decide +kernel)) ggX5_readFolder_X3_numberOf
set_option maxRecDepth 20000 in
theorem ggX5_readFolder_X5_readFolderName : GoodIn wsX5_readFolder wsX5_readFolderName := goodIn_r _ [36, 1, 2, 17, 18, 19, 13, 20, 21, 22, 23, 15, 24, 25, 26, 27, 10, 11, 12, 14, 3, 16, 28, 29, 30, 7, 31, 9, 32, 44, 45, 46, 47, 48, 49, 50, 51, 52, 53, 54, 55, 56, 57, 58, 59, 60] (by decide +kernel) (by decide +kernel)
set_option maxRecDepth 20000 in
theorem gX5_readFolder_X5_readFolderName : GoodIn wsX5_readFolder (wsV RX5 126 RX5 yX5_readFolderName wsX5_readFolderName) := goodIn_app (goodIn_of _ (by decide +kernel)) ggX5_readFolder_X5_readFolderName
set_option maxRecDepth 20000 in
theorem ggX5_readFolder_X3_add : GoodIn wsX5_readFolder wsX3_add := goodIn_r _ [40, 41, 9, 32, 42, 43, 5, 6, 7, 8, 57, 58, 59, 60] (by decide +kernel) (by decide +kernel)
set_option maxRecDepth 20000 in
theorem gX5_readFolder_X3_add : GoodIn wsX5_readFolder (wsV RX5 130 RX3 yX3_add wsX3_add) := goodIn_app (goodIn_of _ (by decide +kernel)) ggX5_readFolder_X3_add
theorem dX5_readFolder_0 : decode cX5_readFolder 0 = .ok (.aload_n 0, 1) := by decide +kernel
theorem dX5_readFolder_1 : decode cX5_readFolder 1 = .ok (.getfield 12, 3) := by decide +kernel
theorem dX5_readFolder_4 : decode cX5_readFolder 4 = .ok (.getfield 112, 3) := by decide +kernel
theorem dX5_readFolder_7 : decode cX5_readFolder 7 = .ok (.invokevirtual 116, 3) := by decide +kernel
theorem dX5_readFolder_10 : decode cX5_readFolder 10 = .ok (.ifCond .eq 9, 3) := by decide +kernel
theorem dX5_readFolder_13 : decode cX5_readFolder 13 = .ok (.aload_n 0, 1) := by decide +kernel
theorem dX5_readFolder_14 : decode cX5_readFolder 14 = .ok (.bipush (-4), 2) := by decide +kernel
theorem dX5_readFolder_16 : decode cX5_readFolder 16 = .ok (.invokevirtual 85, 3) := by decide +kernel
theorem dX5_readFolder_19 : decode cX5_readFolder 19 = .ok (.aload_n 0, 1) := by decide +kernel
theorem dX5_readFolder_20 : decode cX5_readFolder 20 = .ok (.invokevirtual 56, 3) := by decide +kernel
theorem dX5_readFolder_23 : decode cX5_readFolder 23 = .ok (.lstore_n 1, 1) := by decide +kernel
theorem dX5_readFolder_24 : decode cX5_readFolder 24 = .ok (.aload_n 0, 1) := by decide +kernel
theorem dX5_readFolder_25 : decode cX5_readFolder 25 = .ok (.getfield 12, 3) := by decide +kernel
theorem dX5_readFolder_28 : decode cX5_readFolder 28 = .ok (.getfield 112, 3) := by decide +kernel
theorem dX5_readFolder_31 : decode cX5_readFolder 31 = .ok (.lload_n 1, 1) := by decide +kernel
theorem dX5_readFolder_32 : decode cX5_readFolder 32 = .ok (.invokevirtual 122, 3) := by decide +kernel
theorem dX5_readFolder_35 : decode cX5_readFolder 35 = .ok (.iconst (-1), 1) := by decide +kernel
theorem dX5_readFolder_36 : decode cX5_readFolder 36 = .ok (.if_icmp .eq 9, 3) := by decide +kernel
theorem dX5_readFolder_39 : decode cX5_readFolder 39 = .ok (.aload_n 0, 1) := by decide +kernel
theorem dX5_readFolder_40 : decode cX5_readFolder 40 = .ok (.bipush (-3), 2) := by decide +kernel
theorem dX5_readFolder_42 : decode cX5_readFolder 42 = .ok (.invokevirtual 85, 3) := by decide +kernel
theorem dX5_readFolder_45 : decode cX5_readFolder 45 = .ok (.aload_n 0, 1) := by decide +kernel
theorem dX5_readFolder_46 : decode cX5_readFolder 46 = .ok (.invokevirtual 126, 3) := by decide +kernel
theorem dX5_readFolder_49 : decode cX5_readFolder 49 = .ok (.istore_n 3, 1) := by decide +kernel
theorem dX5_readFolder_50 : decode cX5_readFolder 50 = .ok (.aload_n 0, 1) := by decide +kernel
theorem dX5_readFolder_51 : decode cX5_readFolder 51 = .ok (.getfield 41, 3) := by decide +kernel
theorem dX5_readFolder_54 : decode cX5_readFolder 54 = .ok (.ifCond .ne 15, 3) := by decide +kernel
theorem dX5_readFolder_57 : decode cX5_readFolder 57 = .ok (.aload_n 0, 1) := by decide +kernel
theorem dX5_readFolder_58 : decode cX5_readFolder 58 = .ok (.getfield 12, 3) := by decide +kernel
theorem dX5_readFolder_61 : decode cX5_readFolder 61 = .ok (.getfield 112, 3) := by decide +kernel
theorem dX5_readFolder_64 : decode cX5_readFolder 64 = .ok (.iload_n 3, 1) := by decide +kernel
theorem dX5_readFolder_65 : decode cX5_readFolder 65 = .ok (.lload_n 1, 1) := by decide +kernel
theorem dX5_readFolder_66 : decode cX5_readFolder 66 = .ok (.invokevirtual 130, 3) := by decide +kernel
theorem dX5_readFolder_69 : decode cX5_readFolder 69 = .ok (.return_, 1) := by decide +kernel
set_option maxRecDepth 20000 in
theorem ggX5_readTag_X5_readFolderName : GoodIn wsX5_readTag wsX5_readFolderName := goodIn_r _ [8, 2, 3, 9, 10, 11, 7, 12, 13, 14, 15, 16, 17, 18, 19, 20, 21, 22, 23, 24, 1, 25, 26, 27, 28, 29, 30, 31, 32, 51, 52, 53, 54, 55, 56, 57, 58, 59, 60, 61, 62, 63, 64, 65, 66, 67] (by decide +kernel) (by decide +kernel)
set_option maxRecDepth 20000 in
theorem gX5_readTag_X5_readFolderName : GoodIn wsX5_readTag (wsV RX5 126 RX5 yX5_readFolderName wsX5_readFolderName) := goodIn_app (goodIn_of _ (by decide +kernel)) ggX5_readTag_X5_readFolderName
set_option maxRecDepth 20000 in
theorem ggX5_readTag_X5_readNumber : GoodIn wsX5_readTag wsX5_readNumber := goodIn_r _ [36, 13, 14, 15, 37, 38, 39, 40, 41, 16, 17, 18, 19, 7, 20, 21, 22, 23, 24, 1, 25, 51, 52, 53, 54, 55, 56, 57] (by decide +kernel) (by decide +kernel)
set_option maxRecDepth 20000 in
theorem gX5_readTag_X5_readNumber : GoodIn wsX5_readTag (wsV RX5 92 RX5 yX5_readNumber wsX5_readNumber) := goodIn_app (goodIn_of _ (by decide +kernel)) ggX5_readTag_X5_readNumber
set_option maxRecDepth 20000 in
theorem ggX5_readTag_X3_setTag : GoodIn wsX5_readTag wsX3_setTag := goodIn_r _ [45, 46, 47, 48, 49, 29, 50, 31, 64, 65, 66, 67] (by decide +kernel) (by decide +kernel)
set_option maxRecDepth 20000 in
theorem gX5_readTag_X3_setTag : GoodIn wsX5_readTag (wsV RX5 134 RX3 yX3_setTag wsX3_setTag) := goodIn_app (goodIn_of _ (by decide +kernel)) ggX5_readTag_X3_setTag
theorem dX5_readTag_0 : decode cX5_readTag 0 = .ok (.aload_n 0, 1) := by decide +kernel
theorem dX5_readTag_1 : decode cX5_readTag 1 = .ok (.invokevirtual 126, 3) := by decide +kernel
theorem dX5_readTag_4 : decode cX5_readTag 4 = .ok (.istore_n 1, 1) := by decide +kernel
theorem dX5_readTag_5 : decode cX5_readTag 5 = .ok (.aload_n 0, 1) := by decide +kernel
theorem dX5_readTag_6 : decode cX5_readTag 6 = .ok (.iconst 0, 1) := by decide +kernel
theorem dX5_readTag_7 : decode cX5_readTag 7 = .ok (.bipush 7, 2) := by decide +kernel
theorem dX5_readTag_9 : decode cX5_readTag 9 = .ok (.invokevirtual 92, 3) := by decide +kernel
theorem dX5_readTag_12 : decode cX5_readTag 12 = .ok (.istore_n 2, 1) := by decide +kernel
theorem dX5_readTag_13 : decode cX5_readTag 13 = .ok (.aload_n 0, 1) := by decide +kernel
theorem dX5_readTag_14 : decode cX5_readTag 14 = .ok (.getfield 41, 3) := by decide +kernel
theorem dX5_readTag_17 : decode cX5_readTag 17 = .ok (.ifCond .ne 15, 3) := by decide +kernel
theorem dX5_readTag_20 : decode cX5_readTag 20 = .ok (.aload_n 0, 1) := by decide +kernel
theorem dX5_readTag_21 : decode cX5_readTag 21 = .ok (.getfield 12, 3) := by decide +kernel
theorem dX5_readTag_24 : decode cX5_readTag 24 = .ok (.getfield 112, 3) := by decide +kernel
theorem dX5_readTag_27 : decode cX5_readTag 27 = .ok (.iload_n 1, 1) := by decide +kernel
theorem dX5_readTag_28 : decode cX5_readTag 28 = .ok (.iload_n 2, 1) := by decide +kernel
theorem dX5_readTag_29 : decode cX5_readTag 29 = .ok (.invokevirtual 134, 3) := by decide +kernel
theorem dX5_readTag_32 : decode cX5_readTag 32 = .ok (.return_, 1) := by decide +kernel
set_option maxRecDepth 20000 in
theorem ggX5_readFile_X2_isFull : GoodIn wsX5_readFile wsX2_isFull := goodIn_r _ [8, 9, 69, 70, 71] (by decide +kernel) (by decide +kernel)
set_option maxRecDepth 20000 in
theorem gX5_readFile_X2_isFull : GoodIn wsX5_readFile (wsV RX5 142 RX2 yX2_isFull wsX2_isFull) := goodIn_app (goodIn_of _ (by decide +kernel)) ggX5_readFile_X2_isFull
set_option maxRecDepth 20000 in
theorem ggX5_readFile_X5_fail : GoodIn wsX5_readFile wsX5_fail := goodIn_r _ [14, 3, 15, 16, 56, 57, 58, 59, 60, 61, 62] (by decide +kernel) (by decide +kernel)
set_option maxRecDepth 20000 in
theorem gX5_readFile_X5_fail : GoodIn wsX5_readFile (wsV RX5 85 RX5 yX5_fail wsX5_fail) := goodIn_app (goodIn_of _ (by decide +kernel)) ggX5_readFile_X5_fail
set_option maxRecDepth 20000 in
theorem ggX5_readFile_X5_readFolderName : GoodIn wsX5_readFile wsX5_readFolderName := goodIn_r _ [20, 1, 21, 22, 23, 24, 13, 25, 26, 27, 28, 15, 29, 30, 31, 32, 10, 11, 12, 14, 3, 16, 33, 34, 35, 36, 37, 38, 39, 56, 57, 58, 59, 60, 61, 62, 63, 64, 65, 66, 67, 68, 72, 73, 74, 75] (by decide +kernel) (by decide +kernel)
set_option maxRecDepth 20000 in
theorem gX5_readFile_X5_readFolderName : GoodIn wsX5_readFile (wsV RX5 126 RX5 yX5_readFolderName wsX5_readFolderName) := goodIn_app (goodIn_of _ (by decide +kernel)) ggX5_readFile_X5_readFolderName
set_option maxRecDepth 20000 in
theorem ggX5_readFile_X5_readNumber : GoodIn wsX5_readFile wsX5_readNumber := goodIn_r _ [43, 26, 27, 28, 44, 45, 46, 47, 48, 15, 29, 30, 31, 13, 32, 10, 11, 12, 14, 3, 16, 56, 57, 58, 59, 60, 61, 62] (by decide +kernel) (by decide +kernel)
set_option maxRecDepth 20000 in
theorem gX5_readFile_X5_readNumber : GoodIn wsX5_readFile (wsV RX5 92 RX5 yX5_readNumber wsX5_readNumber) := goodIn_app (goodIn_of _ (by decide +kernel)) ggX5_readFile_X5_readNumber
set_option maxRecDepth 20000 in
theorem ggX5_readFile_X2_add : GoodIn wsX5_readFile wsX2_add := goodIn_r _ [52, 53, 9, 54, 55, 5, 6, 7, 8, 69, 70, 71] (by decide +kernel) (by decide +kernel)
set_option maxRecDepth 20000 in
theorem gX5_readFile_X2_add : GoodIn wsX5_readFile (wsV RX5 145 RX2 yX2_add wsX2_add) := goodIn_app (goodIn_of _ (by decide +kernel)) ggX5_readFile_X2_add
theorem dX5_readFile_0 : decode cX5_readFile 0 = .ok (.aload_n 0, 1) := by decide +kernel
theorem dX5_readFile_1 : decode cX5_readFile 1 = .ok (.getfield 12, 3) := by decide +kernel
theorem dX5_readFile_4 : decode cX5_readFile 4 = .ok (.getfield 138, 3) := by decide +kernel
theorem dX5_readFile_7 : decode cX5_readFile 7 = .ok (.invokevirtual 142, 3) := by decide +kernel
theorem dX5_readFile_10 : decode cX5_readFile 10 = .ok (.ifCond .eq 9, 3) := by decide +kernel
theorem dX5_readFile_13 : decode cX5_readFile 13 = .ok (.aload_n 0, 1) := by decide +kernel
theorem dX5_readFile_14 : decode cX5_readFile 14 = .ok (.bipush (-4), 2) := by decide +kernel
theorem dX5_readFile_16 : decode cX5_readFile 16 = .ok (.invokevirtual 85, 3) := by decide +kernel
theorem dX5_readFile_19 : decode cX5_readFile 19 = .ok (.aload_n 0, 1) := by decide +kernel
theorem dX5_readFile_20 : decode cX5_readFile 20 = .ok (.invokevirtual 126, 3) := by decide +kernel
theorem dX5_readFile_23 : decode cX5_readFile 23 = .ok (.istore_n 1, 1) := by decide +kernel
theorem dX5_readFile_24 : decode cX5_readFile 24 = .ok (.aload_n 0, 1) := by decide +kernel
theorem dX5_readFile_25 : decode cX5_readFile 25 = .ok (.iconst 0, 1) := by decide +kernel
theorem dX5_readFile_26 : decode cX5_readFile 26 = .ok (.sipush 9999, 3) := by decide +kernel
theorem dX5_readFile_29 : decode cX5_readFile 29 = .ok (.invokevirtual 92, 3) := by decide +kernel
theorem dX5_readFile_32 : decode cX5_readFile 32 = .ok (.istore_n 2, 1) := by decide +kernel
theorem dX5_readFile_33 : decode cX5_readFile 33 = .ok (.aload_n 0, 1) := by decide +kernel
theorem dX5_readFile_34 : decode cX5_readFile 34 = .ok (.getfield 41, 3) := by decide +kernel
theorem dX5_readFile_37 : decode cX5_readFile 37 = .ok (.ifCond .ne 15, 3) := by decide +kernel
theorem dX5_readFile_40 : decode cX5_readFile 40 = .ok (.aload_n 0, 1) := by decide +kernel
theorem dX5_readFile_41 : decode cX5_readFile 41 = .ok (.getfield 12, 3) := by decide +kernel
theorem dX5_readFile_44 : decode cX5_readFile 44 = .ok (.getfield 138, 3) := by decide +kernel
theorem dX5_readFile_47 : decode cX5_readFile 47 = .ok (.iload_n 1, 1) := by decide +kernel
theorem dX5_readFile_48 : decode cX5_readFile 48 = .ok (.iload_n 2, 1) := by decide +kernel
theorem dX5_readFile_49 : decode cX5_readFile 49 = .ok (.invokevirtual 145, 3) := by decide +kernel
theorem dX5_readFile_52 : decode cX5_readFile 52 = .ok (.return_, 1) := by decide +kernel
set_option maxRecDepth 20000 in
theorem ggX5_readWord_X5_beginToken : GoodIn wsX5_readWord wsX5_beginToken := goodIn_r _ [9, 1, 2, 3, 4, 16, 17, 18, 19, 20, 21, 22] (by decide +kernel) (by decide +kernel)
set_option maxRecDepth 20000 in
theorem gX5_readWord_X5_beginToken : GoodIn wsX5_readWord (wsV RX5 47 RX5 yX5_beginToken wsX5_beginToken) := goodIn_app (goodIn_of _ (by decide +kernel)) ggX5_readWord_X5_beginToken
set_option maxRecDepth 20000 in
theorem ggX5_readWord_X5_fail : GoodIn wsX5_readWord wsX5_fail := goodIn_r _ [13, 14, 4, 15, 16, 17, 18, 19, 20, 21, 22] (by decide +kernel) (by decide +kernel)
set_option maxRecDepth 20000 in
theorem gX5_readWord_X5_fail : GoodIn wsX5_readWord (wsV RX5 85 RX5 yX5_fail wsX5_fail) := goodIn_app (goodIn_of _ (by decide +kernel)) ggX5_readWord_X5_fail
theorem dX5_readWord_0 : decode cX5_readWord 0 = .ok (.aload_n 0, 1) := by decide +kernel
theorem dX5_readWord_1 : decode cX5_readWord 1 = .ok (.invokevirtual 47, 3) := by decide +kernel
theorem dX5_readWord_4 : decode cX5_readWord 4 = .ok (.lconst 0, 1) := by decide +kernel
theorem dX5_readWord_5 : decode cX5_readWord 5 = .ok (.lstore_n 1, 1) := by decide +kernel
theorem dX5_readWord_6 : decode cX5_readWord 6 = .ok (.aload_n 0, 1) := by decide +kernel
theorem dX5_readWord_7 : decode cX5_readWord 7 = .ok (.getfield 38, 3) := by decide +kernel
theorem dX5_readWord_10 : decode cX5_readWord 10 = .ok (.aload_n 0, 1) := by decide +kernel
theorem dX5_readWord_11 : decode cX5_readWord 11 = .ok (.getfield 35, 3) := by decide +kernel
theorem dX5_readWord_14 : decode cX5_readWord 14 = .ok (.if_icmp .ge 64, 3) := by decide +kernel
theorem dX5_readWord_17 : decode cX5_readWord 17 = .ok (.aload_n 0, 1) := by decide +kernel
theorem dX5_readWord_18 : decode cX5_readWord 18 = .ok (.getfield 28, 3) := by decide +kernel
theorem dX5_readWord_21 : decode cX5_readWord 21 = .ok (.aload_n 0, 1) := by decide +kernel
theorem dX5_readWord_22 : decode cX5_readWord 22 = .ok (.getfield 38, 3) := by decide +kernel
theorem dX5_readWord_25 : decode cX5_readWord 25 = .ok (.baload, 1) := by decide +kernel
theorem dX5_readWord_26 : decode cX5_readWord 26 = .ok (.bipush 97, 2) := by decide +kernel
theorem dX5_readWord_28 : decode cX5_readWord 28 = .ok (.if_icmp .lt 50, 3) := by decide +kernel
theorem dX5_readWord_31 : decode cX5_readWord 31 = .ok (.aload_n 0, 1) := by decide +kernel
theorem dX5_readWord_32 : decode cX5_readWord 32 = .ok (.getfield 28, 3) := by decide +kernel
theorem dX5_readWord_35 : decode cX5_readWord 35 = .ok (.aload_n 0, 1) := by decide +kernel
theorem dX5_readWord_36 : decode cX5_readWord 36 = .ok (.getfield 38, 3) := by decide +kernel
theorem dX5_readWord_39 : decode cX5_readWord 39 = .ok (.baload, 1) := by decide +kernel
theorem dX5_readWord_40 : decode cX5_readWord 40 = .ok (.bipush 122, 2) := by decide +kernel
theorem dX5_readWord_42 : decode cX5_readWord 42 = .ok (.if_icmp .gt 36, 3) := by decide +kernel
theorem dX5_readWord_45 : decode cX5_readWord 45 = .ok (.lload_n 1, 1) := by decide +kernel
theorem dX5_readWord_46 : decode cX5_readWord 46 = .ok (.iconst 5, 1) := by decide +kernel
theorem dX5_readWord_47 : decode cX5_readWord 47 = .ok (.lshl, 1) := by decide +kernel
theorem dX5_readWord_48 : decode cX5_readWord 48 = .ok (.aload_n 0, 1) := by decide +kernel
theorem dX5_readWord_49 : decode cX5_readWord 49 = .ok (.getfield 28, 3) := by decide +kernel
theorem dX5_readWord_52 : decode cX5_readWord 52 = .ok (.aload_n 0, 1) := by decide +kernel
theorem dX5_readWord_53 : decode cX5_readWord 53 = .ok (.getfield 38, 3) := by decide +kernel
theorem dX5_readWord_56 : decode cX5_readWord 56 = .ok (.baload, 1) := by decide +kernel
theorem dX5_readWord_57 : decode cX5_readWord 57 = .ok (.bipush 97, 2) := by decide +kernel
theorem dX5_readWord_59 : decode cX5_readWord 59 = .ok (.isub, 1) := by decide +kernel
theorem dX5_readWord_60 : decode cX5_readWord 60 = .ok (.iconst 1, 1) := by decide +kernel
theorem dX5_readWord_61 : decode cX5_readWord 61 = .ok (.iadd, 1) := by decide +kernel
theorem dX5_readWord_62 : decode cX5_readWord 62 = .ok (.i2l, 1) := by decide +kernel
theorem dX5_readWord_63 : decode cX5_readWord 63 = .ok (.lor, 1) := by decide +kernel
theorem dX5_readWord_64 : decode cX5_readWord 64 = .ok (.lstore_n 1, 1) := by decide +kernel
theorem dX5_readWord_65 : decode cX5_readWord 65 = .ok (.aload_n 0, 1) := by decide +kernel
theorem dX5_readWord_66 : decode cX5_readWord 66 = .ok (.dup, 1) := by decide +kernel
theorem dX5_readWord_67 : decode cX5_readWord 67 = .ok (.getfield 38, 3) := by decide +kernel
theorem dX5_readWord_70 : decode cX5_readWord 70 = .ok (.iconst 1, 1) := by decide +kernel
theorem dX5_readWord_71 : decode cX5_readWord 71 = .ok (.iadd, 1) := by decide +kernel
theorem dX5_readWord_72 : decode cX5_readWord 72 = .ok (.putfield 38, 3) := by decide +kernel
theorem dX5_readWord_75 : decode cX5_readWord 75 = .ok (.goto (-69), 3) := by decide +kernel
theorem dX5_readWord_78 : decode cX5_readWord 78 = .ok (.aload_n 0, 1) := by decide +kernel
theorem dX5_readWord_79 : decode cX5_readWord 79 = .ok (.getfield 38, 3) := by decide +kernel
theorem dX5_readWord_82 : decode cX5_readWord 82 = .ok (.aload_n 0, 1) := by decide +kernel
theorem dX5_readWord_83 : decode cX5_readWord 83 = .ok (.getfield 53, 3) := by decide +kernel
theorem dX5_readWord_86 : decode cX5_readWord 86 = .ok (.isub, 1) := by decide +kernel
theorem dX5_readWord_87 : decode cX5_readWord 87 = .ok (.istore_n 3, 1) := by decide +kernel
theorem dX5_readWord_88 : decode cX5_readWord 88 = .ok (.iload_n 3, 1) := by decide +kernel
theorem dX5_readWord_89 : decode cX5_readWord 89 = .ok (.iconst 1, 1) := by decide +kernel
theorem dX5_readWord_90 : decode cX5_readWord 90 = .ok (.if_icmp .lt 9, 3) := by decide +kernel
theorem dX5_readWord_93 : decode cX5_readWord 93 = .ok (.iload_n 3, 1) := by decide +kernel
theorem dX5_readWord_94 : decode cX5_readWord 94 = .ok (.bipush 8, 2) := by decide +kernel
theorem dX5_readWord_96 : decode cX5_readWord 96 = .ok (.if_icmp .le 9, 3) := by decide +kernel
theorem dX5_readWord_99 : decode cX5_readWord 99 = .ok (.aload_n 0, 1) := by decide +kernel
theorem dX5_readWord_100 : decode cX5_readWord 100 = .ok (.bipush (-2), 2) := by decide +kernel
theorem dX5_readWord_102 : decode cX5_readWord 102 = .ok (.invokevirtual 85, 3) := by decide +kernel
theorem dX5_readWord_105 : decode cX5_readWord 105 = .ok (.lload_n 1, 1) := by decide +kernel
theorem dX5_readWord_106 : decode cX5_readWord 106 = .ok (.lreturn, 1) := by decide +kernel
set_option maxRecDepth 20000 in
theorem ggX5_readFolderName_X5_readWord : GoodIn wsX5_readFolderName wsX5_readWord := goodIn_r _ [7, 8, 9, 10, 11, 12, 13, 14, 6, 15, 16, 17, 18, 19, 20, 21, 29, 30, 31, 32, 33, 34, 35] (by decide +kernel) (by decide +kernel)
set_option maxRecDepth 20000 in
theorem gX5_readFolderName_X5_readWord : GoodIn wsX5_readFolderName (wsV RX5 56 RX5 yX5_readWord wsX5_readWord) := goodIn_app (goodIn_of _ (by decide +kernel)) ggX5_readFolderName_X5_readWord
set_option maxRecDepth 20000 in
theorem ggX5_readFolderName_X3_numberOf : GoodIn wsX5_readFolderName wsX3_numberOf := goodIn_r _ [26, 27, 28, 42, 43, 44, 45] (by decide +kernel) (by decide +kernel)
set_option maxRecDepth 20000 in
theorem gX5_readFolderName_X3_numberOf : GoodIn wsX5_readFolderName (wsV RX5 122 RX3 yX3_numberOf wsX3_numberOf) := goodIn_app (goodIn_of _ (by decide +kernel)) ggX5_readFolderName_X3_numberOf
set_option maxRecDepth 20000 in
theorem ggX5_readFolderName_X5_fail : GoodIn wsX5_readFolderName wsX5_fail := goodIn_r _ [19, 20, 11, 21, 29, 30, 31, 32, 33, 34, 35] (by decide +kernel) (by decide +kernel)
set_option maxRecDepth 20000 in
theorem gX5_readFolderName_X5_fail : GoodIn wsX5_readFolderName (wsV RX5 85 RX5 yX5_fail wsX5_fail) := goodIn_app (goodIn_of _ (by decide +kernel)) ggX5_readFolderName_X5_fail
theorem dX5_readFolderName_0 : decode cX5_readFolderName 0 = .ok (.aload_n 0, 1) := by decide +kernel
theorem dX5_readFolderName_1 : decode cX5_readFolderName 1 = .ok (.getfield 12, 3) := by decide +kernel
theorem dX5_readFolderName_4 : decode cX5_readFolderName 4 = .ok (.getfield 112, 3) := by decide +kernel
theorem dX5_readFolderName_7 : decode cX5_readFolderName 7 = .ok (.aload_n 0, 1) := by decide +kernel
theorem dX5_readFolderName_8 : decode cX5_readFolderName 8 = .ok (.invokevirtual 56, 3) := by decide +kernel
theorem dX5_readFolderName_11 : decode cX5_readFolderName 11 = .ok (.invokevirtual 122, 3) := by decide +kernel
theorem dX5_readFolderName_14 : decode cX5_readFolderName 14 = .ok (.istore_n 1, 1) := by decide +kernel
theorem dX5_readFolderName_15 : decode cX5_readFolderName 15 = .ok (.iload_n 1, 1) := by decide +kernel
theorem dX5_readFolderName_16 : decode cX5_readFolderName 16 = .ok (.iconst (-1), 1) := by decide +kernel
theorem dX5_readFolderName_17 : decode cX5_readFolderName 17 = .ok (.if_icmp .ne 9, 3) := by decide +kernel
theorem dX5_readFolderName_20 : decode cX5_readFolderName 20 = .ok (.aload_n 0, 1) := by decide +kernel
theorem dX5_readFolderName_21 : decode cX5_readFolderName 21 = .ok (.bipush (-3), 2) := by decide +kernel
theorem dX5_readFolderName_23 : decode cX5_readFolderName 23 = .ok (.invokevirtual 85, 3) := by decide +kernel
theorem dX5_readFolderName_26 : decode cX5_readFolderName 26 = .ok (.iload_n 1, 1) := by decide +kernel
theorem dX5_readFolderName_27 : decode cX5_readFolderName 27 = .ok (.ireturn, 1) := by decide +kernel
set_option maxRecDepth 20000 in
theorem ggX5_readNumber_X5_beginToken : GoodIn wsX5_readNumber wsX5_beginToken := goodIn_r _ [14, 1, 2, 3, 9, 21, 22, 23, 24, 25, 26, 27] (by decide +kernel) (by decide +kernel)
set_option maxRecDepth 20000 in
theorem gX5_readNumber_X5_beginToken : GoodIn wsX5_readNumber (wsV RX5 47 RX5 yX5_beginToken wsX5_beginToken) := goodIn_app (goodIn_of _ (by decide +kernel)) ggX5_readNumber_X5_beginToken
set_option maxRecDepth 20000 in
theorem ggX5_readNumber_X5_fail : GoodIn wsX5_readNumber wsX5_fail := goodIn_r _ [18, 19, 9, 20, 21, 22, 23, 24, 25, 26, 27] (by decide +kernel) (by decide +kernel)
set_option maxRecDepth 20000 in
theorem gX5_readNumber_X5_fail : GoodIn wsX5_readNumber (wsV RX5 85 RX5 yX5_fail wsX5_fail) := goodIn_app (goodIn_of _ (by decide +kernel)) ggX5_readNumber_X5_fail
theorem dX5_readNumber_0 : decode cX5_readNumber 0 = .ok (.aload_n 0, 1) := by decide +kernel
theorem dX5_readNumber_1 : decode cX5_readNumber 1 = .ok (.invokevirtual 47, 3) := by decide +kernel
theorem dX5_readNumber_4 : decode cX5_readNumber 4 = .ok (.iconst 0, 1) := by decide +kernel
theorem dX5_readNumber_5 : decode cX5_readNumber 5 = .ok (.istore_n 3, 1) := by decide +kernel
theorem dX5_readNumber_6 : decode cX5_readNumber 6 = .ok (.aload_n 0, 1) := by decide +kernel
theorem dX5_readNumber_7 : decode cX5_readNumber 7 = .ok (.getfield 38, 3) := by decide +kernel
theorem dX5_readNumber_10 : decode cX5_readNumber 10 = .ok (.aload_n 0, 1) := by decide +kernel
theorem dX5_readNumber_11 : decode cX5_readNumber 11 = .ok (.getfield 35, 3) := by decide +kernel
theorem dX5_readNumber_14 : decode cX5_readNumber 14 = .ok (.if_icmp .ge 67, 3) := by decide +kernel
theorem dX5_readNumber_17 : decode cX5_readNumber 17 = .ok (.aload_n 0, 1) := by decide +kernel
theorem dX5_readNumber_18 : decode cX5_readNumber 18 = .ok (.getfield 28, 3) := by decide +kernel
theorem dX5_readNumber_21 : decode cX5_readNumber 21 = .ok (.aload_n 0, 1) := by decide +kernel
theorem dX5_readNumber_22 : decode cX5_readNumber 22 = .ok (.getfield 38, 3) := by decide +kernel
theorem dX5_readNumber_25 : decode cX5_readNumber 25 = .ok (.baload, 1) := by decide +kernel
theorem dX5_readNumber_26 : decode cX5_readNumber 26 = .ok (.bipush 48, 2) := by decide +kernel
theorem dX5_readNumber_28 : decode cX5_readNumber 28 = .ok (.if_icmp .lt 53, 3) := by decide +kernel
theorem dX5_readNumber_31 : decode cX5_readNumber 31 = .ok (.aload_n 0, 1) := by decide +kernel
theorem dX5_readNumber_32 : decode cX5_readNumber 32 = .ok (.getfield 28, 3) := by decide +kernel
theorem dX5_readNumber_35 : decode cX5_readNumber 35 = .ok (.aload_n 0, 1) := by decide +kernel
theorem dX5_readNumber_36 : decode cX5_readNumber 36 = .ok (.getfield 38, 3) := by decide +kernel
theorem dX5_readNumber_39 : decode cX5_readNumber 39 = .ok (.baload, 1) := by decide +kernel
theorem dX5_readNumber_40 : decode cX5_readNumber 40 = .ok (.bipush 57, 2) := by decide +kernel
theorem dX5_readNumber_42 : decode cX5_readNumber 42 = .ok (.if_icmp .gt 39, 3) := by decide +kernel
theorem dX5_readNumber_45 : decode cX5_readNumber 45 = .ok (.iload_n 3, 1) := by decide +kernel
theorem dX5_readNumber_46 : decode cX5_readNumber 46 = .ok (.bipush 10, 2) := by decide +kernel
theorem dX5_readNumber_48 : decode cX5_readNumber 48 = .ok (.imul, 1) := by decide +kernel
theorem dX5_readNumber_49 : decode cX5_readNumber 49 = .ok (.aload_n 0, 1) := by decide +kernel
theorem dX5_readNumber_50 : decode cX5_readNumber 50 = .ok (.getfield 28, 3) := by decide +kernel
theorem dX5_readNumber_53 : decode cX5_readNumber 53 = .ok (.aload_n 0, 1) := by decide +kernel
theorem dX5_readNumber_54 : decode cX5_readNumber 54 = .ok (.getfield 38, 3) := by decide +kernel
theorem dX5_readNumber_57 : decode cX5_readNumber 57 = .ok (.baload, 1) := by decide +kernel
theorem dX5_readNumber_58 : decode cX5_readNumber 58 = .ok (.iadd, 1) := by decide +kernel
theorem dX5_readNumber_59 : decode cX5_readNumber 59 = .ok (.bipush 48, 2) := by decide +kernel
theorem dX5_readNumber_61 : decode cX5_readNumber 61 = .ok (.isub, 1) := by decide +kernel
theorem dX5_readNumber_62 : decode cX5_readNumber 62 = .ok (.ldc 147, 2) := by decide +kernel
theorem dX5_readNumber_64 : decode cX5_readNumber 64 = .ok (.invokestatic 29, 3) := by decide +kernel
theorem dX5_readNumber_67 : decode cX5_readNumber 67 = .ok (.istore_n 3, 1) := by decide +kernel
theorem dX5_readNumber_68 : decode cX5_readNumber 68 = .ok (.aload_n 0, 1) := by decide +kernel
theorem dX5_readNumber_69 : decode cX5_readNumber 69 = .ok (.dup, 1) := by decide +kernel
theorem dX5_readNumber_70 : decode cX5_readNumber 70 = .ok (.getfield 38, 3) := by decide +kernel
theorem dX5_readNumber_73 : decode cX5_readNumber 73 = .ok (.iconst 1, 1) := by decide +kernel
theorem dX5_readNumber_74 : decode cX5_readNumber 74 = .ok (.iadd, 1) := by decide +kernel
theorem dX5_readNumber_75 : decode cX5_readNumber 75 = .ok (.putfield 38, 3) := by decide +kernel
theorem dX5_readNumber_78 : decode cX5_readNumber 78 = .ok (.goto (-72), 3) := by decide +kernel
theorem dX5_readNumber_81 : decode cX5_readNumber 81 = .ok (.aload_n 0, 1) := by decide +kernel
theorem dX5_readNumber_82 : decode cX5_readNumber 82 = .ok (.getfield 38, 3) := by decide +kernel
theorem dX5_readNumber_85 : decode cX5_readNumber 85 = .ok (.aload_n 0, 1) := by decide +kernel
theorem dX5_readNumber_86 : decode cX5_readNumber 86 = .ok (.getfield 53, 3) := by decide +kernel
theorem dX5_readNumber_89 : decode cX5_readNumber 89 = .ok (.if_icmp .ne 9, 3) := by decide +kernel
theorem dX5_readNumber_92 : decode cX5_readNumber 92 = .ok (.aload_n 0, 1) := by decide +kernel
theorem dX5_readNumber_93 : decode cX5_readNumber 93 = .ok (.bipush (-2), 2) := by decide +kernel
theorem dX5_readNumber_95 : decode cX5_readNumber 95 = .ok (.invokevirtual 85, 3) := by decide +kernel
theorem dX5_readNumber_98 : decode cX5_readNumber 98 = .ok (.iload_n 3, 1) := by decide +kernel
theorem dX5_readNumber_99 : decode cX5_readNumber 99 = .ok (.iload_n 1, 1) := by decide +kernel
theorem dX5_readNumber_100 : decode cX5_readNumber 100 = .ok (.if_icmp .lt 8, 3) := by decide +kernel
theorem dX5_readNumber_103 : decode cX5_readNumber 103 = .ok (.iload_n 3, 1) := by decide +kernel
theorem dX5_readNumber_104 : decode cX5_readNumber 104 = .ok (.iload_n 2, 1) := by decide +kernel
theorem dX5_readNumber_105 : decode cX5_readNumber 105 = .ok (.if_icmp .le 9, 3) := by decide +kernel
theorem dX5_readNumber_108 : decode cX5_readNumber 108 = .ok (.aload_n 0, 1) := by decide +kernel
theorem dX5_readNumber_109 : decode cX5_readNumber 109 = .ok (.bipush (-3), 2) := by decide +kernel
theorem dX5_readNumber_111 : decode cX5_readNumber 111 = .ok (.invokevirtual 85, 3) := by decide +kernel
theorem dX5_readNumber_114 : decode cX5_readNumber 114 = .ok (.iload_n 3, 1) := by decide +kernel
theorem dX5_readNumber_115 : decode cX5_readNumber 115 = .ok (.ireturn, 1) := by decide +kernel
set_option maxRecDepth 20000 in
theorem ggX5_readSemicolon_X5_beginToken : GoodIn wsX5_readSemicolon wsX5_beginToken := goodIn_r _ [8, 1, 2, 3, 9, 16, 17, 18, 19, 20, 21, 22] (by decide +kernel) (by decide +kernel)
set_option maxRecDepth 20000 in
theorem gX5_readSemicolon_X5_beginToken : GoodIn wsX5_readSemicolon (wsV RX5 47 RX5 yX5_beginToken wsX5_beginToken) := goodIn_app (goodIn_of _ (by decide +kernel)) ggX5_readSemicolon_X5_beginToken
set_option maxRecDepth 20000 in
theorem ggX5_readSemicolon_X5_fail : GoodIn wsX5_readSemicolon wsX5_fail := goodIn_r _ [13, 14, 9, 15, 16, 17, 18, 19, 20, 21, 22] (by decide +kernel) (by decide +kernel)
set_option maxRecDepth 20000 in
theorem gX5_readSemicolon_X5_fail : GoodIn wsX5_readSemicolon (wsV RX5 85 RX5 yX5_fail wsX5_fail) := goodIn_app (goodIn_of _ (by decide +kernel)) ggX5_readSemicolon_X5_fail
theorem dX5_readSemicolon_0 : decode cX5_readSemicolon 0 = .ok (.aload_n 0, 1) := by decide +kernel
theorem dX5_readSemicolon_1 : decode cX5_readSemicolon 1 = .ok (.invokevirtual 47, 3) := by decide +kernel
theorem dX5_readSemicolon_4 : decode cX5_readSemicolon 4 = .ok (.aload_n 0, 1) := by decide +kernel
theorem dX5_readSemicolon_5 : decode cX5_readSemicolon 5 = .ok (.getfield 38, 3) := by decide +kernel
theorem dX5_readSemicolon_8 : decode cX5_readSemicolon 8 = .ok (.aload_n 0, 1) := by decide +kernel
theorem dX5_readSemicolon_9 : decode cX5_readSemicolon 9 = .ok (.getfield 35, 3) := by decide +kernel
theorem dX5_readSemicolon_12 : decode cX5_readSemicolon 12 = .ok (.if_icmp .ge 30, 3) := by decide +kernel
theorem dX5_readSemicolon_15 : decode cX5_readSemicolon 15 = .ok (.aload_n 0, 1) := by decide +kernel
theorem dX5_readSemicolon_16 : decode cX5_readSemicolon 16 = .ok (.getfield 28, 3) := by decide +kernel
theorem dX5_readSemicolon_19 : decode cX5_readSemicolon 19 = .ok (.aload_n 0, 1) := by decide +kernel
theorem dX5_readSemicolon_20 : decode cX5_readSemicolon 20 = .ok (.getfield 38, 3) := by decide +kernel
theorem dX5_readSemicolon_23 : decode cX5_readSemicolon 23 = .ok (.baload, 1) := by decide +kernel
theorem dX5_readSemicolon_24 : decode cX5_readSemicolon 24 = .ok (.bipush 59, 2) := by decide +kernel
theorem dX5_readSemicolon_26 : decode cX5_readSemicolon 26 = .ok (.if_icmp .ne 16, 3) := by decide +kernel
theorem dX5_readSemicolon_29 : decode cX5_readSemicolon 29 = .ok (.aload_n 0, 1) := by decide +kernel
theorem dX5_readSemicolon_30 : decode cX5_readSemicolon 30 = .ok (.dup, 1) := by decide +kernel
theorem dX5_readSemicolon_31 : decode cX5_readSemicolon 31 = .ok (.getfield 38, 3) := by decide +kernel
theorem dX5_readSemicolon_34 : decode cX5_readSemicolon 34 = .ok (.iconst 1, 1) := by decide +kernel
theorem dX5_readSemicolon_35 : decode cX5_readSemicolon 35 = .ok (.iadd, 1) := by decide +kernel
theorem dX5_readSemicolon_36 : decode cX5_readSemicolon 36 = .ok (.putfield 38, 3) := by decide +kernel
theorem dX5_readSemicolon_39 : decode cX5_readSemicolon 39 = .ok (.goto 9, 3) := by decide +kernel
theorem dX5_readSemicolon_42 : decode cX5_readSemicolon 42 = .ok (.aload_n 0, 1) := by decide +kernel
theorem dX5_readSemicolon_43 : decode cX5_readSemicolon 43 = .ok (.bipush (-2), 2) := by decide +kernel
theorem dX5_readSemicolon_45 : decode cX5_readSemicolon 45 = .ok (.invokevirtual 85, 3) := by decide +kernel
theorem dX5_readSemicolon_48 : decode cX5_readSemicolon 48 = .ok (.return_, 1) := by decide +kernel
set_option maxRecDepth 20000 in
theorem ggX6_init_X3_init : GoodIn wsX6_init wsX3_init := goodIn_r _ [23, 24, 2, 3, 25, 26, 27, 28, 29, 30, 31, 32, 6, 33, 34, 35, 60, 61, 62, 63] (by decide +kernel) (by decide +kernel)
set_option maxRecDepth 20000 in
theorem gX6_init_X3_init : GoodIn wsX6_init (wsX3_init) := ggX6_init_X3_init
set_option maxRecDepth 20000 in
theorem ggX6_init_X2_init : GoodIn wsX6_init wsX2_init := goodIn_r _ [37, 38, 2, 3, 25, 39, 40, 70, 71, 72] (by decide +kernel) (by decide +kernel)
set_option maxRecDepth 20000 in
theorem gX6_init_X2_init_n20 : GoodIn wsX6_init (wsX2_init) := ggX6_init_X2_init
set_option maxRecDepth 20000 in
theorem ggX6_init_X0_init : GoodIn wsX6_init wsX0_init := goodIn_r _ [43, 44, 2, 3, 25, 45, 46, 47, 48, 49, 50, 51, 14, 52, 73, 74, 75, 76] (by decide +kernel) (by decide +kernel)
set_option maxRecDepth 20000 in
theorem gX6_init_X0_init : GoodIn wsX6_init (wsX0_init) := ggX6_init_X0_init
set_option maxRecDepth 20000 in
theorem ggX6_init_X4_init : GoodIn wsX6_init wsX4_init := goodIn_r _ [54, 55, 2, 3, 25, 56, 57, 58, 59, 77, 78, 79, 80, 81] (by decide +kernel) (by decide +kernel)
set_option maxRecDepth 20000 in
theorem gX6_init_X4_init_n34 : GoodIn wsX6_init (wsX4_init) := ggX6_init_X4_init
theorem dX6_init_0 : decode cX6_init 0 = .ok (.aload_n 0, 1) := by decide +kernel
theorem dX6_init_1 : decode cX6_init 1 = .ok (.invokespecial 3, 3) := by decide +kernel
theorem dX6_init_4 : decode cX6_init 4 = .ok (.aload_n 0, 1) := by decide +kernel
theorem dX6_init_5 : decode cX6_init 5 = .ok (.new 9, 3) := by decide +kernel
theorem dX6_init_8 : decode cX6_init 8 = .ok (.dup, 1) := by decide +kernel
theorem dX6_init_9 : decode cX6_init 9 = .ok (.invokespecial 11, 3) := by decide +kernel
theorem dX6_init_12 : decode cX6_init 12 = .ok (.putfield 12, 3) := by decide +kernel
theorem dX6_init_15 : decode cX6_init 15 = .ok (.aload_n 0, 1) := by decide +kernel
theorem dX6_init_16 : decode cX6_init 16 = .ok (.new 18, 3) := by decide +kernel
theorem dX6_init_19 : decode cX6_init 19 = .ok (.dup, 1) := by decide +kernel
theorem dX6_init_20 : decode cX6_init 20 = .ok (.invokespecial 20, 3) := by decide +kernel
theorem dX6_init_23 : decode cX6_init 23 = .ok (.putfield 21, 3) := by decide +kernel
theorem dX6_init_26 : decode cX6_init 26 = .ok (.aload_n 0, 1) := by decide +kernel
theorem dX6_init_27 : decode cX6_init 27 = .ok (.new 25, 3) := by decide +kernel
theorem dX6_init_30 : decode cX6_init 30 = .ok (.dup, 1) := by decide +kernel
theorem dX6_init_31 : decode cX6_init 31 = .ok (.invokespecial 27, 3) := by decide +kernel
theorem dX6_init_34 : decode cX6_init 34 = .ok (.putfield 28, 3) := by decide +kernel
theorem dX6_init_37 : decode cX6_init 37 = .ok (.aload_n 0, 1) := by decide +kernel
theorem dX6_init_38 : decode cX6_init 38 = .ok (.new 32, 3) := by decide +kernel
theorem dX6_init_41 : decode cX6_init 41 = .ok (.dup, 1) := by decide +kernel
theorem dX6_init_42 : decode cX6_init 42 = .ok (.invokespecial 34, 3) := by decide +kernel
theorem dX6_init_45 : decode cX6_init 45 = .ok (.putfield 35, 3) := by decide +kernel
theorem dX6_init_48 : decode cX6_init 48 = .ok (.aload_n 0, 1) := by decide +kernel
theorem dX6_init_49 : decode cX6_init 49 = .ok (.bipush 10, 2) := by decide +kernel
theorem dX6_init_51 : decode cX6_init 51 = .ok (.putfield 39, 3) := by decide +kernel
theorem dX6_init_54 : decode cX6_init 54 = .ok (.return_, 1) := by decide +kernel
set_option maxRecDepth 20000 in
theorem ggX6_clear_X3_clear : GoodIn wsX6_clear wsX3_clear := goodIn_r _ [13, 14, 15, 16, 17, 18, 42, 43, 44, 45] (by decide +kernel) (by decide +kernel)
set_option maxRecDepth 20000 in
theorem gX6_clear_X3_clear : GoodIn wsX6_clear (wsV RX6 43 RX3 yX3_clear wsX3_clear) := goodIn_app (goodIn_of _ (by decide +kernel)) ggX6_clear_X3_clear
set_option maxRecDepth 20000 in
theorem ggX6_clear_X0_clear : GoodIn wsX6_clear wsX0_clear := goodIn_r _ [23, 24, 25, 26, 27, 46, 47, 48, 49] (by decide +kernel) (by decide +kernel)
set_option maxRecDepth 20000 in
theorem gX6_clear_X0_clear : GoodIn wsX6_clear (wsV RX6 49 RX0 yX0_clear wsX0_clear) := goodIn_app (goodIn_of _ (by decide +kernel)) ggX6_clear_X0_clear
theorem dX6_clear_0 : decode cX6_clear 0 = .ok (.aload_n 0, 1) := by decide +kernel
theorem dX6_clear_1 : decode cX6_clear 1 = .ok (.getfield 12, 3) := by decide +kernel
theorem dX6_clear_4 : decode cX6_clear 4 = .ok (.invokevirtual 43, 3) := by decide +kernel
theorem dX6_clear_7 : decode cX6_clear 7 = .ok (.aload_n 0, 1) := by decide +kernel
theorem dX6_clear_8 : decode cX6_clear 8 = .ok (.getfield 21, 3) := by decide +kernel
theorem dX6_clear_11 : decode cX6_clear 11 = .ok (.iconst 0, 1) := by decide +kernel
theorem dX6_clear_12 : decode cX6_clear 12 = .ok (.putfield 46, 3) := by decide +kernel
theorem dX6_clear_15 : decode cX6_clear 15 = .ok (.aload_n 0, 1) := by decide +kernel
theorem dX6_clear_16 : decode cX6_clear 16 = .ok (.getfield 28, 3) := by decide +kernel
theorem dX6_clear_19 : decode cX6_clear 19 = .ok (.invokevirtual 49, 3) := by decide +kernel
theorem dX6_clear_22 : decode cX6_clear 22 = .ok (.aload_n 0, 1) := by decide +kernel
theorem dX6_clear_23 : decode cX6_clear 23 = .ok (.getfield 35, 3) := by decide +kernel
theorem dX6_clear_26 : decode cX6_clear 26 = .ok (.iconst 0, 1) := by decide +kernel
theorem dX6_clear_27 : decode cX6_clear 27 = .ok (.putfield 50, 3) := by decide +kernel
theorem dX6_clear_30 : decode cX6_clear 30 = .ok (.aload_n 0, 1) := by decide +kernel
theorem dX6_clear_31 : decode cX6_clear 31 = .ok (.iconst 0, 1) := by decide +kernel
theorem dX6_clear_32 : decode cX6_clear 32 = .ok (.putfield 51, 3) := by decide +kernel
theorem dX6_clear_35 : decode cX6_clear 35 = .ok (.aload_n 0, 1) := by decide +kernel
theorem dX6_clear_36 : decode cX6_clear 36 = .ok (.bipush 10, 2) := by decide +kernel
theorem dX6_clear_38 : decode cX6_clear 38 = .ok (.putfield 39, 3) := by decide +kernel
theorem dX6_clear_41 : decode cX6_clear 41 = .ok (.return_, 1) := by decide +kernel
set_option maxRecDepth 20000 in
theorem ggX6_copyFrom_X3_copyFrom : GoodIn wsX6_copyFrom wsX3_copyFrom := goodIn_r _ [11, 12, 13, 14, 15, 16, 17, 18, 19, 56, 57, 58, 59] (by decide +kernel) (by decide +kernel)
set_option maxRecDepth 20000 in
theorem gX6_copyFrom_X3_copyFrom : GoodIn wsX6_copyFrom (wsV RX6 54 RX3 yX3_copyFrom wsX3_copyFrom) := goodIn_app (goodIn_of _ (by decide +kernel)) ggX6_copyFrom_X3_copyFrom
set_option maxRecDepth 20000 in
theorem ggX6_copyFrom_X2_copyFrom : GoodIn wsX6_copyFrom wsX2_copyFrom := goodIn_r _ [24, 25, 26, 14, 15, 16, 27, 28, 60, 61, 62] (by decide +kernel) (by decide +kernel)
set_option maxRecDepth 20000 in
theorem gX6_copyFrom_X2_copyFrom : GoodIn wsX6_copyFrom (wsV RX6 58 RX2 yX2_copyFrom wsX2_copyFrom) := goodIn_app (goodIn_of _ (by decide +kernel)) ggX6_copyFrom_X2_copyFrom
set_option maxRecDepth 20000 in
theorem ggX6_copyFrom_X0_copyFrom : GoodIn wsX6_copyFrom wsX0_copyFrom := goodIn_r _ [33, 34, 35, 14, 15, 16, 36, 37, 38, 63, 64, 65, 66] (by decide +kernel) (by decide +kernel)
set_option maxRecDepth 20000 in
theorem gX6_copyFrom_X0_copyFrom : GoodIn wsX6_copyFrom (wsV RX6 61 RX0 yX0_copyFrom wsX0_copyFrom) := goodIn_app (goodIn_of _ (by decide +kernel)) ggX6_copyFrom_X0_copyFrom
set_option maxRecDepth 20000 in
theorem ggX6_copyFrom_X4_copyFrom : GoodIn wsX6_copyFrom wsX4_copyFrom := goodIn_r _ [43, 44, 45, 14, 15, 16, 46, 47, 48, 49, 67, 68, 69, 70, 71] (by decide +kernel) (by decide +kernel)
set_option maxRecDepth 20000 in
theorem gX6_copyFrom_X4_copyFrom : GoodIn wsX6_copyFrom (wsV RX6 64 RX4 yX4_copyFrom wsX4_copyFrom) := goodIn_app (goodIn_of _ (by decide +kernel)) ggX6_copyFrom_X4_copyFrom
theorem dX6_copyFrom_0 : decode cX6_copyFrom 0 = .ok (.aload_n 0, 1) := by decide +kernel
theorem dX6_copyFrom_1 : decode cX6_copyFrom 1 = .ok (.getfield 12, 3) := by decide +kernel
theorem dX6_copyFrom_4 : decode cX6_copyFrom 4 = .ok (.aload_n 1, 1) := by decide +kernel
theorem dX6_copyFrom_5 : decode cX6_copyFrom 5 = .ok (.getfield 12, 3) := by decide +kernel
theorem dX6_copyFrom_8 : decode cX6_copyFrom 8 = .ok (.invokevirtual 54, 3) := by decide +kernel
theorem dX6_copyFrom_11 : decode cX6_copyFrom 11 = .ok (.aload_n 0, 1) := by decide +kernel
theorem dX6_copyFrom_12 : decode cX6_copyFrom 12 = .ok (.getfield 21, 3) := by decide +kernel
theorem dX6_copyFrom_15 : decode cX6_copyFrom 15 = .ok (.aload_n 1, 1) := by decide +kernel
theorem dX6_copyFrom_16 : decode cX6_copyFrom 16 = .ok (.getfield 21, 3) := by decide +kernel
theorem dX6_copyFrom_19 : decode cX6_copyFrom 19 = .ok (.invokevirtual 58, 3) := by decide +kernel
theorem dX6_copyFrom_22 : decode cX6_copyFrom 22 = .ok (.aload_n 0, 1) := by decide +kernel
theorem dX6_copyFrom_23 : decode cX6_copyFrom 23 = .ok (.getfield 28, 3) := by decide +kernel
theorem dX6_copyFrom_26 : decode cX6_copyFrom 26 = .ok (.aload_n 1, 1) := by decide +kernel
theorem dX6_copyFrom_27 : decode cX6_copyFrom 27 = .ok (.getfield 28, 3) := by decide +kernel
theorem dX6_copyFrom_30 : decode cX6_copyFrom 30 = .ok (.invokevirtual 61, 3) := by decide +kernel
theorem dX6_copyFrom_33 : decode cX6_copyFrom 33 = .ok (.aload_n 0, 1) := by decide +kernel
theorem dX6_copyFrom_34 : decode cX6_copyFrom 34 = .ok (.getfield 35, 3) := by decide +kernel
theorem dX6_copyFrom_37 : decode cX6_copyFrom 37 = .ok (.aload_n 1, 1) := by decide +kernel
theorem dX6_copyFrom_38 : decode cX6_copyFrom 38 = .ok (.getfield 35, 3) := by decide +kernel
theorem dX6_copyFrom_41 : decode cX6_copyFrom 41 = .ok (.invokevirtual 64, 3) := by decide +kernel
theorem dX6_copyFrom_44 : decode cX6_copyFrom 44 = .ok (.aload_n 0, 1) := by decide +kernel
theorem dX6_copyFrom_45 : decode cX6_copyFrom 45 = .ok (.aload_n 1, 1) := by decide +kernel
theorem dX6_copyFrom_46 : decode cX6_copyFrom 46 = .ok (.getfield 51, 3) := by decide +kernel
theorem dX6_copyFrom_49 : decode cX6_copyFrom 49 = .ok (.putfield 51, 3) := by decide +kernel
theorem dX6_copyFrom_52 : decode cX6_copyFrom 52 = .ok (.aload_n 0, 1) := by decide +kernel
theorem dX6_copyFrom_53 : decode cX6_copyFrom 53 = .ok (.aload_n 1, 1) := by decide +kernel
theorem dX6_copyFrom_54 : decode cX6_copyFrom 54 = .ok (.getfield 39, 3) := by decide +kernel
theorem dX6_copyFrom_57 : decode cX6_copyFrom 57 = .ok (.putfield 39, 3) := by decide +kernel
theorem dX6_copyFrom_60 : decode cX6_copyFrom 60 = .ok (.return_, 1) := by decide +kernel
set_option maxRecDepth 20000 in
theorem ggX6_projectOfFile_X2_placeOf : GoodIn wsX6_projectOfFile wsX2_placeOf := goodIn_r _ [7, 8, 9, 10, 11, 6, 12, 13, 40, 41, 42] (by decide +kernel) (by decide +kernel)
set_option maxRecDepth 20000 in
theorem gX6_projectOfFile_X2_placeOf : GoodIn wsX6_projectOfFile (wsV RX6 67 RX2 yX2_placeOf wsX2_placeOf) := goodIn_app (goodIn_of _ (by decide +kernel)) ggX6_projectOfFile_X2_placeOf
set_option maxRecDepth 20000 in
theorem ggX6_projectOfFile_X3_projectOf : GoodIn wsX6_projectOfFile wsX3_projectOf := goodIn_r _ [18, 19, 20, 21, 17, 22, 23, 24, 25, 26, 27, 28, 29, 30, 31, 32, 33, 43, 44, 45, 46] (by decide +kernel) (by decide +kernel)
set_option maxRecDepth 20000 in
theorem gX6_projectOfFile_X3_projectOf : GoodIn wsX6_projectOfFile (wsV RX6 71 RX3 yX3_projectOf wsX3_projectOf) := goodIn_app (goodIn_of _ (by decide +kernel)) ggX6_projectOfFile_X3_projectOf
theorem dX6_projectOfFile_0 : decode cX6_projectOfFile 0 = .ok (.aload_n 0, 1) := by decide +kernel
theorem dX6_projectOfFile_1 : decode cX6_projectOfFile 1 = .ok (.getfield 12, 3) := by decide +kernel
theorem dX6_projectOfFile_4 : decode cX6_projectOfFile 4 = .ok (.aload_n 0, 1) := by decide +kernel
theorem dX6_projectOfFile_5 : decode cX6_projectOfFile 5 = .ok (.getfield 21, 3) := by decide +kernel
theorem dX6_projectOfFile_8 : decode cX6_projectOfFile 8 = .ok (.iload_n 1, 1) := by decide +kernel
theorem dX6_projectOfFile_9 : decode cX6_projectOfFile 9 = .ok (.invokevirtual 67, 3) := by decide +kernel
theorem dX6_projectOfFile_12 : decode cX6_projectOfFile 12 = .ok (.invokevirtual 71, 3) := by decide +kernel
theorem dX6_projectOfFile_15 : decode cX6_projectOfFile 15 = .ok (.ireturn, 1) := by decide +kernel
set_option maxRecDepth 20000 in
theorem ggX6_countAnew_X6_projectOfFile : GoodIn wsX6_countAnew wsX6_projectOfFile := goodIn_r _ [7, 8, 1, 9, 10, 11, 12, 13, 14, 15, 16, 17, 18, 19, 20, 21, 22, 23, 24, 25, 26, 27, 28, 29, 30, 31, 32, 33, 34, 35, 36, 37, 38, 39, 49, 50, 51, 52, 53, 54, 55, 56, 57, 58, 59, 60, 61] (by decide +kernel) (by decide +kernel)
set_option maxRecDepth 20000 in
theorem gX6_countAnew_X6_projectOfFile : GoodIn wsX6_countAnew (wsV RX6 74 RX6 yX6_projectOfFile wsX6_projectOfFile) := goodIn_app (goodIn_of _ (by decide +kernel)) ggX6_countAnew_X6_projectOfFile
set_option maxRecDepth 20000 in
theorem ggX6_countAnew_X2_weightOf : GoodIn wsX6_countAnew wsX2_weightOf := goodIn_r _ [43, 44, 45, 46, 12, 47, 48, 15, 16, 17, 18, 19, 55, 56, 57] (by decide +kernel) (by decide +kernel)
set_option maxRecDepth 20000 in
theorem gX6_countAnew_X2_weightOf : GoodIn wsX6_countAnew (wsV RX6 77 RX2 yX2_weightOf wsX2_weightOf) := goodIn_app (goodIn_of _ (by decide +kernel)) ggX6_countAnew_X2_weightOf
theorem dX6_countAnew_0 : decode cX6_countAnew 0 = .ok (.iconst 0, 1) := by decide +kernel
theorem dX6_countAnew_1 : decode cX6_countAnew 1 = .ok (.istore_n 3, 1) := by decide +kernel
theorem dX6_countAnew_2 : decode cX6_countAnew 2 = .ok (.iconst 0, 1) := by decide +kernel
theorem dX6_countAnew_3 : decode cX6_countAnew 3 = .ok (.istore 4, 2) := by decide +kernel
theorem dX6_countAnew_5 : decode cX6_countAnew 5 = .ok (.iload 4, 2) := by decide +kernel
theorem dX6_countAnew_7 : decode cX6_countAnew 7 = .ok (.aload_n 0, 1) := by decide +kernel
theorem dX6_countAnew_8 : decode cX6_countAnew 8 = .ok (.getfield 21, 3) := by decide +kernel
theorem dX6_countAnew_11 : decode cX6_countAnew 11 = .ok (.getfield 46, 3) := by decide +kernel
theorem dX6_countAnew_14 : decode cX6_countAnew 14 = .ok (.if_icmp .ge 32, 3) := by decide +kernel
theorem dX6_countAnew_17 : decode cX6_countAnew 17 = .ok (.aload_n 0, 1) := by decide +kernel
theorem dX6_countAnew_18 : decode cX6_countAnew 18 = .ok (.iload 4, 2) := by decide +kernel
theorem dX6_countAnew_20 : decode cX6_countAnew 20 = .ok (.invokevirtual 74, 3) := by decide +kernel
theorem dX6_countAnew_23 : decode cX6_countAnew 23 = .ok (.iload_n 1, 1) := by decide +kernel
theorem dX6_countAnew_24 : decode cX6_countAnew 24 = .ok (.if_icmp .ne 16, 3) := by decide +kernel
theorem dX6_countAnew_27 : decode cX6_countAnew 27 = .ok (.iload_n 3, 1) := by decide +kernel
theorem dX6_countAnew_28 : decode cX6_countAnew 28 = .ok (.aload_n 0, 1) := by decide +kernel
theorem dX6_countAnew_29 : decode cX6_countAnew 29 = .ok (.getfield 21, 3) := by decide +kernel
theorem dX6_countAnew_32 : decode cX6_countAnew 32 = .ok (.iload 4, 2) := by decide +kernel
theorem dX6_countAnew_34 : decode cX6_countAnew 34 = .ok (.iload_n 2, 1) := by decide +kernel
theorem dX6_countAnew_35 : decode cX6_countAnew 35 = .ok (.invokevirtual 77, 3) := by decide +kernel
theorem dX6_countAnew_38 : decode cX6_countAnew 38 = .ok (.iadd, 1) := by decide +kernel
theorem dX6_countAnew_39 : decode cX6_countAnew 39 = .ok (.istore_n 3, 1) := by decide +kernel
theorem dX6_countAnew_40 : decode cX6_countAnew 40 = .ok (.iinc 4 1, 3) := by decide +kernel
theorem dX6_countAnew_43 : decode cX6_countAnew 43 = .ok (.goto (-38), 3) := by decide +kernel
theorem dX6_countAnew_46 : decode cX6_countAnew 46 = .ok (.iload_n 3, 1) := by decide +kernel
theorem dX6_countAnew_47 : decode cX6_countAnew 47 = .ok (.ireturn, 1) := by decide +kernel
set_option maxRecDepth 20000 in
theorem ggX6_subtreeSum_X2_placeOf : GoodIn wsX6_subtreeSum wsX2_placeOf := goodIn_r _ [8, 9, 10, 11, 12, 7, 13, 14, 45, 46, 47] (by decide +kernel) (by decide +kernel)
set_option maxRecDepth 20000 in
theorem gX6_subtreeSum_X2_placeOf : GoodIn wsX6_subtreeSum (wsV RX6 67 RX2 yX2_placeOf wsX2_placeOf) := goodIn_app (goodIn_of _ (by decide +kernel)) ggX6_subtreeSum_X2_placeOf
set_option maxRecDepth 20000 in
theorem ggX6_subtreeSum_X3_isInSubtree : GoodIn wsX6_subtreeSum wsX3_isInSubtree := goodIn_r _ [19, 20, 21, 22, 18, 23, 24, 25, 26, 27, 28, 29, 48, 49, 50, 51] (by decide +kernel) (by decide +kernel)
set_option maxRecDepth 20000 in
theorem gX6_subtreeSum_X3_isInSubtree : GoodIn wsX6_subtreeSum (wsV RX6 81 RX3 yX3_isInSubtree wsX3_isInSubtree) := goodIn_app (goodIn_of _ (by decide +kernel)) ggX6_subtreeSum_X3_isInSubtree
set_option maxRecDepth 20000 in
theorem ggX6_subtreeSum_X2_weightOf : GoodIn wsX6_subtreeSum wsX2_weightOf := goodIn_r _ [33, 34, 35, 36, 7, 37, 38, 10, 11, 12, 13, 14, 45, 46, 47] (by decide +kernel) (by decide +kernel)
set_option maxRecDepth 20000 in
theorem gX6_subtreeSum_X2_weightOf : GoodIn wsX6_subtreeSum (wsV RX6 77 RX2 yX2_weightOf wsX2_weightOf) := goodIn_app (goodIn_of _ (by decide +kernel)) ggX6_subtreeSum_X2_weightOf
theorem dX6_subtreeSum_0 : decode cX6_subtreeSum 0 = .ok (.iconst 0, 1) := by decide +kernel
theorem dX6_subtreeSum_1 : decode cX6_subtreeSum 1 = .ok (.istore_n 3, 1) := by decide +kernel
theorem dX6_subtreeSum_2 : decode cX6_subtreeSum 2 = .ok (.iconst 0, 1) := by decide +kernel
theorem dX6_subtreeSum_3 : decode cX6_subtreeSum 3 = .ok (.istore 4, 2) := by decide +kernel
theorem dX6_subtreeSum_5 : decode cX6_subtreeSum 5 = .ok (.iload 4, 2) := by decide +kernel
theorem dX6_subtreeSum_7 : decode cX6_subtreeSum 7 = .ok (.aload_n 0, 1) := by decide +kernel
theorem dX6_subtreeSum_8 : decode cX6_subtreeSum 8 = .ok (.getfield 21, 3) := by decide +kernel
theorem dX6_subtreeSum_11 : decode cX6_subtreeSum 11 = .ok (.getfield 46, 3) := by decide +kernel
theorem dX6_subtreeSum_14 : decode cX6_subtreeSum 14 = .ok (.if_icmp .ge 42, 3) := by decide +kernel
theorem dX6_subtreeSum_17 : decode cX6_subtreeSum 17 = .ok (.aload_n 0, 1) := by decide +kernel
theorem dX6_subtreeSum_18 : decode cX6_subtreeSum 18 = .ok (.getfield 12, 3) := by decide +kernel
theorem dX6_subtreeSum_21 : decode cX6_subtreeSum 21 = .ok (.aload_n 0, 1) := by decide +kernel
theorem dX6_subtreeSum_22 : decode cX6_subtreeSum 22 = .ok (.getfield 21, 3) := by decide +kernel
theorem dX6_subtreeSum_25 : decode cX6_subtreeSum 25 = .ok (.iload 4, 2) := by decide +kernel
theorem dX6_subtreeSum_27 : decode cX6_subtreeSum 27 = .ok (.invokevirtual 67, 3) := by decide +kernel
theorem dX6_subtreeSum_30 : decode cX6_subtreeSum 30 = .ok (.iload_n 1, 1) := by decide +kernel
theorem dX6_subtreeSum_31 : decode cX6_subtreeSum 31 = .ok (.invokevirtual 81, 3) := by decide +kernel
theorem dX6_subtreeSum_34 : decode cX6_subtreeSum 34 = .ok (.ifCond .eq 16, 3) := by decide +kernel
theorem dX6_subtreeSum_37 : decode cX6_subtreeSum 37 = .ok (.iload_n 3, 1) := by decide +kernel
theorem dX6_subtreeSum_38 : decode cX6_subtreeSum 38 = .ok (.aload_n 0, 1) := by decide +kernel
theorem dX6_subtreeSum_39 : decode cX6_subtreeSum 39 = .ok (.getfield 21, 3) := by decide +kernel
theorem dX6_subtreeSum_42 : decode cX6_subtreeSum 42 = .ok (.iload 4, 2) := by decide +kernel
theorem dX6_subtreeSum_44 : decode cX6_subtreeSum 44 = .ok (.iload_n 2, 1) := by decide +kernel
theorem dX6_subtreeSum_45 : decode cX6_subtreeSum 45 = .ok (.invokevirtual 77, 3) := by decide +kernel
theorem dX6_subtreeSum_48 : decode cX6_subtreeSum 48 = .ok (.iadd, 1) := by decide +kernel
theorem dX6_subtreeSum_49 : decode cX6_subtreeSum 49 = .ok (.istore_n 3, 1) := by decide +kernel
theorem dX6_subtreeSum_50 : decode cX6_subtreeSum 50 = .ok (.iinc 4 1, 3) := by decide +kernel
theorem dX6_subtreeSum_53 : decode cX6_subtreeSum 53 = .ok (.goto (-48), 3) := by decide +kernel
theorem dX6_subtreeSum_56 : decode cX6_subtreeSum 56 = .ok (.iload_n 3, 1) := by decide +kernel
theorem dX6_subtreeSum_57 : decode cX6_subtreeSum 57 = .ok (.ireturn, 1) := by decide +kernel
set_option maxRecDepth 20000 in
theorem ggX6_openSum_X2_placeOf : GoodIn wsX6_openSum wsX2_placeOf := goodIn_r _ [8, 9, 10, 11, 12, 7, 13, 14, 50, 51, 52] (by decide +kernel) (by decide +kernel)
set_option maxRecDepth 20000 in
theorem gX6_openSum_X2_placeOf : GoodIn wsX6_openSum (wsV RX6 67 RX2 yX2_placeOf wsX2_placeOf) := goodIn_app (goodIn_of _ (by decide +kernel)) ggX6_openSum_X2_placeOf
set_option maxRecDepth 20000 in
theorem ggX6_openSum_X3_isOpenTo : GoodIn wsX6_openSum wsX3_isOpenTo := goodIn_r _ [19, 20, 21, 22, 18, 23, 24, 25, 26, 27, 28, 29, 30, 31, 32, 33, 34, 53, 54, 55, 56] (by decide +kernel) (by decide +kernel)
set_option maxRecDepth 20000 in
theorem gX6_openSum_X3_isOpenTo : GoodIn wsX6_openSum (wsV RX6 85 RX3 yX3_isOpenTo wsX3_isOpenTo) := goodIn_app (goodIn_of _ (by decide +kernel)) ggX6_openSum_X3_isOpenTo
set_option maxRecDepth 20000 in
theorem ggX6_openSum_X2_weightOf : GoodIn wsX6_openSum wsX2_weightOf := goodIn_r _ [38, 39, 40, 41, 7, 42, 43, 10, 11, 12, 13, 14, 50, 51, 52] (by decide +kernel) (by decide +kernel)
set_option maxRecDepth 20000 in
theorem gX6_openSum_X2_weightOf : GoodIn wsX6_openSum (wsV RX6 77 RX2 yX2_weightOf wsX2_weightOf) := goodIn_app (goodIn_of _ (by decide +kernel)) ggX6_openSum_X2_weightOf
theorem dX6_openSum_0 : decode cX6_openSum 0 = .ok (.iconst 0, 1) := by decide +kernel
theorem dX6_openSum_1 : decode cX6_openSum 1 = .ok (.istore_n 3, 1) := by decide +kernel
theorem dX6_openSum_2 : decode cX6_openSum 2 = .ok (.iconst 0, 1) := by decide +kernel
theorem dX6_openSum_3 : decode cX6_openSum 3 = .ok (.istore 4, 2) := by decide +kernel
theorem dX6_openSum_5 : decode cX6_openSum 5 = .ok (.iload 4, 2) := by decide +kernel
theorem dX6_openSum_7 : decode cX6_openSum 7 = .ok (.aload_n 0, 1) := by decide +kernel
theorem dX6_openSum_8 : decode cX6_openSum 8 = .ok (.getfield 21, 3) := by decide +kernel
theorem dX6_openSum_11 : decode cX6_openSum 11 = .ok (.getfield 46, 3) := by decide +kernel
theorem dX6_openSum_14 : decode cX6_openSum 14 = .ok (.if_icmp .ge 42, 3) := by decide +kernel
theorem dX6_openSum_17 : decode cX6_openSum 17 = .ok (.aload_n 0, 1) := by decide +kernel
theorem dX6_openSum_18 : decode cX6_openSum 18 = .ok (.getfield 12, 3) := by decide +kernel
theorem dX6_openSum_21 : decode cX6_openSum 21 = .ok (.aload_n 0, 1) := by decide +kernel
theorem dX6_openSum_22 : decode cX6_openSum 22 = .ok (.getfield 21, 3) := by decide +kernel
theorem dX6_openSum_25 : decode cX6_openSum 25 = .ok (.iload 4, 2) := by decide +kernel
theorem dX6_openSum_27 : decode cX6_openSum 27 = .ok (.invokevirtual 67, 3) := by decide +kernel
theorem dX6_openSum_30 : decode cX6_openSum 30 = .ok (.iload_n 1, 1) := by decide +kernel
theorem dX6_openSum_31 : decode cX6_openSum 31 = .ok (.invokevirtual 85, 3) := by decide +kernel
theorem dX6_openSum_34 : decode cX6_openSum 34 = .ok (.ifCond .eq 16, 3) := by decide +kernel
theorem dX6_openSum_37 : decode cX6_openSum 37 = .ok (.iload_n 3, 1) := by decide +kernel
theorem dX6_openSum_38 : decode cX6_openSum 38 = .ok (.aload_n 0, 1) := by decide +kernel
theorem dX6_openSum_39 : decode cX6_openSum 39 = .ok (.getfield 21, 3) := by decide +kernel
theorem dX6_openSum_42 : decode cX6_openSum 42 = .ok (.iload 4, 2) := by decide +kernel
theorem dX6_openSum_44 : decode cX6_openSum 44 = .ok (.iload_n 2, 1) := by decide +kernel
theorem dX6_openSum_45 : decode cX6_openSum 45 = .ok (.invokevirtual 77, 3) := by decide +kernel
theorem dX6_openSum_48 : decode cX6_openSum 48 = .ok (.iadd, 1) := by decide +kernel
theorem dX6_openSum_49 : decode cX6_openSum 49 = .ok (.istore_n 3, 1) := by decide +kernel
theorem dX6_openSum_50 : decode cX6_openSum 50 = .ok (.iinc 4 1, 3) := by decide +kernel
theorem dX6_openSum_53 : decode cX6_openSum 53 = .ok (.goto (-48), 3) := by decide +kernel
theorem dX6_openSum_56 : decode cX6_openSum 56 = .ok (.iload_n 3, 1) := by decide +kernel
theorem dX6_openSum_57 : decode cX6_openSum 57 = .ok (.ireturn, 1) := by decide +kernel
set_option maxRecDepth 20000 in
theorem ggX6_heaviestChild_X3_parentOf : GoodIn wsX6_heaviestChild wsX3_parentOf := goodIn_r _ [7, 8, 9, 10, 11, 6, 12, 13, 52, 53, 54, 55] (by decide +kernel) (by decide +kernel)
set_option maxRecDepth 20000 in
theorem gX6_heaviestChild_X3_parentOf : GoodIn wsX6_heaviestChild (wsV RX6 89 RX3 yX3_parentOf wsX3_parentOf) := goodIn_app (goodIn_of _ (by decide +kernel)) ggX6_heaviestChild_X3_parentOf
set_option maxRecDepth 20000 in
theorem ggX6_heaviestChild_X6_subtreeSum : GoodIn wsX6_heaviestChild wsX6_subtreeSum := goodIn_r _ [18, 19, 20, 1, 21, 22, 23, 24, 25, 26, 27, 28, 29, 30, 31, 32, 33, 34, 6, 35, 36, 4, 5, 7, 8, 9, 10, 11, 12, 13, 37, 38, 39, 40, 41, 42, 43, 44, 45, 46, 47, 48, 49, 50, 51, 56, 57, 58, 52, 53, 54, 55] (by decide +kernel) (by decide +kernel)
set_option maxRecDepth 20000 in
theorem gX6_heaviestChild_X6_subtreeSum : GoodIn wsX6_heaviestChild (wsV RX6 92 RX6 yX6_subtreeSum wsX6_subtreeSum) := goodIn_app (goodIn_of _ (by decide +kernel)) ggX6_heaviestChild_X6_subtreeSum
theorem dX6_heaviestChild_0 : decode cX6_heaviestChild 0 = .ok (.iconst (-1), 1) := by decide +kernel
theorem dX6_heaviestChild_1 : decode cX6_heaviestChild 1 = .ok (.istore_n 2, 1) := by decide +kernel
theorem dX6_heaviestChild_2 : decode cX6_heaviestChild 2 = .ok (.iconst (-1), 1) := by decide +kernel
theorem dX6_heaviestChild_3 : decode cX6_heaviestChild 3 = .ok (.istore_n 3, 1) := by decide +kernel
theorem dX6_heaviestChild_4 : decode cX6_heaviestChild 4 = .ok (.iconst 0, 1) := by decide +kernel
theorem dX6_heaviestChild_5 : decode cX6_heaviestChild 5 = .ok (.istore 4, 2) := by decide +kernel
theorem dX6_heaviestChild_7 : decode cX6_heaviestChild 7 = .ok (.iload 4, 2) := by decide +kernel
theorem dX6_heaviestChild_9 : decode cX6_heaviestChild 9 = .ok (.aload_n 0, 1) := by decide +kernel
theorem dX6_heaviestChild_10 : decode cX6_heaviestChild 10 = .ok (.getfield 12, 3) := by decide +kernel
theorem dX6_heaviestChild_13 : decode cX6_heaviestChild 13 = .ok (.getfield 88, 3) := by decide +kernel
theorem dX6_heaviestChild_16 : decode cX6_heaviestChild 16 = .ok (.if_icmp .ge 43, 3) := by decide +kernel
theorem dX6_heaviestChild_19 : decode cX6_heaviestChild 19 = .ok (.aload_n 0, 1) := by decide +kernel
theorem dX6_heaviestChild_20 : decode cX6_heaviestChild 20 = .ok (.getfield 12, 3) := by decide +kernel
theorem dX6_heaviestChild_23 : decode cX6_heaviestChild 23 = .ok (.iload 4, 2) := by decide +kernel
theorem dX6_heaviestChild_25 : decode cX6_heaviestChild 25 = .ok (.invokevirtual 89, 3) := by decide +kernel
theorem dX6_heaviestChild_28 : decode cX6_heaviestChild 28 = .ok (.iload_n 1, 1) := by decide +kernel
theorem dX6_heaviestChild_29 : decode cX6_heaviestChild 29 = .ok (.if_icmp .ne 24, 3) := by decide +kernel
theorem dX6_heaviestChild_32 : decode cX6_heaviestChild 32 = .ok (.aload_n 0, 1) := by decide +kernel
theorem dX6_heaviestChild_33 : decode cX6_heaviestChild 33 = .ok (.iload 4, 2) := by decide +kernel
theorem dX6_heaviestChild_35 : decode cX6_heaviestChild 35 = .ok (.iconst 0, 1) := by decide +kernel
theorem dX6_heaviestChild_36 : decode cX6_heaviestChild 36 = .ok (.invokevirtual 92, 3) := by decide +kernel
theorem dX6_heaviestChild_39 : decode cX6_heaviestChild 39 = .ok (.istore 5, 2) := by decide +kernel
theorem dX6_heaviestChild_41 : decode cX6_heaviestChild 41 = .ok (.iload 5, 2) := by decide +kernel
theorem dX6_heaviestChild_43 : decode cX6_heaviestChild 43 = .ok (.iload_n 3, 1) := by decide +kernel
theorem dX6_heaviestChild_44 : decode cX6_heaviestChild 44 = .ok (.if_icmp .le 9, 3) := by decide +kernel
theorem dX6_heaviestChild_47 : decode cX6_heaviestChild 47 = .ok (.iload 4, 2) := by decide +kernel
theorem dX6_heaviestChild_49 : decode cX6_heaviestChild 49 = .ok (.istore_n 2, 1) := by decide +kernel
theorem dX6_heaviestChild_50 : decode cX6_heaviestChild 50 = .ok (.iload 5, 2) := by decide +kernel
theorem dX6_heaviestChild_52 : decode cX6_heaviestChild 52 = .ok (.istore_n 3, 1) := by decide +kernel
theorem dX6_heaviestChild_53 : decode cX6_heaviestChild 53 = .ok (.iinc 4 1, 3) := by decide +kernel
theorem dX6_heaviestChild_56 : decode cX6_heaviestChild 56 = .ok (.goto (-49), 3) := by decide +kernel
theorem dX6_heaviestChild_59 : decode cX6_heaviestChild 59 = .ok (.iload_n 2, 1) := by decide +kernel
theorem dX6_heaviestChild_60 : decode cX6_heaviestChild 60 = .ok (.ireturn, 1) := by decide +kernel
set_option maxRecDepth 20000 in
theorem ggX6_greatestFile_X2_sizeOf : GoodIn wsX6_greatestFile wsX2_sizeOf := goodIn_r _ [7, 8, 9, 10, 11, 6, 12, 13, 51, 52, 53] (by decide +kernel) (by decide +kernel)
set_option maxRecDepth 20000 in
theorem gX6_greatestFile_X2_sizeOf : GoodIn wsX6_greatestFile (wsV RX6 95 RX2 yX2_sizeOf wsX2_sizeOf) := goodIn_app (goodIn_of _ (by decide +kernel)) ggX6_greatestFile_X2_sizeOf
set_option maxRecDepth 20000 in
theorem ggX6_greatestFile_X6_projectOfFile : GoodIn wsX6_greatestFile wsX6_projectOfFile := goodIn_r _ [18, 19, 1, 20, 21, 22, 6, 23, 24, 9, 10, 11, 12, 13, 25, 26, 27, 28, 29, 30, 31, 32, 33, 34, 35, 36, 37, 38, 39, 40, 41, 42, 43, 44, 45, 46, 47, 48, 49, 50, 51, 52, 53, 54, 55, 56, 57] (by decide +kernel) (by decide +kernel)
set_option maxRecDepth 20000 in
theorem gX6_greatestFile_X6_projectOfFile : GoodIn wsX6_greatestFile (wsV RX6 74 RX6 yX6_projectOfFile wsX6_projectOfFile) := goodIn_app (goodIn_of _ (by decide +kernel)) ggX6_greatestFile_X6_projectOfFile
theorem dX6_greatestFile_0 : decode cX6_greatestFile 0 = .ok (.iconst (-1), 1) := by decide +kernel
theorem dX6_greatestFile_1 : decode cX6_greatestFile 1 = .ok (.istore_n 2, 1) := by decide +kernel
theorem dX6_greatestFile_2 : decode cX6_greatestFile 2 = .ok (.iconst (-1), 1) := by decide +kernel
theorem dX6_greatestFile_3 : decode cX6_greatestFile 3 = .ok (.istore_n 3, 1) := by decide +kernel
theorem dX6_greatestFile_4 : decode cX6_greatestFile 4 = .ok (.iconst 0, 1) := by decide +kernel
theorem dX6_greatestFile_5 : decode cX6_greatestFile 5 = .ok (.istore 4, 2) := by decide +kernel
theorem dX6_greatestFile_7 : decode cX6_greatestFile 7 = .ok (.iload 4, 2) := by decide +kernel
theorem dX6_greatestFile_9 : decode cX6_greatestFile 9 = .ok (.aload_n 0, 1) := by decide +kernel
theorem dX6_greatestFile_10 : decode cX6_greatestFile 10 = .ok (.getfield 21, 3) := by decide +kernel
theorem dX6_greatestFile_13 : decode cX6_greatestFile 13 = .ok (.getfield 46, 3) := by decide +kernel
theorem dX6_greatestFile_16 : decode cX6_greatestFile 16 = .ok (.if_icmp .ge 45, 3) := by decide +kernel
theorem dX6_greatestFile_19 : decode cX6_greatestFile 19 = .ok (.aload_n 0, 1) := by decide +kernel
theorem dX6_greatestFile_20 : decode cX6_greatestFile 20 = .ok (.getfield 21, 3) := by decide +kernel
theorem dX6_greatestFile_23 : decode cX6_greatestFile 23 = .ok (.iload 4, 2) := by decide +kernel
theorem dX6_greatestFile_25 : decode cX6_greatestFile 25 = .ok (.invokevirtual 95, 3) := by decide +kernel
theorem dX6_greatestFile_28 : decode cX6_greatestFile 28 = .ok (.iload_n 3, 1) := by decide +kernel
theorem dX6_greatestFile_29 : decode cX6_greatestFile 29 = .ok (.if_icmp .le 26, 3) := by decide +kernel
theorem dX6_greatestFile_32 : decode cX6_greatestFile 32 = .ok (.aload_n 0, 1) := by decide +kernel
theorem dX6_greatestFile_33 : decode cX6_greatestFile 33 = .ok (.iload 4, 2) := by decide +kernel
theorem dX6_greatestFile_35 : decode cX6_greatestFile 35 = .ok (.invokevirtual 74, 3) := by decide +kernel
theorem dX6_greatestFile_38 : decode cX6_greatestFile 38 = .ok (.iload_n 1, 1) := by decide +kernel
theorem dX6_greatestFile_39 : decode cX6_greatestFile 39 = .ok (.if_icmp .ne 16, 3) := by decide +kernel
theorem dX6_greatestFile_42 : decode cX6_greatestFile 42 = .ok (.iload 4, 2) := by decide +kernel
theorem dX6_greatestFile_44 : decode cX6_greatestFile 44 = .ok (.istore_n 2, 1) := by decide +kernel
theorem dX6_greatestFile_45 : decode cX6_greatestFile 45 = .ok (.aload_n 0, 1) := by decide +kernel
theorem dX6_greatestFile_46 : decode cX6_greatestFile 46 = .ok (.getfield 21, 3) := by decide +kernel
theorem dX6_greatestFile_49 : decode cX6_greatestFile 49 = .ok (.iload 4, 2) := by decide +kernel
theorem dX6_greatestFile_51 : decode cX6_greatestFile 51 = .ok (.invokevirtual 95, 3) := by decide +kernel
theorem dX6_greatestFile_54 : decode cX6_greatestFile 54 = .ok (.istore_n 3, 1) := by decide +kernel
theorem dX6_greatestFile_55 : decode cX6_greatestFile 55 = .ok (.iinc 4 1, 3) := by decide +kernel
theorem dX6_greatestFile_58 : decode cX6_greatestFile 58 = .ok (.goto (-51), 3) := by decide +kernel
theorem dX6_greatestFile_61 : decode cX6_greatestFile 61 = .ok (.iload_n 2, 1) := by decide +kernel
theorem dX6_greatestFile_62 : decode cX6_greatestFile 62 = .ok (.ireturn, 1) := by decide +kernel
set_option maxRecDepth 20000 in
theorem ggX6_effectiveLimit_X7_accountOf : GoodIn wsX6_effectiveLimit wsX7_accountOf := goodIn_r _ [9] (by decide +kernel) (by decide +kernel)
set_option maxRecDepth 20000 in
theorem gX6_effectiveLimit_X7_accountOf_n98 : GoodIn wsX6_effectiveLimit (wsX7_accountOf) := ggX6_effectiveLimit_X7_accountOf
set_option maxRecDepth 20000 in
theorem ggX6_effectiveLimit_X0_limitOf : GoodIn wsX6_effectiveLimit wsX0_limitOf := goodIn_r _ [14, 15, 16, 32, 33, 34, 35] (by decide +kernel) (by decide +kernel)
set_option maxRecDepth 20000 in
theorem gX6_effectiveLimit_X0_limitOf : GoodIn wsX6_effectiveLimit (wsV RX6 101 RX0 yX0_limitOf wsX0_limitOf) := goodIn_app (goodIn_of _ (by decide +kernel)) ggX6_effectiveLimit_X0_limitOf
set_option maxRecDepth 20000 in
theorem ggX6_effectiveLimit_X4_balanceOf : GoodIn wsX6_effectiveLimit wsX4_balanceOf := goodIn_r _ [21, 22, 23, 24, 25, 36, 37, 38, 39, 40] (by decide +kernel) (by decide +kernel)
set_option maxRecDepth 20000 in
theorem gX6_effectiveLimit_X4_balanceOf : GoodIn wsX6_effectiveLimit (wsV RX6 105 RX4 yX4_balanceOf wsX4_balanceOf) := goodIn_app (goodIn_of _ (by decide +kernel)) ggX6_effectiveLimit_X4_balanceOf
theorem dX6_effectiveLimit_0 : decode cX6_effectiveLimit 0 = .ok (.aload_n 0, 1) := by decide +kernel
theorem dX6_effectiveLimit_1 : decode cX6_effectiveLimit 1 = .ok (.getfield 28, 3) := by decide +kernel
theorem dX6_effectiveLimit_4 : decode cX6_effectiveLimit 4 = .ok (.iload_n 1, 1) := by decide +kernel
theorem dX6_effectiveLimit_5 : decode cX6_effectiveLimit 5 = .ok (.iload_n 2, 1) := by decide +kernel
theorem dX6_effectiveLimit_6 : decode cX6_effectiveLimit 6 = .ok (.invokestatic 98, 3) := by decide +kernel
theorem dX6_effectiveLimit_9 : decode cX6_effectiveLimit 9 = .ok (.iload_n 3, 1) := by decide +kernel
theorem dX6_effectiveLimit_10 : decode cX6_effectiveLimit 10 = .ok (.invokevirtual 101, 3) := by decide +kernel
theorem dX6_effectiveLimit_13 : decode cX6_effectiveLimit 13 = .ok (.istore 4, 2) := by decide +kernel
theorem dX6_effectiveLimit_15 : decode cX6_effectiveLimit 15 = .ok (.iload 4, 2) := by decide +kernel
theorem dX6_effectiveLimit_17 : decode cX6_effectiveLimit 17 = .ok (.ifCond .ne 5, 3) := by decide +kernel
theorem dX6_effectiveLimit_20 : decode cX6_effectiveLimit 20 = .ok (.iconst (-1), 1) := by decide +kernel
theorem dX6_effectiveLimit_21 : decode cX6_effectiveLimit 21 = .ok (.ireturn, 1) := by decide +kernel
theorem dX6_effectiveLimit_22 : decode cX6_effectiveLimit 22 = .ok (.iload_n 2, 1) := by decide +kernel
theorem dX6_effectiveLimit_23 : decode cX6_effectiveLimit 23 = .ok (.ifCond .ne 14, 3) := by decide +kernel
theorem dX6_effectiveLimit_26 : decode cX6_effectiveLimit 26 = .ok (.aload_n 0, 1) := by decide +kernel
theorem dX6_effectiveLimit_27 : decode cX6_effectiveLimit 27 = .ok (.getfield 35, 3) := by decide +kernel
theorem dX6_effectiveLimit_30 : decode cX6_effectiveLimit 30 = .ok (.iload_n 1, 1) := by decide +kernel
theorem dX6_effectiveLimit_31 : decode cX6_effectiveLimit 31 = .ok (.invokevirtual 105, 3) := by decide +kernel
theorem dX6_effectiveLimit_34 : decode cX6_effectiveLimit 34 = .ok (.goto 4, 3) := by decide +kernel
theorem dX6_effectiveLimit_37 : decode cX6_effectiveLimit 37 = .ok (.iconst 0, 1) := by decide +kernel
theorem dX6_effectiveLimit_38 : decode cX6_effectiveLimit 38 = .ok (.istore 5, 2) := by decide +kernel
theorem dX6_effectiveLimit_40 : decode cX6_effectiveLimit 40 = .ok (.iload 4, 2) := by decide +kernel
theorem dX6_effectiveLimit_42 : decode cX6_effectiveLimit 42 = .ok (.iload 5, 2) := by decide +kernel
theorem dX6_effectiveLimit_44 : decode cX6_effectiveLimit 44 = .ok (.iadd, 1) := by decide +kernel
theorem dX6_effectiveLimit_45 : decode cX6_effectiveLimit 45 = .ok (.iconst 0, 1) := by decide +kernel
theorem dX6_effectiveLimit_46 : decode cX6_effectiveLimit 46 = .ok (.invokestatic 108, 3) := by decide +kernel
theorem dX6_effectiveLimit_49 : decode cX6_effectiveLimit 49 = .ok (.ireturn, 1) := by decide +kernel
set_option maxRecDepth 20000 in
theorem ggX6_wouldExceed_X6_effectiveLimit : GoodIn wsX6_wouldExceed wsX6_effectiveLimit := goodIn_r _ [6, 1, 7, 8, 9, 10, 11, 12, 13, 14, 15, 16, 17, 18, 19, 20, 21, 22, 23, 24, 25, 26, 27, 28, 29, 30, 36, 37, 38, 39, 40, 41, 42, 43, 44, 45, 46, 47, 48, 49, 50] (by decide +kernel) (by decide +kernel)
set_option maxRecDepth 20000 in
theorem gX6_wouldExceed_X6_effectiveLimit : GoodIn wsX6_wouldExceed (wsV RX6 113 RX6 yX6_effectiveLimit wsX6_effectiveLimit) := goodIn_app (goodIn_of _ (by decide +kernel)) ggX6_wouldExceed_X6_effectiveLimit
set_option maxRecDepth 20000 in
theorem ggX6_wouldExceed_X7_accountOf : GoodIn wsX6_wouldExceed wsX7_accountOf := goodIn_r _ [14] (by decide +kernel) (by decide +kernel)
set_option maxRecDepth 20000 in
theorem gX6_wouldExceed_X7_accountOf_n98 : GoodIn wsX6_wouldExceed (wsX7_accountOf) := ggX6_wouldExceed_X7_accountOf
set_option maxRecDepth 20000 in
theorem ggX6_wouldExceed_X0_amountOf : GoodIn wsX6_wouldExceed wsX0_amountOf := goodIn_r _ [34, 35, 42, 43, 44, 45] (by decide +kernel) (by decide +kernel)
set_option maxRecDepth 20000 in
theorem gX6_wouldExceed_X0_amountOf : GoodIn wsX6_wouldExceed (wsV RX6 117 RX0 yX0_amountOf wsX0_amountOf) := goodIn_app (goodIn_of _ (by decide +kernel)) ggX6_wouldExceed_X0_amountOf
theorem dX6_wouldExceed_0 : decode cX6_wouldExceed 0 = .ok (.aload_n 0, 1) := by decide +kernel
theorem dX6_wouldExceed_1 : decode cX6_wouldExceed 1 = .ok (.iload_n 1, 1) := by decide +kernel
theorem dX6_wouldExceed_2 : decode cX6_wouldExceed 2 = .ok (.iload_n 2, 1) := by decide +kernel
theorem dX6_wouldExceed_3 : decode cX6_wouldExceed 3 = .ok (.iload_n 3, 1) := by decide +kernel
theorem dX6_wouldExceed_4 : decode cX6_wouldExceed 4 = .ok (.invokevirtual 113, 3) := by decide +kernel
theorem dX6_wouldExceed_7 : decode cX6_wouldExceed 7 = .ok (.istore 5, 2) := by decide +kernel
theorem dX6_wouldExceed_9 : decode cX6_wouldExceed 9 = .ok (.iload 5, 2) := by decide +kernel
theorem dX6_wouldExceed_11 : decode cX6_wouldExceed 11 = .ok (.iconst (-1), 1) := by decide +kernel
theorem dX6_wouldExceed_12 : decode cX6_wouldExceed 12 = .ok (.if_icmp .eq 27, 3) := by decide +kernel
theorem dX6_wouldExceed_15 : decode cX6_wouldExceed 15 = .ok (.aload_n 0, 1) := by decide +kernel
theorem dX6_wouldExceed_16 : decode cX6_wouldExceed 16 = .ok (.getfield 28, 3) := by decide +kernel
theorem dX6_wouldExceed_19 : decode cX6_wouldExceed 19 = .ok (.iload_n 1, 1) := by decide +kernel
theorem dX6_wouldExceed_20 : decode cX6_wouldExceed 20 = .ok (.iload_n 2, 1) := by decide +kernel
theorem dX6_wouldExceed_21 : decode cX6_wouldExceed 21 = .ok (.invokestatic 98, 3) := by decide +kernel
theorem dX6_wouldExceed_24 : decode cX6_wouldExceed 24 = .ok (.invokevirtual 117, 3) := by decide +kernel
theorem dX6_wouldExceed_27 : decode cX6_wouldExceed 27 = .ok (.iload 4, 2) := by decide +kernel
theorem dX6_wouldExceed_29 : decode cX6_wouldExceed 29 = .ok (.iadd, 1) := by decide +kernel
theorem dX6_wouldExceed_30 : decode cX6_wouldExceed 30 = .ok (.iload 5, 2) := by decide +kernel
theorem dX6_wouldExceed_32 : decode cX6_wouldExceed 32 = .ok (.if_icmp .le 7, 3) := by decide +kernel
theorem dX6_wouldExceed_35 : decode cX6_wouldExceed 35 = .ok (.iconst 1, 1) := by decide +kernel
theorem dX6_wouldExceed_36 : decode cX6_wouldExceed 36 = .ok (.goto 4, 3) := by decide +kernel
theorem dX6_wouldExceed_39 : decode cX6_wouldExceed 39 = .ok (.iconst 0, 1) := by decide +kernel
theorem dX6_wouldExceed_40 : decode cX6_wouldExceed 40 = .ok (.ireturn, 1) := by decide +kernel
set_option maxRecDepth 20000 in
theorem ggX6_graceEnd_X7_accountOf : GoodIn wsX6_graceEnd wsX7_accountOf := goodIn_r _ [5] (by decide +kernel) (by decide +kernel)
set_option maxRecDepth 20000 in
theorem gX6_graceEnd_X7_accountOf_n98 : GoodIn wsX6_graceEnd (wsX7_accountOf) := ggX6_graceEnd_X7_accountOf
set_option maxRecDepth 20000 in
theorem ggX6_graceEnd_X0_clockOf : GoodIn wsX6_graceEnd wsX0_clockOf := goodIn_r _ [10, 11, 18, 19, 20, 21] (by decide +kernel) (by decide +kernel)
set_option maxRecDepth 20000 in
theorem gX6_graceEnd_X0_clockOf : GoodIn wsX6_graceEnd (wsV RX6 120 RX0 yX0_clockOf wsX0_clockOf) := goodIn_app (goodIn_of _ (by decide +kernel)) ggX6_graceEnd_X0_clockOf
theorem dX6_graceEnd_0 : decode cX6_graceEnd 0 = .ok (.aload_n 0, 1) := by decide +kernel
theorem dX6_graceEnd_1 : decode cX6_graceEnd 1 = .ok (.getfield 28, 3) := by decide +kernel
theorem dX6_graceEnd_4 : decode cX6_graceEnd 4 = .ok (.iload_n 1, 1) := by decide +kernel
theorem dX6_graceEnd_5 : decode cX6_graceEnd 5 = .ok (.iload_n 2, 1) := by decide +kernel
theorem dX6_graceEnd_6 : decode cX6_graceEnd 6 = .ok (.invokestatic 98, 3) := by decide +kernel
theorem dX6_graceEnd_9 : decode cX6_graceEnd 9 = .ok (.invokevirtual 120, 3) := by decide +kernel
theorem dX6_graceEnd_12 : decode cX6_graceEnd 12 = .ok (.istore_n 3, 1) := by decide +kernel
theorem dX6_graceEnd_13 : decode cX6_graceEnd 13 = .ok (.iload_n 3, 1) := by decide +kernel
theorem dX6_graceEnd_14 : decode cX6_graceEnd 14 = .ok (.iconst (-1), 1) := by decide +kernel
theorem dX6_graceEnd_15 : decode cX6_graceEnd 15 = .ok (.if_icmp .ne 7, 3) := by decide +kernel
theorem dX6_graceEnd_18 : decode cX6_graceEnd 18 = .ok (.iconst (-1), 1) := by decide +kernel
theorem dX6_graceEnd_19 : decode cX6_graceEnd 19 = .ok (.goto 9, 3) := by decide +kernel
theorem dX6_graceEnd_22 : decode cX6_graceEnd 22 = .ok (.iload_n 3, 1) := by decide +kernel
theorem dX6_graceEnd_23 : decode cX6_graceEnd 23 = .ok (.aload_n 0, 1) := by decide +kernel
theorem dX6_graceEnd_24 : decode cX6_graceEnd 24 = .ok (.getfield 39, 3) := by decide +kernel
theorem dX6_graceEnd_27 : decode cX6_graceEnd 27 = .ok (.iadd, 1) := by decide +kernel
theorem dX6_graceEnd_28 : decode cX6_graceEnd 28 = .ok (.ireturn, 1) := by decide +kernel
set_option maxRecDepth 20000 in
theorem ggX6_isGraceOver_X6_graceEnd : GoodIn wsX6_isGraceOver wsX6_graceEnd := goodIn_r _ [6, 7, 8, 9, 10, 11, 12, 13, 14, 15, 16, 17, 18, 19, 20, 21, 22, 23, 24, 25, 26, 27] (by decide +kernel) (by decide +kernel)
set_option maxRecDepth 20000 in
theorem gX6_isGraceOver_X6_graceEnd : GoodIn wsX6_isGraceOver (wsV RX6 123 RX6 yX6_graceEnd wsX6_graceEnd) := goodIn_app (goodIn_of _ (by decide +kernel)) ggX6_isGraceOver_X6_graceEnd
theorem dX6_isGraceOver_0 : decode cX6_isGraceOver 0 = .ok (.aload_n 0, 1) := by decide +kernel
theorem dX6_isGraceOver_1 : decode cX6_isGraceOver 1 = .ok (.iload_n 1, 1) := by decide +kernel
theorem dX6_isGraceOver_2 : decode cX6_isGraceOver 2 = .ok (.iload_n 2, 1) := by decide +kernel
theorem dX6_isGraceOver_3 : decode cX6_isGraceOver 3 = .ok (.invokevirtual 123, 3) := by decide +kernel
theorem dX6_isGraceOver_6 : decode cX6_isGraceOver 6 = .ok (.istore_n 3, 1) := by decide +kernel
theorem dX6_isGraceOver_7 : decode cX6_isGraceOver 7 = .ok (.iload_n 3, 1) := by decide +kernel
theorem dX6_isGraceOver_8 : decode cX6_isGraceOver 8 = .ok (.iconst (-1), 1) := by decide +kernel
theorem dX6_isGraceOver_9 : decode cX6_isGraceOver 9 = .ok (.if_icmp .eq 15, 3) := by decide +kernel
theorem dX6_isGraceOver_12 : decode cX6_isGraceOver 12 = .ok (.iload_n 3, 1) := by decide +kernel
theorem dX6_isGraceOver_13 : decode cX6_isGraceOver 13 = .ok (.aload_n 0, 1) := by decide +kernel
theorem dX6_isGraceOver_14 : decode cX6_isGraceOver 14 = .ok (.getfield 51, 3) := by decide +kernel
theorem dX6_isGraceOver_17 : decode cX6_isGraceOver 17 = .ok (.if_icmp .gt 7, 3) := by decide +kernel
theorem dX6_isGraceOver_20 : decode cX6_isGraceOver 20 = .ok (.iconst 1, 1) := by decide +kernel
theorem dX6_isGraceOver_21 : decode cX6_isGraceOver 21 = .ok (.goto 4, 3) := by decide +kernel
theorem dX6_isGraceOver_24 : decode cX6_isGraceOver 24 = .ok (.iconst 0, 1) := by decide +kernel
theorem dX6_isGraceOver_25 : decode cX6_isGraceOver 25 = .ok (.ireturn, 1) := by decide +kernel
set_option maxRecDepth 20000 in
theorem ggX6_stateOf_X6_wouldExceed : GoodIn wsX6_stateOf wsX6_wouldExceed := goodIn_r _ [6, 1, 7, 8, 9, 5, 10, 11, 12, 13, 14, 15, 16, 17, 18, 19, 20, 21, 22, 23, 24, 25, 26, 27, 28, 29, 30, 31, 32, 33, 34, 35, 36, 37, 38, 39, 60, 61, 62, 63, 64, 65, 66, 67, 68, 69, 70, 71, 72, 73, 74] (by decide +kernel) (by decide +kernel)
set_option maxRecDepth 20000 in
theorem gX6_stateOf_X6_wouldExceed : GoodIn wsX6_stateOf (wsV RX6 126 RX6 yX6_wouldExceed wsX6_wouldExceed) := goodIn_app (goodIn_of _ (by decide +kernel)) ggX6_stateOf_X6_wouldExceed
set_option maxRecDepth 20000 in
theorem ggX6_stateOf_X6_isGraceOver : GoodIn wsX6_stateOf wsX6_isGraceOver := goodIn_r _ [43, 44, 45, 46, 47, 5, 48, 1, 49, 16, 17, 18, 50, 51, 52, 22, 53, 54, 60, 61, 62, 63, 64, 65, 66, 67, 68, 69] (by decide +kernel) (by decide +kernel)
set_option maxRecDepth 20000 in
theorem gX6_stateOf_X6_isGraceOver : GoodIn wsX6_stateOf (wsV RX6 130 RX6 yX6_isGraceOver wsX6_isGraceOver) := goodIn_app (goodIn_of _ (by decide +kernel)) ggX6_stateOf_X6_isGraceOver
set_option maxRecDepth 20000 in
theorem ggX6_stateOf_X7_accountOf : GoodIn wsX6_stateOf wsX7_accountOf := goodIn_r _ [18] (by decide +kernel) (by decide +kernel)
set_option maxRecDepth 20000 in
theorem gX6_stateOf_X7_accountOf_n98 : GoodIn wsX6_stateOf (wsX7_accountOf) := ggX6_stateOf_X7_accountOf
set_option maxRecDepth 20000 in
theorem ggX6_stateOf_X0_clockOf : GoodIn wsX6_stateOf wsX0_clockOf := goodIn_r _ [53, 54, 66, 67, 68, 69] (by decide +kernel) (by decide +kernel)
set_option maxRecDepth 20000 in
theorem gX6_stateOf_X0_clockOf : GoodIn wsX6_stateOf (wsV RX6 120 RX0 yX0_clockOf wsX0_clockOf) := goodIn_app (goodIn_of _ (by decide +kernel)) ggX6_stateOf_X0_clockOf
set_option maxRecDepth 20000 in
theorem ggX6_stateOf_X0_hasLimit : GoodIn wsX6_stateOf wsX0_hasLimit := goodIn_r _ [58, 59, 20, 21, 22, 23, 24, 25, 66, 67, 68, 69] (by decide +kernel) (by decide +kernel)
set_option maxRecDepth 20000 in
theorem gX6_stateOf_X0_hasLimit : GoodIn wsX6_stateOf (wsV RX6 133 RX0 yX0_hasLimit wsX0_hasLimit) := goodIn_app (goodIn_of _ (by decide +kernel)) ggX6_stateOf_X0_hasLimit
theorem dX6_stateOf_0 : decode cX6_stateOf 0 = .ok (.aload_n 0, 1) := by decide +kernel
theorem dX6_stateOf_1 : decode cX6_stateOf 1 = .ok (.iload_n 1, 1) := by decide +kernel
theorem dX6_stateOf_2 : decode cX6_stateOf 2 = .ok (.iload_n 2, 1) := by decide +kernel
theorem dX6_stateOf_3 : decode cX6_stateOf 3 = .ok (.iconst 1, 1) := by decide +kernel
theorem dX6_stateOf_4 : decode cX6_stateOf 4 = .ok (.iconst 0, 1) := by decide +kernel
theorem dX6_stateOf_5 : decode cX6_stateOf 5 = .ok (.invokevirtual 126, 3) := by decide +kernel
theorem dX6_stateOf_8 : decode cX6_stateOf 8 = .ok (.ifCond .eq 5, 3) := by decide +kernel
theorem dX6_stateOf_11 : decode cX6_stateOf 11 = .ok (.iconst 4, 1) := by decide +kernel
theorem dX6_stateOf_12 : decode cX6_stateOf 12 = .ok (.ireturn, 1) := by decide +kernel
theorem dX6_stateOf_13 : decode cX6_stateOf 13 = .ok (.aload_n 0, 1) := by decide +kernel
theorem dX6_stateOf_14 : decode cX6_stateOf 14 = .ok (.iload_n 1, 1) := by decide +kernel
theorem dX6_stateOf_15 : decode cX6_stateOf 15 = .ok (.iload_n 2, 1) := by decide +kernel
theorem dX6_stateOf_16 : decode cX6_stateOf 16 = .ok (.invokevirtual 130, 3) := by decide +kernel
theorem dX6_stateOf_19 : decode cX6_stateOf 19 = .ok (.ifCond .eq 5, 3) := by decide +kernel
theorem dX6_stateOf_22 : decode cX6_stateOf 22 = .ok (.iconst 3, 1) := by decide +kernel
theorem dX6_stateOf_23 : decode cX6_stateOf 23 = .ok (.ireturn, 1) := by decide +kernel
theorem dX6_stateOf_24 : decode cX6_stateOf 24 = .ok (.aload_n 0, 1) := by decide +kernel
theorem dX6_stateOf_25 : decode cX6_stateOf 25 = .ok (.getfield 28, 3) := by decide +kernel
theorem dX6_stateOf_28 : decode cX6_stateOf 28 = .ok (.iload_n 1, 1) := by decide +kernel
theorem dX6_stateOf_29 : decode cX6_stateOf 29 = .ok (.iload_n 2, 1) := by decide +kernel
theorem dX6_stateOf_30 : decode cX6_stateOf 30 = .ok (.invokestatic 98, 3) := by decide +kernel
theorem dX6_stateOf_33 : decode cX6_stateOf 33 = .ok (.invokevirtual 120, 3) := by decide +kernel
theorem dX6_stateOf_36 : decode cX6_stateOf 36 = .ok (.iconst (-1), 1) := by decide +kernel
theorem dX6_stateOf_37 : decode cX6_stateOf 37 = .ok (.if_icmp .eq 5, 3) := by decide +kernel
theorem dX6_stateOf_40 : decode cX6_stateOf 40 = .ok (.iconst 2, 1) := by decide +kernel
theorem dX6_stateOf_41 : decode cX6_stateOf 41 = .ok (.ireturn, 1) := by decide +kernel
theorem dX6_stateOf_42 : decode cX6_stateOf 42 = .ok (.aload_n 0, 1) := by decide +kernel
theorem dX6_stateOf_43 : decode cX6_stateOf 43 = .ok (.getfield 28, 3) := by decide +kernel
theorem dX6_stateOf_46 : decode cX6_stateOf 46 = .ok (.iload_n 1, 1) := by decide +kernel
theorem dX6_stateOf_47 : decode cX6_stateOf 47 = .ok (.iload_n 2, 1) := by decide +kernel
theorem dX6_stateOf_48 : decode cX6_stateOf 48 = .ok (.invokestatic 98, 3) := by decide +kernel
theorem dX6_stateOf_51 : decode cX6_stateOf 51 = .ok (.invokevirtual 133, 3) := by decide +kernel
theorem dX6_stateOf_54 : decode cX6_stateOf 54 = .ok (.ifCond .eq 7, 3) := by decide +kernel
theorem dX6_stateOf_57 : decode cX6_stateOf 57 = .ok (.iconst 1, 1) := by decide +kernel
theorem dX6_stateOf_58 : decode cX6_stateOf 58 = .ok (.goto 4, 3) := by decide +kernel
theorem dX6_stateOf_61 : decode cX6_stateOf 61 = .ok (.iconst 0, 1) := by decide +kernel
theorem dX6_stateOf_62 : decode cX6_stateOf 62 = .ok (.ireturn, 1) := by decide +kernel
set_option maxRecDepth 20000 in
theorem ggX6_setClocks_X7_accountOf : GoodIn wsX6_setClocks wsX7_accountOf := goodIn_r _ [5] (by decide +kernel) (by decide +kernel)
set_option maxRecDepth 20000 in
theorem gX6_setClocks_X7_accountOf_n98 : GoodIn wsX6_setClocks (wsX7_accountOf) := ggX6_setClocks_X7_accountOf
set_option maxRecDepth 20000 in
theorem ggX6_setClocks_X6_wouldExceed : GoodIn wsX6_setClocks wsX6_wouldExceed := goodIn_r _ [10, 1, 11, 12, 13, 9, 14, 15, 16, 17, 18, 19, 3, 4, 5, 20, 21, 22, 23, 24, 25, 26, 27, 28, 29, 30, 31, 32, 33, 34, 35, 36, 37, 38, 39, 40, 50, 51, 52, 53, 54, 55, 56, 57, 58, 59, 60, 61, 62, 63, 64] (by decide +kernel) (by decide +kernel)
set_option maxRecDepth 20000 in
theorem gX6_setClocks_X6_wouldExceed : GoodIn wsX6_setClocks (wsV RX6 126 RX6 yX6_wouldExceed wsX6_wouldExceed) := goodIn_app (goodIn_of _ (by decide +kernel)) ggX6_setClocks_X6_wouldExceed
set_option maxRecDepth 20000 in
theorem ggX6_setClocks_X0_setClock : GoodIn wsX6_setClocks wsX0_setClock := goodIn_r _ [44, 45, 56, 57, 58, 59] (by decide +kernel) (by decide +kernel)
set_option maxRecDepth 20000 in
theorem gX6_setClocks_X0_setClock : GoodIn wsX6_setClocks (wsV RX6 137 RX0 yX0_setClock wsX0_setClock) := goodIn_app (goodIn_of _ (by decide +kernel)) ggX6_setClocks_X0_setClock
set_option maxRecDepth 20000 in
theorem ggX6_setClocks_X0_clockOf : GoodIn wsX6_setClocks wsX0_clockOf := goodIn_r _ [49, 45, 56, 57, 58, 59] (by decide +kernel) (by decide +kernel)
set_option maxRecDepth 20000 in
theorem gX6_setClocks_X0_clockOf : GoodIn wsX6_setClocks (wsV RX6 120 RX0 yX0_clockOf wsX0_clockOf) := goodIn_app (goodIn_of _ (by decide +kernel)) ggX6_setClocks_X0_clockOf
theorem dX6_setClocks_0 : decode cX6_setClocks 0 = .ok (.iconst 0, 1) := by decide +kernel
theorem dX6_setClocks_1 : decode cX6_setClocks 1 = .ok (.istore_n 1, 1) := by decide +kernel
theorem dX6_setClocks_2 : decode cX6_setClocks 2 = .ok (.iload_n 1, 1) := by decide +kernel
theorem dX6_setClocks_3 : decode cX6_setClocks 3 = .ok (.bipush 8, 2) := by decide +kernel
theorem dX6_setClocks_5 : decode cX6_setClocks 5 = .ok (.if_icmp .ge 75, 3) := by decide +kernel
theorem dX6_setClocks_8 : decode cX6_setClocks 8 = .ok (.iconst 0, 1) := by decide +kernel
theorem dX6_setClocks_9 : decode cX6_setClocks 9 = .ok (.istore_n 2, 1) := by decide +kernel
theorem dX6_setClocks_10 : decode cX6_setClocks 10 = .ok (.iload_n 2, 1) := by decide +kernel
theorem dX6_setClocks_11 : decode cX6_setClocks 11 = .ok (.iconst 2, 1) := by decide +kernel
theorem dX6_setClocks_12 : decode cX6_setClocks 12 = .ok (.if_icmp .ge 62, 3) := by decide +kernel
theorem dX6_setClocks_15 : decode cX6_setClocks 15 = .ok (.iload_n 1, 1) := by decide +kernel
theorem dX6_setClocks_16 : decode cX6_setClocks 16 = .ok (.iload_n 2, 1) := by decide +kernel
theorem dX6_setClocks_17 : decode cX6_setClocks 17 = .ok (.invokestatic 98, 3) := by decide +kernel
theorem dX6_setClocks_20 : decode cX6_setClocks 20 = .ok (.istore_n 3, 1) := by decide +kernel
theorem dX6_setClocks_21 : decode cX6_setClocks 21 = .ok (.aload_n 0, 1) := by decide +kernel
theorem dX6_setClocks_22 : decode cX6_setClocks 22 = .ok (.iload_n 1, 1) := by decide +kernel
theorem dX6_setClocks_23 : decode cX6_setClocks 23 = .ok (.iload_n 2, 1) := by decide +kernel
theorem dX6_setClocks_24 : decode cX6_setClocks 24 = .ok (.iconst 0, 1) := by decide +kernel
theorem dX6_setClocks_25 : decode cX6_setClocks 25 = .ok (.iconst 0, 1) := by decide +kernel
theorem dX6_setClocks_26 : decode cX6_setClocks 26 = .ok (.invokevirtual 126, 3) := by decide +kernel
theorem dX6_setClocks_29 : decode cX6_setClocks 29 = .ok (.ifCond .ne 15, 3) := by decide +kernel
theorem dX6_setClocks_32 : decode cX6_setClocks 32 = .ok (.aload_n 0, 1) := by decide +kernel
theorem dX6_setClocks_33 : decode cX6_setClocks 33 = .ok (.getfield 28, 3) := by decide +kernel
theorem dX6_setClocks_36 : decode cX6_setClocks 36 = .ok (.iload_n 3, 1) := by decide +kernel
theorem dX6_setClocks_37 : decode cX6_setClocks 37 = .ok (.iconst (-1), 1) := by decide +kernel
theorem dX6_setClocks_38 : decode cX6_setClocks 38 = .ok (.invokevirtual 137, 3) := by decide +kernel
theorem dX6_setClocks_41 : decode cX6_setClocks 41 = .ok (.goto 27, 3) := by decide +kernel
theorem dX6_setClocks_44 : decode cX6_setClocks 44 = .ok (.aload_n 0, 1) := by decide +kernel
theorem dX6_setClocks_45 : decode cX6_setClocks 45 = .ok (.getfield 28, 3) := by decide +kernel
theorem dX6_setClocks_48 : decode cX6_setClocks 48 = .ok (.iload_n 3, 1) := by decide +kernel
theorem dX6_setClocks_49 : decode cX6_setClocks 49 = .ok (.invokevirtual 120, 3) := by decide +kernel
theorem dX6_setClocks_52 : decode cX6_setClocks 52 = .ok (.iconst (-1), 1) := by decide +kernel
theorem dX6_setClocks_53 : decode cX6_setClocks 53 = .ok (.if_icmp .ne 15, 3) := by decide +kernel
theorem dX6_setClocks_56 : decode cX6_setClocks 56 = .ok (.aload_n 0, 1) := by decide +kernel
theorem dX6_setClocks_57 : decode cX6_setClocks 57 = .ok (.getfield 28, 3) := by decide +kernel
theorem dX6_setClocks_60 : decode cX6_setClocks 60 = .ok (.iload_n 3, 1) := by decide +kernel
theorem dX6_setClocks_61 : decode cX6_setClocks 61 = .ok (.aload_n 0, 1) := by decide +kernel
theorem dX6_setClocks_62 : decode cX6_setClocks 62 = .ok (.getfield 51, 3) := by decide +kernel
theorem dX6_setClocks_65 : decode cX6_setClocks 65 = .ok (.invokevirtual 137, 3) := by decide +kernel
theorem dX6_setClocks_68 : decode cX6_setClocks 68 = .ok (.iinc 2 1, 3) := by decide +kernel
theorem dX6_setClocks_71 : decode cX6_setClocks 71 = .ok (.goto (-61), 3) := by decide +kernel
theorem dX6_setClocks_74 : decode cX6_setClocks 74 = .ok (.iinc 1 1, 3) := by decide +kernel
theorem dX6_setClocks_77 : decode cX6_setClocks 77 = .ok (.goto (-75), 3) := by decide +kernel
theorem dX6_setClocks_80 : decode cX6_setClocks 80 = .ok (.return_, 1) := by decide +kernel
set_option maxRecDepth 20000 in
theorem ggX6_growthReason_X6_wouldExceed : GoodIn wsX6_growthReason wsX6_wouldExceed := goodIn_r _ [5, 6, 7, 8, 9, 4, 10, 11, 12, 13, 14, 15, 16, 17, 18, 19, 20, 21, 22, 23, 24, 25, 26, 27, 28, 29, 30, 31, 32, 33, 34, 35, 36, 37, 38, 39, 55, 56, 57, 58, 59, 60, 61, 62, 63, 64, 65, 66, 67, 68, 69] (by decide +kernel) (by decide +kernel)
set_option maxRecDepth 20000 in
theorem gX6_growthReason_X6_wouldExceed : GoodIn wsX6_growthReason (wsV RX6 126 RX6 yX6_wouldExceed wsX6_wouldExceed) := goodIn_app (goodIn_of _ (by decide +kernel)) ggX6_growthReason_X6_wouldExceed
set_option maxRecDepth 20000 in
theorem ggX6_growthReason_X6_isGraceOver : GoodIn wsX6_growthReason wsX6_isGraceOver := goodIn_r _ [43, 44, 45, 46, 47, 4, 48, 6, 49, 16, 17, 18, 50, 51, 52, 22, 53, 54, 55, 56, 57, 58, 59, 60, 61, 62, 63, 64] (by decide +kernel) (by decide +kernel)
set_option maxRecDepth 20000 in
theorem gX6_growthReason_X6_isGraceOver : GoodIn wsX6_growthReason (wsV RX6 130 RX6 yX6_isGraceOver wsX6_isGraceOver) := goodIn_app (goodIn_of _ (by decide +kernel)) ggX6_growthReason_X6_isGraceOver
theorem dX6_growthReason_0 : decode cX6_growthReason 0 = .ok (.iload_n 1, 1) := by decide +kernel
theorem dX6_growthReason_1 : decode cX6_growthReason 1 = .ok (.iconst (-1), 1) := by decide +kernel
theorem dX6_growthReason_2 : decode cX6_growthReason 2 = .ok (.if_icmp .ne 5, 3) := by decide +kernel
theorem dX6_growthReason_5 : decode cX6_growthReason 5 = .ok (.iconst 0, 1) := by decide +kernel
theorem dX6_growthReason_6 : decode cX6_growthReason 6 = .ok (.ireturn, 1) := by decide +kernel
theorem dX6_growthReason_7 : decode cX6_growthReason 7 = .ok (.iload_n 2, 1) := by decide +kernel
theorem dX6_growthReason_8 : decode cX6_growthReason 8 = .ok (.ifCond .le 16, 3) := by decide +kernel
theorem dX6_growthReason_11 : decode cX6_growthReason 11 = .ok (.aload_n 0, 1) := by decide +kernel
theorem dX6_growthReason_12 : decode cX6_growthReason 12 = .ok (.iload_n 1, 1) := by decide +kernel
theorem dX6_growthReason_13 : decode cX6_growthReason 13 = .ok (.iconst 0, 1) := by decide +kernel
theorem dX6_growthReason_14 : decode cX6_growthReason 14 = .ok (.iconst 1, 1) := by decide +kernel
theorem dX6_growthReason_15 : decode cX6_growthReason 15 = .ok (.iload_n 2, 1) := by decide +kernel
theorem dX6_growthReason_16 : decode cX6_growthReason 16 = .ok (.invokevirtual 126, 3) := by decide +kernel
theorem dX6_growthReason_19 : decode cX6_growthReason 19 = .ok (.ifCond .eq 5, 3) := by decide +kernel
theorem dX6_growthReason_22 : decode cX6_growthReason 22 = .ok (.iconst 1, 1) := by decide +kernel
theorem dX6_growthReason_23 : decode cX6_growthReason 23 = .ok (.ireturn, 1) := by decide +kernel
theorem dX6_growthReason_24 : decode cX6_growthReason 24 = .ok (.iload_n 3, 1) := by decide +kernel
theorem dX6_growthReason_25 : decode cX6_growthReason 25 = .ok (.ifCond .le 16, 3) := by decide +kernel
theorem dX6_growthReason_28 : decode cX6_growthReason 28 = .ok (.aload_n 0, 1) := by decide +kernel
theorem dX6_growthReason_29 : decode cX6_growthReason 29 = .ok (.iload_n 1, 1) := by decide +kernel
theorem dX6_growthReason_30 : decode cX6_growthReason 30 = .ok (.iconst 1, 1) := by decide +kernel
theorem dX6_growthReason_31 : decode cX6_growthReason 31 = .ok (.iconst 1, 1) := by decide +kernel
theorem dX6_growthReason_32 : decode cX6_growthReason 32 = .ok (.iload_n 3, 1) := by decide +kernel
theorem dX6_growthReason_33 : decode cX6_growthReason 33 = .ok (.invokevirtual 126, 3) := by decide +kernel
theorem dX6_growthReason_36 : decode cX6_growthReason 36 = .ok (.ifCond .eq 5, 3) := by decide +kernel
theorem dX6_growthReason_39 : decode cX6_growthReason 39 = .ok (.iconst 2, 1) := by decide +kernel
theorem dX6_growthReason_40 : decode cX6_growthReason 40 = .ok (.ireturn, 1) := by decide +kernel
theorem dX6_growthReason_41 : decode cX6_growthReason 41 = .ok (.iload_n 2, 1) := by decide +kernel
theorem dX6_growthReason_42 : decode cX6_growthReason 42 = .ok (.ifCond .le 14, 3) := by decide +kernel
theorem dX6_growthReason_45 : decode cX6_growthReason 45 = .ok (.aload_n 0, 1) := by decide +kernel
theorem dX6_growthReason_46 : decode cX6_growthReason 46 = .ok (.iload_n 1, 1) := by decide +kernel
theorem dX6_growthReason_47 : decode cX6_growthReason 47 = .ok (.iconst 0, 1) := by decide +kernel
theorem dX6_growthReason_48 : decode cX6_growthReason 48 = .ok (.invokevirtual 130, 3) := by decide +kernel
theorem dX6_growthReason_51 : decode cX6_growthReason 51 = .ok (.ifCond .eq 5, 3) := by decide +kernel
theorem dX6_growthReason_54 : decode cX6_growthReason 54 = .ok (.iconst 3, 1) := by decide +kernel
theorem dX6_growthReason_55 : decode cX6_growthReason 55 = .ok (.ireturn, 1) := by decide +kernel
theorem dX6_growthReason_56 : decode cX6_growthReason 56 = .ok (.iload_n 3, 1) := by decide +kernel
theorem dX6_growthReason_57 : decode cX6_growthReason 57 = .ok (.ifCond .le 16, 3) := by decide +kernel
theorem dX6_growthReason_60 : decode cX6_growthReason 60 = .ok (.aload_n 0, 1) := by decide +kernel
theorem dX6_growthReason_61 : decode cX6_growthReason 61 = .ok (.iload_n 1, 1) := by decide +kernel
theorem dX6_growthReason_62 : decode cX6_growthReason 62 = .ok (.iconst 1, 1) := by decide +kernel
theorem dX6_growthReason_63 : decode cX6_growthReason 63 = .ok (.invokevirtual 130, 3) := by decide +kernel
theorem dX6_growthReason_66 : decode cX6_growthReason 66 = .ok (.ifCond .eq 7, 3) := by decide +kernel
theorem dX6_growthReason_69 : decode cX6_growthReason 69 = .ok (.iconst 4, 1) := by decide +kernel
theorem dX6_growthReason_70 : decode cX6_growthReason 70 = .ok (.goto 4, 3) := by decide +kernel
theorem dX6_growthReason_73 : decode cX6_growthReason 73 = .ok (.iconst 0, 1) := by decide +kernel
theorem dX6_growthReason_74 : decode cX6_growthReason 74 = .ok (.ireturn, 1) := by decide +kernel
set_option maxRecDepth 20000 in
theorem ggX6_roomOf_X6_isGraceOver : GoodIn wsX6_roomOf wsX6_isGraceOver := goodIn_r _ [13, 14, 15, 16, 17, 12, 18, 1, 19, 20, 21, 22, 23, 24, 25, 26, 27, 28, 54, 55, 56, 57, 58, 59, 60, 61, 62, 63] (by decide +kernel) (by decide +kernel)
set_option maxRecDepth 20000 in
theorem gX6_roomOf_X6_isGraceOver : GoodIn wsX6_roomOf (wsV RX6 130 RX6 yX6_isGraceOver wsX6_isGraceOver) := goodIn_app (goodIn_of _ (by decide +kernel)) ggX6_roomOf_X6_isGraceOver
set_option maxRecDepth 20000 in
theorem ggX6_roomOf_X6_effectiveLimit : GoodIn wsX6_roomOf wsX6_effectiveLimit := goodIn_r _ [32, 1, 33, 6, 7, 4, 8, 20, 21, 22, 34, 35, 36, 26, 37, 38, 39, 40, 41, 42, 43, 44, 45, 46, 47, 48, 54, 55, 56, 57, 58, 59, 60, 61, 62, 63, 64, 65, 66, 67, 68] (by decide +kernel) (by decide +kernel)
set_option maxRecDepth 20000 in
theorem gX6_roomOf_X6_effectiveLimit : GoodIn wsX6_roomOf (wsV RX6 113 RX6 yX6_effectiveLimit wsX6_effectiveLimit) := goodIn_app (goodIn_of _ (by decide +kernel)) ggX6_roomOf_X6_effectiveLimit
set_option maxRecDepth 20000 in
theorem ggX6_roomOf_X7_accountOf : GoodIn wsX6_roomOf wsX7_accountOf := goodIn_r _ [22] (by decide +kernel) (by decide +kernel)
set_option maxRecDepth 20000 in
theorem gX6_roomOf_X7_accountOf_n98 : GoodIn wsX6_roomOf (wsX7_accountOf) := ggX6_roomOf_X7_accountOf
set_option maxRecDepth 20000 in
theorem ggX6_roomOf_X0_amountOf : GoodIn wsX6_roomOf wsX0_amountOf := goodIn_r _ [52, 53, 60, 61, 62, 63] (by decide +kernel) (by decide +kernel)
set_option maxRecDepth 20000 in
theorem gX6_roomOf_X0_amountOf : GoodIn wsX6_roomOf (wsV RX6 117 RX0 yX0_amountOf wsX0_amountOf) := goodIn_app (goodIn_of _ (by decide +kernel)) ggX6_roomOf_X0_amountOf
theorem dX6_roomOf_0 : decode cX6_roomOf 0 = .ok (.iload_n 1, 1) := by decide +kernel
theorem dX6_roomOf_1 : decode cX6_roomOf 1 = .ok (.iconst (-1), 1) := by decide +kernel
theorem dX6_roomOf_2 : decode cX6_roomOf 2 = .ok (.if_icmp .ne 7, 3) := by decide +kernel
theorem dX6_roomOf_5 : decode cX6_roomOf 5 = .ok (.sipush 9999, 3) := by decide +kernel
theorem dX6_roomOf_8 : decode cX6_roomOf 8 = .ok (.ireturn, 1) := by decide +kernel
theorem dX6_roomOf_9 : decode cX6_roomOf 9 = .ok (.aload_n 0, 1) := by decide +kernel
theorem dX6_roomOf_10 : decode cX6_roomOf 10 = .ok (.iload_n 1, 1) := by decide +kernel
theorem dX6_roomOf_11 : decode cX6_roomOf 11 = .ok (.iconst 0, 1) := by decide +kernel
theorem dX6_roomOf_12 : decode cX6_roomOf 12 = .ok (.invokevirtual 130, 3) := by decide +kernel
theorem dX6_roomOf_15 : decode cX6_roomOf 15 = .ok (.ifCond .eq 5, 3) := by decide +kernel
theorem dX6_roomOf_18 : decode cX6_roomOf 18 = .ok (.iconst 0, 1) := by decide +kernel
theorem dX6_roomOf_19 : decode cX6_roomOf 19 = .ok (.ireturn, 1) := by decide +kernel
theorem dX6_roomOf_20 : decode cX6_roomOf 20 = .ok (.aload_n 0, 1) := by decide +kernel
theorem dX6_roomOf_21 : decode cX6_roomOf 21 = .ok (.iload_n 1, 1) := by decide +kernel
theorem dX6_roomOf_22 : decode cX6_roomOf 22 = .ok (.iconst 0, 1) := by decide +kernel
theorem dX6_roomOf_23 : decode cX6_roomOf 23 = .ok (.iconst 1, 1) := by decide +kernel
theorem dX6_roomOf_24 : decode cX6_roomOf 24 = .ok (.invokevirtual 113, 3) := by decide +kernel
theorem dX6_roomOf_27 : decode cX6_roomOf 27 = .ok (.istore_n 2, 1) := by decide +kernel
theorem dX6_roomOf_28 : decode cX6_roomOf 28 = .ok (.iload_n 2, 1) := by decide +kernel
theorem dX6_roomOf_29 : decode cX6_roomOf 29 = .ok (.iconst (-1), 1) := by decide +kernel
theorem dX6_roomOf_30 : decode cX6_roomOf 30 = .ok (.if_icmp .ne 7, 3) := by decide +kernel
theorem dX6_roomOf_33 : decode cX6_roomOf 33 = .ok (.sipush 9999, 3) := by decide +kernel
theorem dX6_roomOf_36 : decode cX6_roomOf 36 = .ok (.ireturn, 1) := by decide +kernel
theorem dX6_roomOf_37 : decode cX6_roomOf 37 = .ok (.iload_n 2, 1) := by decide +kernel
theorem dX6_roomOf_38 : decode cX6_roomOf 38 = .ok (.aload_n 0, 1) := by decide +kernel
theorem dX6_roomOf_39 : decode cX6_roomOf 39 = .ok (.getfield 28, 3) := by decide +kernel
theorem dX6_roomOf_42 : decode cX6_roomOf 42 = .ok (.iload_n 1, 1) := by decide +kernel
theorem dX6_roomOf_43 : decode cX6_roomOf 43 = .ok (.iconst 0, 1) := by decide +kernel
theorem dX6_roomOf_44 : decode cX6_roomOf 44 = .ok (.invokestatic 98, 3) := by decide +kernel
theorem dX6_roomOf_47 : decode cX6_roomOf 47 = .ok (.invokevirtual 117, 3) := by decide +kernel
theorem dX6_roomOf_50 : decode cX6_roomOf 50 = .ok (.isub, 1) := by decide +kernel
theorem dX6_roomOf_51 : decode cX6_roomOf 51 = .ok (.istore_n 3, 1) := by decide +kernel
theorem dX6_roomOf_52 : decode cX6_roomOf 52 = .ok (.iload_n 3, 1) := by decide +kernel
theorem dX6_roomOf_53 : decode cX6_roomOf 53 = .ok (.sipush 9999, 3) := by decide +kernel
theorem dX6_roomOf_56 : decode cX6_roomOf 56 = .ok (.invokestatic 141, 3) := by decide +kernel
theorem dX6_roomOf_59 : decode cX6_roomOf 59 = .ok (.iconst 0, 1) := by decide +kernel
theorem dX6_roomOf_60 : decode cX6_roomOf 60 = .ok (.invokestatic 108, 3) := by decide +kernel
theorem dX6_roomOf_63 : decode cX6_roomOf 63 = .ok (.ireturn, 1) := by decide +kernel
set_option maxRecDepth 20000 in
theorem ggX6_openReason_X3_projectOf : GoodIn wsX6_openReason wsX3_projectOf := goodIn_r _ [6, 7, 8, 9, 5, 10, 11, 12, 13, 14, 15, 16, 17, 18, 19, 20, 21, 116, 117, 118, 119] (by decide +kernel) (by decide +kernel)
set_option maxRecDepth 20000 in
theorem gX6_openReason_X3_projectOf : GoodIn wsX6_openReason (wsV RX6 71 RX3 yX3_projectOf wsX3_projectOf) := goodIn_app (goodIn_of _ (by decide +kernel)) ggX6_openReason_X3_projectOf
set_option maxRecDepth 20000 in
theorem ggX6_openReason_X6_openSum : GoodIn wsX6_openReason wsX6_openSum := goodIn_r _ [26, 27, 28, 1, 29, 30, 31, 32, 33, 34, 35, 36, 37, 38, 39, 40, 41, 42, 5, 43, 7, 8, 9, 10, 11, 12, 13, 14, 15, 16, 17, 18, 19, 20, 21, 44, 45, 46, 47, 48, 49, 50, 51, 52, 110, 111, 112, 113, 114, 115, 120, 121, 122, 116, 117, 118, 119] (by decide +kernel) (by decide +kernel)
set_option maxRecDepth 20000 in
theorem gX6_openReason_X6_openSum : GoodIn wsX6_openReason (wsV RX6 144 RX6 yX6_openSum wsX6_openSum) := goodIn_app (goodIn_of _ (by decide +kernel)) ggX6_openReason_X6_openSum
set_option maxRecDepth 20000 in
theorem ggX6_openReason_X6_growthReason : GoodIn wsX6_openReason wsX6_growthReason := goodIn_r _ [56, 57, 58, 59, 25, 60, 61, 62, 63, 64, 65, 66, 67, 68, 69, 70, 71, 72, 73, 74, 75, 76, 77, 78, 79, 80, 81, 82, 83, 84, 85, 86, 87, 88, 89, 90, 91, 92, 93, 94, 95, 96, 97, 98, 99, 100, 101, 102, 103, 104, 105, 106, 107, 108, 109, 110, 111, 112, 113, 114, 115, 123, 124, 125, 126, 127, 128, 129, 130, 131] (by decide +kernel) (by decide +kernel)
set_option maxRecDepth 20000 in
theorem gX6_openReason_X6_growthReason : GoodIn wsX6_openReason (wsV RX6 147 RX6 yX6_growthReason wsX6_growthReason) := goodIn_app (goodIn_of _ (by decide +kernel)) ggX6_openReason_X6_growthReason
theorem dX6_openReason_0 : decode cX6_openReason 0 = .ok (.aload_n 0, 1) := by decide +kernel
theorem dX6_openReason_1 : decode cX6_openReason 1 = .ok (.getfield 12, 3) := by decide +kernel
theorem dX6_openReason_4 : decode cX6_openReason 4 = .ok (.iload_n 1, 1) := by decide +kernel
theorem dX6_openReason_5 : decode cX6_openReason 5 = .ok (.invokevirtual 71, 3) := by decide +kernel
theorem dX6_openReason_8 : decode cX6_openReason 8 = .ok (.iload_n 2, 1) := by decide +kernel
theorem dX6_openReason_9 : decode cX6_openReason 9 = .ok (.if_icmp .ne 5, 3) := by decide +kernel
theorem dX6_openReason_12 : decode cX6_openReason 12 = .ok (.iconst 0, 1) := by decide +kernel
theorem dX6_openReason_13 : decode cX6_openReason 13 = .ok (.ireturn, 1) := by decide +kernel
theorem dX6_openReason_14 : decode cX6_openReason 14 = .ok (.aload_n 0, 1) := by decide +kernel
theorem dX6_openReason_15 : decode cX6_openReason 15 = .ok (.iload_n 2, 1) := by decide +kernel
theorem dX6_openReason_16 : decode cX6_openReason 16 = .ok (.aload_n 0, 1) := by decide +kernel
theorem dX6_openReason_17 : decode cX6_openReason 17 = .ok (.iload_n 1, 1) := by decide +kernel
theorem dX6_openReason_18 : decode cX6_openReason 18 = .ok (.iconst 0, 1) := by decide +kernel
theorem dX6_openReason_19 : decode cX6_openReason 19 = .ok (.invokevirtual 144, 3) := by decide +kernel
theorem dX6_openReason_22 : decode cX6_openReason 22 = .ok (.aload_n 0, 1) := by decide +kernel
theorem dX6_openReason_23 : decode cX6_openReason 23 = .ok (.iload_n 1, 1) := by decide +kernel
theorem dX6_openReason_24 : decode cX6_openReason 24 = .ok (.iconst 1, 1) := by decide +kernel
theorem dX6_openReason_25 : decode cX6_openReason 25 = .ok (.invokevirtual 144, 3) := by decide +kernel
theorem dX6_openReason_28 : decode cX6_openReason 28 = .ok (.invokevirtual 147, 3) := by decide +kernel
theorem dX6_openReason_31 : decode cX6_openReason 31 = .ok (.ireturn, 1) := by decide +kernel
set_option maxRecDepth 20000 in
theorem ggX6_transferOpenPart_X3_projectOf : GoodIn wsX6_transferOpenPart wsX3_projectOf := goodIn_r _ [7, 8, 9, 10, 6, 11, 12, 13, 14, 15, 16, 17, 18, 19, 20, 21, 22, 89, 90, 91, 92] (by decide +kernel) (by decide +kernel)
set_option maxRecDepth 20000 in
theorem gX6_transferOpenPart_X3_projectOf : GoodIn wsX6_transferOpenPart (wsV RX6 71 RX3 yX3_projectOf wsX3_projectOf) := goodIn_app (goodIn_of _ (by decide +kernel)) ggX6_transferOpenPart_X3_projectOf
set_option maxRecDepth 20000 in
theorem ggX6_transferOpenPart_X6_openSum : GoodIn wsX6_transferOpenPart wsX6_openSum := goodIn_r _ [27, 28, 29, 1, 30, 31, 32, 33, 34, 35, 36, 37, 38, 39, 40, 41, 42, 43, 6, 44, 8, 9, 10, 11, 12, 13, 14, 15, 16, 17, 18, 19, 20, 21, 22, 45, 46, 47, 48, 49, 50, 51, 52, 53, 83, 84, 85, 86, 87, 88, 93, 94, 95, 89, 90, 91, 92] (by decide +kernel) (by decide +kernel)
set_option maxRecDepth 20000 in
theorem gX6_transferOpenPart_X6_openSum : GoodIn wsX6_transferOpenPart (wsV RX6 144 RX6 yX6_openSum wsX6_openSum) := goodIn_app (goodIn_of _ (by decide +kernel)) ggX6_transferOpenPart_X6_openSum
set_option maxRecDepth 20000 in
theorem ggX6_transferOpenPart_X0_transfer : GoodIn wsX6_transferOpenPart wsX0_transfer := goodIn_r _ [58, 59, 60, 61, 57, 62, 63, 64, 65, 66, 67, 68, 69, 70, 71, 72, 73, 74, 75, 76, 77, 78, 79, 80, 81, 82, 96, 97, 98, 99] (by decide +kernel) (by decide +kernel)
set_option maxRecDepth 20000 in
theorem gX6_transferOpenPart_X0_transfer : GoodIn wsX6_transferOpenPart (wsV RX6 151 RX0 yX0_transfer wsX0_transfer) := goodIn_app (goodIn_of _ (by decide +kernel)) ggX6_transferOpenPart_X0_transfer
theorem dX6_transferOpenPart_0 : decode cX6_transferOpenPart 0 = .ok (.aload_n 0, 1) := by decide +kernel
theorem dX6_transferOpenPart_1 : decode cX6_transferOpenPart 1 = .ok (.getfield 12, 3) := by decide +kernel
theorem dX6_transferOpenPart_4 : decode cX6_transferOpenPart 4 = .ok (.iload_n 1, 1) := by decide +kernel
theorem dX6_transferOpenPart_5 : decode cX6_transferOpenPart 5 = .ok (.invokevirtual 71, 3) := by decide +kernel
theorem dX6_transferOpenPart_8 : decode cX6_transferOpenPart 8 = .ok (.istore_n 3, 1) := by decide +kernel
theorem dX6_transferOpenPart_9 : decode cX6_transferOpenPart 9 = .ok (.iload_n 3, 1) := by decide +kernel
theorem dX6_transferOpenPart_10 : decode cX6_transferOpenPart 10 = .ok (.iload_n 2, 1) := by decide +kernel
theorem dX6_transferOpenPart_11 : decode cX6_transferOpenPart 11 = .ok (.if_icmp .ne 5, 3) := by decide +kernel
theorem dX6_transferOpenPart_14 : decode cX6_transferOpenPart 14 = .ok (.iconst 0, 1) := by decide +kernel
theorem dX6_transferOpenPart_15 : decode cX6_transferOpenPart 15 = .ok (.ireturn, 1) := by decide +kernel
theorem dX6_transferOpenPart_16 : decode cX6_transferOpenPart 16 = .ok (.aload_n 0, 1) := by decide +kernel
theorem dX6_transferOpenPart_17 : decode cX6_transferOpenPart 17 = .ok (.iload_n 1, 1) := by decide +kernel
theorem dX6_transferOpenPart_18 : decode cX6_transferOpenPart 18 = .ok (.iconst 1, 1) := by decide +kernel
theorem dX6_transferOpenPart_19 : decode cX6_transferOpenPart 19 = .ok (.invokevirtual 144, 3) := by decide +kernel
theorem dX6_transferOpenPart_22 : decode cX6_transferOpenPart 22 = .ok (.istore 4, 2) := by decide +kernel
theorem dX6_transferOpenPart_24 : decode cX6_transferOpenPart 24 = .ok (.aload_n 0, 1) := by decide +kernel
theorem dX6_transferOpenPart_25 : decode cX6_transferOpenPart 25 = .ok (.getfield 28, 3) := by decide +kernel
theorem dX6_transferOpenPart_28 : decode cX6_transferOpenPart 28 = .ok (.iload_n 3, 1) := by decide +kernel
theorem dX6_transferOpenPart_29 : decode cX6_transferOpenPart 29 = .ok (.iload_n 2, 1) := by decide +kernel
theorem dX6_transferOpenPart_30 : decode cX6_transferOpenPart 30 = .ok (.aload_n 0, 1) := by decide +kernel
theorem dX6_transferOpenPart_31 : decode cX6_transferOpenPart 31 = .ok (.iload_n 1, 1) := by decide +kernel
theorem dX6_transferOpenPart_32 : decode cX6_transferOpenPart 32 = .ok (.iconst 0, 1) := by decide +kernel
theorem dX6_transferOpenPart_33 : decode cX6_transferOpenPart 33 = .ok (.invokevirtual 144, 3) := by decide +kernel
theorem dX6_transferOpenPart_36 : decode cX6_transferOpenPart 36 = .ok (.iload 4, 2) := by decide +kernel
theorem dX6_transferOpenPart_38 : decode cX6_transferOpenPart 38 = .ok (.invokevirtual 151, 3) := by decide +kernel
theorem dX6_transferOpenPart_41 : decode cX6_transferOpenPart 41 = .ok (.iload 4, 2) := by decide +kernel
theorem dX6_transferOpenPart_43 : decode cX6_transferOpenPart 43 = .ok (.ireturn, 1) := by decide +kernel
set_option maxRecDepth 20000 in
theorem ggX6_correctAccounts_X7_accountOf : GoodIn wsX6_correctAccounts wsX7_accountOf := goodIn_r _ [4] (by decide +kernel) (by decide +kernel)
set_option maxRecDepth 20000 in
theorem gX6_correctAccounts_X7_accountOf_n98 : GoodIn wsX6_correctAccounts (wsX7_accountOf) := ggX6_correctAccounts_X7_accountOf
set_option maxRecDepth 20000 in
theorem ggX6_correctAccounts_X6_countAnew : GoodIn wsX6_correctAccounts wsX6_countAnew := goodIn_r _ [9, 10, 11, 12, 13, 14, 8, 15, 16, 17, 18, 19, 20, 21, 22, 23, 24, 25, 26, 27, 28, 29, 30, 31, 32, 33, 34, 35, 36, 37, 38, 39, 40, 41, 42, 43, 44, 45, 46, 47, 48, 49, 50, 51, 52, 53, 54, 55, 56, 67, 68, 69, 70, 71, 72, 73, 74, 75, 76, 77, 78, 79] (by decide +kernel) (by decide +kernel)
set_option maxRecDepth 20000 in
theorem gX6_correctAccounts_X6_countAnew : GoodIn wsX6_correctAccounts (wsV RX6 155 RX6 yX6_countAnew wsX6_countAnew) := goodIn_app (goodIn_of _ (by decide +kernel)) ggX6_correctAccounts_X6_countAnew
set_option maxRecDepth 20000 in
theorem ggX6_correctAccounts_X0_amountOf : GoodIn wsX6_correctAccounts wsX0_amountOf := goodIn_r _ [61, 62, 80, 81, 82, 83] (by decide +kernel) (by decide +kernel)
set_option maxRecDepth 20000 in
theorem gX6_correctAccounts_X0_amountOf : GoodIn wsX6_correctAccounts (wsV RX6 117 RX0 yX0_amountOf wsX0_amountOf) := goodIn_app (goodIn_of _ (by decide +kernel)) ggX6_correctAccounts_X0_amountOf
set_option maxRecDepth 20000 in
theorem ggX6_correctAccounts_X0_setAmount : GoodIn wsX6_correctAccounts wsX0_setAmount := goodIn_r _ [66, 62, 80, 81, 82, 83] (by decide +kernel) (by decide +kernel)
set_option maxRecDepth 20000 in
theorem gX6_correctAccounts_X0_setAmount : GoodIn wsX6_correctAccounts (wsV RX6 158 RX0 yX0_setAmount wsX0_setAmount) := goodIn_app (goodIn_of _ (by decide +kernel)) ggX6_correctAccounts_X0_setAmount
theorem dX6_correctAccounts_0 : decode cX6_correctAccounts 0 = .ok (.iconst 0, 1) := by decide +kernel
theorem dX6_correctAccounts_1 : decode cX6_correctAccounts 1 = .ok (.istore_n 1, 1) := by decide +kernel
theorem dX6_correctAccounts_2 : decode cX6_correctAccounts 2 = .ok (.iconst 0, 1) := by decide +kernel
theorem dX6_correctAccounts_3 : decode cX6_correctAccounts 3 = .ok (.istore_n 2, 1) := by decide +kernel
theorem dX6_correctAccounts_4 : decode cX6_correctAccounts 4 = .ok (.iload_n 2, 1) := by decide +kernel
theorem dX6_correctAccounts_5 : decode cX6_correctAccounts 5 = .ok (.bipush 8, 2) := by decide +kernel
theorem dX6_correctAccounts_7 : decode cX6_correctAccounts 7 = .ok (.if_icmp .ge 65, 3) := by decide +kernel
theorem dX6_correctAccounts_10 : decode cX6_correctAccounts 10 = .ok (.iconst 0, 1) := by decide +kernel
theorem dX6_correctAccounts_11 : decode cX6_correctAccounts 11 = .ok (.istore_n 3, 1) := by decide +kernel
theorem dX6_correctAccounts_12 : decode cX6_correctAccounts 12 = .ok (.iload_n 3, 1) := by decide +kernel
theorem dX6_correctAccounts_13 : decode cX6_correctAccounts 13 = .ok (.iconst 2, 1) := by decide +kernel
theorem dX6_correctAccounts_14 : decode cX6_correctAccounts 14 = .ok (.if_icmp .ge 52, 3) := by decide +kernel
theorem dX6_correctAccounts_17 : decode cX6_correctAccounts 17 = .ok (.iload_n 2, 1) := by decide +kernel
theorem dX6_correctAccounts_18 : decode cX6_correctAccounts 18 = .ok (.iload_n 3, 1) := by decide +kernel
theorem dX6_correctAccounts_19 : decode cX6_correctAccounts 19 = .ok (.invokestatic 98, 3) := by decide +kernel
theorem dX6_correctAccounts_22 : decode cX6_correctAccounts 22 = .ok (.istore 4, 2) := by decide +kernel
theorem dX6_correctAccounts_24 : decode cX6_correctAccounts 24 = .ok (.aload_n 0, 1) := by decide +kernel
theorem dX6_correctAccounts_25 : decode cX6_correctAccounts 25 = .ok (.iload_n 2, 1) := by decide +kernel
theorem dX6_correctAccounts_26 : decode cX6_correctAccounts 26 = .ok (.iload_n 3, 1) := by decide +kernel
theorem dX6_correctAccounts_27 : decode cX6_correctAccounts 27 = .ok (.invokevirtual 155, 3) := by decide +kernel
theorem dX6_correctAccounts_30 : decode cX6_correctAccounts 30 = .ok (.istore 5, 2) := by decide +kernel
theorem dX6_correctAccounts_32 : decode cX6_correctAccounts 32 = .ok (.aload_n 0, 1) := by decide +kernel
theorem dX6_correctAccounts_33 : decode cX6_correctAccounts 33 = .ok (.getfield 28, 3) := by decide +kernel
theorem dX6_correctAccounts_36 : decode cX6_correctAccounts 36 = .ok (.iload 4, 2) := by decide +kernel
theorem dX6_correctAccounts_38 : decode cX6_correctAccounts 38 = .ok (.invokevirtual 117, 3) := by decide +kernel
theorem dX6_correctAccounts_41 : decode cX6_correctAccounts 41 = .ok (.iload 5, 2) := by decide +kernel
theorem dX6_correctAccounts_43 : decode cX6_correctAccounts 43 = .ok (.if_icmp .eq 17, 3) := by decide +kernel
theorem dX6_correctAccounts_46 : decode cX6_correctAccounts 46 = .ok (.aload_n 0, 1) := by decide +kernel
theorem dX6_correctAccounts_47 : decode cX6_correctAccounts 47 = .ok (.getfield 28, 3) := by decide +kernel
theorem dX6_correctAccounts_50 : decode cX6_correctAccounts 50 = .ok (.iload 4, 2) := by decide +kernel
theorem dX6_correctAccounts_52 : decode cX6_correctAccounts 52 = .ok (.iload 5, 2) := by decide +kernel
theorem dX6_correctAccounts_54 : decode cX6_correctAccounts 54 = .ok (.invokevirtual 158, 3) := by decide +kernel
theorem dX6_correctAccounts_57 : decode cX6_correctAccounts 57 = .ok (.iinc 1 1, 3) := by decide +kernel
theorem dX6_correctAccounts_60 : decode cX6_correctAccounts 60 = .ok (.iinc 3 1, 3) := by decide +kernel
theorem dX6_correctAccounts_63 : decode cX6_correctAccounts 63 = .ok (.goto (-51), 3) := by decide +kernel
theorem dX6_correctAccounts_66 : decode cX6_correctAccounts 66 = .ok (.iinc 2 1, 3) := by decide +kernel
theorem dX6_correctAccounts_69 : decode cX6_correctAccounts 69 = .ok (.goto (-65), 3) := by decide +kernel
theorem dX6_correctAccounts_72 : decode cX6_correctAccounts 72 = .ok (.iload_n 1, 1) := by decide +kernel
theorem dX6_correctAccounts_73 : decode cX6_correctAccounts 73 = .ok (.ireturn, 1) := by decide +kernel
set_option maxRecDepth 20000 in
theorem ggX6_canGive_X6_effectiveLimit : GoodIn wsX6_canGive wsX6_effectiveLimit := goodIn_r _ [6, 1, 7, 8, 9, 10, 11, 12, 13, 14, 15, 16, 17, 18, 19, 20, 21, 22, 23, 24, 25, 26, 27, 28, 29, 30, 36, 37, 38, 39, 40, 41, 42, 43, 44, 45, 46, 47, 48, 49, 50] (by decide +kernel) (by decide +kernel)
set_option maxRecDepth 20000 in
theorem gX6_canGive_X6_effectiveLimit : GoodIn wsX6_canGive (wsV RX6 113 RX6 yX6_effectiveLimit wsX6_effectiveLimit) := goodIn_app (goodIn_of _ (by decide +kernel)) ggX6_canGive_X6_effectiveLimit
set_option maxRecDepth 20000 in
theorem ggX6_canGive_X7_accountOf : GoodIn wsX6_canGive wsX7_accountOf := goodIn_r _ [14] (by decide +kernel) (by decide +kernel)
set_option maxRecDepth 20000 in
theorem gX6_canGive_X7_accountOf_n98 : GoodIn wsX6_canGive (wsX7_accountOf) := ggX6_canGive_X7_accountOf
set_option maxRecDepth 20000 in
theorem ggX6_canGive_X0_amountOf : GoodIn wsX6_canGive wsX0_amountOf := goodIn_r _ [34, 35, 42, 43, 44, 45] (by decide +kernel) (by decide +kernel)
set_option maxRecDepth 20000 in
theorem gX6_canGive_X0_amountOf : GoodIn wsX6_canGive (wsV RX6 117 RX0 yX0_amountOf wsX0_amountOf) := goodIn_app (goodIn_of _ (by decide +kernel)) ggX6_canGive_X0_amountOf
theorem dX6_canGive_0 : decode cX6_canGive 0 = .ok (.aload_n 0, 1) := by decide +kernel
theorem dX6_canGive_1 : decode cX6_canGive 1 = .ok (.iload_n 1, 1) := by decide +kernel
theorem dX6_canGive_2 : decode cX6_canGive 2 = .ok (.iconst 0, 1) := by decide +kernel
theorem dX6_canGive_3 : decode cX6_canGive 3 = .ok (.iconst 1, 1) := by decide +kernel
theorem dX6_canGive_4 : decode cX6_canGive 4 = .ok (.invokevirtual 113, 3) := by decide +kernel
theorem dX6_canGive_7 : decode cX6_canGive 7 = .ok (.istore 4, 2) := by decide +kernel
theorem dX6_canGive_9 : decode cX6_canGive 9 = .ok (.iload 4, 2) := by decide +kernel
theorem dX6_canGive_11 : decode cX6_canGive 11 = .ok (.iconst (-1), 1) := by decide +kernel
theorem dX6_canGive_12 : decode cX6_canGive 12 = .ok (.if_icmp .eq 37, 3) := by decide +kernel
theorem dX6_canGive_15 : decode cX6_canGive 15 = .ok (.aload_n 0, 1) := by decide +kernel
theorem dX6_canGive_16 : decode cX6_canGive 16 = .ok (.iload_n 2, 1) := by decide +kernel
theorem dX6_canGive_17 : decode cX6_canGive 17 = .ok (.iconst 0, 1) := by decide +kernel
theorem dX6_canGive_18 : decode cX6_canGive 18 = .ok (.iconst 1, 1) := by decide +kernel
theorem dX6_canGive_19 : decode cX6_canGive 19 = .ok (.invokevirtual 113, 3) := by decide +kernel
theorem dX6_canGive_22 : decode cX6_canGive 22 = .ok (.iconst (-1), 1) := by decide +kernel
theorem dX6_canGive_23 : decode cX6_canGive 23 = .ok (.if_icmp .eq 26, 3) := by decide +kernel
theorem dX6_canGive_26 : decode cX6_canGive 26 = .ok (.iload_n 3, 1) := by decide +kernel
theorem dX6_canGive_27 : decode cX6_canGive 27 = .ok (.iload 4, 2) := by decide +kernel
theorem dX6_canGive_29 : decode cX6_canGive 29 = .ok (.aload_n 0, 1) := by decide +kernel
theorem dX6_canGive_30 : decode cX6_canGive 30 = .ok (.getfield 28, 3) := by decide +kernel
theorem dX6_canGive_33 : decode cX6_canGive 33 = .ok (.iload_n 1, 1) := by decide +kernel
theorem dX6_canGive_34 : decode cX6_canGive 34 = .ok (.iconst 0, 1) := by decide +kernel
theorem dX6_canGive_35 : decode cX6_canGive 35 = .ok (.invokestatic 98, 3) := by decide +kernel
theorem dX6_canGive_38 : decode cX6_canGive 38 = .ok (.invokevirtual 117, 3) := by decide +kernel
theorem dX6_canGive_41 : decode cX6_canGive 41 = .ok (.isub, 1) := by decide +kernel
theorem dX6_canGive_42 : decode cX6_canGive 42 = .ok (.if_icmp .gt 7, 3) := by decide +kernel
theorem dX6_canGive_45 : decode cX6_canGive 45 = .ok (.iconst 1, 1) := by decide +kernel
theorem dX6_canGive_46 : decode cX6_canGive 46 = .ok (.goto 4, 3) := by decide +kernel
theorem dX6_canGive_49 : decode cX6_canGive 49 = .ok (.iconst 0, 1) := by decide +kernel
theorem dX6_canGive_50 : decode cX6_canGive 50 = .ok (.ireturn, 1) := by decide +kernel
set_option maxRecDepth 20000 in
theorem ggX6_firstGraceEnd_X6_graceEnd : GoodIn wsX6_firstGraceEnd wsX6_graceEnd := goodIn_r _ [5, 6, 7, 8, 9, 10, 11, 12, 13, 14, 15, 16, 26, 27, 28, 29, 30, 31, 32, 33, 34, 35] (by decide +kernel) (by decide +kernel)
set_option maxRecDepth 20000 in
theorem gX6_firstGraceEnd_X6_graceEnd : GoodIn wsX6_firstGraceEnd (wsV RX6 123 RX6 yX6_graceEnd wsX6_graceEnd) := goodIn_app (goodIn_of _ (by decide +kernel)) ggX6_firstGraceEnd_X6_graceEnd
set_option maxRecDepth 20000 in
theorem ggX6_firstGraceEnd_X6_earlierEvent : GoodIn wsX6_firstGraceEnd wsX6_earlierEvent := goodIn_r _ [20, 21, 22, 23, 24, 25, 26, 27, 28, 29, 30, 31] (by decide +kernel) (by decide +kernel)
set_option maxRecDepth 20000 in
theorem gX6_firstGraceEnd_X6_earlierEvent : GoodIn wsX6_firstGraceEnd (wsV RX6 161 RX6 yX6_earlierEvent wsX6_earlierEvent) := goodIn_app (goodIn_of _ (by decide +kernel)) ggX6_firstGraceEnd_X6_earlierEvent
theorem dX6_firstGraceEnd_0 : decode cX6_firstGraceEnd 0 = .ok (.iconst (-1), 1) := by decide +kernel
theorem dX6_firstGraceEnd_1 : decode cX6_firstGraceEnd 1 = .ok (.istore_n 1, 1) := by decide +kernel
theorem dX6_firstGraceEnd_2 : decode cX6_firstGraceEnd 2 = .ok (.iconst 0, 1) := by decide +kernel
theorem dX6_firstGraceEnd_3 : decode cX6_firstGraceEnd 3 = .ok (.istore_n 2, 1) := by decide +kernel
theorem dX6_firstGraceEnd_4 : decode cX6_firstGraceEnd 4 = .ok (.iload_n 2, 1) := by decide +kernel
theorem dX6_firstGraceEnd_5 : decode cX6_firstGraceEnd 5 = .ok (.bipush 8, 2) := by decide +kernel
theorem dX6_firstGraceEnd_7 : decode cX6_firstGraceEnd 7 = .ok (.if_icmp .ge 34, 3) := by decide +kernel
theorem dX6_firstGraceEnd_10 : decode cX6_firstGraceEnd 10 = .ok (.iconst 0, 1) := by decide +kernel
theorem dX6_firstGraceEnd_11 : decode cX6_firstGraceEnd 11 = .ok (.istore_n 3, 1) := by decide +kernel
theorem dX6_firstGraceEnd_12 : decode cX6_firstGraceEnd 12 = .ok (.iload_n 3, 1) := by decide +kernel
theorem dX6_firstGraceEnd_13 : decode cX6_firstGraceEnd 13 = .ok (.iconst 2, 1) := by decide +kernel
theorem dX6_firstGraceEnd_14 : decode cX6_firstGraceEnd 14 = .ok (.if_icmp .ge 21, 3) := by decide +kernel
theorem dX6_firstGraceEnd_17 : decode cX6_firstGraceEnd 17 = .ok (.aload_n 0, 1) := by decide +kernel
theorem dX6_firstGraceEnd_18 : decode cX6_firstGraceEnd 18 = .ok (.iload_n 1, 1) := by decide +kernel
theorem dX6_firstGraceEnd_19 : decode cX6_firstGraceEnd 19 = .ok (.aload_n 0, 1) := by decide +kernel
theorem dX6_firstGraceEnd_20 : decode cX6_firstGraceEnd 20 = .ok (.iload_n 2, 1) := by decide +kernel
theorem dX6_firstGraceEnd_21 : decode cX6_firstGraceEnd 21 = .ok (.iload_n 3, 1) := by decide +kernel
theorem dX6_firstGraceEnd_22 : decode cX6_firstGraceEnd 22 = .ok (.invokevirtual 123, 3) := by decide +kernel
theorem dX6_firstGraceEnd_25 : decode cX6_firstGraceEnd 25 = .ok (.invokevirtual 161, 3) := by decide +kernel
theorem dX6_firstGraceEnd_28 : decode cX6_firstGraceEnd 28 = .ok (.istore_n 1, 1) := by decide +kernel
theorem dX6_firstGraceEnd_29 : decode cX6_firstGraceEnd 29 = .ok (.iinc 3 1, 3) := by decide +kernel
theorem dX6_firstGraceEnd_32 : decode cX6_firstGraceEnd 32 = .ok (.goto (-20), 3) := by decide +kernel
theorem dX6_firstGraceEnd_35 : decode cX6_firstGraceEnd 35 = .ok (.iinc 2 1, 3) := by decide +kernel
theorem dX6_firstGraceEnd_38 : decode cX6_firstGraceEnd 38 = .ok (.goto (-34), 3) := by decide +kernel
theorem dX6_firstGraceEnd_41 : decode cX6_firstGraceEnd 41 = .ok (.iload_n 1, 1) := by decide +kernel
theorem dX6_firstGraceEnd_42 : decode cX6_firstGraceEnd 42 = .ok (.ireturn, 1) := by decide +kernel
theorem dX6_earlierEvent_0 : decode cX6_earlierEvent 0 = .ok (.iload_n 1, 1) := by decide +kernel
theorem dX6_earlierEvent_1 : decode cX6_earlierEvent 1 = .ok (.aload_n 0, 1) := by decide +kernel
theorem dX6_earlierEvent_2 : decode cX6_earlierEvent 2 = .ok (.getfield 51, 3) := by decide +kernel
theorem dX6_earlierEvent_5 : decode cX6_earlierEvent 5 = .ok (.if_icmp .gt 17, 3) := by decide +kernel
theorem dX6_earlierEvent_8 : decode cX6_earlierEvent 8 = .ok (.iload_n 2, 1) := by decide +kernel
theorem dX6_earlierEvent_9 : decode cX6_earlierEvent 9 = .ok (.aload_n 0, 1) := by decide +kernel
theorem dX6_earlierEvent_10 : decode cX6_earlierEvent 10 = .ok (.getfield 51, 3) := by decide +kernel
theorem dX6_earlierEvent_13 : decode cX6_earlierEvent 13 = .ok (.if_icmp .le 7, 3) := by decide +kernel
theorem dX6_earlierEvent_16 : decode cX6_earlierEvent 16 = .ok (.iload_n 2, 1) := by decide +kernel
theorem dX6_earlierEvent_17 : decode cX6_earlierEvent 17 = .ok (.goto 4, 3) := by decide +kernel
theorem dX6_earlierEvent_20 : decode cX6_earlierEvent 20 = .ok (.iconst (-1), 1) := by decide +kernel
theorem dX6_earlierEvent_21 : decode cX6_earlierEvent 21 = .ok (.ireturn, 1) := by decide +kernel
theorem dX6_earlierEvent_22 : decode cX6_earlierEvent 22 = .ok (.iload_n 2, 1) := by decide +kernel
theorem dX6_earlierEvent_23 : decode cX6_earlierEvent 23 = .ok (.aload_n 0, 1) := by decide +kernel
theorem dX6_earlierEvent_24 : decode cX6_earlierEvent 24 = .ok (.getfield 51, 3) := by decide +kernel
theorem dX6_earlierEvent_27 : decode cX6_earlierEvent 27 = .ok (.if_icmp .le 11, 3) := by decide +kernel
theorem dX6_earlierEvent_30 : decode cX6_earlierEvent 30 = .ok (.iload_n 1, 1) := by decide +kernel
theorem dX6_earlierEvent_31 : decode cX6_earlierEvent 31 = .ok (.iload_n 2, 1) := by decide +kernel
theorem dX6_earlierEvent_32 : decode cX6_earlierEvent 32 = .ok (.invokestatic 141, 3) := by decide +kernel
theorem dX6_earlierEvent_35 : decode cX6_earlierEvent 35 = .ok (.goto 4, 3) := by decide +kernel
theorem dX6_earlierEvent_38 : decode cX6_earlierEvent 38 = .ok (.iload_n 1, 1) := by decide +kernel
theorem dX6_earlierEvent_39 : decode cX6_earlierEvent 39 = .ok (.ireturn, 1) := by decide +kernel
set_option maxRecDepth 20000 in
theorem ggX7_init_X6_init : GoodIn wsX7_init wsX6_init := goodIn_r _ [19, 20, 2, 3, 21, 22, 23, 24, 25, 26, 27, 28, 29, 30, 31, 32, 33, 34, 35, 36, 37, 38, 39, 40, 41, 42, 43, 44, 45, 46, 47, 48, 49, 50, 51, 52, 53, 54, 55, 56, 57, 58, 59, 60, 61, 62, 63, 64, 65, 66, 67, 68, 69, 70, 71, 72, 73, 74, 75, 76, 112, 113, 114, 115, 90, 91, 92, 93, 94, 95, 116, 117, 118, 119, 120, 121, 122, 123, 124, 125, 126, 127] (by decide +kernel) (by decide +kernel)
set_option maxRecDepth 20000 in
theorem gX7_init_X6_init_n11 : GoodIn wsX7_init (wsX6_init) := ggX7_init_X6_init
set_option maxRecDepth 20000 in
theorem ggX7_init_X1_init : GoodIn wsX7_init wsX1_init := goodIn_r _ [78, 79, 2, 3, 80, 81, 103, 104] (by decide +kernel) (by decide +kernel)
set_option maxRecDepth 20000 in
theorem gX7_init_X1_init_n22 : GoodIn wsX7_init (wsX1_init) := ggX7_init_X1_init
set_option maxRecDepth 20000 in
theorem ggX7_init_X5_init : GoodIn wsX7_init wsX5_init := goodIn_r _ [84, 85, 2, 3, 86, 5, 6, 87, 88, 89, 18, 19, 20, 21, 22, 23, 24, 25, 26, 27, 28, 29, 30, 31, 32, 33, 34, 35, 36, 37, 38, 39, 40, 41, 42, 43, 44, 45, 46, 47, 48, 49, 50, 51, 52, 53, 54, 55, 56, 57, 58, 59, 60, 61, 62, 63, 64, 65, 66, 67, 68, 69, 70, 71, 72, 73, 74, 75, 76, 90, 91, 92, 93, 94, 95, 105, 106, 107, 108, 109, 110, 111, 103, 104, 112, 113, 114, 115, 116, 117, 118, 119, 120, 121, 122, 123, 124, 125, 126, 127] (by decide +kernel) (by decide +kernel)
set_option maxRecDepth 20000 in
theorem gX7_init_X5_init : GoodIn wsX7_init (wsX5_init) := ggX7_init_X5_init
theorem dX7_init_0 : decode cX7_init 0 = .ok (.aload_n 0, 1) := by decide +kernel
theorem dX7_init_1 : decode cX7_init 1 = .ok (.invokespecial 3, 3) := by decide +kernel
theorem dX7_init_4 : decode cX7_init 4 = .ok (.aload_n 0, 1) := by decide +kernel
theorem dX7_init_5 : decode cX7_init 5 = .ok (.new 9, 3) := by decide +kernel
theorem dX7_init_8 : decode cX7_init 8 = .ok (.dup, 1) := by decide +kernel
theorem dX7_init_9 : decode cX7_init 9 = .ok (.invokespecial 11, 3) := by decide +kernel
theorem dX7_init_12 : decode cX7_init 12 = .ok (.putfield 12, 3) := by decide +kernel
theorem dX7_init_15 : decode cX7_init 15 = .ok (.aload_n 0, 1) := by decide +kernel
theorem dX7_init_16 : decode cX7_init 16 = .ok (.bipush 8, 2) := by decide +kernel
theorem dX7_init_18 : decode cX7_init 18 = .ok (.anewarray 9, 3) := by decide +kernel
theorem dX7_init_21 : decode cX7_init 21 = .ok (.putfield 16, 3) := by decide +kernel
theorem dX7_init_24 : decode cX7_init 24 = .ok (.aload_n 0, 1) := by decide +kernel
theorem dX7_init_25 : decode cX7_init 25 = .ok (.new 20, 3) := by decide +kernel
theorem dX7_init_28 : decode cX7_init 28 = .ok (.dup, 1) := by decide +kernel
theorem dX7_init_29 : decode cX7_init 29 = .ok (.invokespecial 22, 3) := by decide +kernel
theorem dX7_init_32 : decode cX7_init 32 = .ok (.putfield 23, 3) := by decide +kernel
theorem dX7_init_35 : decode cX7_init 35 = .ok (.aload_n 0, 1) := by decide +kernel
theorem dX7_init_36 : decode cX7_init 36 = .ok (.new 20, 3) := by decide +kernel
theorem dX7_init_39 : decode cX7_init 39 = .ok (.dup, 1) := by decide +kernel
theorem dX7_init_40 : decode cX7_init 40 = .ok (.invokespecial 22, 3) := by decide +kernel
theorem dX7_init_43 : decode cX7_init 43 = .ok (.putfield 27, 3) := by decide +kernel
theorem dX7_init_46 : decode cX7_init 46 = .ok (.aload_n 0, 1) := by decide +kernel
theorem dX7_init_47 : decode cX7_init 47 = .ok (.new 30, 3) := by decide +kernel
theorem dX7_init_50 : decode cX7_init 50 = .ok (.dup, 1) := by decide +kernel
theorem dX7_init_51 : decode cX7_init 51 = .ok (.aload_n 0, 1) := by decide +kernel
theorem dX7_init_52 : decode cX7_init 52 = .ok (.getfield 23, 3) := by decide +kernel
theorem dX7_init_55 : decode cX7_init 55 = .ok (.invokespecial 32, 3) := by decide +kernel
theorem dX7_init_58 : decode cX7_init 58 = .ok (.putfield 35, 3) := by decide +kernel
theorem dX7_init_61 : decode cX7_init 61 = .ok (.iconst 0, 1) := by decide +kernel
theorem dX7_init_62 : decode cX7_init 62 = .ok (.istore_n 1, 1) := by decide +kernel
theorem dX7_init_63 : decode cX7_init 63 = .ok (.iload_n 1, 1) := by decide +kernel
theorem dX7_init_64 : decode cX7_init 64 = .ok (.bipush 8, 2) := by decide +kernel
theorem dX7_init_66 : decode cX7_init 66 = .ok (.if_icmp .ge 22, 3) := by decide +kernel
theorem dX7_init_69 : decode cX7_init 69 = .ok (.aload_n 0, 1) := by decide +kernel
theorem dX7_init_70 : decode cX7_init 70 = .ok (.getfield 16, 3) := by decide +kernel
theorem dX7_init_73 : decode cX7_init 73 = .ok (.iload_n 1, 1) := by decide +kernel
theorem dX7_init_74 : decode cX7_init 74 = .ok (.new 9, 3) := by decide +kernel
theorem dX7_init_77 : decode cX7_init 77 = .ok (.dup, 1) := by decide +kernel
theorem dX7_init_78 : decode cX7_init 78 = .ok (.invokespecial 11, 3) := by decide +kernel
theorem dX7_init_81 : decode cX7_init 81 = .ok (.aastore, 1) := by decide +kernel
theorem dX7_init_82 : decode cX7_init 82 = .ok (.iinc 1 1, 3) := by decide +kernel
theorem dX7_init_85 : decode cX7_init 85 = .ok (.goto (-22), 3) := by decide +kernel
theorem dX7_init_88 : decode cX7_init 88 = .ok (.return_, 1) := by decide +kernel
set_option maxRecDepth 20000 in
theorem ggX7_append_X1_putFour : GoodIn wsX7_append wsX1_putFour := goodIn_r _ [9, 10, 11, 12, 8, 13, 14, 15, 23, 24] (by decide +kernel) (by decide +kernel)
set_option maxRecDepth 20000 in
theorem gX7_append_X1_putFour : GoodIn wsX7_append (wsV RX7 50 RX1 yX1_putFour wsX1_putFour) := goodIn_app (goodIn_of _ (by decide +kernel)) ggX7_append_X1_putFour
theorem dX7_append_0 : decode cX7_append 0 = .ok (.aload_n 0, 1) := by decide +kernel
theorem dX7_append_1 : decode cX7_append 1 = .ok (.getfield 23, 3) := by decide +kernel
theorem dX7_append_4 : decode cX7_append 4 = .ok (.getfield 39, 3) := by decide +kernel
theorem dX7_append_7 : decode cX7_append 7 = .ok (.sipush 880, 3) := by decide +kernel
theorem dX7_append_10 : decode cX7_append 10 = .ok (.if_icmp .le 13, 3) := by decide +kernel
theorem dX7_append_13 : decode cX7_append 13 = .ok (.new 43, 3) := by decide +kernel
theorem dX7_append_16 : decode cX7_append 16 = .ok (.dup, 1) := by decide +kernel
theorem dX7_append_17 : decode cX7_append 17 = .ok (.ldc 45, 2) := by decide +kernel
theorem dX7_append_19 : decode cX7_append 19 = .ok (.invokespecial 47, 3) := by decide +kernel
theorem dX7_append_22 : decode cX7_append 22 = .ok (.athrow, 1) := by decide +kernel
theorem dX7_append_23 : decode cX7_append 23 = .ok (.aload_n 0, 1) := by decide +kernel
theorem dX7_append_24 : decode cX7_append 24 = .ok (.getfield 23, 3) := by decide +kernel
theorem dX7_append_27 : decode cX7_append 27 = .ok (.iload_n 1, 1) := by decide +kernel
theorem dX7_append_28 : decode cX7_append 28 = .ok (.invokevirtual 50, 3) := by decide +kernel
theorem dX7_append_31 : decode cX7_append 31 = .ok (.aload_n 0, 1) := by decide +kernel
theorem dX7_append_32 : decode cX7_append 32 = .ok (.getfield 23, 3) := by decide +kernel
theorem dX7_append_35 : decode cX7_append 35 = .ok (.iload_n 2, 1) := by decide +kernel
theorem dX7_append_36 : decode cX7_append 36 = .ok (.invokevirtual 50, 3) := by decide +kernel
theorem dX7_append_39 : decode cX7_append 39 = .ok (.aload_n 0, 1) := by decide +kernel
theorem dX7_append_40 : decode cX7_append 40 = .ok (.getfield 23, 3) := by decide +kernel
theorem dX7_append_43 : decode cX7_append 43 = .ok (.iload_n 3, 1) := by decide +kernel
theorem dX7_append_44 : decode cX7_append 44 = .ok (.invokevirtual 50, 3) := by decide +kernel
theorem dX7_append_47 : decode cX7_append 47 = .ok (.aload_n 0, 1) := by decide +kernel
theorem dX7_append_48 : decode cX7_append 48 = .ok (.getfield 23, 3) := by decide +kernel
theorem dX7_append_51 : decode cX7_append 51 = .ok (.iload 4, 2) := by decide +kernel
theorem dX7_append_53 : decode cX7_append 53 = .ok (.invokevirtual 50, 3) := by decide +kernel
theorem dX7_append_56 : decode cX7_append 56 = .ok (.aload_n 0, 1) := by decide +kernel
theorem dX7_append_57 : decode cX7_append 57 = .ok (.getfield 23, 3) := by decide +kernel
theorem dX7_append_60 : decode cX7_append 60 = .ok (.iload 5, 2) := by decide +kernel
theorem dX7_append_62 : decode cX7_append 62 = .ok (.invokevirtual 50, 3) := by decide +kernel
theorem dX7_append_65 : decode cX7_append 65 = .ok (.aload_n 0, 1) := by decide +kernel
theorem dX7_append_66 : decode cX7_append 66 = .ok (.getfield 23, 3) := by decide +kernel
theorem dX7_append_69 : decode cX7_append 69 = .ok (.getfield 39, 3) := by decide +kernel
theorem dX7_append_72 : decode cX7_append 72 = .ok (.ireturn, 1) := by decide +kernel
set_option maxRecDepth 20000 in
theorem ggX7_load_X7_needRange : GoodIn wsX7_load wsX7_needRange := goodIn_ca (goodIn_r _ [12, 13, 14] (by decide +kernel) (by decide +kernel)) (goodIn_sub (fun _ h => List.mem_cons_of_mem _ (List.mem_append_right _ h)) (by decide +kernel))
set_option maxRecDepth 20000 in
theorem gX7_load_X7_needRange : GoodIn wsX7_load (va_wsS RX7 54 yX7_needRange wsX7_needRange) := goodIn_app (goodIn_of _ (by decide +kernel)) ggX7_load_X7_needRange
set_option maxRecDepth 20000 in
theorem ggX7_load_X5_readTree : GoodIn wsX7_load wsX5_readTree := goodIn_r _ [19, 20, 21, 22, 23, 24, 25, 26, 27, 28, 29, 30, 31, 32, 33, 34, 35, 36, 37, 38, 39, 40, 41, 42, 43, 44, 45, 46, 47, 48, 49, 50, 51, 52, 53, 54, 55, 56, 57, 58, 59, 60, 61, 62, 63, 64, 18, 65, 66, 67, 68, 69, 70, 71, 72, 73, 74, 75, 76, 77, 78, 79, 80, 81, 82, 83, 84, 85, 86, 87, 88, 89, 90, 91, 92, 93, 94, 95, 96, 97, 98, 99, 100, 11, 101, 102, 103, 104, 105, 106, 107, 108, 109, 110, 111, 112, 113, 114, 115, 116, 117, 118, 119, 120, 121, 122, 123, 124, 125, 126, 127, 128, 129, 130, 131, 132, 133, 134, 135, 136, 137, 138, 139, 140, 141, 142, 143, 144, 145, 146, 147, 148, 149, 150, 151, 152, 153, 154, 155, 156, 157, 158, 159, 160, 161, 295, 296, 297, 298, 299, 300, 301, 302, 303, 304, 305, 306, 307, 308, 309, 310, 311, 312, 313, 314, 315, 316, 317, 318, 319, 320, 321, 322, 323] (by decide +kernel) (by decide +kernel)
set_option maxRecDepth 20000 in
theorem gX7_load_X5_readTree : GoodIn wsX7_load (wsV RX7 58 RX5 yX5_readTree wsX5_readTree) := goodIn_app (goodIn_of _ (by decide +kernel)) ggX7_load_X5_readTree
set_option maxRecDepth 20000 in
theorem ggX7_load_X7_remember : GoodIn wsX7_load wsX7_remember := goodIn_r _ [165, 166, 167, 5, 168, 169, 22, 23, 24, 170, 171, 172, 173, 174, 175, 176, 33, 177, 35, 36, 38, 39, 41, 42, 178, 179, 180, 46, 181, 48, 182, 183, 184, 185, 49, 51, 52, 186, 187, 188, 148, 189, 155, 190, 156, 150, 191, 192, 193, 56, 194, 58, 195, 59, 60, 61, 196, 197, 198, 199, 200, 201, 202, 203, 204, 205, 206, 286, 287, 288, 289, 290, 291, 292, 302, 303, 304, 305, 306, 307, 316, 317, 318, 319, 308, 309, 310, 320, 321, 322, 323, 311, 312, 313, 314, 315] (by decide +kernel) (by decide +kernel)
set_option maxRecDepth 20000 in
theorem gX7_load_X7_remember : GoodIn wsX7_load (wsV RX7 64 RX7 yX7_remember wsX7_remember) := goodIn_app (goodIn_of _ (by decide +kernel)) ggX7_load_X7_remember
set_option maxRecDepth 20000 in
theorem ggX7_load_X6_copyFrom : GoodIn wsX7_load wsX6_copyFrom := goodIn_r _ [177, 35, 36, 38, 39, 41, 42, 178, 179, 180, 46, 181, 48, 182, 183, 184, 185, 49, 51, 52, 186, 187, 188, 148, 189, 155, 190, 156, 150, 191, 192, 193, 56, 194, 58, 195, 59, 60, 61, 196, 197, 198, 199, 200, 201, 202, 203, 204, 205, 206, 302, 303, 304, 305, 306, 307, 316, 317, 318, 319, 308, 309, 310, 320, 321, 322, 323, 311, 312, 313, 314, 315] (by decide +kernel) (by decide +kernel)
set_option maxRecDepth 20000 in
theorem gX7_load_X6_copyFrom : GoodIn wsX7_load (wsV RX7 70 RX6 yX6_copyFrom wsX6_copyFrom) := goodIn_app (goodIn_of _ (by decide +kernel)) ggX7_load_X6_copyFrom
set_option maxRecDepth 20000 in
theorem ggX7_load_X6_correctAccounts : GoodIn wsX7_load wsX6_correctAccounts := goodIn_r _ [210, 38, 100, 11, 101, 211, 212, 213, 33, 214, 36, 37, 215, 216, 217, 218, 35, 219, 220, 221, 148, 222, 155, 223, 224, 225, 226, 150, 227, 228, 229, 46, 230, 231, 232, 233, 234, 51, 136, 137, 138, 139, 52, 235, 236, 237, 238, 48, 239, 240, 241, 242, 243, 244, 245, 246, 156, 247, 248, 249, 56, 250, 58, 251, 252, 253, 254, 302, 303, 304, 305, 306, 307, 308, 309, 310, 316, 317, 318, 319, 320, 321, 322, 323] (by decide +kernel) (by decide +kernel)
set_option maxRecDepth 20000 in
theorem gX7_load_X6_correctAccounts : GoodIn wsX7_load (wsV RX7 74 RX6 yX6_correctAccounts wsX6_correctAccounts) := goodIn_app (goodIn_of _ (by decide +kernel)) ggX7_load_X6_correctAccounts
set_option maxRecDepth 20000 in
theorem ggX7_load_X6_setClocks : GoodIn wsX7_load wsX6_setClocks := goodIn_r _ [258, 38, 41, 100, 11, 101, 259, 260, 261, 33, 262, 263, 264, 265, 266, 39, 267, 268, 23, 269, 270, 271, 272, 56, 273, 60, 59, 274, 275, 276, 199, 277, 206, 203, 204, 201, 247, 248, 249, 250, 58, 278, 279, 280, 281, 61, 282, 283, 284, 285, 302, 303, 304, 305, 306, 307, 320, 321, 322, 323, 311, 312, 313, 314, 315] (by decide +kernel) (by decide +kernel)
set_option maxRecDepth 20000 in
theorem gX7_load_X6_setClocks : GoodIn wsX7_load (wsV RX7 78 RX6 yX6_setClocks wsX6_setClocks) := goodIn_app (goodIn_of _ (by decide +kernel)) ggX7_load_X6_setClocks
theorem dX7_load_0 : decode cX7_load 0 = .ok (.iload_n 1, 1) := by decide +kernel
theorem dX7_load_1 : decode cX7_load 1 = .ok (.iconst 0, 1) := by decide +kernel
theorem dX7_load_2 : decode cX7_load 2 = .ok (.aload_n 0, 1) := by decide +kernel
theorem dX7_load_3 : decode cX7_load 3 = .ok (.getfield 23, 3) := by decide +kernel
theorem dX7_load_6 : decode cX7_load 6 = .ok (.getfield 39, 3) := by decide +kernel
theorem dX7_load_9 : decode cX7_load 9 = .ok (.invokestatic 54, 3) := by decide +kernel
theorem dX7_load_12 : decode cX7_load 12 = .ok (.aload_n 0, 1) := by decide +kernel
theorem dX7_load_13 : decode cX7_load 13 = .ok (.getfield 35, 3) := by decide +kernel
theorem dX7_load_16 : decode cX7_load 16 = .ok (.iload_n 1, 1) := by decide +kernel
theorem dX7_load_17 : decode cX7_load 17 = .ok (.invokevirtual 58, 3) := by decide +kernel
theorem dX7_load_20 : decode cX7_load 20 = .ok (.aload_n 0, 1) := by decide +kernel
theorem dX7_load_21 : decode cX7_load 21 = .ok (.getfield 23, 3) := by decide +kernel
theorem dX7_load_24 : decode cX7_load 24 = .ok (.iconst 0, 1) := by decide +kernel
theorem dX7_load_25 : decode cX7_load 25 = .ok (.putfield 39, 3) := by decide +kernel
theorem dX7_load_28 : decode cX7_load 28 = .ok (.aload_n 0, 1) := by decide +kernel
theorem dX7_load_29 : decode cX7_load 29 = .ok (.getfield 35, 3) := by decide +kernel
theorem dX7_load_32 : decode cX7_load 32 = .ok (.getfield 61, 3) := by decide +kernel
theorem dX7_load_35 : decode cX7_load 35 = .ok (.ifCond .eq 11, 3) := by decide +kernel
theorem dX7_load_38 : decode cX7_load 38 = .ok (.aload_n 0, 1) := by decide +kernel
theorem dX7_load_39 : decode cX7_load 39 = .ok (.getfield 35, 3) := by decide +kernel
theorem dX7_load_42 : decode cX7_load 42 = .ok (.getfield 61, 3) := by decide +kernel
theorem dX7_load_45 : decode cX7_load 45 = .ok (.ireturn, 1) := by decide +kernel
theorem dX7_load_46 : decode cX7_load 46 = .ok (.aload_n 0, 1) := by decide +kernel
theorem dX7_load_47 : decode cX7_load 47 = .ok (.invokevirtual 64, 3) := by decide +kernel
theorem dX7_load_50 : decode cX7_load 50 = .ok (.aload_n 0, 1) := by decide +kernel
theorem dX7_load_51 : decode cX7_load 51 = .ok (.getfield 12, 3) := by decide +kernel
theorem dX7_load_54 : decode cX7_load 54 = .ok (.aload_n 0, 1) := by decide +kernel
theorem dX7_load_55 : decode cX7_load 55 = .ok (.getfield 35, 3) := by decide +kernel
theorem dX7_load_58 : decode cX7_load 58 = .ok (.getfield 67, 3) := by decide +kernel
theorem dX7_load_61 : decode cX7_load 61 = .ok (.invokevirtual 70, 3) := by decide +kernel
theorem dX7_load_64 : decode cX7_load 64 = .ok (.aload_n 0, 1) := by decide +kernel
theorem dX7_load_65 : decode cX7_load 65 = .ok (.getfield 12, 3) := by decide +kernel
theorem dX7_load_68 : decode cX7_load 68 = .ok (.invokevirtual 74, 3) := by decide +kernel
theorem dX7_load_71 : decode cX7_load 71 = .ok (.pop, 1) := by decide +kernel
theorem dX7_load_72 : decode cX7_load 72 = .ok (.aload_n 0, 1) := by decide +kernel
theorem dX7_load_73 : decode cX7_load 73 = .ok (.getfield 12, 3) := by decide +kernel
theorem dX7_load_76 : decode cX7_load 76 = .ok (.invokevirtual 78, 3) := by decide +kernel
theorem dX7_load_79 : decode cX7_load 79 = .ok (.aload_n 0, 1) := by decide +kernel
theorem dX7_load_80 : decode cX7_load 80 = .ok (.getfield 12, 3) := by decide +kernel
theorem dX7_load_83 : decode cX7_load 83 = .ok (.getfield 81, 3) := by decide +kernel
theorem dX7_load_86 : decode cX7_load 86 = .ok (.getfield 85, 3) := by decide +kernel
theorem dX7_load_89 : decode cX7_load 89 = .ok (.ireturn, 1) := by decide +kernel
theorem dX7_errorPosition_0 : decode cX7_errorPosition 0 = .ok (.aload_n 0, 1) := by decide +kernel
theorem dX7_errorPosition_1 : decode cX7_errorPosition 1 = .ok (.getfield 35, 3) := by decide +kernel
theorem dX7_errorPosition_4 : decode cX7_errorPosition 4 = .ok (.getfield 90, 3) := by decide +kernel
theorem dX7_errorPosition_7 : decode cX7_errorPosition 7 = .ok (.ireturn, 1) := by decide +kernel
set_option maxRecDepth 20000 in
theorem ggX7_count_X6_subtreeSum : GoodIn wsX7_count wsX6_subtreeSum := goodIn_r _ [16, 17, 18, 19, 20, 21, 22, 23, 24, 25, 26, 27, 28, 29, 30, 31, 32, 33, 34, 35, 36, 37, 38, 39, 40, 41, 42, 43, 44, 45, 46, 47, 48, 49, 50, 51, 52, 53, 54, 83, 84, 85, 86, 87, 88, 93, 94, 95, 89, 90, 91, 92] (by decide +kernel) (by decide +kernel)
set_option maxRecDepth 20000 in
theorem gX7_count_X6_subtreeSum : GoodIn wsX7_count (wsV RX7 100 RX6 yX6_subtreeSum wsX6_subtreeSum) := goodIn_app (goodIn_of _ (by decide +kernel)) ggX7_count_X6_subtreeSum
set_option maxRecDepth 20000 in
theorem ggX7_count_X3_taggedTotal : GoodIn wsX7_count wsX3_taggedTotal := goodIn_r _ [58, 45, 59, 89, 90, 91, 92] (by decide +kernel) (by decide +kernel)
set_option maxRecDepth 20000 in
theorem gX7_count_X3_taggedTotal : GoodIn wsX7_count (wsV RX7 117 RX3 yX3_taggedTotal wsX3_taggedTotal) := goodIn_app (goodIn_of _ (by decide +kernel)) ggX7_count_X3_taggedTotal
set_option maxRecDepth 20000 in
theorem ggX7_count_X6_countAnew : GoodIn wsX7_count wsX6_countAnew := goodIn_r _ [63, 17, 18, 64, 65, 66, 15, 67, 19, 20, 21, 22, 23, 24, 25, 26, 27, 28, 29, 30, 68, 69, 70, 34, 71, 72, 73, 74, 75, 59, 41, 42, 43, 44, 45, 36, 37, 38, 39, 40, 46, 47, 48, 49, 50, 51, 52, 53, 54, 83, 84, 85, 86, 87, 88, 93, 94, 95, 89, 90, 91, 92] (by decide +kernel) (by decide +kernel)
set_option maxRecDepth 20000 in
theorem gX7_count_X6_countAnew : GoodIn wsX7_count (wsV RX7 120 RX6 yX6_countAnew wsX6_countAnew) := goodIn_app (goodIn_of _ (by decide +kernel)) ggX7_count_X6_countAnew
theorem dX7_count_0 : decode cX7_count 0 = .ok (.iload_n 1, 1) := by decide +kernel
theorem dX7_count_1 : decode cX7_count 1 = .ok (.tableswitch 127 0 7 #[47, 58, 69, 79, 87, 95, 106, 117], 47) := by decide +kernel
theorem dX7_count_48 : decode cX7_count 48 = .ok (.aload_n 0, 1) := by decide +kernel
theorem dX7_count_49 : decode cX7_count 49 = .ok (.getfield 12, 3) := by decide +kernel
theorem dX7_count_52 : decode cX7_count 52 = .ok (.getfield 93, 3) := by decide +kernel
theorem dX7_count_55 : decode cX7_count 55 = .ok (.getfield 97, 3) := by decide +kernel
theorem dX7_count_58 : decode cX7_count 58 = .ok (.ireturn, 1) := by decide +kernel
theorem dX7_count_59 : decode cX7_count 59 = .ok (.aload_n 0, 1) := by decide +kernel
theorem dX7_count_60 : decode cX7_count 60 = .ok (.getfield 12, 3) := by decide +kernel
theorem dX7_count_63 : decode cX7_count 63 = .ok (.getfield 81, 3) := by decide +kernel
theorem dX7_count_66 : decode cX7_count 66 = .ok (.getfield 85, 3) := by decide +kernel
theorem dX7_count_69 : decode cX7_count 69 = .ok (.ireturn, 1) := by decide +kernel
theorem dX7_count_70 : decode cX7_count 70 = .ok (.aload_n 0, 1) := by decide +kernel
theorem dX7_count_71 : decode cX7_count 71 = .ok (.getfield 12, 3) := by decide +kernel
theorem dX7_count_74 : decode cX7_count 74 = .ok (.iconst 0, 1) := by decide +kernel
theorem dX7_count_75 : decode cX7_count 75 = .ok (.iconst 0, 1) := by decide +kernel
theorem dX7_count_76 : decode cX7_count 76 = .ok (.invokevirtual 100, 3) := by decide +kernel
theorem dX7_count_79 : decode cX7_count 79 = .ok (.ireturn, 1) := by decide +kernel
theorem dX7_count_80 : decode cX7_count 80 = .ok (.aload_n 0, 1) := by decide +kernel
theorem dX7_count_81 : decode cX7_count 81 = .ok (.getfield 12, 3) := by decide +kernel
theorem dX7_count_84 : decode cX7_count 84 = .ok (.getfield 104, 3) := by decide +kernel
theorem dX7_count_87 : decode cX7_count 87 = .ok (.ireturn, 1) := by decide +kernel
theorem dX7_count_88 : decode cX7_count 88 = .ok (.aload_n 0, 1) := by decide +kernel
theorem dX7_count_89 : decode cX7_count 89 = .ok (.getfield 12, 3) := by decide +kernel
theorem dX7_count_92 : decode cX7_count 92 = .ok (.getfield 107, 3) := by decide +kernel
theorem dX7_count_95 : decode cX7_count 95 = .ok (.ireturn, 1) := by decide +kernel
theorem dX7_count_96 : decode cX7_count 96 = .ok (.aload_n 0, 1) := by decide +kernel
theorem dX7_count_97 : decode cX7_count 97 = .ok (.getfield 12, 3) := by decide +kernel
theorem dX7_count_100 : decode cX7_count 100 = .ok (.getfield 110, 3) := by decide +kernel
theorem dX7_count_103 : decode cX7_count 103 = .ok (.getfield 114, 3) := by decide +kernel
theorem dX7_count_106 : decode cX7_count 106 = .ok (.ireturn, 1) := by decide +kernel
theorem dX7_count_107 : decode cX7_count 107 = .ok (.aload_n 0, 1) := by decide +kernel
theorem dX7_count_108 : decode cX7_count 108 = .ok (.getfield 12, 3) := by decide +kernel
theorem dX7_count_111 : decode cX7_count 111 = .ok (.getfield 93, 3) := by decide +kernel
theorem dX7_count_114 : decode cX7_count 114 = .ok (.invokevirtual 117, 3) := by decide +kernel
theorem dX7_count_117 : decode cX7_count 117 = .ok (.ireturn, 1) := by decide +kernel
theorem dX7_count_118 : decode cX7_count 118 = .ok (.aload_n 0, 1) := by decide +kernel
theorem dX7_count_119 : decode cX7_count 119 = .ok (.getfield 12, 3) := by decide +kernel
theorem dX7_count_122 : decode cX7_count 122 = .ok (.iconst (-1), 1) := by decide +kernel
theorem dX7_count_123 : decode cX7_count 123 = .ok (.iconst 1, 1) := by decide +kernel
theorem dX7_count_124 : decode cX7_count 124 = .ok (.invokevirtual 120, 3) := by decide +kernel
theorem dX7_count_127 : decode cX7_count 127 = .ok (.ireturn, 1) := by decide +kernel
theorem dX7_count_128 : decode cX7_count 128 = .ok (.new 123, 3) := by decide +kernel
theorem dX7_count_131 : decode cX7_count 131 = .ok (.dup, 1) := by decide +kernel
theorem dX7_count_132 : decode cX7_count 132 = .ok (.ldc 125, 2) := by decide +kernel
theorem dX7_count_134 : decode cX7_count 134 = .ok (.invokespecial 127, 3) := by decide +kernel
theorem dX7_count_137 : decode cX7_count 137 = .ok (.athrow, 1) := by decide +kernel
set_option maxRecDepth 20000 in
theorem ggX7_find_X3_numberOf : GoodIn wsX7_find wsX3_numberOf := goodIn_r _ [7, 8, 9, 23, 24, 25, 26] (by decide +kernel) (by decide +kernel)
set_option maxRecDepth 20000 in
theorem gX7_find_X3_numberOf : GoodIn wsX7_find (wsV RX7 128 RX3 yX3_numberOf wsX3_numberOf) := goodIn_app (goodIn_of _ (by decide +kernel)) ggX7_find_X3_numberOf
theorem dX7_find_0 : decode cX7_find 0 = .ok (.aload_n 0, 1) := by decide +kernel
theorem dX7_find_1 : decode cX7_find 1 = .ok (.getfield 12, 3) := by decide +kernel
theorem dX7_find_4 : decode cX7_find 4 = .ok (.getfield 93, 3) := by decide +kernel
theorem dX7_find_7 : decode cX7_find 7 = .ok (.lload_n 1, 1) := by decide +kernel
theorem dX7_find_8 : decode cX7_find 8 = .ok (.invokevirtual 128, 3) := by decide +kernel
theorem dX7_find_11 : decode cX7_find 11 = .ok (.ireturn, 1) := by decide +kernel
set_option maxRecDepth 20000 in
theorem ggX7_folder_X7_needFolder : GoodIn wsX7_folder wsX7_needFolder := goodIn_ca (goodIn_r _ [10, 11, 12, 3, 4, 13, 14, 15, 16, 17, 18, 93, 94, 95, 96, 97, 98, 99, 100, 101, 102, 103, 104, 105, 106, 107, 108, 109] (by decide +kernel) (by decide +kernel)) (goodIn_sub (fun _ h => List.mem_cons_of_mem _ (List.mem_append_right _ h)) (by decide +kernel))
set_option maxRecDepth 20000 in
theorem gX7_folder_X7_needFolder : GoodIn wsX7_folder (wsV RX7 132 RX7 yX7_needFolder wsX7_needFolder) := goodIn_app (goodIn_of _ (by decide +kernel)) ggX7_folder_X7_needFolder
set_option maxRecDepth 20000 in
theorem ggX7_folder_X3_parentOf : GoodIn wsX7_folder wsX3_parentOf := goodIn_r _ [22, 23, 24, 14, 15, 16, 17, 18, 106, 107, 108, 109] (by decide +kernel) (by decide +kernel)
set_option maxRecDepth 20000 in
theorem gX7_folder_X3_parentOf : GoodIn wsX7_folder (wsV RX7 135 RX3 yX3_parentOf wsX3_parentOf) := goodIn_app (goodIn_of _ (by decide +kernel)) ggX7_folder_X3_parentOf
set_option maxRecDepth 20000 in
theorem ggX7_folder_X3_tagOf : GoodIn wsX7_folder wsX3_tagOf := goodIn_r _ [28, 29, 24, 14, 15, 16, 17, 18, 106, 107, 108, 109] (by decide +kernel) (by decide +kernel)
set_option maxRecDepth 20000 in
theorem gX7_folder_X3_tagOf : GoodIn wsX7_folder (wsV RX7 139 RX3 yX3_tagOf wsX3_tagOf) := goodIn_app (goodIn_of _ (by decide +kernel)) ggX7_folder_X3_tagOf
set_option maxRecDepth 20000 in
theorem ggX7_folder_X3_projectOf : GoodIn wsX7_folder wsX3_projectOf := goodIn_r _ [33, 34, 26, 27, 16, 28, 29, 24, 14, 15, 17, 18, 35, 20, 21, 22, 23, 106, 107, 108, 109] (by decide +kernel) (by decide +kernel)
set_option maxRecDepth 20000 in
theorem gX7_folder_X3_projectOf : GoodIn wsX7_folder (wsV RX7 142 RX3 yX3_projectOf wsX3_projectOf) := goodIn_app (goodIn_of _ (by decide +kernel)) ggX7_folder_X3_projectOf
set_option maxRecDepth 20000 in
theorem ggX7_folder_X3_childrenOf : GoodIn wsX7_folder wsX3_childrenOf := goodIn_r _ [39, 18, 23, 106, 107, 108, 109] (by decide +kernel) (by decide +kernel)
set_option maxRecDepth 20000 in
theorem gX7_folder_X3_childrenOf : GoodIn wsX7_folder (wsV RX7 145 RX3 yX3_childrenOf wsX3_childrenOf) := goodIn_app (goodIn_of _ (by decide +kernel)) ggX7_folder_X3_childrenOf
set_option maxRecDepth 20000 in
theorem ggX7_folder_X2_totalIn : GoodIn wsX7_folder wsX2_totalIn := goodIn_r _ [44, 45, 46, 110, 111, 112] (by decide +kernel) (by decide +kernel)
set_option maxRecDepth 20000 in
theorem gX7_folder_X2_totalIn : GoodIn wsX7_folder (wsV RX7 148 RX2 yX2_totalIn wsX2_totalIn) := goodIn_app (goodIn_of _ (by decide +kernel)) ggX7_folder_X2_totalIn
set_option maxRecDepth 20000 in
theorem ggX7_folder_X3_depthOf : GoodIn wsX7_folder wsX3_depthOf := goodIn_r _ [50, 35, 20, 21, 16, 22, 23, 24, 14, 15, 17, 18, 106, 107, 108, 109] (by decide +kernel) (by decide +kernel)
set_option maxRecDepth 20000 in
theorem gX7_folder_X3_depthOf : GoodIn wsX7_folder (wsV RX7 151 RX3 yX3_depthOf wsX3_depthOf) := goodIn_app (goodIn_of _ (by decide +kernel)) ggX7_folder_X3_depthOf
set_option maxRecDepth 20000 in
theorem ggX7_folder_X3_subtreeTotal : GoodIn wsX7_folder wsX3_subtreeTotal := goodIn_r _ [54, 18, 55, 56, 57, 16, 58, 35, 20, 21, 22, 23, 24, 14, 15, 17, 106, 107, 108, 109] (by decide +kernel) (by decide +kernel)
set_option maxRecDepth 20000 in
theorem gX7_folder_X3_subtreeTotal : GoodIn wsX7_folder (wsV RX7 154 RX3 yX3_subtreeTotal wsX3_subtreeTotal) := goodIn_app (goodIn_of _ (by decide +kernel)) ggX7_folder_X3_subtreeTotal
set_option maxRecDepth 20000 in
theorem ggX7_folder_X6_subtreeSum : GoodIn wsX7_folder wsX6_subtreeSum := goodIn_r _ [63, 64, 65, 66, 67, 68, 69, 43, 70, 46, 71, 72, 73, 74, 45, 75, 56, 57, 16, 58, 35, 20, 21, 22, 23, 24, 14, 15, 17, 18, 76, 77, 78, 79, 80, 81, 82, 83, 84, 100, 101, 102, 103, 104, 105, 110, 111, 112, 106, 107, 108, 109] (by decide +kernel) (by decide +kernel)
set_option maxRecDepth 20000 in
theorem gX7_folder_X6_subtreeSum : GoodIn wsX7_folder (wsV RX7 100 RX6 yX6_subtreeSum wsX6_subtreeSum) := goodIn_app (goodIn_of _ (by decide +kernel)) ggX7_folder_X6_subtreeSum
set_option maxRecDepth 20000 in
theorem ggX7_folder_X6_openSum : GoodIn wsX7_folder wsX6_openSum := goodIn_r _ [88, 64, 65, 66, 67, 68, 69, 43, 70, 46, 71, 72, 73, 74, 45, 89, 90, 91, 16, 92, 34, 26, 27, 28, 29, 24, 14, 15, 17, 18, 35, 20, 21, 22, 23, 76, 77, 78, 79, 80, 81, 82, 83, 84, 100, 101, 102, 103, 104, 105, 110, 111, 112, 106, 107, 108, 109] (by decide +kernel) (by decide +kernel)
set_option maxRecDepth 20000 in
theorem gX7_folder_X6_openSum : GoodIn wsX7_folder (wsV RX7 157 RX6 yX6_openSum wsX6_openSum) := goodIn_app (goodIn_of _ (by decide +kernel)) ggX7_folder_X6_openSum
theorem dX7_folder_0 : decode cX7_folder 0 = .ok (.aload_n 0, 1) := by decide +kernel
theorem dX7_folder_1 : decode cX7_folder 1 = .ok (.iload_n 1, 1) := by decide +kernel
theorem dX7_folder_2 : decode cX7_folder 2 = .ok (.invokevirtual 132, 3) := by decide +kernel
theorem dX7_folder_5 : decode cX7_folder 5 = .ok (.iload_n 2, 1) := by decide +kernel
theorem dX7_folder_6 : decode cX7_folder 6 = .ok (.tableswitch 168 0 9 #[54, 66, 78, 90, 102, 114, 126, 138, 148, 158], 54) := by decide +kernel
theorem dX7_folder_60 : decode cX7_folder 60 = .ok (.aload_n 0, 1) := by decide +kernel
theorem dX7_folder_61 : decode cX7_folder 61 = .ok (.getfield 12, 3) := by decide +kernel
theorem dX7_folder_64 : decode cX7_folder 64 = .ok (.getfield 93, 3) := by decide +kernel
theorem dX7_folder_67 : decode cX7_folder 67 = .ok (.iload_n 1, 1) := by decide +kernel
theorem dX7_folder_68 : decode cX7_folder 68 = .ok (.invokevirtual 135, 3) := by decide +kernel
theorem dX7_folder_71 : decode cX7_folder 71 = .ok (.ireturn, 1) := by decide +kernel
theorem dX7_folder_72 : decode cX7_folder 72 = .ok (.aload_n 0, 1) := by decide +kernel
theorem dX7_folder_73 : decode cX7_folder 73 = .ok (.getfield 12, 3) := by decide +kernel
theorem dX7_folder_76 : decode cX7_folder 76 = .ok (.getfield 93, 3) := by decide +kernel
theorem dX7_folder_79 : decode cX7_folder 79 = .ok (.iload_n 1, 1) := by decide +kernel
theorem dX7_folder_80 : decode cX7_folder 80 = .ok (.invokevirtual 139, 3) := by decide +kernel
theorem dX7_folder_83 : decode cX7_folder 83 = .ok (.ireturn, 1) := by decide +kernel
theorem dX7_folder_84 : decode cX7_folder 84 = .ok (.aload_n 0, 1) := by decide +kernel
theorem dX7_folder_85 : decode cX7_folder 85 = .ok (.getfield 12, 3) := by decide +kernel
theorem dX7_folder_88 : decode cX7_folder 88 = .ok (.getfield 93, 3) := by decide +kernel
theorem dX7_folder_91 : decode cX7_folder 91 = .ok (.iload_n 1, 1) := by decide +kernel
theorem dX7_folder_92 : decode cX7_folder 92 = .ok (.invokevirtual 142, 3) := by decide +kernel
theorem dX7_folder_95 : decode cX7_folder 95 = .ok (.ireturn, 1) := by decide +kernel
theorem dX7_folder_96 : decode cX7_folder 96 = .ok (.aload_n 0, 1) := by decide +kernel
theorem dX7_folder_97 : decode cX7_folder 97 = .ok (.getfield 12, 3) := by decide +kernel
theorem dX7_folder_100 : decode cX7_folder 100 = .ok (.getfield 93, 3) := by decide +kernel
theorem dX7_folder_103 : decode cX7_folder 103 = .ok (.iload_n 1, 1) := by decide +kernel
theorem dX7_folder_104 : decode cX7_folder 104 = .ok (.invokevirtual 145, 3) := by decide +kernel
theorem dX7_folder_107 : decode cX7_folder 107 = .ok (.ireturn, 1) := by decide +kernel
theorem dX7_folder_108 : decode cX7_folder 108 = .ok (.aload_n 0, 1) := by decide +kernel
theorem dX7_folder_109 : decode cX7_folder 109 = .ok (.getfield 12, 3) := by decide +kernel
theorem dX7_folder_112 : decode cX7_folder 112 = .ok (.getfield 81, 3) := by decide +kernel
theorem dX7_folder_115 : decode cX7_folder 115 = .ok (.iload_n 1, 1) := by decide +kernel
theorem dX7_folder_116 : decode cX7_folder 116 = .ok (.invokevirtual 148, 3) := by decide +kernel
theorem dX7_folder_119 : decode cX7_folder 119 = .ok (.ireturn, 1) := by decide +kernel
theorem dX7_folder_120 : decode cX7_folder 120 = .ok (.aload_n 0, 1) := by decide +kernel
theorem dX7_folder_121 : decode cX7_folder 121 = .ok (.getfield 12, 3) := by decide +kernel
theorem dX7_folder_124 : decode cX7_folder 124 = .ok (.getfield 93, 3) := by decide +kernel
theorem dX7_folder_127 : decode cX7_folder 127 = .ok (.iload_n 1, 1) := by decide +kernel
theorem dX7_folder_128 : decode cX7_folder 128 = .ok (.invokevirtual 151, 3) := by decide +kernel
theorem dX7_folder_131 : decode cX7_folder 131 = .ok (.ireturn, 1) := by decide +kernel
theorem dX7_folder_132 : decode cX7_folder 132 = .ok (.aload_n 0, 1) := by decide +kernel
theorem dX7_folder_133 : decode cX7_folder 133 = .ok (.getfield 12, 3) := by decide +kernel
theorem dX7_folder_136 : decode cX7_folder 136 = .ok (.getfield 93, 3) := by decide +kernel
theorem dX7_folder_139 : decode cX7_folder 139 = .ok (.iload_n 1, 1) := by decide +kernel
theorem dX7_folder_140 : decode cX7_folder 140 = .ok (.invokevirtual 154, 3) := by decide +kernel
theorem dX7_folder_143 : decode cX7_folder 143 = .ok (.ireturn, 1) := by decide +kernel
theorem dX7_folder_144 : decode cX7_folder 144 = .ok (.aload_n 0, 1) := by decide +kernel
theorem dX7_folder_145 : decode cX7_folder 145 = .ok (.getfield 12, 3) := by decide +kernel
theorem dX7_folder_148 : decode cX7_folder 148 = .ok (.iload_n 1, 1) := by decide +kernel
theorem dX7_folder_149 : decode cX7_folder 149 = .ok (.iconst 1, 1) := by decide +kernel
theorem dX7_folder_150 : decode cX7_folder 150 = .ok (.invokevirtual 100, 3) := by decide +kernel
theorem dX7_folder_153 : decode cX7_folder 153 = .ok (.ireturn, 1) := by decide +kernel
theorem dX7_folder_154 : decode cX7_folder 154 = .ok (.aload_n 0, 1) := by decide +kernel
theorem dX7_folder_155 : decode cX7_folder 155 = .ok (.getfield 12, 3) := by decide +kernel
theorem dX7_folder_158 : decode cX7_folder 158 = .ok (.iload_n 1, 1) := by decide +kernel
theorem dX7_folder_159 : decode cX7_folder 159 = .ok (.iconst 0, 1) := by decide +kernel
theorem dX7_folder_160 : decode cX7_folder 160 = .ok (.invokevirtual 100, 3) := by decide +kernel
theorem dX7_folder_163 : decode cX7_folder 163 = .ok (.ireturn, 1) := by decide +kernel
theorem dX7_folder_164 : decode cX7_folder 164 = .ok (.aload_n 0, 1) := by decide +kernel
theorem dX7_folder_165 : decode cX7_folder 165 = .ok (.getfield 12, 3) := by decide +kernel
theorem dX7_folder_168 : decode cX7_folder 168 = .ok (.iload_n 1, 1) := by decide +kernel
theorem dX7_folder_169 : decode cX7_folder 169 = .ok (.iconst 1, 1) := by decide +kernel
theorem dX7_folder_170 : decode cX7_folder 170 = .ok (.invokevirtual 157, 3) := by decide +kernel
theorem dX7_folder_173 : decode cX7_folder 173 = .ok (.ireturn, 1) := by decide +kernel
theorem dX7_folder_174 : decode cX7_folder 174 = .ok (.new 123, 3) := by decide +kernel
theorem dX7_folder_177 : decode cX7_folder 177 = .ok (.dup, 1) := by decide +kernel
theorem dX7_folder_178 : decode cX7_folder 178 = .ok (.ldc 160, 2) := by decide +kernel
theorem dX7_folder_180 : decode cX7_folder 180 = .ok (.invokespecial 127, 3) := by decide +kernel
theorem dX7_folder_183 : decode cX7_folder 183 = .ok (.athrow, 1) := by decide +kernel
set_option maxRecDepth 20000 in
theorem ggX7_walked_X7_needFolder : GoodIn wsX7_walked wsX7_needFolder := goodIn_ca (goodIn_r _ [7, 8, 9, 1, 2, 10, 11, 12, 13, 14, 15, 30, 31, 32, 33, 34, 35, 36, 37, 38, 39, 40, 41, 42, 43, 44, 45, 46] (by decide +kernel) (by decide +kernel)) (goodIn_sub (fun _ h => List.mem_cons_of_mem _ (List.mem_append_right _ h)) (by decide +kernel))
set_option maxRecDepth 20000 in
theorem gX7_walked_X7_needFolder : GoodIn wsX7_walked (wsV RX7 132 RX7 yX7_needFolder wsX7_needFolder) := goodIn_app (goodIn_of _ (by decide +kernel)) ggX7_walked_X7_needFolder
set_option maxRecDepth 20000 in
theorem ggX7_walked_X3_nextInWalk : GoodIn wsX7_walked wsX3_nextInWalk := goodIn_r _ [19, 20, 21, 22, 13, 23, 15, 24, 25, 26, 27, 28, 29, 11, 12, 14, 43, 44, 45, 46] (by decide +kernel) (by decide +kernel)
set_option maxRecDepth 20000 in
theorem gX7_walked_X3_nextInWalk : GoodIn wsX7_walked (wsV RX7 162 RX3 yX3_nextInWalk wsX3_nextInWalk) := goodIn_app (goodIn_of _ (by decide +kernel)) ggX7_walked_X3_nextInWalk
theorem dX7_walked_0 : decode cX7_walked 0 = .ok (.aload_n 0, 1) := by decide +kernel
theorem dX7_walked_1 : decode cX7_walked 1 = .ok (.iload_n 1, 1) := by decide +kernel
theorem dX7_walked_2 : decode cX7_walked 2 = .ok (.invokevirtual 132, 3) := by decide +kernel
theorem dX7_walked_5 : decode cX7_walked 5 = .ok (.iconst 0, 1) := by decide +kernel
theorem dX7_walked_6 : decode cX7_walked 6 = .ok (.istore_n 2, 1) := by decide +kernel
theorem dX7_walked_7 : decode cX7_walked 7 = .ok (.iconst 0, 1) := by decide +kernel
theorem dX7_walked_8 : decode cX7_walked 8 = .ok (.istore_n 3, 1) := by decide +kernel
theorem dX7_walked_9 : decode cX7_walked 9 = .ok (.iload_n 3, 1) := by decide +kernel
theorem dX7_walked_10 : decode cX7_walked 10 = .ok (.iload_n 1, 1) := by decide +kernel
theorem dX7_walked_11 : decode cX7_walked 11 = .ok (.if_icmp .ge 21, 3) := by decide +kernel
theorem dX7_walked_14 : decode cX7_walked 14 = .ok (.aload_n 0, 1) := by decide +kernel
theorem dX7_walked_15 : decode cX7_walked 15 = .ok (.getfield 12, 3) := by decide +kernel
theorem dX7_walked_18 : decode cX7_walked 18 = .ok (.getfield 93, 3) := by decide +kernel
theorem dX7_walked_21 : decode cX7_walked 21 = .ok (.iload_n 2, 1) := by decide +kernel
theorem dX7_walked_22 : decode cX7_walked 22 = .ok (.invokevirtual 162, 3) := by decide +kernel
theorem dX7_walked_25 : decode cX7_walked 25 = .ok (.istore_n 2, 1) := by decide +kernel
theorem dX7_walked_26 : decode cX7_walked 26 = .ok (.iinc 3 1, 3) := by decide +kernel
theorem dX7_walked_29 : decode cX7_walked 29 = .ok (.goto (-20), 3) := by decide +kernel
theorem dX7_walked_32 : decode cX7_walked 32 = .ok (.iload_n 2, 1) := by decide +kernel
theorem dX7_walked_33 : decode cX7_walked 33 = .ok (.ireturn, 1) := by decide +kernel
set_option maxRecDepth 20000 in
theorem ggX7_heaviest_X7_needFolder : GoodIn wsX7_heaviest wsX7_needFolder := goodIn_ca (goodIn_r _ [8, 9, 10, 3, 11, 12, 13, 14, 15, 16, 17, 62, 63, 64, 65, 66, 67, 68, 69, 70, 71, 72, 73, 74, 75, 76, 77, 78] (by decide +kernel) (by decide +kernel)) (goodIn_sub (fun _ h => List.mem_cons_of_mem _ (List.mem_append_right _ h)) (by decide +kernel))
set_option maxRecDepth 20000 in
theorem gX7_heaviest_X7_needFolder : GoodIn wsX7_heaviest (wsV RX7 132 RX7 yX7_needFolder wsX7_needFolder) := goodIn_app (goodIn_of _ (by decide +kernel)) ggX7_heaviest_X7_needFolder
set_option maxRecDepth 20000 in
theorem ggX7_heaviest_X6_heaviestChild : GoodIn wsX7_heaviest wsX6_heaviestChild := goodIn_r _ [22, 23, 24, 25, 26, 27, 15, 28, 29, 30, 13, 14, 16, 17, 31, 32, 33, 21, 34, 35, 36, 37, 38, 39, 40, 41, 42, 43, 44, 45, 46, 47, 48, 49, 50, 51, 52, 53, 54, 55, 56, 57, 58, 59, 60, 61, 69, 70, 71, 72, 73, 74, 75, 76, 77, 78, 79, 80, 81] (by decide +kernel) (by decide +kernel)
set_option maxRecDepth 20000 in
theorem gX7_heaviest_X6_heaviestChild : GoodIn wsX7_heaviest (wsV RX7 165 RX6 yX6_heaviestChild wsX6_heaviestChild) := goodIn_app (goodIn_of _ (by decide +kernel)) ggX7_heaviest_X6_heaviestChild
theorem dX7_heaviest_0 : decode cX7_heaviest 0 = .ok (.aload_n 0, 1) := by decide +kernel
theorem dX7_heaviest_1 : decode cX7_heaviest 1 = .ok (.iload_n 1, 1) := by decide +kernel
theorem dX7_heaviest_2 : decode cX7_heaviest 2 = .ok (.invokevirtual 132, 3) := by decide +kernel
theorem dX7_heaviest_5 : decode cX7_heaviest 5 = .ok (.aload_n 0, 1) := by decide +kernel
theorem dX7_heaviest_6 : decode cX7_heaviest 6 = .ok (.getfield 12, 3) := by decide +kernel
theorem dX7_heaviest_9 : decode cX7_heaviest 9 = .ok (.iload_n 1, 1) := by decide +kernel
theorem dX7_heaviest_10 : decode cX7_heaviest 10 = .ok (.invokevirtual 165, 3) := by decide +kernel
theorem dX7_heaviest_13 : decode cX7_heaviest 13 = .ok (.istore_n 2, 1) := by decide +kernel
theorem dX7_heaviest_14 : decode cX7_heaviest 14 = .ok (.iload_n 2, 1) := by decide +kernel
theorem dX7_heaviest_15 : decode cX7_heaviest 15 = .ok (.iconst (-1), 1) := by decide +kernel
theorem dX7_heaviest_16 : decode cX7_heaviest 16 = .ok (.if_icmp .ne 13, 3) := by decide +kernel
theorem dX7_heaviest_19 : decode cX7_heaviest 19 = .ok (.new 168, 3) := by decide +kernel
theorem dX7_heaviest_22 : decode cX7_heaviest 22 = .ok (.dup, 1) := by decide +kernel
theorem dX7_heaviest_23 : decode cX7_heaviest 23 = .ok (.ldc 170, 2) := by decide +kernel
theorem dX7_heaviest_25 : decode cX7_heaviest 25 = .ok (.invokespecial 172, 3) := by decide +kernel
theorem dX7_heaviest_28 : decode cX7_heaviest 28 = .ok (.athrow, 1) := by decide +kernel
theorem dX7_heaviest_29 : decode cX7_heaviest 29 = .ok (.iload_n 2, 1) := by decide +kernel
theorem dX7_heaviest_30 : decode cX7_heaviest 30 = .ok (.ireturn, 1) := by decide +kernel
set_option maxRecDepth 20000 in
theorem ggX7_addFolder_X7_needFolder : GoodIn wsX7_addFolder wsX7_needFolder := goodIn_ca (goodIn_r _ [12, 13, 14, 5, 6, 15, 16, 17, 18, 19, 20, 143, 144, 145, 146, 147, 148, 149, 150, 151, 152, 153, 154, 155, 156, 157, 158, 159] (by decide +kernel) (by decide +kernel)) (goodIn_sub (fun _ h => List.mem_cons_of_mem _ (List.mem_append_right _ h)) (by decide +kernel))
set_option maxRecDepth 20000 in
theorem gX7_addFolder_X7_needFolder : GoodIn wsX7_addFolder (wsV RX7 132 RX7 yX7_needFolder wsX7_needFolder) := goodIn_app (goodIn_of _ (by decide +kernel)) ggX7_addFolder_X7_needFolder
set_option maxRecDepth 20000 in
theorem ggX7_addFolder_X7_isName : GoodIn wsX7_addFolder wsX7_isName := goodIn_r _ [23, 24, 25] (by decide +kernel) (by decide +kernel)
set_option maxRecDepth 20000 in
theorem gX7_addFolder_X7_isName : GoodIn wsX7_addFolder (va_wsS RX7 173 yX7_isName wsX7_isName) := goodIn_app (goodIn_of _ (by decide +kernel)) ggX7_addFolder_X7_isName
set_option maxRecDepth 20000 in
theorem ggX7_addFolder_X3_numberOf : GoodIn wsX7_addFolder wsX3_numberOf := goodIn_r _ [29, 20, 30, 156, 157, 158, 159] (by decide +kernel) (by decide +kernel)
set_option maxRecDepth 20000 in
theorem gX7_addFolder_X3_numberOf : GoodIn wsX7_addFolder (wsV RX7 128 RX3 yX3_numberOf wsX3_numberOf) := goodIn_app (goodIn_of _ (by decide +kernel)) ggX7_addFolder_X3_numberOf
set_option maxRecDepth 20000 in
theorem ggX7_addFolder_X3_isFull : GoodIn wsX7_addFolder wsX3_isFull := goodIn_r _ [34, 20, 156, 157, 158, 159] (by decide +kernel) (by decide +kernel)
set_option maxRecDepth 20000 in
theorem gX7_addFolder_X3_isFull : GoodIn wsX7_addFolder (wsV RX7 179 RX3 yX3_isFull wsX3_isFull) := goodIn_app (goodIn_of _ (by decide +kernel)) ggX7_addFolder_X3_isFull
set_option maxRecDepth 20000 in
theorem ggX7_addFolder_X7_remember : GoodIn wsX7_addFolder wsX7_remember := goodIn_r _ [38, 39, 40, 5, 41, 42, 43, 44, 45, 46, 47, 48, 49, 50, 51, 52, 53, 54, 55, 56, 57, 58, 59, 60, 61, 62, 63, 18, 64, 65, 66, 67, 68, 69, 30, 70, 20, 71, 72, 73, 74, 75, 76, 77, 78, 79, 80, 81, 82, 83, 84, 85, 86, 87, 88, 89, 90, 91, 92, 93, 94, 95, 96, 97, 98, 99, 100, 143, 144, 145, 146, 147, 148, 149, 150, 151, 152, 153, 154, 155, 156, 157, 158, 159, 160, 161, 162, 163, 164, 165, 166, 167, 168, 169, 170, 171] (by decide +kernel) (by decide +kernel)
set_option maxRecDepth 20000 in
theorem gX7_addFolder_X7_remember : GoodIn wsX7_addFolder (wsV RX7 64 RX7 yX7_remember wsX7_remember) := goodIn_app (goodIn_of _ (by decide +kernel)) ggX7_addFolder_X7_remember
set_option maxRecDepth 20000 in
theorem ggX7_addFolder_X3_add : GoodIn wsX7_addFolder wsX3_add := goodIn_r _ [104, 65, 20, 30, 70, 105, 32, 33, 18, 34, 156, 157, 158, 159] (by decide +kernel) (by decide +kernel)
set_option maxRecDepth 20000 in
theorem gX7_addFolder_X3_add : GoodIn wsX7_addFolder (wsV RX7 185 RX3 yX3_add wsX3_add) := goodIn_app (goodIn_of _ (by decide +kernel)) ggX7_addFolder_X3_add
set_option maxRecDepth 20000 in
theorem ggX7_addFolder_X6_setClocks : GoodIn wsX7_addFolder wsX6_setClocks := goodIn_r _ [109, 57, 59, 110, 11, 111, 112, 113, 114, 53, 115, 116, 117, 118, 119, 58, 120, 121, 44, 122, 123, 124, 125, 83, 126, 88, 87, 127, 128, 129, 93, 130, 100, 97, 98, 95, 131, 132, 133, 134, 85, 135, 136, 137, 138, 89, 139, 140, 141, 142, 150, 151, 152, 153, 154, 155, 163, 164, 165, 166, 167, 168, 169, 170, 171] (by decide +kernel) (by decide +kernel)
set_option maxRecDepth 20000 in
theorem gX7_addFolder_X6_setClocks : GoodIn wsX7_addFolder (wsV RX7 78 RX6 yX6_setClocks wsX6_setClocks) := goodIn_app (goodIn_of _ (by decide +kernel)) ggX7_addFolder_X6_setClocks
theorem dX7_addFolder_0 : decode cX7_addFolder 0 = .ok (.aload_n 0, 1) := by decide +kernel
theorem dX7_addFolder_1 : decode cX7_addFolder 1 = .ok (.iload_n 1, 1) := by decide +kernel
theorem dX7_addFolder_2 : decode cX7_addFolder 2 = .ok (.invokevirtual 132, 3) := by decide +kernel
theorem dX7_addFolder_5 : decode cX7_addFolder 5 = .ok (.lload_n 2, 1) := by decide +kernel
theorem dX7_addFolder_6 : decode cX7_addFolder 6 = .ok (.invokestatic 173, 3) := by decide +kernel
theorem dX7_addFolder_9 : decode cX7_addFolder 9 = .ok (.ifCond .eq 18, 3) := by decide +kernel
theorem dX7_addFolder_12 : decode cX7_addFolder 12 = .ok (.aload_n 0, 1) := by decide +kernel
theorem dX7_addFolder_13 : decode cX7_addFolder 13 = .ok (.getfield 12, 3) := by decide +kernel
theorem dX7_addFolder_16 : decode cX7_addFolder 16 = .ok (.getfield 93, 3) := by decide +kernel
theorem dX7_addFolder_19 : decode cX7_addFolder 19 = .ok (.lload_n 2, 1) := by decide +kernel
theorem dX7_addFolder_20 : decode cX7_addFolder 20 = .ok (.invokevirtual 128, 3) := by decide +kernel
theorem dX7_addFolder_23 : decode cX7_addFolder 23 = .ok (.iconst (-1), 1) := by decide +kernel
theorem dX7_addFolder_24 : decode cX7_addFolder 24 = .ok (.if_icmp .eq 13, 3) := by decide +kernel
theorem dX7_addFolder_27 : decode cX7_addFolder 27 = .ok (.new 123, 3) := by decide +kernel
theorem dX7_addFolder_30 : decode cX7_addFolder 30 = .ok (.dup, 1) := by decide +kernel
theorem dX7_addFolder_31 : decode cX7_addFolder 31 = .ok (.ldc 177, 2) := by decide +kernel
theorem dX7_addFolder_33 : decode cX7_addFolder 33 = .ok (.invokespecial 127, 3) := by decide +kernel
theorem dX7_addFolder_36 : decode cX7_addFolder 36 = .ok (.athrow, 1) := by decide +kernel
theorem dX7_addFolder_37 : decode cX7_addFolder 37 = .ok (.aload_n 0, 1) := by decide +kernel
theorem dX7_addFolder_38 : decode cX7_addFolder 38 = .ok (.getfield 12, 3) := by decide +kernel
theorem dX7_addFolder_41 : decode cX7_addFolder 41 = .ok (.getfield 93, 3) := by decide +kernel
theorem dX7_addFolder_44 : decode cX7_addFolder 44 = .ok (.invokevirtual 179, 3) := by decide +kernel
theorem dX7_addFolder_47 : decode cX7_addFolder 47 = .ok (.ifCond .eq 13, 3) := by decide +kernel
theorem dX7_addFolder_50 : decode cX7_addFolder 50 = .ok (.new 43, 3) := by decide +kernel
theorem dX7_addFolder_53 : decode cX7_addFolder 53 = .ok (.dup, 1) := by decide +kernel
theorem dX7_addFolder_54 : decode cX7_addFolder 54 = .ok (.ldc 183, 2) := by decide +kernel
theorem dX7_addFolder_56 : decode cX7_addFolder 56 = .ok (.invokespecial 47, 3) := by decide +kernel
theorem dX7_addFolder_59 : decode cX7_addFolder 59 = .ok (.athrow, 1) := by decide +kernel
theorem dX7_addFolder_60 : decode cX7_addFolder 60 = .ok (.aload_n 0, 1) := by decide +kernel
theorem dX7_addFolder_61 : decode cX7_addFolder 61 = .ok (.invokevirtual 64, 3) := by decide +kernel
theorem dX7_addFolder_64 : decode cX7_addFolder 64 = .ok (.aload_n 0, 1) := by decide +kernel
theorem dX7_addFolder_65 : decode cX7_addFolder 65 = .ok (.getfield 12, 3) := by decide +kernel
theorem dX7_addFolder_68 : decode cX7_addFolder 68 = .ok (.getfield 93, 3) := by decide +kernel
theorem dX7_addFolder_71 : decode cX7_addFolder 71 = .ok (.iload_n 1, 1) := by decide +kernel
theorem dX7_addFolder_72 : decode cX7_addFolder 72 = .ok (.lload_n 2, 1) := by decide +kernel
theorem dX7_addFolder_73 : decode cX7_addFolder 73 = .ok (.invokevirtual 185, 3) := by decide +kernel
theorem dX7_addFolder_76 : decode cX7_addFolder 76 = .ok (.aload_n 0, 1) := by decide +kernel
theorem dX7_addFolder_77 : decode cX7_addFolder 77 = .ok (.getfield 12, 3) := by decide +kernel
theorem dX7_addFolder_80 : decode cX7_addFolder 80 = .ok (.invokevirtual 78, 3) := by decide +kernel
theorem dX7_addFolder_83 : decode cX7_addFolder 83 = .ok (.aload_n 0, 1) := by decide +kernel
theorem dX7_addFolder_84 : decode cX7_addFolder 84 = .ok (.getfield 12, 3) := by decide +kernel
theorem dX7_addFolder_87 : decode cX7_addFolder 87 = .ok (.getfield 93, 3) := by decide +kernel
theorem dX7_addFolder_90 : decode cX7_addFolder 90 = .ok (.getfield 97, 3) := by decide +kernel
theorem dX7_addFolder_93 : decode cX7_addFolder 93 = .ok (.iconst 1, 1) := by decide +kernel
theorem dX7_addFolder_94 : decode cX7_addFolder 94 = .ok (.isub, 1) := by decide +kernel
theorem dX7_addFolder_95 : decode cX7_addFolder 95 = .ok (.ireturn, 1) := by decide +kernel
set_option maxRecDepth 20000 in
theorem ggX7_removeFolder_X7_needFolder : GoodIn wsX7_removeFolder wsX7_needFolder := goodIn_ca (goodIn_r _ [11, 12, 13, 3, 4, 14, 15, 16, 17, 18, 19, 141, 142, 143, 144, 145, 146, 147, 148, 149, 150, 151, 152, 153, 154, 155, 156, 157] (by decide +kernel) (by decide +kernel)) (goodIn_sub (fun _ h => List.mem_cons_of_mem _ (List.mem_append_right _ h)) (by decide +kernel))
set_option maxRecDepth 20000 in
theorem gX7_removeFolder_X7_needFolder : GoodIn wsX7_removeFolder (wsV RX7 132 RX7 yX7_needFolder wsX7_needFolder) := goodIn_app (goodIn_of _ (by decide +kernel)) ggX7_removeFolder_X7_needFolder
set_option maxRecDepth 20000 in
theorem ggX7_removeFolder_X3_childrenOf : GoodIn wsX7_removeFolder wsX3_childrenOf := goodIn_r _ [23, 19, 24, 154, 155, 156, 157] (by decide +kernel) (by decide +kernel)
set_option maxRecDepth 20000 in
theorem gX7_removeFolder_X3_childrenOf : GoodIn wsX7_removeFolder (wsV RX7 145 RX3 yX3_childrenOf wsX3_childrenOf) := goodIn_app (goodIn_of _ (by decide +kernel)) ggX7_removeFolder_X3_childrenOf
set_option maxRecDepth 20000 in
theorem ggX7_removeFolder_X2_totalIn : GoodIn wsX7_removeFolder wsX2_totalIn := goodIn_r _ [29, 30, 31, 158, 159, 160] (by decide +kernel) (by decide +kernel)
set_option maxRecDepth 20000 in
theorem gX7_removeFolder_X2_totalIn : GoodIn wsX7_removeFolder (wsV RX7 148 RX2 yX2_totalIn wsX2_totalIn) := goodIn_app (goodIn_of _ (by decide +kernel)) ggX7_removeFolder_X2_totalIn
set_option maxRecDepth 20000 in
theorem ggX7_removeFolder_X7_remember : GoodIn wsX7_removeFolder wsX7_remember := goodIn_r _ [35, 36, 37, 3, 38, 39, 40, 41, 42, 43, 44, 45, 46, 47, 48, 49, 50, 51, 52, 53, 54, 55, 56, 57, 58, 59, 60, 17, 61, 24, 62, 63, 64, 65, 66, 67, 19, 68, 69, 70, 28, 71, 31, 72, 73, 30, 74, 75, 76, 77, 78, 79, 80, 81, 82, 83, 84, 85, 86, 87, 88, 89, 90, 91, 92, 93, 94, 141, 142, 143, 144, 145, 146, 147, 148, 149, 150, 151, 152, 153, 154, 155, 156, 157, 158, 159, 160, 161, 162, 163, 164, 165, 166, 167, 168, 169] (by decide +kernel) (by decide +kernel)
set_option maxRecDepth 20000 in
theorem gX7_removeFolder_X7_remember : GoodIn wsX7_removeFolder (wsV RX7 64 RX7 yX7_remember wsX7_remember) := goodIn_app (goodIn_of _ (by decide +kernel)) ggX7_removeFolder_X7_remember
set_option maxRecDepth 20000 in
theorem ggX7_removeFolder_X3_removeAt : GoodIn wsX7_removeFolder wsX3_removeAt := goodIn_r _ [98, 19, 24, 66, 67, 99, 15, 16, 17, 18, 154, 155, 156, 157] (by decide +kernel) (by decide +kernel)
set_option maxRecDepth 20000 in
theorem gX7_removeFolder_X3_removeAt : GoodIn wsX7_removeFolder (wsV RX7 191 RX3 yX3_removeAt wsX3_removeAt) := goodIn_app (goodIn_of _ (by decide +kernel)) ggX7_removeFolder_X3_removeAt
set_option maxRecDepth 20000 in
theorem ggX7_removeFolder_X2_closeGap : GoodIn wsX7_removeFolder wsX2_closeGap := goodIn_r _ [103, 30, 31, 158, 159, 160] (by decide +kernel) (by decide +kernel)
set_option maxRecDepth 20000 in
theorem gX7_removeFolder_X2_closeGap : GoodIn wsX7_removeFolder (wsV RX7 194 RX2 yX2_closeGap wsX2_closeGap) := goodIn_app (goodIn_of _ (by decide +kernel)) ggX7_removeFolder_X2_closeGap
set_option maxRecDepth 20000 in
theorem ggX7_removeFolder_X6_setClocks : GoodIn wsX7_removeFolder wsX6_setClocks := goodIn_r _ [107, 54, 56, 108, 10, 109, 110, 111, 112, 50, 113, 114, 115, 116, 117, 55, 118, 119, 41, 120, 121, 122, 123, 77, 124, 82, 81, 125, 126, 127, 87, 128, 94, 91, 92, 89, 129, 130, 131, 132, 79, 133, 134, 135, 136, 83, 137, 138, 139, 140, 148, 149, 150, 151, 152, 153, 161, 162, 163, 164, 165, 166, 167, 168, 169] (by decide +kernel) (by decide +kernel)
set_option maxRecDepth 20000 in
theorem gX7_removeFolder_X6_setClocks : GoodIn wsX7_removeFolder (wsV RX7 78 RX6 yX6_setClocks wsX6_setClocks) := goodIn_app (goodIn_of _ (by decide +kernel)) ggX7_removeFolder_X6_setClocks
theorem dX7_removeFolder_0 : decode cX7_removeFolder 0 = .ok (.aload_n 0, 1) := by decide +kernel
theorem dX7_removeFolder_1 : decode cX7_removeFolder 1 = .ok (.iload_n 1, 1) := by decide +kernel
theorem dX7_removeFolder_2 : decode cX7_removeFolder 2 = .ok (.invokevirtual 132, 3) := by decide +kernel
theorem dX7_removeFolder_5 : decode cX7_removeFolder 5 = .ok (.iload_n 1, 1) := by decide +kernel
theorem dX7_removeFolder_6 : decode cX7_removeFolder 6 = .ok (.ifCond .eq 31, 3) := by decide +kernel
theorem dX7_removeFolder_9 : decode cX7_removeFolder 9 = .ok (.aload_n 0, 1) := by decide +kernel
theorem dX7_removeFolder_10 : decode cX7_removeFolder 10 = .ok (.getfield 12, 3) := by decide +kernel
theorem dX7_removeFolder_13 : decode cX7_removeFolder 13 = .ok (.getfield 93, 3) := by decide +kernel
theorem dX7_removeFolder_16 : decode cX7_removeFolder 16 = .ok (.iload_n 1, 1) := by decide +kernel
theorem dX7_removeFolder_17 : decode cX7_removeFolder 17 = .ok (.invokevirtual 145, 3) := by decide +kernel
theorem dX7_removeFolder_20 : decode cX7_removeFolder 20 = .ok (.ifCond .gt 17, 3) := by decide +kernel
theorem dX7_removeFolder_23 : decode cX7_removeFolder 23 = .ok (.aload_n 0, 1) := by decide +kernel
theorem dX7_removeFolder_24 : decode cX7_removeFolder 24 = .ok (.getfield 12, 3) := by decide +kernel
theorem dX7_removeFolder_27 : decode cX7_removeFolder 27 = .ok (.getfield 81, 3) := by decide +kernel
theorem dX7_removeFolder_30 : decode cX7_removeFolder 30 = .ok (.iload_n 1, 1) := by decide +kernel
theorem dX7_removeFolder_31 : decode cX7_removeFolder 31 = .ok (.invokevirtual 148, 3) := by decide +kernel
theorem dX7_removeFolder_34 : decode cX7_removeFolder 34 = .ok (.ifCond .le 13, 3) := by decide +kernel
theorem dX7_removeFolder_37 : decode cX7_removeFolder 37 = .ok (.new 43, 3) := by decide +kernel
theorem dX7_removeFolder_40 : decode cX7_removeFolder 40 = .ok (.dup, 1) := by decide +kernel
theorem dX7_removeFolder_41 : decode cX7_removeFolder 41 = .ok (.ldc 189, 2) := by decide +kernel
theorem dX7_removeFolder_43 : decode cX7_removeFolder 43 = .ok (.invokespecial 47, 3) := by decide +kernel
theorem dX7_removeFolder_46 : decode cX7_removeFolder 46 = .ok (.athrow, 1) := by decide +kernel
theorem dX7_removeFolder_47 : decode cX7_removeFolder 47 = .ok (.aload_n 0, 1) := by decide +kernel
theorem dX7_removeFolder_48 : decode cX7_removeFolder 48 = .ok (.invokevirtual 64, 3) := by decide +kernel
theorem dX7_removeFolder_51 : decode cX7_removeFolder 51 = .ok (.aload_n 0, 1) := by decide +kernel
theorem dX7_removeFolder_52 : decode cX7_removeFolder 52 = .ok (.getfield 12, 3) := by decide +kernel
theorem dX7_removeFolder_55 : decode cX7_removeFolder 55 = .ok (.getfield 93, 3) := by decide +kernel
theorem dX7_removeFolder_58 : decode cX7_removeFolder 58 = .ok (.iload_n 1, 1) := by decide +kernel
theorem dX7_removeFolder_59 : decode cX7_removeFolder 59 = .ok (.invokevirtual 191, 3) := by decide +kernel
theorem dX7_removeFolder_62 : decode cX7_removeFolder 62 = .ok (.aload_n 0, 1) := by decide +kernel
theorem dX7_removeFolder_63 : decode cX7_removeFolder 63 = .ok (.getfield 12, 3) := by decide +kernel
theorem dX7_removeFolder_66 : decode cX7_removeFolder 66 = .ok (.getfield 81, 3) := by decide +kernel
theorem dX7_removeFolder_69 : decode cX7_removeFolder 69 = .ok (.iload_n 1, 1) := by decide +kernel
theorem dX7_removeFolder_70 : decode cX7_removeFolder 70 = .ok (.invokevirtual 194, 3) := by decide +kernel
theorem dX7_removeFolder_73 : decode cX7_removeFolder 73 = .ok (.aload_n 0, 1) := by decide +kernel
theorem dX7_removeFolder_74 : decode cX7_removeFolder 74 = .ok (.getfield 12, 3) := by decide +kernel
theorem dX7_removeFolder_77 : decode cX7_removeFolder 77 = .ok (.invokevirtual 78, 3) := by decide +kernel
theorem dX7_removeFolder_80 : decode cX7_removeFolder 80 = .ok (.aload_n 0, 1) := by decide +kernel
theorem dX7_removeFolder_81 : decode cX7_removeFolder 81 = .ok (.getfield 12, 3) := by decide +kernel
theorem dX7_removeFolder_84 : decode cX7_removeFolder 84 = .ok (.getfield 93, 3) := by decide +kernel
theorem dX7_removeFolder_87 : decode cX7_removeFolder 87 = .ok (.getfield 97, 3) := by decide +kernel
theorem dX7_removeFolder_90 : decode cX7_removeFolder 90 = .ok (.ireturn, 1) := by decide +kernel
set_option maxRecDepth 20000 in
theorem ggX7_tagReason_X7_needFolder : GoodIn wsX7_tagReason wsX7_needFolder := goodIn_ca (goodIn_r _ [7, 8, 9, 1, 2, 10, 11, 12, 13, 14, 15, 133, 134, 135, 136, 137, 138, 139, 140, 141, 142, 143, 144, 145, 146, 147, 148, 149] (by decide +kernel) (by decide +kernel)) (goodIn_sub (fun _ h => List.mem_cons_of_mem _ (List.mem_append_left _ (List.mem_append_right _ h))) (by decide +kernel))
set_option maxRecDepth 20000 in
theorem gX7_tagReason_X7_needFolder : GoodIn wsX7_tagReason (wsV RX7 132 RX7 yX7_needFolder wsX7_needFolder) := goodIn_app (goodIn_of _ (by decide +kernel)) ggX7_tagReason_X7_needFolder
set_option maxRecDepth 20000 in
theorem ggX7_tagReason_X7_needRange : GoodIn wsX7_tagReason wsX7_needRange := goodIn_ca (goodIn_r _ [18, 19, 20] (by decide +kernel) (by decide +kernel)) (goodIn_sub (fun _ h => List.mem_cons_of_mem _ (List.mem_append_right _ h)) (by decide +kernel))
set_option maxRecDepth 20000 in
theorem gX7_tagReason_X7_needRange : GoodIn wsX7_tagReason (va_wsS RX7 54 yX7_needRange wsX7_needRange) := goodIn_app (goodIn_of _ (by decide +kernel)) ggX7_tagReason_X7_needRange
set_option maxRecDepth 20000 in
theorem ggX7_tagReason_X3_projectIfTagged : GoodIn wsX7_tagReason wsX3_projectIfTagged := goodIn_r _ [24, 25, 26, 27, 13, 28, 29, 30, 11, 12, 14, 15, 31, 32, 33, 34, 35, 36, 37, 38, 39, 146, 147, 148, 149] (by decide +kernel) (by decide +kernel)
set_option maxRecDepth 20000 in
theorem gX7_tagReason_X3_projectIfTagged : GoodIn wsX7_tagReason (wsV RX7 197 RX3 yX3_projectIfTagged wsX3_projectIfTagged) := goodIn_app (goodIn_of _ (by decide +kernel)) ggX7_tagReason_X3_projectIfTagged
set_option maxRecDepth 20000 in
theorem ggX7_tagReason_X6_openReason : GoodIn wsX7_tagReason wsX6_openReason := goodIn_r _ [44, 45, 46, 32, 33, 13, 34, 35, 36, 37, 38, 39, 30, 11, 12, 14, 15, 25, 26, 27, 28, 29, 47, 48, 49, 43, 50, 51, 52, 53, 54, 55, 56, 57, 58, 59, 60, 61, 62, 63, 64, 65, 66, 67, 68, 69, 70, 71, 72, 73, 74, 75, 76, 77, 78, 79, 80, 81, 82, 83, 84, 85, 86, 87, 88, 89, 90, 91, 92, 93, 94, 95, 6, 96, 97, 98, 99, 100, 101, 102, 103, 104, 105, 106, 107, 108, 109, 110, 111, 112, 113, 114, 115, 116, 117, 118, 119, 120, 121, 122, 123, 124, 125, 126, 127, 128, 129, 130, 131, 132, 140, 141, 142, 143, 144, 145, 146, 147, 148, 149, 150, 151, 152, 153, 154, 155, 156, 157, 158, 159, 160, 161] (by decide +kernel) (by decide +kernel)
set_option maxRecDepth 20000 in
theorem gX7_tagReason_X6_openReason : GoodIn wsX7_tagReason (wsV RX7 200 RX6 yX6_openReason wsX6_openReason) := goodIn_app (goodIn_of _ (by decide +kernel)) ggX7_tagReason_X6_openReason
theorem dX7_tagReason_0 : decode cX7_tagReason 0 = .ok (.aload_n 0, 1) := by decide +kernel
theorem dX7_tagReason_1 : decode cX7_tagReason 1 = .ok (.iload_n 1, 1) := by decide +kernel
theorem dX7_tagReason_2 : decode cX7_tagReason 2 = .ok (.invokevirtual 132, 3) := by decide +kernel
theorem dX7_tagReason_5 : decode cX7_tagReason 5 = .ok (.iload_n 2, 1) := by decide +kernel
theorem dX7_tagReason_6 : decode cX7_tagReason 6 = .ok (.iconst (-1), 1) := by decide +kernel
theorem dX7_tagReason_7 : decode cX7_tagReason 7 = .ok (.bipush 7, 2) := by decide +kernel
theorem dX7_tagReason_9 : decode cX7_tagReason 9 = .ok (.invokestatic 54, 3) := by decide +kernel
theorem dX7_tagReason_12 : decode cX7_tagReason 12 = .ok (.aload_n 0, 1) := by decide +kernel
theorem dX7_tagReason_13 : decode cX7_tagReason 13 = .ok (.getfield 12, 3) := by decide +kernel
theorem dX7_tagReason_16 : decode cX7_tagReason 16 = .ok (.iload_n 1, 1) := by decide +kernel
theorem dX7_tagReason_17 : decode cX7_tagReason 17 = .ok (.aload_n 0, 1) := by decide +kernel
theorem dX7_tagReason_18 : decode cX7_tagReason 18 = .ok (.getfield 12, 3) := by decide +kernel
theorem dX7_tagReason_21 : decode cX7_tagReason 21 = .ok (.getfield 93, 3) := by decide +kernel
theorem dX7_tagReason_24 : decode cX7_tagReason 24 = .ok (.iload_n 1, 1) := by decide +kernel
theorem dX7_tagReason_25 : decode cX7_tagReason 25 = .ok (.iload_n 2, 1) := by decide +kernel
theorem dX7_tagReason_26 : decode cX7_tagReason 26 = .ok (.invokevirtual 197, 3) := by decide +kernel
theorem dX7_tagReason_29 : decode cX7_tagReason 29 = .ok (.invokevirtual 200, 3) := by decide +kernel
theorem dX7_tagReason_32 : decode cX7_tagReason 32 = .ok (.ireturn, 1) := by decide +kernel
set_option maxRecDepth 20000 in
theorem ggX7_tag_X7_tagReason : GoodIn wsX7_tag wsX7_tagReason := goodIn_ca (goodIn_ca (goodIn_r _ [7, 1, 2, 8, 9, 10, 6, 11, 12, 13, 14, 15, 16, 17, 18, 19, 20, 21, 22, 23, 24, 25, 26, 27, 28, 29, 30, 31, 32, 33, 34, 35, 36, 37, 38, 39, 40, 41, 42, 43, 44, 45, 46, 47, 48, 49, 50, 51, 52, 53, 54, 55, 56, 57, 58, 59, 60, 61, 62, 63, 64, 65, 66, 67, 68, 69, 70, 71, 72, 73, 74, 75, 76, 77, 78, 79, 80, 81, 82, 83, 84, 85, 86, 87, 88, 89, 90, 91, 92, 93, 94, 95, 96, 97, 98, 99, 100, 101, 102, 103, 104, 105, 106, 107, 108, 109, 110, 111, 112, 113, 114, 115, 116, 117, 118, 119, 120, 121, 122, 123, 124, 125, 126, 127, 128, 129, 130, 131, 132, 133, 134, 135, 136, 219, 220, 221, 222, 223, 224, 225, 226, 227, 228, 229, 230, 231, 232, 233, 234, 235, 236, 237, 238, 239, 240, 241, 242, 243, 244, 245, 246, 247] (by decide +kernel) (by decide +kernel)) (goodIn_sub (fun _ h => List.mem_cons_of_mem _ (List.mem_append_left _ (List.mem_append_left _ (List.mem_append_right _ h)))) (by decide +kernel))) (goodIn_sub (fun _ h => List.mem_cons_of_mem _ (List.mem_append_left _ (List.mem_append_right _ h))) (by decide +kernel))
set_option maxRecDepth 20000 in
theorem gX7_tag_X7_tagReason : GoodIn wsX7_tag (wsV RX7 203 RX7 yX7_tagReason wsX7_tagReason) := goodIn_app (goodIn_of _ (by decide +kernel)) ggX7_tag_X7_tagReason
set_option maxRecDepth 20000 in
theorem ggX7_tag_X7_needNoReason : GoodIn wsX7_tag wsX7_needNoReason := goodIn_ca (goodIn_r _ [139, 140, 141] (by decide +kernel) (by decide +kernel)) (goodIn_sub (fun _ h => List.mem_cons_of_mem _ (List.mem_append_right _ h)) (by decide +kernel))
set_option maxRecDepth 20000 in
theorem gX7_tag_X7_needNoReason : GoodIn wsX7_tag (va_wsS RX7 206 yX7_needNoReason wsX7_needNoReason) := goodIn_app (goodIn_of _ (by decide +kernel)) ggX7_tag_X7_needNoReason
set_option maxRecDepth 20000 in
theorem ggX7_tag_X7_remember : GoodIn wsX7_tag wsX7_remember := goodIn_r _ [145, 146, 147, 1, 148, 149, 150, 97, 151, 152, 153, 154, 155, 156, 157, 158, 47, 159, 49, 55, 89, 94, 126, 131, 160, 161, 162, 17, 163, 33, 164, 165, 166, 167, 168, 43, 19, 169, 170, 171, 60, 172, 62, 173, 80, 67, 174, 175, 176, 104, 177, 121, 178, 107, 106, 136, 179, 180, 181, 111, 182, 116, 183, 114, 115, 184, 113, 219, 220, 221, 222, 223, 224, 225, 226, 227, 228, 229, 230, 231, 232, 233, 234, 235, 236, 237, 238, 239, 240, 241, 242, 243, 244, 245, 246, 247] (by decide +kernel) (by decide +kernel)
set_option maxRecDepth 20000 in
theorem gX7_tag_X7_remember : GoodIn wsX7_tag (wsV RX7 64 RX7 yX7_remember wsX7_remember) := goodIn_app (goodIn_of _ (by decide +kernel)) ggX7_tag_X7_remember
set_option maxRecDepth 20000 in
theorem ggX7_tag_X3_projectIfTagged : GoodIn wsX7_tag wsX3_projectIfTagged := goodIn_r _ [28, 29, 30, 31, 17, 32, 33, 34, 15, 16, 18, 19, 35, 36, 37, 38, 39, 40, 41, 42, 43, 232, 233, 234, 235] (by decide +kernel) (by decide +kernel)
set_option maxRecDepth 20000 in
theorem gX7_tag_X3_projectIfTagged : GoodIn wsX7_tag (wsV RX7 197 RX3 yX3_projectIfTagged wsX3_projectIfTagged) := goodIn_app (goodIn_of _ (by decide +kernel)) ggX7_tag_X3_projectIfTagged
set_option maxRecDepth 20000 in
theorem ggX7_tag_X6_transferOpenPart : GoodIn wsX7_tag wsX6_transferOpenPart := goodIn_r _ [188, 49, 89, 50, 36, 37, 17, 38, 39, 40, 41, 42, 43, 34, 15, 16, 18, 19, 29, 30, 31, 32, 33, 51, 52, 53, 47, 54, 55, 56, 57, 58, 59, 60, 61, 62, 63, 64, 65, 66, 67, 68, 69, 70, 71, 72, 73, 74, 75, 76, 77, 78, 79, 80, 189, 190, 191, 104, 192, 193, 194, 195, 196, 99, 6, 100, 197, 198, 199, 200, 201, 96, 97, 98, 202, 118, 119, 120, 121, 203, 204, 205, 206, 226, 227, 228, 229, 230, 231, 232, 233, 234, 235, 236, 237, 238, 239, 240, 241, 242] (by decide +kernel) (by decide +kernel)
set_option maxRecDepth 20000 in
theorem gX7_tag_X6_transferOpenPart : GoodIn wsX7_tag (wsV RX7 209 RX6 yX6_transferOpenPart wsX6_transferOpenPart) := goodIn_app (goodIn_of _ (by decide +kernel)) ggX7_tag_X6_transferOpenPart
set_option maxRecDepth 20000 in
theorem ggX7_tag_X3_setTag : GoodIn wsX7_tag wsX3_setTag := goodIn_r _ [210, 43, 34, 15, 16, 17, 18, 19, 232, 233, 234, 235] (by decide +kernel) (by decide +kernel)
set_option maxRecDepth 20000 in
theorem gX7_tag_X3_setTag : GoodIn wsX7_tag (wsV RX7 212 RX3 yX3_setTag wsX3_setTag) := goodIn_app (goodIn_of _ (by decide +kernel)) ggX7_tag_X3_setTag
set_option maxRecDepth 20000 in
theorem ggX7_tag_X6_setClocks : GoodIn wsX7_tag wsX6_setClocks := goodIn_r _ [214, 89, 126, 99, 6, 100, 85, 86, 87, 47, 88, 90, 91, 92, 93, 94, 95, 96, 97, 98, 101, 102, 103, 104, 105, 106, 107, 108, 109, 110, 111, 112, 113, 114, 115, 116, 117, 118, 119, 120, 121, 215, 216, 217, 218, 136, 132, 133, 134, 135, 226, 227, 228, 229, 230, 231, 239, 240, 241, 242, 243, 244, 245, 246, 247] (by decide +kernel) (by decide +kernel)
set_option maxRecDepth 20000 in
theorem gX7_tag_X6_setClocks : GoodIn wsX7_tag (wsV RX7 78 RX6 yX6_setClocks wsX6_setClocks) := goodIn_app (goodIn_of _ (by decide +kernel)) ggX7_tag_X6_setClocks
theorem dX7_tag_0 : decode cX7_tag 0 = .ok (.aload_n 0, 1) := by decide +kernel
theorem dX7_tag_1 : decode cX7_tag 1 = .ok (.iload_n 1, 1) := by decide +kernel
theorem dX7_tag_2 : decode cX7_tag 2 = .ok (.iload_n 2, 1) := by decide +kernel
theorem dX7_tag_3 : decode cX7_tag 3 = .ok (.invokevirtual 203, 3) := by decide +kernel
theorem dX7_tag_6 : decode cX7_tag 6 = .ok (.invokestatic 206, 3) := by decide +kernel
theorem dX7_tag_9 : decode cX7_tag 9 = .ok (.aload_n 0, 1) := by decide +kernel
theorem dX7_tag_10 : decode cX7_tag 10 = .ok (.invokevirtual 64, 3) := by decide +kernel
theorem dX7_tag_13 : decode cX7_tag 13 = .ok (.aload_n 0, 1) := by decide +kernel
theorem dX7_tag_14 : decode cX7_tag 14 = .ok (.getfield 12, 3) := by decide +kernel
theorem dX7_tag_17 : decode cX7_tag 17 = .ok (.iload_n 1, 1) := by decide +kernel
theorem dX7_tag_18 : decode cX7_tag 18 = .ok (.aload_n 0, 1) := by decide +kernel
theorem dX7_tag_19 : decode cX7_tag 19 = .ok (.getfield 12, 3) := by decide +kernel
theorem dX7_tag_22 : decode cX7_tag 22 = .ok (.getfield 93, 3) := by decide +kernel
theorem dX7_tag_25 : decode cX7_tag 25 = .ok (.iload_n 1, 1) := by decide +kernel
theorem dX7_tag_26 : decode cX7_tag 26 = .ok (.iload_n 2, 1) := by decide +kernel
theorem dX7_tag_27 : decode cX7_tag 27 = .ok (.invokevirtual 197, 3) := by decide +kernel
theorem dX7_tag_30 : decode cX7_tag 30 = .ok (.invokevirtual 209, 3) := by decide +kernel
theorem dX7_tag_33 : decode cX7_tag 33 = .ok (.istore_n 3, 1) := by decide +kernel
theorem dX7_tag_34 : decode cX7_tag 34 = .ok (.aload_n 0, 1) := by decide +kernel
theorem dX7_tag_35 : decode cX7_tag 35 = .ok (.getfield 12, 3) := by decide +kernel
theorem dX7_tag_38 : decode cX7_tag 38 = .ok (.getfield 93, 3) := by decide +kernel
theorem dX7_tag_41 : decode cX7_tag 41 = .ok (.iload_n 1, 1) := by decide +kernel
theorem dX7_tag_42 : decode cX7_tag 42 = .ok (.iload_n 2, 1) := by decide +kernel
theorem dX7_tag_43 : decode cX7_tag 43 = .ok (.invokevirtual 212, 3) := by decide +kernel
theorem dX7_tag_46 : decode cX7_tag 46 = .ok (.aload_n 0, 1) := by decide +kernel
theorem dX7_tag_47 : decode cX7_tag 47 = .ok (.getfield 12, 3) := by decide +kernel
theorem dX7_tag_50 : decode cX7_tag 50 = .ok (.invokevirtual 78, 3) := by decide +kernel
theorem dX7_tag_53 : decode cX7_tag 53 = .ok (.iload_n 3, 1) := by decide +kernel
theorem dX7_tag_54 : decode cX7_tag 54 = .ok (.ireturn, 1) := by decide +kernel
set_option maxRecDepth 20000 in
theorem ggX7_moveReason_X7_needFolder : GoodIn wsX7_moveReason wsX7_needFolder := goodIn_ca (goodIn_r _ [7, 8, 9, 1, 2, 10, 11, 12, 13, 14, 15, 132, 133, 134, 135, 136, 137, 138, 139, 140, 141, 142, 143, 144, 145, 146, 147, 148] (by decide +kernel) (by decide +kernel)) (goodIn_sub (fun _ h => List.mem_cons_of_mem _ (List.mem_append_right _ h)) (by decide +kernel))
set_option maxRecDepth 20000 in
theorem gX7_moveReason_X7_needFolder : GoodIn wsX7_moveReason (wsV RX7 132 RX7 yX7_needFolder wsX7_needFolder) := goodIn_app (goodIn_of _ (by decide +kernel)) ggX7_moveReason_X7_needFolder
set_option maxRecDepth 20000 in
theorem ggX7_moveReason_X3_isInSubtree : GoodIn wsX7_moveReason wsX3_isInSubtree := goodIn_r _ [19, 20, 21, 22, 13, 23, 24, 25, 11, 12, 14, 15, 145, 146, 147, 148] (by decide +kernel) (by decide +kernel)
set_option maxRecDepth 20000 in
theorem gX7_moveReason_X3_isInSubtree : GoodIn wsX7_moveReason (wsV RX7 216 RX3 yX3_isInSubtree wsX3_isInSubtree) := goodIn_app (goodIn_of _ (by decide +kernel)) ggX7_moveReason_X3_isInSubtree
set_option maxRecDepth 20000 in
theorem ggX7_moveReason_X3_projectIfMoved : GoodIn wsX7_moveReason wsX3_projectIfMoved := goodIn_r _ [29, 30, 31, 32, 13, 33, 34, 25, 11, 12, 14, 15, 35, 36, 37, 38, 20, 21, 22, 23, 24, 145, 146, 147, 148] (by decide +kernel) (by decide +kernel)
set_option maxRecDepth 20000 in
theorem gX7_moveReason_X3_projectIfMoved : GoodIn wsX7_moveReason (wsV RX7 220 RX3 yX3_projectIfMoved wsX3_projectIfMoved) := goodIn_app (goodIn_of _ (by decide +kernel)) ggX7_moveReason_X3_projectIfMoved
set_option maxRecDepth 20000 in
theorem ggX7_moveReason_X6_openReason : GoodIn wsX7_moveReason wsX6_openReason := goodIn_r _ [43, 44, 45, 36, 37, 13, 38, 30, 31, 32, 33, 34, 25, 11, 12, 14, 15, 20, 21, 22, 23, 24, 46, 47, 48, 42, 49, 50, 51, 52, 53, 54, 55, 56, 57, 58, 59, 60, 61, 62, 63, 64, 65, 66, 67, 68, 69, 70, 71, 72, 73, 74, 75, 76, 77, 78, 79, 80, 81, 82, 83, 84, 85, 86, 87, 88, 89, 90, 91, 92, 93, 94, 6, 95, 96, 97, 98, 99, 100, 101, 102, 103, 104, 105, 106, 107, 108, 109, 110, 111, 112, 113, 114, 115, 116, 117, 118, 119, 120, 121, 122, 123, 124, 125, 126, 127, 128, 129, 130, 131, 139, 140, 141, 142, 143, 144, 145, 146, 147, 148, 149, 150, 151, 152, 153, 154, 155, 156, 157, 158, 159, 160] (by decide +kernel) (by decide +kernel)
set_option maxRecDepth 20000 in
theorem gX7_moveReason_X6_openReason : GoodIn wsX7_moveReason (wsV RX7 200 RX6 yX6_openReason wsX6_openReason) := goodIn_app (goodIn_of _ (by decide +kernel)) ggX7_moveReason_X6_openReason
theorem dX7_moveReason_0 : decode cX7_moveReason 0 = .ok (.aload_n 0, 1) := by decide +kernel
theorem dX7_moveReason_1 : decode cX7_moveReason 1 = .ok (.iload_n 1, 1) := by decide +kernel
theorem dX7_moveReason_2 : decode cX7_moveReason 2 = .ok (.invokevirtual 132, 3) := by decide +kernel
theorem dX7_moveReason_5 : decode cX7_moveReason 5 = .ok (.aload_n 0, 1) := by decide +kernel
theorem dX7_moveReason_6 : decode cX7_moveReason 6 = .ok (.iload_n 2, 1) := by decide +kernel
theorem dX7_moveReason_7 : decode cX7_moveReason 7 = .ok (.invokevirtual 132, 3) := by decide +kernel
theorem dX7_moveReason_10 : decode cX7_moveReason 10 = .ok (.iload_n 1, 1) := by decide +kernel
theorem dX7_moveReason_11 : decode cX7_moveReason 11 = .ok (.ifCond .eq 18, 3) := by decide +kernel
theorem dX7_moveReason_14 : decode cX7_moveReason 14 = .ok (.aload_n 0, 1) := by decide +kernel
theorem dX7_moveReason_15 : decode cX7_moveReason 15 = .ok (.getfield 12, 3) := by decide +kernel
theorem dX7_moveReason_18 : decode cX7_moveReason 18 = .ok (.getfield 93, 3) := by decide +kernel
theorem dX7_moveReason_21 : decode cX7_moveReason 21 = .ok (.iload_n 2, 1) := by decide +kernel
theorem dX7_moveReason_22 : decode cX7_moveReason 22 = .ok (.iload_n 1, 1) := by decide +kernel
theorem dX7_moveReason_23 : decode cX7_moveReason 23 = .ok (.invokevirtual 216, 3) := by decide +kernel
theorem dX7_moveReason_26 : decode cX7_moveReason 26 = .ok (.ifCond .eq 5, 3) := by decide +kernel
theorem dX7_moveReason_29 : decode cX7_moveReason 29 = .ok (.iconst 5, 1) := by decide +kernel
theorem dX7_moveReason_30 : decode cX7_moveReason 30 = .ok (.ireturn, 1) := by decide +kernel
theorem dX7_moveReason_31 : decode cX7_moveReason 31 = .ok (.aload_n 0, 1) := by decide +kernel
theorem dX7_moveReason_32 : decode cX7_moveReason 32 = .ok (.getfield 12, 3) := by decide +kernel
theorem dX7_moveReason_35 : decode cX7_moveReason 35 = .ok (.iload_n 1, 1) := by decide +kernel
theorem dX7_moveReason_36 : decode cX7_moveReason 36 = .ok (.aload_n 0, 1) := by decide +kernel
theorem dX7_moveReason_37 : decode cX7_moveReason 37 = .ok (.getfield 12, 3) := by decide +kernel
theorem dX7_moveReason_40 : decode cX7_moveReason 40 = .ok (.getfield 93, 3) := by decide +kernel
theorem dX7_moveReason_43 : decode cX7_moveReason 43 = .ok (.iload_n 1, 1) := by decide +kernel
theorem dX7_moveReason_44 : decode cX7_moveReason 44 = .ok (.iload_n 2, 1) := by decide +kernel
theorem dX7_moveReason_45 : decode cX7_moveReason 45 = .ok (.invokevirtual 220, 3) := by decide +kernel
theorem dX7_moveReason_48 : decode cX7_moveReason 48 = .ok (.invokevirtual 200, 3) := by decide +kernel
theorem dX7_moveReason_51 : decode cX7_moveReason 51 = .ok (.ireturn, 1) := by decide +kernel
set_option maxRecDepth 20000 in
theorem ggX7_moveFolder_X7_moveReason : GoodIn wsX7_moveFolder wsX7_moveReason := goodIn_ca (goodIn_r _ [7, 1, 2, 8, 9, 10, 6, 11, 12, 13, 14, 15, 16, 17, 18, 19, 20, 21, 22, 23, 24, 25, 26, 27, 28, 29, 30, 31, 32, 33, 34, 35, 36, 37, 38, 39, 40, 41, 42, 43, 44, 45, 46, 47, 48, 49, 50, 51, 52, 53, 54, 55, 56, 57, 58, 59, 60, 61, 62, 63, 64, 65, 66, 67, 68, 69, 70, 71, 72, 73, 74, 75, 76, 77, 78, 79, 80, 81, 82, 83, 84, 85, 86, 87, 88, 89, 90, 91, 92, 93, 94, 95, 96, 97, 98, 99, 100, 101, 102, 103, 104, 105, 106, 107, 108, 109, 110, 111, 112, 113, 114, 115, 116, 117, 118, 119, 120, 121, 122, 123, 124, 125, 126, 127, 128, 129, 130, 131, 132, 133, 134, 135, 218, 219, 220, 221, 222, 223, 224, 225, 226, 227, 228, 229, 230, 231, 232, 233, 234, 235, 236, 237, 238, 239, 240, 241, 242, 243, 244, 245, 246] (by decide +kernel) (by decide +kernel)) (goodIn_sub (fun _ h => List.mem_cons_of_mem _ (List.mem_append_left _ (List.mem_append_right _ h))) (by decide +kernel))
set_option maxRecDepth 20000 in
theorem gX7_moveFolder_X7_moveReason : GoodIn wsX7_moveFolder (wsV RX7 223 RX7 yX7_moveReason wsX7_moveReason) := goodIn_app (goodIn_of _ (by decide +kernel)) ggX7_moveFolder_X7_moveReason
set_option maxRecDepth 20000 in
theorem ggX7_moveFolder_X7_needNoReason : GoodIn wsX7_moveFolder wsX7_needNoReason := goodIn_ca (goodIn_r _ [138, 139, 140] (by decide +kernel) (by decide +kernel)) (goodIn_sub (fun _ h => List.mem_cons_of_mem _ (List.mem_append_right _ h)) (by decide +kernel))
set_option maxRecDepth 20000 in
theorem gX7_moveFolder_X7_needNoReason : GoodIn wsX7_moveFolder (va_wsS RX7 206 yX7_needNoReason wsX7_needNoReason) := goodIn_app (goodIn_of _ (by decide +kernel)) ggX7_moveFolder_X7_needNoReason
set_option maxRecDepth 20000 in
theorem ggX7_moveFolder_X7_remember : GoodIn wsX7_moveFolder wsX7_remember := goodIn_r _ [144, 145, 146, 1, 147, 148, 149, 96, 150, 151, 152, 153, 154, 155, 156, 157, 46, 158, 48, 54, 88, 93, 125, 130, 159, 160, 161, 17, 162, 28, 163, 164, 165, 166, 167, 38, 19, 168, 169, 170, 59, 171, 61, 172, 79, 66, 173, 174, 175, 103, 176, 120, 177, 106, 105, 135, 178, 179, 180, 110, 181, 115, 182, 113, 114, 183, 112, 218, 219, 220, 221, 222, 223, 224, 225, 226, 227, 228, 229, 230, 231, 232, 233, 234, 235, 236, 237, 238, 239, 240, 241, 242, 243, 244, 245, 246] (by decide +kernel) (by decide +kernel)
set_option maxRecDepth 20000 in
theorem gX7_moveFolder_X7_remember : GoodIn wsX7_moveFolder (wsV RX7 64 RX7 yX7_remember wsX7_remember) := goodIn_app (goodIn_of _ (by decide +kernel)) ggX7_moveFolder_X7_remember
set_option maxRecDepth 20000 in
theorem ggX7_moveFolder_X3_projectIfMoved : GoodIn wsX7_moveFolder wsX3_projectIfMoved := goodIn_r _ [33, 34, 35, 36, 17, 37, 38, 29, 15, 16, 18, 19, 39, 40, 41, 42, 24, 25, 26, 27, 28, 231, 232, 233, 234] (by decide +kernel) (by decide +kernel)
set_option maxRecDepth 20000 in
theorem gX7_moveFolder_X3_projectIfMoved : GoodIn wsX7_moveFolder (wsV RX7 220 RX3 yX3_projectIfMoved wsX3_projectIfMoved) := goodIn_app (goodIn_of _ (by decide +kernel)) ggX7_moveFolder_X3_projectIfMoved
set_option maxRecDepth 20000 in
theorem ggX7_moveFolder_X6_transferOpenPart : GoodIn wsX7_moveFolder wsX6_transferOpenPart := goodIn_r _ [187, 48, 88, 49, 40, 41, 17, 42, 34, 35, 36, 37, 38, 29, 15, 16, 18, 19, 24, 25, 26, 27, 28, 50, 51, 52, 46, 53, 54, 55, 56, 57, 58, 59, 60, 61, 62, 63, 64, 65, 66, 67, 68, 69, 70, 71, 72, 73, 74, 75, 76, 77, 78, 79, 188, 189, 190, 103, 191, 192, 193, 194, 195, 98, 6, 99, 196, 197, 198, 199, 200, 95, 96, 97, 201, 117, 118, 119, 120, 202, 203, 204, 205, 225, 226, 227, 228, 229, 230, 231, 232, 233, 234, 235, 236, 237, 238, 239, 240, 241] (by decide +kernel) (by decide +kernel)
set_option maxRecDepth 20000 in
theorem gX7_moveFolder_X6_transferOpenPart : GoodIn wsX7_moveFolder (wsV RX7 209 RX6 yX6_transferOpenPart wsX6_transferOpenPart) := goodIn_app (goodIn_of _ (by decide +kernel)) ggX7_moveFolder_X6_transferOpenPart
set_option maxRecDepth 20000 in
theorem ggX7_moveFolder_X3_setParent : GoodIn wsX7_moveFolder wsX3_setParent := goodIn_r _ [209, 28, 29, 15, 16, 17, 18, 19, 231, 232, 233, 234] (by decide +kernel) (by decide +kernel)
set_option maxRecDepth 20000 in
theorem gX7_moveFolder_X3_setParent : GoodIn wsX7_moveFolder (wsV RX7 226 RX3 yX3_setParent wsX3_setParent) := goodIn_app (goodIn_of _ (by decide +kernel)) ggX7_moveFolder_X3_setParent
set_option maxRecDepth 20000 in
theorem ggX7_moveFolder_X6_setClocks : GoodIn wsX7_moveFolder wsX6_setClocks := goodIn_r _ [213, 88, 125, 98, 6, 99, 84, 85, 86, 46, 87, 89, 90, 91, 92, 93, 94, 95, 96, 97, 100, 101, 102, 103, 104, 105, 106, 107, 108, 109, 110, 111, 112, 113, 114, 115, 116, 117, 118, 119, 120, 214, 215, 216, 217, 135, 131, 132, 133, 134, 225, 226, 227, 228, 229, 230, 238, 239, 240, 241, 242, 243, 244, 245, 246] (by decide +kernel) (by decide +kernel)
set_option maxRecDepth 20000 in
theorem gX7_moveFolder_X6_setClocks : GoodIn wsX7_moveFolder (wsV RX7 78 RX6 yX6_setClocks wsX6_setClocks) := goodIn_app (goodIn_of _ (by decide +kernel)) ggX7_moveFolder_X6_setClocks
theorem dX7_moveFolder_0 : decode cX7_moveFolder 0 = .ok (.aload_n 0, 1) := by decide +kernel
theorem dX7_moveFolder_1 : decode cX7_moveFolder 1 = .ok (.iload_n 1, 1) := by decide +kernel
theorem dX7_moveFolder_2 : decode cX7_moveFolder 2 = .ok (.iload_n 2, 1) := by decide +kernel
theorem dX7_moveFolder_3 : decode cX7_moveFolder 3 = .ok (.invokevirtual 223, 3) := by decide +kernel
theorem dX7_moveFolder_6 : decode cX7_moveFolder 6 = .ok (.invokestatic 206, 3) := by decide +kernel
theorem dX7_moveFolder_9 : decode cX7_moveFolder 9 = .ok (.aload_n 0, 1) := by decide +kernel
theorem dX7_moveFolder_10 : decode cX7_moveFolder 10 = .ok (.invokevirtual 64, 3) := by decide +kernel
theorem dX7_moveFolder_13 : decode cX7_moveFolder 13 = .ok (.aload_n 0, 1) := by decide +kernel
theorem dX7_moveFolder_14 : decode cX7_moveFolder 14 = .ok (.getfield 12, 3) := by decide +kernel
theorem dX7_moveFolder_17 : decode cX7_moveFolder 17 = .ok (.iload_n 1, 1) := by decide +kernel
theorem dX7_moveFolder_18 : decode cX7_moveFolder 18 = .ok (.aload_n 0, 1) := by decide +kernel
theorem dX7_moveFolder_19 : decode cX7_moveFolder 19 = .ok (.getfield 12, 3) := by decide +kernel
theorem dX7_moveFolder_22 : decode cX7_moveFolder 22 = .ok (.getfield 93, 3) := by decide +kernel
theorem dX7_moveFolder_25 : decode cX7_moveFolder 25 = .ok (.iload_n 1, 1) := by decide +kernel
theorem dX7_moveFolder_26 : decode cX7_moveFolder 26 = .ok (.iload_n 2, 1) := by decide +kernel
theorem dX7_moveFolder_27 : decode cX7_moveFolder 27 = .ok (.invokevirtual 220, 3) := by decide +kernel
theorem dX7_moveFolder_30 : decode cX7_moveFolder 30 = .ok (.invokevirtual 209, 3) := by decide +kernel
theorem dX7_moveFolder_33 : decode cX7_moveFolder 33 = .ok (.istore_n 3, 1) := by decide +kernel
theorem dX7_moveFolder_34 : decode cX7_moveFolder 34 = .ok (.aload_n 0, 1) := by decide +kernel
theorem dX7_moveFolder_35 : decode cX7_moveFolder 35 = .ok (.getfield 12, 3) := by decide +kernel
theorem dX7_moveFolder_38 : decode cX7_moveFolder 38 = .ok (.getfield 93, 3) := by decide +kernel
theorem dX7_moveFolder_41 : decode cX7_moveFolder 41 = .ok (.iload_n 1, 1) := by decide +kernel
theorem dX7_moveFolder_42 : decode cX7_moveFolder 42 = .ok (.iload_n 2, 1) := by decide +kernel
theorem dX7_moveFolder_43 : decode cX7_moveFolder 43 = .ok (.invokevirtual 226, 3) := by decide +kernel
theorem dX7_moveFolder_46 : decode cX7_moveFolder 46 = .ok (.aload_n 0, 1) := by decide +kernel
theorem dX7_moveFolder_47 : decode cX7_moveFolder 47 = .ok (.getfield 12, 3) := by decide +kernel
theorem dX7_moveFolder_50 : decode cX7_moveFolder 50 = .ok (.invokevirtual 78, 3) := by decide +kernel
theorem dX7_moveFolder_53 : decode cX7_moveFolder 53 = .ok (.iload_n 3, 1) := by decide +kernel
theorem dX7_moveFolder_54 : decode cX7_moveFolder 54 = .ok (.ireturn, 1) := by decide +kernel
set_option maxRecDepth 20000 in
theorem ggX7_file_X7_needFile : GoodIn wsX7_file wsX7_needFile := goodIn_ca (goodIn_r _ [9, 10, 11, 3, 4, 12, 13, 14, 15, 16, 17, 57, 58, 59, 60, 61, 62, 63, 64, 65, 66, 67, 68, 69, 70, 71, 72] (by decide +kernel) (by decide +kernel)) (goodIn_sub (fun _ h => List.mem_cons_of_mem _ (List.mem_append_right _ h)) (by decide +kernel))
set_option maxRecDepth 20000 in
theorem gX7_file_X7_needFile : GoodIn wsX7_file (wsV RX7 229 RX7 yX7_needFile wsX7_needFile) := goodIn_app (goodIn_of _ (by decide +kernel)) ggX7_file_X7_needFile
set_option maxRecDepth 20000 in
theorem ggX7_file_X2_placeOf : GoodIn wsX7_file wsX2_placeOf := goodIn_r _ [21, 22, 23, 13, 14, 15, 16, 17, 70, 71, 72] (by decide +kernel) (by decide +kernel)
set_option maxRecDepth 20000 in
theorem gX7_file_X2_placeOf : GoodIn wsX7_file (wsV RX7 232 RX2 yX2_placeOf wsX2_placeOf) := goodIn_app (goodIn_of _ (by decide +kernel)) ggX7_file_X2_placeOf
set_option maxRecDepth 20000 in
theorem ggX7_file_X2_sizeOf : GoodIn wsX7_file wsX2_sizeOf := goodIn_r _ [27, 28, 23, 13, 14, 15, 16, 17, 70, 71, 72] (by decide +kernel) (by decide +kernel)
set_option maxRecDepth 20000 in
theorem gX7_file_X2_sizeOf : GoodIn wsX7_file (wsV RX7 235 RX2 yX2_sizeOf wsX2_sizeOf) := goodIn_app (goodIn_of _ (by decide +kernel)) ggX7_file_X2_sizeOf
set_option maxRecDepth 20000 in
theorem ggX7_file_X6_projectOfFile : GoodIn wsX7_file wsX6_projectOfFile := goodIn_r _ [33, 34, 35, 36, 19, 20, 15, 21, 22, 23, 13, 14, 16, 17, 37, 38, 39, 40, 41, 42, 43, 44, 45, 46, 47, 48, 49, 50, 51, 52, 53, 54, 55, 56, 64, 65, 66, 67, 68, 69, 70, 71, 72, 73, 74, 75, 76] (by decide +kernel) (by decide +kernel)
set_option maxRecDepth 20000 in
theorem gX7_file_X6_projectOfFile : GoodIn wsX7_file (wsV RX7 238 RX6 yX6_projectOfFile wsX6_projectOfFile) := goodIn_app (goodIn_of _ (by decide +kernel)) ggX7_file_X6_projectOfFile
theorem dX7_file_0 : decode cX7_file 0 = .ok (.aload_n 0, 1) := by decide +kernel
theorem dX7_file_1 : decode cX7_file 1 = .ok (.iload_n 1, 1) := by decide +kernel
theorem dX7_file_2 : decode cX7_file 2 = .ok (.invokevirtual 229, 3) := by decide +kernel
theorem dX7_file_5 : decode cX7_file 5 = .ok (.iload_n 2, 1) := by decide +kernel
theorem dX7_file_6 : decode cX7_file 6 = .ok (.tableswitch 59 0 2 #[26, 38, 50], 26) := by decide +kernel
theorem dX7_file_32 : decode cX7_file 32 = .ok (.aload_n 0, 1) := by decide +kernel
theorem dX7_file_33 : decode cX7_file 33 = .ok (.getfield 12, 3) := by decide +kernel
theorem dX7_file_36 : decode cX7_file 36 = .ok (.getfield 81, 3) := by decide +kernel
theorem dX7_file_39 : decode cX7_file 39 = .ok (.iload_n 1, 1) := by decide +kernel
theorem dX7_file_40 : decode cX7_file 40 = .ok (.invokevirtual 232, 3) := by decide +kernel
theorem dX7_file_43 : decode cX7_file 43 = .ok (.ireturn, 1) := by decide +kernel
theorem dX7_file_44 : decode cX7_file 44 = .ok (.aload_n 0, 1) := by decide +kernel
theorem dX7_file_45 : decode cX7_file 45 = .ok (.getfield 12, 3) := by decide +kernel
theorem dX7_file_48 : decode cX7_file 48 = .ok (.getfield 81, 3) := by decide +kernel
theorem dX7_file_51 : decode cX7_file 51 = .ok (.iload_n 1, 1) := by decide +kernel
theorem dX7_file_52 : decode cX7_file 52 = .ok (.invokevirtual 235, 3) := by decide +kernel
theorem dX7_file_55 : decode cX7_file 55 = .ok (.ireturn, 1) := by decide +kernel
theorem dX7_file_56 : decode cX7_file 56 = .ok (.aload_n 0, 1) := by decide +kernel
theorem dX7_file_57 : decode cX7_file 57 = .ok (.getfield 12, 3) := by decide +kernel
theorem dX7_file_60 : decode cX7_file 60 = .ok (.iload_n 1, 1) := by decide +kernel
theorem dX7_file_61 : decode cX7_file 61 = .ok (.invokevirtual 238, 3) := by decide +kernel
theorem dX7_file_64 : decode cX7_file 64 = .ok (.ireturn, 1) := by decide +kernel
theorem dX7_file_65 : decode cX7_file 65 = .ok (.new 123, 3) := by decide +kernel
theorem dX7_file_68 : decode cX7_file 68 = .ok (.dup, 1) := by decide +kernel
theorem dX7_file_69 : decode cX7_file 69 = .ok (.ldc 241, 2) := by decide +kernel
theorem dX7_file_71 : decode cX7_file 71 = .ok (.invokespecial 127, 3) := by decide +kernel
theorem dX7_file_74 : decode cX7_file 74 = .ok (.athrow, 1) := by decide +kernel
set_option maxRecDepth 20000 in
theorem ggX7_writeReason_X7_needFolder : GoodIn wsX7_writeReason wsX7_needFolder := goodIn_ca (goodIn_r _ [7, 8, 9, 1, 2, 10, 11, 12, 13, 14, 15, 93, 94, 95, 96, 97, 98, 99, 100, 101, 102, 103, 104, 105, 106, 107, 108, 109] (by decide +kernel) (by decide +kernel)) (goodIn_sub (fun _ h => List.mem_cons_of_mem _ (List.mem_append_left _ (List.mem_append_right _ h))) (by decide +kernel))
set_option maxRecDepth 20000 in
theorem gX7_writeReason_X7_needFolder : GoodIn wsX7_writeReason (wsV RX7 132 RX7 yX7_needFolder wsX7_needFolder) := goodIn_app (goodIn_of _ (by decide +kernel)) ggX7_writeReason_X7_needFolder
set_option maxRecDepth 20000 in
theorem ggX7_writeReason_X7_needRange : GoodIn wsX7_writeReason wsX7_needRange := goodIn_ca (goodIn_r _ [18, 19, 20] (by decide +kernel) (by decide +kernel)) (goodIn_sub (fun _ h => List.mem_cons_of_mem _ (List.mem_append_right _ h)) (by decide +kernel))
set_option maxRecDepth 20000 in
theorem gX7_writeReason_X7_needRange : GoodIn wsX7_writeReason (va_wsS RX7 54 yX7_needRange wsX7_needRange) := goodIn_app (goodIn_of _ (by decide +kernel)) ggX7_writeReason_X7_needRange
set_option maxRecDepth 20000 in
theorem ggX7_writeReason_X3_projectOf : GoodIn wsX7_writeReason wsX3_projectOf := goodIn_r _ [24, 25, 26, 27, 13, 28, 29, 30, 11, 12, 14, 15, 31, 32, 33, 34, 35, 106, 107, 108, 109] (by decide +kernel) (by decide +kernel)
set_option maxRecDepth 20000 in
theorem gX7_writeReason_X3_projectOf : GoodIn wsX7_writeReason (wsV RX7 142 RX3 yX3_projectOf wsX3_projectOf) := goodIn_app (goodIn_of _ (by decide +kernel)) ggX7_writeReason_X3_projectOf
set_option maxRecDepth 20000 in
theorem ggX7_writeReason_X6_growthReason : GoodIn wsX7_writeReason wsX6_growthReason := goodIn_r _ [40, 41, 42, 43, 39, 44, 45, 46, 47, 48, 49, 50, 51, 52, 53, 54, 55, 6, 56, 57, 58, 59, 60, 61, 62, 63, 64, 65, 66, 67, 68, 69, 70, 71, 72, 73, 74, 75, 76, 77, 78, 79, 80, 81, 82, 83, 84, 85, 86, 87, 88, 89, 90, 91, 92, 100, 101, 102, 103, 104, 105, 110, 111, 112, 113, 114, 115, 116, 117, 118] (by decide +kernel) (by decide +kernel)
set_option maxRecDepth 20000 in
theorem gX7_writeReason_X6_growthReason : GoodIn wsX7_writeReason (wsV RX7 243 RX6 yX6_growthReason wsX6_growthReason) := goodIn_app (goodIn_of _ (by decide +kernel)) ggX7_writeReason_X6_growthReason
theorem dX7_writeReason_0 : decode cX7_writeReason 0 = .ok (.aload_n 0, 1) := by decide +kernel
theorem dX7_writeReason_1 : decode cX7_writeReason 1 = .ok (.iload_n 1, 1) := by decide +kernel
theorem dX7_writeReason_2 : decode cX7_writeReason 2 = .ok (.invokevirtual 132, 3) := by decide +kernel
theorem dX7_writeReason_5 : decode cX7_writeReason 5 = .ok (.iload_n 2, 1) := by decide +kernel
theorem dX7_writeReason_6 : decode cX7_writeReason 6 = .ok (.iconst 0, 1) := by decide +kernel
theorem dX7_writeReason_7 : decode cX7_writeReason 7 = .ok (.sipush 9999, 3) := by decide +kernel
theorem dX7_writeReason_10 : decode cX7_writeReason 10 = .ok (.invokestatic 54, 3) := by decide +kernel
theorem dX7_writeReason_13 : decode cX7_writeReason 13 = .ok (.aload_n 0, 1) := by decide +kernel
theorem dX7_writeReason_14 : decode cX7_writeReason 14 = .ok (.getfield 12, 3) := by decide +kernel
theorem dX7_writeReason_17 : decode cX7_writeReason 17 = .ok (.aload_n 0, 1) := by decide +kernel
theorem dX7_writeReason_18 : decode cX7_writeReason 18 = .ok (.getfield 12, 3) := by decide +kernel
theorem dX7_writeReason_21 : decode cX7_writeReason 21 = .ok (.getfield 93, 3) := by decide +kernel
theorem dX7_writeReason_24 : decode cX7_writeReason 24 = .ok (.iload_n 1, 1) := by decide +kernel
theorem dX7_writeReason_25 : decode cX7_writeReason 25 = .ok (.invokevirtual 142, 3) := by decide +kernel
theorem dX7_writeReason_28 : decode cX7_writeReason 28 = .ok (.iload_n 2, 1) := by decide +kernel
theorem dX7_writeReason_29 : decode cX7_writeReason 29 = .ok (.iconst 1, 1) := by decide +kernel
theorem dX7_writeReason_30 : decode cX7_writeReason 30 = .ok (.invokevirtual 243, 3) := by decide +kernel
theorem dX7_writeReason_33 : decode cX7_writeReason 33 = .ok (.ireturn, 1) := by decide +kernel
set_option maxRecDepth 20000 in
theorem ggX7_write_X7_writeReason : GoodIn wsX7_write wsX7_writeReason := goodIn_ca (goodIn_ca (goodIn_r _ [12, 3, 6, 13, 14, 15, 11, 16, 17, 18, 19, 20, 21, 22, 23, 24, 25, 26, 27, 28, 29, 30, 31, 32, 33, 34, 35, 36, 37, 38, 39, 40, 41, 42, 43, 44, 45, 46, 47, 48, 49, 50, 51, 52, 53, 54, 55, 56, 57, 58, 59, 60, 61, 62, 63, 64, 65, 66, 67, 68, 69, 70, 71, 72, 73, 74, 75, 76, 77, 78, 79, 80, 81, 82, 83, 84, 85, 86, 87, 88, 89, 90, 91, 92, 93, 94, 95, 96, 97, 98, 99, 100, 101, 185, 186, 187, 188, 189, 190, 191, 192, 193, 194, 195, 196, 197, 201, 202, 203, 204, 205, 206, 207, 208, 209, 210, 211, 212, 213] (by decide +kernel) (by decide +kernel)) (goodIn_sub (fun _ h => List.mem_cons_of_mem _ (List.mem_append_left _ (List.mem_append_right _ h))) (by decide +kernel))) (goodIn_sub (fun _ h => List.mem_cons_of_mem _ (List.mem_append_right _ h)) (by decide +kernel))
set_option maxRecDepth 20000 in
theorem gX7_write_X7_writeReason : GoodIn wsX7_write (wsV RX7 247 RX7 yX7_writeReason wsX7_writeReason) := goodIn_app (goodIn_of _ (by decide +kernel)) ggX7_write_X7_writeReason
set_option maxRecDepth 20000 in
theorem ggX7_write_X7_needNoReason : GoodIn wsX7_write wsX7_needNoReason := goodIn_ca (goodIn_r _ [104, 1, 2] (by decide +kernel) (by decide +kernel)) (goodIn_sub (fun _ h => List.mem_cons_of_mem _ (List.mem_append_left _ (List.mem_append_left _ (List.mem_append_right _ h)))) (by decide +kernel))
set_option maxRecDepth 20000 in
theorem gX7_write_X7_needNoReason : GoodIn wsX7_write (va_wsS RX7 206 yX7_needNoReason wsX7_needNoReason) := goodIn_app (goodIn_of _ (by decide +kernel)) ggX7_write_X7_needNoReason
set_option maxRecDepth 20000 in
theorem ggX7_write_X2_isFull : GoodIn wsX7_write wsX2_isFull := goodIn_r _ [109, 110, 198, 199, 200] (by decide +kernel) (by decide +kernel)
set_option maxRecDepth 20000 in
theorem gX7_write_X2_isFull : GoodIn wsX7_write (wsV RX7 250 RX2 yX2_isFull wsX2_isFull) := goodIn_app (goodIn_of _ (by decide +kernel)) ggX7_write_X2_isFull
set_option maxRecDepth 20000 in
theorem ggX7_write_X7_remember : GoodIn wsX7_write wsX7_remember := goodIn_r _ [114, 115, 116, 3, 117, 118, 119, 62, 120, 121, 122, 123, 124, 125, 126, 127, 48, 128, 129, 130, 54, 59, 91, 96, 131, 132, 133, 22, 134, 44, 135, 136, 137, 138, 139, 38, 24, 140, 141, 142, 108, 143, 144, 145, 146, 110, 147, 148, 149, 69, 150, 86, 151, 72, 71, 101, 152, 153, 154, 76, 155, 81, 156, 79, 80, 157, 78, 185, 186, 187, 188, 189, 190, 191, 192, 193, 194, 195, 196, 197, 201, 202, 203, 204, 198, 199, 200, 205, 206, 207, 208, 209, 210, 211, 212, 213] (by decide +kernel) (by decide +kernel)
set_option maxRecDepth 20000 in
theorem gX7_write_X7_remember : GoodIn wsX7_write (wsV RX7 64 RX7 yX7_remember wsX7_remember) := goodIn_app (goodIn_of _ (by decide +kernel)) ggX7_write_X7_remember
set_option maxRecDepth 20000 in
theorem ggX7_write_X2_add : GoodIn wsX7_write wsX2_add := goodIn_r _ [161, 144, 110, 146, 162, 106, 107, 108, 109, 198, 199, 200] (by decide +kernel) (by decide +kernel)
set_option maxRecDepth 20000 in
theorem gX7_write_X2_add : GoodIn wsX7_write (wsV RX7 253 RX2 yX2_add wsX2_add) := goodIn_app (goodIn_of _ (by decide +kernel)) ggX7_write_X2_add
set_option maxRecDepth 20000 in
theorem ggX7_write_X3_projectOf : GoodIn wsX7_write wsX3_projectOf := goodIn_r _ [33, 34, 35, 36, 22, 37, 38, 39, 20, 21, 23, 24, 40, 41, 42, 43, 44, 201, 202, 203, 204] (by decide +kernel) (by decide +kernel)
set_option maxRecDepth 20000 in
theorem gX7_write_X3_projectOf : GoodIn wsX7_write (wsV RX7 142 RX3 yX3_projectOf wsX3_projectOf) := goodIn_app (goodIn_of _ (by decide +kernel)) ggX7_write_X3_projectOf
set_option maxRecDepth 20000 in
theorem ggX7_write_X0_change : GoodIn wsX7_write wsX0_change := goodIn_r _ [166, 64, 11, 65, 167, 168, 169, 69, 170, 171, 61, 62, 63, 172, 83, 84, 85, 86, 173, 174, 175, 176, 205, 206, 207, 208] (by decide +kernel) (by decide +kernel)
set_option maxRecDepth 20000 in
theorem gX7_write_X0_change : GoodIn wsX7_write (wsV RX7 259 RX0 yX0_change wsX0_change) := goodIn_app (goodIn_of _ (by decide +kernel)) ggX7_write_X0_change
set_option maxRecDepth 20000 in
theorem ggX7_write_X6_setClocks : GoodIn wsX7_write wsX6_setClocks := goodIn_r _ [180, 54, 91, 64, 11, 65, 50, 51, 52, 48, 53, 55, 56, 57, 58, 59, 60, 61, 62, 63, 66, 67, 68, 69, 70, 71, 72, 73, 74, 75, 76, 77, 78, 79, 80, 81, 82, 83, 84, 85, 86, 181, 182, 183, 184, 101, 97, 98, 99, 100, 192, 193, 194, 195, 196, 197, 205, 206, 207, 208, 209, 210, 211, 212, 213] (by decide +kernel) (by decide +kernel)
set_option maxRecDepth 20000 in
theorem gX7_write_X6_setClocks : GoodIn wsX7_write (wsV RX7 78 RX6 yX6_setClocks wsX6_setClocks) := goodIn_app (goodIn_of _ (by decide +kernel)) ggX7_write_X6_setClocks
theorem dX7_write_0 : decode cX7_write 0 = .ok (.aload_n 0, 1) := by decide +kernel
theorem dX7_write_1 : decode cX7_write 1 = .ok (.iload_n 1, 1) := by decide +kernel
theorem dX7_write_2 : decode cX7_write 2 = .ok (.iload_n 2, 1) := by decide +kernel
theorem dX7_write_3 : decode cX7_write 3 = .ok (.invokevirtual 247, 3) := by decide +kernel
theorem dX7_write_6 : decode cX7_write 6 = .ok (.invokestatic 206, 3) := by decide +kernel
theorem dX7_write_9 : decode cX7_write 9 = .ok (.aload_n 0, 1) := by decide +kernel
theorem dX7_write_10 : decode cX7_write 10 = .ok (.getfield 12, 3) := by decide +kernel
theorem dX7_write_13 : decode cX7_write 13 = .ok (.getfield 81, 3) := by decide +kernel
theorem dX7_write_16 : decode cX7_write 16 = .ok (.invokevirtual 250, 3) := by decide +kernel
theorem dX7_write_19 : decode cX7_write 19 = .ok (.ifCond .eq 13, 3) := by decide +kernel
theorem dX7_write_22 : decode cX7_write 22 = .ok (.new 43, 3) := by decide +kernel
theorem dX7_write_25 : decode cX7_write 25 = .ok (.dup, 1) := by decide +kernel
theorem dX7_write_26 : decode cX7_write 26 = .ok (.ldc 251, 2) := by decide +kernel
theorem dX7_write_28 : decode cX7_write 28 = .ok (.invokespecial 47, 3) := by decide +kernel
theorem dX7_write_31 : decode cX7_write 31 = .ok (.athrow, 1) := by decide +kernel
theorem dX7_write_32 : decode cX7_write 32 = .ok (.aload_n 0, 1) := by decide +kernel
theorem dX7_write_33 : decode cX7_write 33 = .ok (.invokevirtual 64, 3) := by decide +kernel
theorem dX7_write_36 : decode cX7_write 36 = .ok (.aload_n 0, 1) := by decide +kernel
theorem dX7_write_37 : decode cX7_write 37 = .ok (.getfield 12, 3) := by decide +kernel
theorem dX7_write_40 : decode cX7_write 40 = .ok (.getfield 81, 3) := by decide +kernel
theorem dX7_write_43 : decode cX7_write 43 = .ok (.iload_n 1, 1) := by decide +kernel
theorem dX7_write_44 : decode cX7_write 44 = .ok (.iload_n 2, 1) := by decide +kernel
theorem dX7_write_45 : decode cX7_write 45 = .ok (.invokevirtual 253, 3) := by decide +kernel
theorem dX7_write_48 : decode cX7_write 48 = .ok (.aload_n 0, 1) := by decide +kernel
theorem dX7_write_49 : decode cX7_write 49 = .ok (.getfield 12, 3) := by decide +kernel
theorem dX7_write_52 : decode cX7_write 52 = .ok (.getfield 255, 3) := by decide +kernel
theorem dX7_write_55 : decode cX7_write 55 = .ok (.aload_n 0, 1) := by decide +kernel
theorem dX7_write_56 : decode cX7_write 56 = .ok (.getfield 12, 3) := by decide +kernel
theorem dX7_write_59 : decode cX7_write 59 = .ok (.getfield 93, 3) := by decide +kernel
theorem dX7_write_62 : decode cX7_write 62 = .ok (.iload_n 1, 1) := by decide +kernel
theorem dX7_write_63 : decode cX7_write 63 = .ok (.invokevirtual 142, 3) := by decide +kernel
theorem dX7_write_66 : decode cX7_write 66 = .ok (.iload_n 2, 1) := by decide +kernel
theorem dX7_write_67 : decode cX7_write 67 = .ok (.iconst 1, 1) := by decide +kernel
theorem dX7_write_68 : decode cX7_write 68 = .ok (.invokevirtual 259, 3) := by decide +kernel
theorem dX7_write_71 : decode cX7_write 71 = .ok (.aload_n 0, 1) := by decide +kernel
theorem dX7_write_72 : decode cX7_write 72 = .ok (.getfield 12, 3) := by decide +kernel
theorem dX7_write_75 : decode cX7_write 75 = .ok (.invokevirtual 78, 3) := by decide +kernel
theorem dX7_write_78 : decode cX7_write 78 = .ok (.aload_n 0, 1) := by decide +kernel
theorem dX7_write_79 : decode cX7_write 79 = .ok (.getfield 12, 3) := by decide +kernel
theorem dX7_write_82 : decode cX7_write 82 = .ok (.getfield 81, 3) := by decide +kernel
theorem dX7_write_85 : decode cX7_write 85 = .ok (.getfield 85, 3) := by decide +kernel
theorem dX7_write_88 : decode cX7_write 88 = .ok (.iconst 1, 1) := by decide +kernel
theorem dX7_write_89 : decode cX7_write 89 = .ok (.isub, 1) := by decide +kernel
theorem dX7_write_90 : decode cX7_write 90 = .ok (.ireturn, 1) := by decide +kernel
set_option maxRecDepth 20000 in
theorem ggX7_room_X7_needFolder : GoodIn wsX7_room wsX7_needFolder := goodIn_ca (goodIn_r _ [7, 8, 9, 1, 2, 10, 11, 12, 13, 14, 15, 95, 96, 97, 98, 99, 100, 101, 102, 103, 104, 105, 106, 107, 108, 109, 110, 111] (by decide +kernel) (by decide +kernel)) (goodIn_sub (fun _ h => List.mem_cons_of_mem _ (List.mem_append_right _ h)) (by decide +kernel))
set_option maxRecDepth 20000 in
theorem gX7_room_X7_needFolder : GoodIn wsX7_room (wsV RX7 132 RX7 yX7_needFolder wsX7_needFolder) := goodIn_app (goodIn_of _ (by decide +kernel)) ggX7_room_X7_needFolder
set_option maxRecDepth 20000 in
theorem ggX7_room_X3_projectOf : GoodIn wsX7_room wsX3_projectOf := goodIn_r _ [19, 20, 21, 22, 13, 23, 24, 25, 11, 12, 14, 15, 26, 27, 28, 29, 30, 108, 109, 110, 111] (by decide +kernel) (by decide +kernel)
set_option maxRecDepth 20000 in
theorem gX7_room_X3_projectOf : GoodIn wsX7_room (wsV RX7 142 RX3 yX3_projectOf wsX3_projectOf) := goodIn_app (goodIn_of _ (by decide +kernel)) ggX7_room_X3_projectOf
set_option maxRecDepth 20000 in
theorem ggX7_room_X6_growthReason : GoodIn wsX7_room wsX6_growthReason := goodIn_r _ [35, 36, 37, 38, 34, 39, 40, 41, 42, 43, 44, 45, 46, 47, 48, 49, 50, 6, 51, 52, 53, 54, 55, 56, 57, 58, 59, 60, 61, 62, 63, 64, 65, 66, 67, 68, 69, 70, 71, 72, 73, 74, 75, 76, 77, 78, 79, 80, 81, 82, 83, 84, 85, 86, 87, 102, 103, 104, 105, 106, 107, 112, 113, 114, 115, 116, 117, 118, 119, 120] (by decide +kernel) (by decide +kernel)
set_option maxRecDepth 20000 in
theorem gX7_room_X6_growthReason : GoodIn wsX7_room (wsV RX7 243 RX6 yX6_growthReason wsX6_growthReason) := goodIn_app (goodIn_of _ (by decide +kernel)) ggX7_room_X6_growthReason
set_option maxRecDepth 20000 in
theorem ggX7_room_X6_roomOf : GoodIn wsX7_room wsX6_roomOf := goodIn_r _ [91, 40, 92, 93, 48, 94, 46, 47, 49, 73, 74, 75, 34, 76, 77, 78, 79, 80, 81, 82, 50, 6, 51, 83, 84, 85, 55, 86, 87, 41, 42, 43, 44, 45, 52, 53, 54, 56, 57, 58, 59, 60, 61, 62, 63, 64, 65, 66, 67, 68, 69, 70, 71, 72, 102, 103, 104, 105, 106, 107, 112, 113, 114, 115, 116, 117, 118, 119, 120] (by decide +kernel) (by decide +kernel)
set_option maxRecDepth 20000 in
theorem gX7_room_X6_roomOf : GoodIn wsX7_room (wsV RX7 264 RX6 yX6_roomOf wsX6_roomOf) := goodIn_app (goodIn_of _ (by decide +kernel)) ggX7_room_X6_roomOf
theorem dX7_room_0 : decode cX7_room 0 = .ok (.aload_n 0, 1) := by decide +kernel
theorem dX7_room_1 : decode cX7_room 1 = .ok (.iload_n 1, 1) := by decide +kernel
theorem dX7_room_2 : decode cX7_room 2 = .ok (.invokevirtual 132, 3) := by decide +kernel
theorem dX7_room_5 : decode cX7_room 5 = .ok (.aload_n 0, 1) := by decide +kernel
theorem dX7_room_6 : decode cX7_room 6 = .ok (.getfield 12, 3) := by decide +kernel
theorem dX7_room_9 : decode cX7_room 9 = .ok (.getfield 93, 3) := by decide +kernel
theorem dX7_room_12 : decode cX7_room 12 = .ok (.iload_n 1, 1) := by decide +kernel
theorem dX7_room_13 : decode cX7_room 13 = .ok (.invokevirtual 142, 3) := by decide +kernel
theorem dX7_room_16 : decode cX7_room 16 = .ok (.istore_n 2, 1) := by decide +kernel
theorem dX7_room_17 : decode cX7_room 17 = .ok (.aload_n 0, 1) := by decide +kernel
theorem dX7_room_18 : decode cX7_room 18 = .ok (.getfield 12, 3) := by decide +kernel
theorem dX7_room_21 : decode cX7_room 21 = .ok (.iload_n 2, 1) := by decide +kernel
theorem dX7_room_22 : decode cX7_room 22 = .ok (.iconst 0, 1) := by decide +kernel
theorem dX7_room_23 : decode cX7_room 23 = .ok (.iconst 1, 1) := by decide +kernel
theorem dX7_room_24 : decode cX7_room 24 = .ok (.invokevirtual 243, 3) := by decide +kernel
theorem dX7_room_27 : decode cX7_room 27 = .ok (.ifCond .eq 5, 3) := by decide +kernel
theorem dX7_room_30 : decode cX7_room 30 = .ok (.iconst (-1), 1) := by decide +kernel
theorem dX7_room_31 : decode cX7_room 31 = .ok (.ireturn, 1) := by decide +kernel
theorem dX7_room_32 : decode cX7_room 32 = .ok (.aload_n 0, 1) := by decide +kernel
theorem dX7_room_33 : decode cX7_room 33 = .ok (.getfield 12, 3) := by decide +kernel
theorem dX7_room_36 : decode cX7_room 36 = .ok (.iload_n 2, 1) := by decide +kernel
theorem dX7_room_37 : decode cX7_room 37 = .ok (.invokevirtual 264, 3) := by decide +kernel
theorem dX7_room_40 : decode cX7_room 40 = .ok (.ireturn, 1) := by decide +kernel
set_option maxRecDepth 20000 in
theorem ggX7_resize_X7_needFile : GoodIn wsX7_resize wsX7_needFile := goodIn_ca (goodIn_r _ [8, 9, 10, 1, 2, 11, 12, 13, 14, 15, 16, 190, 191, 192, 193, 194, 195, 196, 197, 198, 199, 200, 201, 202, 203, 204, 205] (by decide +kernel) (by decide +kernel)) (goodIn_sub (fun _ h => List.mem_cons_of_mem _ (List.mem_append_left _ (List.mem_append_left _ (List.mem_append_right _ h)))) (by decide +kernel))
set_option maxRecDepth 20000 in
theorem gX7_resize_X7_needFile : GoodIn wsX7_resize (wsV RX7 229 RX7 yX7_needFile wsX7_needFile) := goodIn_app (goodIn_of _ (by decide +kernel)) ggX7_resize_X7_needFile
set_option maxRecDepth 20000 in
theorem ggX7_resize_X7_needRange : GoodIn wsX7_resize wsX7_needRange := goodIn_ca (goodIn_r _ [19, 20, 21] (by decide +kernel) (by decide +kernel)) (goodIn_sub (fun _ h => List.mem_cons_of_mem _ (List.mem_append_left _ (List.mem_append_right _ h))) (by decide +kernel))
set_option maxRecDepth 20000 in
theorem gX7_resize_X7_needRange : GoodIn wsX7_resize (va_wsS RX7 54 yX7_needRange wsX7_needRange) := goodIn_app (goodIn_of _ (by decide +kernel)) ggX7_resize_X7_needRange
set_option maxRecDepth 20000 in
theorem ggX7_resize_X6_projectOfFile : GoodIn wsX7_resize wsX6_projectOfFile := goodIn_r _ [26, 27, 28, 29, 30, 31, 14, 32, 33, 34, 12, 13, 15, 16, 35, 36, 37, 38, 39, 40, 41, 42, 43, 44, 45, 46, 47, 48, 49, 50, 51, 52, 53, 54, 197, 198, 199, 200, 201, 202, 203, 204, 205, 206, 207, 208, 209] (by decide +kernel) (by decide +kernel)
set_option maxRecDepth 20000 in
theorem gX7_resize_X6_projectOfFile : GoodIn wsX7_resize (wsV RX7 238 RX6 yX6_projectOfFile wsX6_projectOfFile) := goodIn_app (goodIn_of _ (by decide +kernel)) ggX7_resize_X6_projectOfFile
set_option maxRecDepth 20000 in
theorem ggX7_resize_X2_sizeOf : GoodIn wsX7_resize wsX2_sizeOf := goodIn_r _ [58, 59, 34, 12, 13, 14, 15, 16, 203, 204, 205] (by decide +kernel) (by decide +kernel)
set_option maxRecDepth 20000 in
theorem gX7_resize_X2_sizeOf : GoodIn wsX7_resize (wsV RX7 235 RX2 yX2_sizeOf wsX2_sizeOf) := goodIn_app (goodIn_of _ (by decide +kernel)) ggX7_resize_X2_sizeOf
set_option maxRecDepth 20000 in
theorem ggX7_resize_X6_growthReason : GoodIn wsX7_resize wsX6_growthReason := goodIn_r _ [63, 64, 65, 66, 25, 67, 68, 69, 70, 71, 72, 73, 74, 75, 76, 77, 78, 7, 79, 80, 81, 82, 83, 84, 85, 86, 87, 88, 89, 90, 91, 92, 93, 94, 95, 96, 97, 98, 99, 100, 101, 102, 103, 104, 105, 106, 107, 108, 109, 110, 111, 112, 113, 114, 115, 197, 198, 199, 200, 201, 202, 210, 211, 212, 213, 214, 215, 216, 217, 218] (by decide +kernel) (by decide +kernel)
set_option maxRecDepth 20000 in
theorem gX7_resize_X6_growthReason : GoodIn wsX7_resize (wsV RX7 243 RX6 yX6_growthReason wsX6_growthReason) := goodIn_app (goodIn_of _ (by decide +kernel)) ggX7_resize_X6_growthReason
set_option maxRecDepth 20000 in
theorem ggX7_resize_X7_needNoReason : GoodIn wsX7_resize wsX7_needNoReason := goodIn_ca (goodIn_r _ [118, 119, 120] (by decide +kernel) (by decide +kernel)) (goodIn_sub (fun _ h => List.mem_cons_of_mem _ (List.mem_append_right _ h)) (by decide +kernel))
set_option maxRecDepth 20000 in
theorem gX7_resize_X7_needNoReason : GoodIn wsX7_resize (va_wsS RX7 206 yX7_needNoReason wsX7_needNoReason) := goodIn_app (goodIn_of _ (by decide +kernel)) ggX7_resize_X7_needNoReason
set_option maxRecDepth 20000 in
theorem ggX7_resize_X7_remember : GoodIn wsX7_resize wsX7_remember := goodIn_r _ [124, 125, 126, 1, 127, 128, 129, 76, 130, 131, 132, 133, 134, 135, 136, 137, 25, 138, 27, 28, 68, 73, 105, 110, 139, 140, 141, 38, 142, 54, 143, 144, 145, 146, 147, 44, 49, 148, 149, 150, 14, 151, 33, 152, 59, 16, 153, 154, 155, 83, 156, 100, 157, 86, 85, 115, 158, 159, 160, 90, 161, 95, 162, 93, 94, 163, 92, 190, 191, 192, 193, 194, 195, 196, 197, 198, 199, 200, 201, 202, 206, 207, 208, 209, 203, 204, 205, 210, 211, 212, 213, 214, 215, 216, 217, 218] (by decide +kernel) (by decide +kernel)
set_option maxRecDepth 20000 in
theorem gX7_resize_X7_remember : GoodIn wsX7_resize (wsV RX7 64 RX7 yX7_remember wsX7_remember) := goodIn_app (goodIn_of _ (by decide +kernel)) ggX7_resize_X7_remember
set_option maxRecDepth 20000 in
theorem ggX7_resize_X2_setSize : GoodIn wsX7_resize wsX2_setSize := goodIn_r _ [167, 59, 34, 12, 13, 14, 15, 16, 203, 204, 205] (by decide +kernel) (by decide +kernel)
set_option maxRecDepth 20000 in
theorem gX7_resize_X2_setSize : GoodIn wsX7_resize (wsV RX7 267 RX2 yX2_setSize wsX2_setSize) := goodIn_app (goodIn_of _ (by decide +kernel)) ggX7_resize_X2_setSize
set_option maxRecDepth 20000 in
theorem ggX7_resize_X0_change : GoodIn wsX7_resize wsX0_change := goodIn_r _ [171, 78, 7, 79, 172, 173, 174, 83, 175, 176, 75, 76, 77, 177, 97, 98, 99, 100, 178, 179, 180, 181, 210, 211, 212, 213] (by decide +kernel) (by decide +kernel)
set_option maxRecDepth 20000 in
theorem gX7_resize_X0_change : GoodIn wsX7_resize (wsV RX7 259 RX0 yX0_change wsX0_change) := goodIn_app (goodIn_of _ (by decide +kernel)) ggX7_resize_X0_change
set_option maxRecDepth 20000 in
theorem ggX7_resize_X6_setClocks : GoodIn wsX7_resize wsX6_setClocks := goodIn_r _ [185, 68, 105, 78, 7, 79, 64, 65, 66, 25, 67, 69, 70, 71, 72, 73, 74, 75, 76, 77, 80, 81, 82, 83, 84, 85, 86, 87, 88, 89, 90, 91, 92, 93, 94, 95, 96, 97, 98, 99, 100, 186, 187, 188, 189, 115, 111, 112, 113, 114, 197, 198, 199, 200, 201, 202, 210, 211, 212, 213, 214, 215, 216, 217, 218] (by decide +kernel) (by decide +kernel)
set_option maxRecDepth 20000 in
theorem gX7_resize_X6_setClocks : GoodIn wsX7_resize (wsV RX7 78 RX6 yX6_setClocks wsX6_setClocks) := goodIn_app (goodIn_of _ (by decide +kernel)) ggX7_resize_X6_setClocks
theorem dX7_resize_0 : decode cX7_resize 0 = .ok (.aload_n 0, 1) := by decide +kernel
theorem dX7_resize_1 : decode cX7_resize 1 = .ok (.iload_n 1, 1) := by decide +kernel
theorem dX7_resize_2 : decode cX7_resize 2 = .ok (.invokevirtual 229, 3) := by decide +kernel
theorem dX7_resize_5 : decode cX7_resize 5 = .ok (.iload_n 2, 1) := by decide +kernel
theorem dX7_resize_6 : decode cX7_resize 6 = .ok (.iconst 0, 1) := by decide +kernel
theorem dX7_resize_7 : decode cX7_resize 7 = .ok (.sipush 9999, 3) := by decide +kernel
theorem dX7_resize_10 : decode cX7_resize 10 = .ok (.invokestatic 54, 3) := by decide +kernel
theorem dX7_resize_13 : decode cX7_resize 13 = .ok (.aload_n 0, 1) := by decide +kernel
theorem dX7_resize_14 : decode cX7_resize 14 = .ok (.getfield 12, 3) := by decide +kernel
theorem dX7_resize_17 : decode cX7_resize 17 = .ok (.iload_n 1, 1) := by decide +kernel
theorem dX7_resize_18 : decode cX7_resize 18 = .ok (.invokevirtual 238, 3) := by decide +kernel
theorem dX7_resize_21 : decode cX7_resize 21 = .ok (.istore_n 3, 1) := by decide +kernel
theorem dX7_resize_22 : decode cX7_resize 22 = .ok (.aload_n 0, 1) := by decide +kernel
theorem dX7_resize_23 : decode cX7_resize 23 = .ok (.getfield 12, 3) := by decide +kernel
theorem dX7_resize_26 : decode cX7_resize 26 = .ok (.getfield 81, 3) := by decide +kernel
theorem dX7_resize_29 : decode cX7_resize 29 = .ok (.iload_n 1, 1) := by decide +kernel
theorem dX7_resize_30 : decode cX7_resize 30 = .ok (.invokevirtual 235, 3) := by decide +kernel
theorem dX7_resize_33 : decode cX7_resize 33 = .ok (.istore 4, 2) := by decide +kernel
theorem dX7_resize_35 : decode cX7_resize 35 = .ok (.aload_n 0, 1) := by decide +kernel
theorem dX7_resize_36 : decode cX7_resize 36 = .ok (.getfield 12, 3) := by decide +kernel
theorem dX7_resize_39 : decode cX7_resize 39 = .ok (.iload_n 3, 1) := by decide +kernel
theorem dX7_resize_40 : decode cX7_resize 40 = .ok (.iload_n 2, 1) := by decide +kernel
theorem dX7_resize_41 : decode cX7_resize 41 = .ok (.iload 4, 2) := by decide +kernel
theorem dX7_resize_43 : decode cX7_resize 43 = .ok (.isub, 1) := by decide +kernel
theorem dX7_resize_44 : decode cX7_resize 44 = .ok (.iconst 0, 1) := by decide +kernel
theorem dX7_resize_45 : decode cX7_resize 45 = .ok (.invokevirtual 243, 3) := by decide +kernel
theorem dX7_resize_48 : decode cX7_resize 48 = .ok (.invokestatic 206, 3) := by decide +kernel
theorem dX7_resize_51 : decode cX7_resize 51 = .ok (.aload_n 0, 1) := by decide +kernel
theorem dX7_resize_52 : decode cX7_resize 52 = .ok (.invokevirtual 64, 3) := by decide +kernel
theorem dX7_resize_55 : decode cX7_resize 55 = .ok (.aload_n 0, 1) := by decide +kernel
theorem dX7_resize_56 : decode cX7_resize 56 = .ok (.getfield 12, 3) := by decide +kernel
theorem dX7_resize_59 : decode cX7_resize 59 = .ok (.getfield 81, 3) := by decide +kernel
theorem dX7_resize_62 : decode cX7_resize 62 = .ok (.iload_n 1, 1) := by decide +kernel
theorem dX7_resize_63 : decode cX7_resize 63 = .ok (.iload_n 2, 1) := by decide +kernel
theorem dX7_resize_64 : decode cX7_resize 64 = .ok (.invokevirtual 267, 3) := by decide +kernel
theorem dX7_resize_67 : decode cX7_resize 67 = .ok (.aload_n 0, 1) := by decide +kernel
theorem dX7_resize_68 : decode cX7_resize 68 = .ok (.getfield 12, 3) := by decide +kernel
theorem dX7_resize_71 : decode cX7_resize 71 = .ok (.getfield 255, 3) := by decide +kernel
theorem dX7_resize_74 : decode cX7_resize 74 = .ok (.iload_n 3, 1) := by decide +kernel
theorem dX7_resize_75 : decode cX7_resize 75 = .ok (.iload_n 2, 1) := by decide +kernel
theorem dX7_resize_76 : decode cX7_resize 76 = .ok (.iload 4, 2) := by decide +kernel
theorem dX7_resize_78 : decode cX7_resize 78 = .ok (.isub, 1) := by decide +kernel
theorem dX7_resize_79 : decode cX7_resize 79 = .ok (.iconst 0, 1) := by decide +kernel
theorem dX7_resize_80 : decode cX7_resize 80 = .ok (.invokevirtual 259, 3) := by decide +kernel
theorem dX7_resize_83 : decode cX7_resize 83 = .ok (.aload_n 0, 1) := by decide +kernel
theorem dX7_resize_84 : decode cX7_resize 84 = .ok (.getfield 12, 3) := by decide +kernel
theorem dX7_resize_87 : decode cX7_resize 87 = .ok (.invokevirtual 78, 3) := by decide +kernel
theorem dX7_resize_90 : decode cX7_resize 90 = .ok (.iload 4, 2) := by decide +kernel
theorem dX7_resize_92 : decode cX7_resize 92 = .ok (.ireturn, 1) := by decide +kernel
set_option maxRecDepth 20000 in
theorem ggX7_delete_X7_needFile : GoodIn wsX7_delete wsX7_needFile := goodIn_ca (goodIn_r _ [9, 10, 11, 1, 3, 12, 13, 14, 15, 16, 17, 169, 170, 171, 172, 173, 174, 175, 176, 177, 178, 179, 180, 181, 182, 183, 184] (by decide +kernel) (by decide +kernel)) (goodIn_sub (fun _ h => List.mem_cons_of_mem _ (List.mem_append_right _ h)) (by decide +kernel))
set_option maxRecDepth 20000 in
theorem gX7_delete_X7_needFile : GoodIn wsX7_delete (wsV RX7 229 RX7 yX7_needFile wsX7_needFile) := goodIn_app (goodIn_of _ (by decide +kernel)) ggX7_delete_X7_needFile
set_option maxRecDepth 20000 in
theorem ggX7_delete_X7_remember : GoodIn wsX7_delete wsX7_remember := goodIn_r _ [21, 22, 23, 1, 24, 25, 26, 27, 28, 29, 30, 31, 32, 33, 34, 35, 36, 37, 38, 39, 40, 41, 42, 43, 44, 45, 46, 47, 48, 49, 50, 51, 52, 53, 54, 55, 56, 57, 58, 59, 15, 60, 61, 62, 63, 17, 64, 65, 66, 67, 68, 69, 70, 71, 72, 73, 74, 75, 76, 77, 78, 79, 80, 81, 82, 83, 84, 169, 170, 171, 172, 173, 174, 175, 176, 177, 178, 179, 180, 181, 185, 186, 187, 188, 182, 183, 184, 189, 190, 191, 192, 193, 194, 195, 196, 197] (by decide +kernel) (by decide +kernel)
set_option maxRecDepth 20000 in
theorem gX7_delete_X7_remember : GoodIn wsX7_delete (wsV RX7 64 RX7 yX7_remember wsX7_remember) := goodIn_app (goodIn_of _ (by decide +kernel)) ggX7_delete_X7_remember
set_option maxRecDepth 20000 in
theorem ggX7_delete_X6_projectOfFile : GoodIn wsX7_delete wsX6_projectOfFile := goodIn_r _ [88, 38, 39, 89, 90, 91, 15, 92, 61, 93, 13, 14, 16, 17, 94, 95, 96, 47, 97, 98, 99, 100, 101, 55, 102, 103, 104, 105, 56, 106, 107, 108, 109, 49, 176, 177, 178, 179, 180, 181, 182, 183, 184, 185, 186, 187, 188] (by decide +kernel) (by decide +kernel)
set_option maxRecDepth 20000 in
theorem gX7_delete_X6_projectOfFile : GoodIn wsX7_delete (wsV RX7 238 RX6 yX6_projectOfFile wsX6_projectOfFile) := goodIn_app (goodIn_of _ (by decide +kernel)) ggX7_delete_X6_projectOfFile
set_option maxRecDepth 20000 in
theorem ggX7_delete_X2_sizeOf : GoodIn wsX7_delete wsX2_sizeOf := goodIn_r _ [113, 63, 93, 13, 14, 15, 16, 17, 182, 183, 184] (by decide +kernel) (by decide +kernel)
set_option maxRecDepth 20000 in
theorem gX7_delete_X2_sizeOf : GoodIn wsX7_delete (wsV RX7 235 RX2 yX2_sizeOf wsX2_sizeOf) := goodIn_app (goodIn_of _ (by decide +kernel)) ggX7_delete_X2_sizeOf
set_option maxRecDepth 20000 in
theorem ggX7_delete_X0_change : GoodIn wsX7_delete wsX0_change := goodIn_r _ [117, 118, 8, 119, 120, 121, 122, 67, 123, 124, 125, 27, 126, 127, 128, 129, 130, 69, 131, 132, 133, 134, 189, 190, 191, 192] (by decide +kernel) (by decide +kernel)
set_option maxRecDepth 20000 in
theorem gX7_delete_X0_change : GoodIn wsX7_delete (wsV RX7 259 RX0 yX0_change wsX0_change) := goodIn_app (goodIn_of _ (by decide +kernel)) ggX7_delete_X0_change
set_option maxRecDepth 20000 in
theorem ggX7_delete_X2_removeAt : GoodIn wsX7_delete wsX2_removeAt := goodIn_r _ [138, 17, 61, 63, 93, 13, 14, 15, 16, 182, 183, 184] (by decide +kernel) (by decide +kernel)
set_option maxRecDepth 20000 in
theorem gX7_delete_X2_removeAt : GoodIn wsX7_delete (wsV RX7 270 RX2 yX2_removeAt wsX2_removeAt) := goodIn_app (goodIn_of _ (by decide +kernel)) ggX7_delete_X2_removeAt
set_option maxRecDepth 20000 in
theorem ggX7_delete_X6_setClocks : GoodIn wsX7_delete wsX6_setClocks := goodIn_r _ [142, 40, 42, 118, 8, 119, 143, 144, 145, 36, 146, 147, 148, 149, 150, 41, 151, 125, 27, 126, 152, 153, 154, 67, 155, 72, 71, 156, 157, 158, 77, 159, 84, 81, 82, 79, 160, 128, 129, 130, 69, 161, 162, 163, 164, 73, 165, 166, 167, 168, 176, 177, 178, 179, 180, 181, 189, 190, 191, 192, 193, 194, 195, 196, 197] (by decide +kernel) (by decide +kernel)
set_option maxRecDepth 20000 in
theorem gX7_delete_X6_setClocks : GoodIn wsX7_delete (wsV RX7 78 RX6 yX6_setClocks wsX6_setClocks) := goodIn_app (goodIn_of _ (by decide +kernel)) ggX7_delete_X6_setClocks
theorem dX7_delete_0 : decode cX7_delete 0 = .ok (.aload_n 0, 1) := by decide +kernel
theorem dX7_delete_1 : decode cX7_delete 1 = .ok (.iload_n 1, 1) := by decide +kernel
theorem dX7_delete_2 : decode cX7_delete 2 = .ok (.invokevirtual 229, 3) := by decide +kernel
theorem dX7_delete_5 : decode cX7_delete 5 = .ok (.aload_n 0, 1) := by decide +kernel
theorem dX7_delete_6 : decode cX7_delete 6 = .ok (.invokevirtual 64, 3) := by decide +kernel
theorem dX7_delete_9 : decode cX7_delete 9 = .ok (.aload_n 0, 1) := by decide +kernel
theorem dX7_delete_10 : decode cX7_delete 10 = .ok (.getfield 12, 3) := by decide +kernel
theorem dX7_delete_13 : decode cX7_delete 13 = .ok (.getfield 255, 3) := by decide +kernel
theorem dX7_delete_16 : decode cX7_delete 16 = .ok (.aload_n 0, 1) := by decide +kernel
theorem dX7_delete_17 : decode cX7_delete 17 = .ok (.getfield 12, 3) := by decide +kernel
theorem dX7_delete_20 : decode cX7_delete 20 = .ok (.iload_n 1, 1) := by decide +kernel
theorem dX7_delete_21 : decode cX7_delete 21 = .ok (.invokevirtual 238, 3) := by decide +kernel
theorem dX7_delete_24 : decode cX7_delete 24 = .ok (.aload_n 0, 1) := by decide +kernel
theorem dX7_delete_25 : decode cX7_delete 25 = .ok (.getfield 12, 3) := by decide +kernel
theorem dX7_delete_28 : decode cX7_delete 28 = .ok (.getfield 81, 3) := by decide +kernel
theorem dX7_delete_31 : decode cX7_delete 31 = .ok (.iload_n 1, 1) := by decide +kernel
theorem dX7_delete_32 : decode cX7_delete 32 = .ok (.invokevirtual 235, 3) := by decide +kernel
theorem dX7_delete_35 : decode cX7_delete 35 = .ok (.ineg, 1) := by decide +kernel
theorem dX7_delete_36 : decode cX7_delete 36 = .ok (.iconst (-1), 1) := by decide +kernel
theorem dX7_delete_37 : decode cX7_delete 37 = .ok (.invokevirtual 259, 3) := by decide +kernel
theorem dX7_delete_40 : decode cX7_delete 40 = .ok (.aload_n 0, 1) := by decide +kernel
theorem dX7_delete_41 : decode cX7_delete 41 = .ok (.getfield 12, 3) := by decide +kernel
theorem dX7_delete_44 : decode cX7_delete 44 = .ok (.getfield 81, 3) := by decide +kernel
theorem dX7_delete_47 : decode cX7_delete 47 = .ok (.iload_n 1, 1) := by decide +kernel
theorem dX7_delete_48 : decode cX7_delete 48 = .ok (.invokevirtual 270, 3) := by decide +kernel
theorem dX7_delete_51 : decode cX7_delete 51 = .ok (.aload_n 0, 1) := by decide +kernel
theorem dX7_delete_52 : decode cX7_delete 52 = .ok (.getfield 12, 3) := by decide +kernel
theorem dX7_delete_55 : decode cX7_delete 55 = .ok (.invokevirtual 78, 3) := by decide +kernel
theorem dX7_delete_58 : decode cX7_delete 58 = .ok (.aload_n 0, 1) := by decide +kernel
theorem dX7_delete_59 : decode cX7_delete 59 = .ok (.getfield 12, 3) := by decide +kernel
theorem dX7_delete_62 : decode cX7_delete 62 = .ok (.getfield 81, 3) := by decide +kernel
theorem dX7_delete_65 : decode cX7_delete 65 = .ok (.getfield 85, 3) := by decide +kernel
theorem dX7_delete_68 : decode cX7_delete 68 = .ok (.ireturn, 1) := by decide +kernel
set_option maxRecDepth 20000 in
theorem ggX7_moveFile_X7_needFile : GoodIn wsX7_moveFile wsX7_needFile := goodIn_ca (goodIn_r _ [9, 10, 11, 1, 3, 12, 13, 14, 15, 16, 17, 196, 197, 198, 199, 200, 201, 202, 203, 204, 205, 206, 207, 208, 209, 210, 211] (by decide +kernel) (by decide +kernel)) (goodIn_sub (fun _ h => List.mem_cons_of_mem _ (List.mem_append_left _ (List.mem_append_right _ h))) (by decide +kernel))
set_option maxRecDepth 20000 in
theorem gX7_moveFile_X7_needFile : GoodIn wsX7_moveFile (wsV RX7 229 RX7 yX7_needFile wsX7_needFile) := goodIn_app (goodIn_of _ (by decide +kernel)) ggX7_moveFile_X7_needFile
set_option maxRecDepth 20000 in
theorem ggX7_moveFile_X7_needFolder : GoodIn wsX7_moveFile wsX7_needFolder := goodIn_ca (goodIn_r _ [21, 10, 11, 1, 2, 22, 23, 24, 25, 26, 27, 196, 197, 198, 199, 200, 201, 202, 203, 204, 205, 206, 207, 208, 212, 213, 214, 215] (by decide +kernel) (by decide +kernel)) (goodIn_sub (fun _ h => List.mem_cons_of_mem _ (List.mem_append_left _ (List.mem_append_right _ h))) (by decide +kernel))
set_option maxRecDepth 20000 in
theorem gX7_moveFile_X7_needFolder : GoodIn wsX7_moveFile (wsV RX7 132 RX7 yX7_needFolder wsX7_needFolder) := goodIn_app (goodIn_of _ (by decide +kernel)) ggX7_moveFile_X7_needFolder
set_option maxRecDepth 20000 in
theorem ggX7_moveFile_X6_projectOfFile : GoodIn wsX7_moveFile wsX6_projectOfFile := goodIn_r _ [32, 33, 34, 35, 36, 37, 15, 38, 39, 40, 13, 14, 16, 17, 41, 42, 43, 25, 44, 45, 46, 47, 48, 49, 50, 23, 24, 26, 27, 51, 52, 53, 54, 55, 203, 204, 205, 206, 207, 208, 209, 210, 211, 212, 213, 214, 215] (by decide +kernel) (by decide +kernel)
set_option maxRecDepth 20000 in
theorem gX7_moveFile_X6_projectOfFile : GoodIn wsX7_moveFile (wsV RX7 238 RX6 yX6_projectOfFile wsX6_projectOfFile) := goodIn_app (goodIn_of _ (by decide +kernel)) ggX7_moveFile_X6_projectOfFile
set_option maxRecDepth 20000 in
theorem ggX7_moveFile_X3_projectOf : GoodIn wsX7_moveFile wsX3_projectOf := goodIn_r _ [44, 45, 46, 47, 25, 48, 49, 50, 23, 24, 26, 27, 51, 52, 53, 54, 55, 212, 213, 214, 215] (by decide +kernel) (by decide +kernel)
set_option maxRecDepth 20000 in
theorem gX7_moveFile_X3_projectOf : GoodIn wsX7_moveFile (wsV RX7 142 RX3 yX3_projectOf wsX3_projectOf) := goodIn_app (goodIn_of _ (by decide +kernel)) ggX7_moveFile_X3_projectOf
set_option maxRecDepth 20000 in
theorem ggX7_moveFile_X2_sizeOf : GoodIn wsX7_moveFile wsX2_sizeOf := goodIn_r _ [60, 61, 40, 13, 14, 15, 16, 17, 209, 210, 211] (by decide +kernel) (by decide +kernel)
set_option maxRecDepth 20000 in
theorem gX7_moveFile_X2_sizeOf : GoodIn wsX7_moveFile (wsV RX7 235 RX2 yX2_sizeOf wsX2_sizeOf) := goodIn_app (goodIn_of _ (by decide +kernel)) ggX7_moveFile_X2_sizeOf
set_option maxRecDepth 20000 in
theorem ggX7_moveFile_X6_growthReason : GoodIn wsX7_moveFile wsX6_growthReason := goodIn_r _ [65, 66, 67, 68, 31, 69, 70, 71, 72, 73, 74, 75, 76, 77, 78, 79, 80, 8, 81, 82, 83, 84, 85, 86, 87, 88, 89, 90, 91, 92, 93, 94, 95, 96, 97, 98, 99, 100, 101, 102, 103, 104, 105, 106, 107, 108, 109, 110, 111, 112, 113, 114, 115, 116, 117, 203, 204, 205, 206, 207, 208, 216, 217, 218, 219, 220, 221, 222, 223, 224] (by decide +kernel) (by decide +kernel)
set_option maxRecDepth 20000 in
theorem gX7_moveFile_X6_growthReason : GoodIn wsX7_moveFile (wsV RX7 243 RX6 yX6_growthReason wsX6_growthReason) := goodIn_app (goodIn_of _ (by decide +kernel)) ggX7_moveFile_X6_growthReason
set_option maxRecDepth 20000 in
theorem ggX7_moveFile_X7_needNoReason : GoodIn wsX7_moveFile wsX7_needNoReason := goodIn_ca (goodIn_r _ [120, 121, 122] (by decide +kernel) (by decide +kernel)) (goodIn_sub (fun _ h => List.mem_cons_of_mem _ (List.mem_append_right _ h)) (by decide +kernel))
set_option maxRecDepth 20000 in
theorem gX7_moveFile_X7_needNoReason : GoodIn wsX7_moveFile (va_wsS RX7 206 yX7_needNoReason wsX7_needNoReason) := goodIn_app (goodIn_of _ (by decide +kernel)) ggX7_moveFile_X7_needNoReason
set_option maxRecDepth 20000 in
theorem ggX7_moveFile_X7_remember : GoodIn wsX7_moveFile wsX7_remember := goodIn_r _ [126, 127, 128, 1, 129, 130, 131, 78, 132, 133, 134, 135, 136, 137, 138, 139, 31, 140, 33, 34, 70, 75, 107, 112, 141, 142, 143, 25, 144, 55, 145, 146, 147, 148, 149, 49, 27, 150, 151, 152, 15, 153, 39, 154, 61, 17, 155, 156, 157, 85, 158, 102, 159, 88, 87, 117, 160, 161, 162, 92, 163, 97, 164, 95, 96, 165, 94, 196, 197, 198, 199, 200, 201, 202, 203, 204, 205, 206, 207, 208, 212, 213, 214, 215, 209, 210, 211, 216, 217, 218, 219, 220, 221, 222, 223, 224] (by decide +kernel) (by decide +kernel)
set_option maxRecDepth 20000 in
theorem gX7_moveFile_X7_remember : GoodIn wsX7_moveFile (wsV RX7 64 RX7 yX7_remember wsX7_remember) := goodIn_app (goodIn_of _ (by decide +kernel)) ggX7_moveFile_X7_remember
set_option maxRecDepth 20000 in
theorem ggX7_moveFile_X2_setPlace : GoodIn wsX7_moveFile wsX2_setPlace := goodIn_r _ [169, 39, 40, 13, 14, 15, 16, 17, 209, 210, 211] (by decide +kernel) (by decide +kernel)
set_option maxRecDepth 20000 in
theorem gX7_moveFile_X2_setPlace : GoodIn wsX7_moveFile (wsV RX7 271 RX2 yX2_setPlace wsX2_setPlace) := goodIn_app (goodIn_of _ (by decide +kernel)) ggX7_moveFile_X2_setPlace
set_option maxRecDepth 20000 in
theorem ggX7_moveFile_X0_transfer : GoodIn wsX7_moveFile wsX0_transfer := goodIn_r _ [173, 174, 175, 176, 85, 177, 80, 8, 81, 178, 179, 180, 181, 182, 77, 78, 79, 183, 99, 100, 101, 102, 184, 185, 186, 187, 216, 217, 218, 219] (by decide +kernel) (by decide +kernel)
set_option maxRecDepth 20000 in
theorem gX7_moveFile_X0_transfer : GoodIn wsX7_moveFile (wsV RX7 274 RX0 yX0_transfer wsX0_transfer) := goodIn_app (goodIn_of _ (by decide +kernel)) ggX7_moveFile_X0_transfer
set_option maxRecDepth 20000 in
theorem ggX7_moveFile_X6_setClocks : GoodIn wsX7_moveFile wsX6_setClocks := goodIn_r _ [191, 70, 107, 80, 8, 81, 66, 67, 68, 31, 69, 71, 72, 73, 74, 75, 76, 77, 78, 79, 82, 83, 84, 85, 86, 87, 88, 89, 90, 91, 92, 93, 94, 95, 96, 97, 98, 99, 100, 101, 102, 192, 193, 194, 195, 117, 113, 114, 115, 116, 203, 204, 205, 206, 207, 208, 216, 217, 218, 219, 220, 221, 222, 223, 224] (by decide +kernel) (by decide +kernel)
set_option maxRecDepth 20000 in
theorem gX7_moveFile_X6_setClocks : GoodIn wsX7_moveFile (wsV RX7 78 RX6 yX6_setClocks wsX6_setClocks) := goodIn_app (goodIn_of _ (by decide +kernel)) ggX7_moveFile_X6_setClocks
theorem dX7_moveFile_0 : decode cX7_moveFile 0 = .ok (.aload_n 0, 1) := by decide +kernel
theorem dX7_moveFile_1 : decode cX7_moveFile 1 = .ok (.iload_n 1, 1) := by decide +kernel
theorem dX7_moveFile_2 : decode cX7_moveFile 2 = .ok (.invokevirtual 229, 3) := by decide +kernel
theorem dX7_moveFile_5 : decode cX7_moveFile 5 = .ok (.aload_n 0, 1) := by decide +kernel
theorem dX7_moveFile_6 : decode cX7_moveFile 6 = .ok (.iload_n 2, 1) := by decide +kernel
theorem dX7_moveFile_7 : decode cX7_moveFile 7 = .ok (.invokevirtual 132, 3) := by decide +kernel
theorem dX7_moveFile_10 : decode cX7_moveFile 10 = .ok (.aload_n 0, 1) := by decide +kernel
theorem dX7_moveFile_11 : decode cX7_moveFile 11 = .ok (.getfield 12, 3) := by decide +kernel
theorem dX7_moveFile_14 : decode cX7_moveFile 14 = .ok (.iload_n 1, 1) := by decide +kernel
theorem dX7_moveFile_15 : decode cX7_moveFile 15 = .ok (.invokevirtual 238, 3) := by decide +kernel
theorem dX7_moveFile_18 : decode cX7_moveFile 18 = .ok (.istore_n 3, 1) := by decide +kernel
theorem dX7_moveFile_19 : decode cX7_moveFile 19 = .ok (.aload_n 0, 1) := by decide +kernel
theorem dX7_moveFile_20 : decode cX7_moveFile 20 = .ok (.getfield 12, 3) := by decide +kernel
theorem dX7_moveFile_23 : decode cX7_moveFile 23 = .ok (.getfield 93, 3) := by decide +kernel
theorem dX7_moveFile_26 : decode cX7_moveFile 26 = .ok (.iload_n 2, 1) := by decide +kernel
theorem dX7_moveFile_27 : decode cX7_moveFile 27 = .ok (.invokevirtual 142, 3) := by decide +kernel
theorem dX7_moveFile_30 : decode cX7_moveFile 30 = .ok (.istore 4, 2) := by decide +kernel
theorem dX7_moveFile_32 : decode cX7_moveFile 32 = .ok (.aload_n 0, 1) := by decide +kernel
theorem dX7_moveFile_33 : decode cX7_moveFile 33 = .ok (.getfield 12, 3) := by decide +kernel
theorem dX7_moveFile_36 : decode cX7_moveFile 36 = .ok (.getfield 81, 3) := by decide +kernel
theorem dX7_moveFile_39 : decode cX7_moveFile 39 = .ok (.iload_n 1, 1) := by decide +kernel
theorem dX7_moveFile_40 : decode cX7_moveFile 40 = .ok (.invokevirtual 235, 3) := by decide +kernel
theorem dX7_moveFile_43 : decode cX7_moveFile 43 = .ok (.istore 5, 2) := by decide +kernel
theorem dX7_moveFile_45 : decode cX7_moveFile 45 = .ok (.iload_n 3, 1) := by decide +kernel
theorem dX7_moveFile_46 : decode cX7_moveFile 46 = .ok (.iload 4, 2) := by decide +kernel
theorem dX7_moveFile_48 : decode cX7_moveFile 48 = .ok (.if_icmp .eq 18, 3) := by decide +kernel
theorem dX7_moveFile_51 : decode cX7_moveFile 51 = .ok (.aload_n 0, 1) := by decide +kernel
theorem dX7_moveFile_52 : decode cX7_moveFile 52 = .ok (.getfield 12, 3) := by decide +kernel
theorem dX7_moveFile_55 : decode cX7_moveFile 55 = .ok (.iload 4, 2) := by decide +kernel
theorem dX7_moveFile_57 : decode cX7_moveFile 57 = .ok (.iload 5, 2) := by decide +kernel
theorem dX7_moveFile_59 : decode cX7_moveFile 59 = .ok (.iconst 1, 1) := by decide +kernel
theorem dX7_moveFile_60 : decode cX7_moveFile 60 = .ok (.invokevirtual 243, 3) := by decide +kernel
theorem dX7_moveFile_63 : decode cX7_moveFile 63 = .ok (.invokestatic 206, 3) := by decide +kernel
theorem dX7_moveFile_66 : decode cX7_moveFile 66 = .ok (.aload_n 0, 1) := by decide +kernel
theorem dX7_moveFile_67 : decode cX7_moveFile 67 = .ok (.invokevirtual 64, 3) := by decide +kernel
theorem dX7_moveFile_70 : decode cX7_moveFile 70 = .ok (.aload_n 0, 1) := by decide +kernel
theorem dX7_moveFile_71 : decode cX7_moveFile 71 = .ok (.getfield 12, 3) := by decide +kernel
theorem dX7_moveFile_74 : decode cX7_moveFile 74 = .ok (.getfield 81, 3) := by decide +kernel
theorem dX7_moveFile_77 : decode cX7_moveFile 77 = .ok (.iload_n 1, 1) := by decide +kernel
theorem dX7_moveFile_78 : decode cX7_moveFile 78 = .ok (.iload_n 2, 1) := by decide +kernel
theorem dX7_moveFile_79 : decode cX7_moveFile 79 = .ok (.invokevirtual 271, 3) := by decide +kernel
theorem dX7_moveFile_82 : decode cX7_moveFile 82 = .ok (.aload_n 0, 1) := by decide +kernel
theorem dX7_moveFile_83 : decode cX7_moveFile 83 = .ok (.getfield 12, 3) := by decide +kernel
theorem dX7_moveFile_86 : decode cX7_moveFile 86 = .ok (.getfield 255, 3) := by decide +kernel
theorem dX7_moveFile_89 : decode cX7_moveFile 89 = .ok (.iload_n 3, 1) := by decide +kernel
theorem dX7_moveFile_90 : decode cX7_moveFile 90 = .ok (.iload 4, 2) := by decide +kernel
theorem dX7_moveFile_92 : decode cX7_moveFile 92 = .ok (.iload 5, 2) := by decide +kernel
theorem dX7_moveFile_94 : decode cX7_moveFile 94 = .ok (.iconst 1, 1) := by decide +kernel
theorem dX7_moveFile_95 : decode cX7_moveFile 95 = .ok (.invokevirtual 274, 3) := by decide +kernel
theorem dX7_moveFile_98 : decode cX7_moveFile 98 = .ok (.aload_n 0, 1) := by decide +kernel
theorem dX7_moveFile_99 : decode cX7_moveFile 99 = .ok (.getfield 12, 3) := by decide +kernel
theorem dX7_moveFile_102 : decode cX7_moveFile 102 = .ok (.invokevirtual 78, 3) := by decide +kernel
theorem dX7_moveFile_105 : decode cX7_moveFile 105 = .ok (.iload_n 3, 1) := by decide +kernel
theorem dX7_moveFile_106 : decode cX7_moveFile 106 = .ok (.iload 4, 2) := by decide +kernel
theorem dX7_moveFile_108 : decode cX7_moveFile 108 = .ok (.if_icmp .ne 7, 3) := by decide +kernel
theorem dX7_moveFile_111 : decode cX7_moveFile 111 = .ok (.iconst 0, 1) := by decide +kernel
theorem dX7_moveFile_112 : decode cX7_moveFile 112 = .ok (.goto 4, 3) := by decide +kernel
theorem dX7_moveFile_115 : decode cX7_moveFile 115 = .ok (.iconst 1, 1) := by decide +kernel
theorem dX7_moveFile_116 : decode cX7_moveFile 116 = .ok (.ireturn, 1) := by decide +kernel
set_option maxRecDepth 20000 in
theorem ggX7_greatest_X7_needProject : GoodIn wsX7_greatest wsX7_needProject := goodIn_ca (goodIn_r _ [7, 8, 9, 6, 10, 11, 12] (by decide +kernel) (by decide +kernel)) (goodIn_sub (fun _ h => List.mem_cons_of_mem _ (List.mem_append_right _ h)) (by decide +kernel))
set_option maxRecDepth 20000 in
theorem gX7_greatest_X7_needProject : GoodIn wsX7_greatest (va_wsS RX7 278 yX7_needProject wsX7_needProject) := goodIn_app (goodIn_of _ (by decide +kernel)) ggX7_greatest_X7_needProject
set_option maxRecDepth 20000 in
theorem ggX7_greatest_X6_greatestFile : GoodIn wsX7_greatest wsX6_greatestFile := goodIn_r _ [17, 18, 19, 20, 21, 22, 23, 24, 25, 26, 27, 28, 29, 30, 31, 32, 33, 16, 34, 35, 36, 37, 38, 39, 40, 41, 42, 43, 44, 45, 46, 47, 48, 49, 50, 51, 52, 53, 54, 55, 56, 57, 58, 59, 60, 68, 69, 70, 71, 72, 73, 74, 75, 76, 77, 78, 79, 80] (by decide +kernel) (by decide +kernel)
set_option maxRecDepth 20000 in
theorem gX7_greatest_X6_greatestFile : GoodIn wsX7_greatest (wsV RX7 281 RX6 yX6_greatestFile wsX6_greatestFile) := goodIn_app (goodIn_of _ (by decide +kernel)) ggX7_greatest_X6_greatestFile
theorem dX7_greatest_0 : decode cX7_greatest 0 = .ok (.iload_n 1, 1) := by decide +kernel
theorem dX7_greatest_1 : decode cX7_greatest 1 = .ok (.invokestatic 278, 3) := by decide +kernel
theorem dX7_greatest_4 : decode cX7_greatest 4 = .ok (.aload_n 0, 1) := by decide +kernel
theorem dX7_greatest_5 : decode cX7_greatest 5 = .ok (.getfield 12, 3) := by decide +kernel
theorem dX7_greatest_8 : decode cX7_greatest 8 = .ok (.iload_n 1, 1) := by decide +kernel
theorem dX7_greatest_9 : decode cX7_greatest 9 = .ok (.invokevirtual 281, 3) := by decide +kernel
theorem dX7_greatest_12 : decode cX7_greatest 12 = .ok (.istore_n 2, 1) := by decide +kernel
theorem dX7_greatest_13 : decode cX7_greatest 13 = .ok (.iload_n 2, 1) := by decide +kernel
theorem dX7_greatest_14 : decode cX7_greatest 14 = .ok (.iconst (-1), 1) := by decide +kernel
theorem dX7_greatest_15 : decode cX7_greatest 15 = .ok (.if_icmp .ne 14, 3) := by decide +kernel
theorem dX7_greatest_18 : decode cX7_greatest 18 = .ok (.new 168, 3) := by decide +kernel
theorem dX7_greatest_21 : decode cX7_greatest 21 = .ok (.dup, 1) := by decide +kernel
theorem dX7_greatest_22 : decode cX7_greatest 22 = .ok (.ldc_w 284, 3) := by decide +kernel
theorem dX7_greatest_25 : decode cX7_greatest 25 = .ok (.invokespecial 172, 3) := by decide +kernel
theorem dX7_greatest_28 : decode cX7_greatest 28 = .ok (.athrow, 1) := by decide +kernel
theorem dX7_greatest_29 : decode cX7_greatest 29 = .ok (.iload_n 2, 1) := by decide +kernel
theorem dX7_greatest_30 : decode cX7_greatest 30 = .ok (.ireturn, 1) := by decide +kernel
set_option maxRecDepth 20000 in
theorem ggX7_used_X7_needAccount : GoodIn wsX7_used wsX7_needAccount := goodIn_ca (goodIn_r _ [6, 7, 8, 5, 9, 10, 11, 12, 13, 14] (by decide +kernel) (by decide +kernel)) (goodIn_sub (fun _ h => List.mem_cons_of_mem _ (List.mem_append_right _ h)) (by decide +kernel))
set_option maxRecDepth 20000 in
theorem gX7_used_X7_needAccount : GoodIn wsX7_used (va_wsS RX7 286 yX7_needAccount wsX7_needAccount) := goodIn_app (goodIn_of _ (by decide +kernel)) ggX7_used_X7_needAccount
set_option maxRecDepth 20000 in
theorem ggX7_used_X7_accountOf : GoodIn wsX7_used wsX7_accountOf := goodIn_r _ [17] (by decide +kernel) (by decide +kernel)
set_option maxRecDepth 20000 in
theorem gX7_used_X7_accountOf : GoodIn wsX7_used (va_wsS RX7 289 yX7_accountOf wsX7_accountOf) := goodIn_app (goodIn_of _ (by decide +kernel)) ggX7_used_X7_accountOf
set_option maxRecDepth 20000 in
theorem ggX7_used_X0_amountOf : GoodIn wsX7_used wsX0_amountOf := goodIn_r _ [22, 23, 37, 38, 39, 40] (by decide +kernel) (by decide +kernel)
set_option maxRecDepth 20000 in
theorem gX7_used_X0_amountOf : GoodIn wsX7_used (wsV RX7 292 RX0 yX0_amountOf wsX0_amountOf) := goodIn_app (goodIn_of _ (by decide +kernel)) ggX7_used_X0_amountOf
theorem dX7_used_0 : decode cX7_used 0 = .ok (.iload_n 1, 1) := by decide +kernel
theorem dX7_used_1 : decode cX7_used 1 = .ok (.iload_n 2, 1) := by decide +kernel
theorem dX7_used_2 : decode cX7_used 2 = .ok (.invokestatic 286, 3) := by decide +kernel
theorem dX7_used_5 : decode cX7_used 5 = .ok (.aload_n 0, 1) := by decide +kernel
theorem dX7_used_6 : decode cX7_used 6 = .ok (.getfield 12, 3) := by decide +kernel
theorem dX7_used_9 : decode cX7_used 9 = .ok (.getfield 255, 3) := by decide +kernel
theorem dX7_used_12 : decode cX7_used 12 = .ok (.iload_n 1, 1) := by decide +kernel
theorem dX7_used_13 : decode cX7_used 13 = .ok (.iload_n 2, 1) := by decide +kernel
theorem dX7_used_14 : decode cX7_used 14 = .ok (.invokestatic 289, 3) := by decide +kernel
theorem dX7_used_17 : decode cX7_used 17 = .ok (.invokevirtual 292, 3) := by decide +kernel
theorem dX7_used_20 : decode cX7_used 20 = .ok (.ireturn, 1) := by decide +kernel
set_option maxRecDepth 20000 in
theorem ggX7_counted_X7_needAccount : GoodIn wsX7_counted wsX7_needAccount := goodIn_ca (goodIn_r _ [5, 6, 7, 4, 8, 9, 10, 11, 12, 13] (by decide +kernel) (by decide +kernel)) (goodIn_sub (fun _ h => List.mem_cons_of_mem _ (List.mem_append_right _ h)) (by decide +kernel))
set_option maxRecDepth 20000 in
theorem gX7_counted_X7_needAccount : GoodIn wsX7_counted (va_wsS RX7 286 yX7_needAccount wsX7_needAccount) := goodIn_app (goodIn_of _ (by decide +kernel)) ggX7_counted_X7_needAccount
set_option maxRecDepth 20000 in
theorem ggX7_counted_X6_countAnew : GoodIn wsX7_counted wsX6_countAnew := goodIn_r _ [18, 19, 20, 21, 22, 23, 17, 24, 25, 26, 27, 28, 29, 30, 31, 32, 33, 34, 35, 36, 37, 38, 39, 40, 41, 42, 43, 44, 45, 46, 47, 48, 49, 50, 51, 52, 53, 54, 55, 56, 57, 58, 59, 60, 61, 62, 63, 64, 65, 73, 74, 75, 76, 77, 78, 79, 80, 81, 82, 83, 84, 85] (by decide +kernel) (by decide +kernel)
set_option maxRecDepth 20000 in
theorem gX7_counted_X6_countAnew : GoodIn wsX7_counted (wsV RX7 120 RX6 yX6_countAnew wsX6_countAnew) := goodIn_app (goodIn_of _ (by decide +kernel)) ggX7_counted_X6_countAnew
theorem dX7_counted_0 : decode cX7_counted 0 = .ok (.iload_n 1, 1) := by decide +kernel
theorem dX7_counted_1 : decode cX7_counted 1 = .ok (.iload_n 2, 1) := by decide +kernel
theorem dX7_counted_2 : decode cX7_counted 2 = .ok (.invokestatic 286, 3) := by decide +kernel
theorem dX7_counted_5 : decode cX7_counted 5 = .ok (.aload_n 0, 1) := by decide +kernel
theorem dX7_counted_6 : decode cX7_counted 6 = .ok (.getfield 12, 3) := by decide +kernel
theorem dX7_counted_9 : decode cX7_counted 9 = .ok (.iload_n 1, 1) := by decide +kernel
theorem dX7_counted_10 : decode cX7_counted 10 = .ok (.iload_n 2, 1) := by decide +kernel
theorem dX7_counted_11 : decode cX7_counted 11 = .ok (.invokevirtual 120, 3) := by decide +kernel
theorem dX7_counted_14 : decode cX7_counted 14 = .ok (.ireturn, 1) := by decide +kernel
set_option maxRecDepth 20000 in
theorem ggX7_limit_X7_needAccount : GoodIn wsX7_limit wsX7_needAccount := goodIn_ca (goodIn_r _ [5, 6, 7, 4, 8, 9, 10, 11, 12, 13] (by decide +kernel) (by decide +kernel)) (goodIn_sub (fun _ h => List.mem_cons_of_mem _ (List.mem_append_right _ h)) (by decide +kernel))
set_option maxRecDepth 20000 in
theorem gX7_limit_X7_needAccount : GoodIn wsX7_limit (va_wsS RX7 286 yX7_needAccount wsX7_needAccount) := goodIn_app (goodIn_of _ (by decide +kernel)) ggX7_limit_X7_needAccount
set_option maxRecDepth 20000 in
theorem ggX7_limit_X6_effectiveLimit : GoodIn wsX7_limit wsX6_effectiveLimit := goodIn_r _ [18, 19, 20, 21, 22, 23, 24, 25, 4, 26, 27, 28, 29, 30, 31, 32, 33, 34, 35, 36, 37, 38, 39, 40, 41, 42, 50, 51, 52, 53, 54, 55, 56, 57, 58, 59, 60, 61, 62, 63, 64] (by decide +kernel) (by decide +kernel)
set_option maxRecDepth 20000 in
theorem gX7_limit_X6_effectiveLimit : GoodIn wsX7_limit (wsV RX7 295 RX6 yX6_effectiveLimit wsX6_effectiveLimit) := goodIn_app (goodIn_of _ (by decide +kernel)) ggX7_limit_X6_effectiveLimit
theorem dX7_limit_0 : decode cX7_limit 0 = .ok (.iload_n 1, 1) := by decide +kernel
theorem dX7_limit_1 : decode cX7_limit 1 = .ok (.iload_n 2, 1) := by decide +kernel
theorem dX7_limit_2 : decode cX7_limit 2 = .ok (.invokestatic 286, 3) := by decide +kernel
theorem dX7_limit_5 : decode cX7_limit 5 = .ok (.aload_n 0, 1) := by decide +kernel
theorem dX7_limit_6 : decode cX7_limit 6 = .ok (.getfield 12, 3) := by decide +kernel
theorem dX7_limit_9 : decode cX7_limit 9 = .ok (.iload_n 1, 1) := by decide +kernel
theorem dX7_limit_10 : decode cX7_limit 10 = .ok (.iload_n 2, 1) := by decide +kernel
theorem dX7_limit_11 : decode cX7_limit 11 = .ok (.iload_n 3, 1) := by decide +kernel
theorem dX7_limit_12 : decode cX7_limit 12 = .ok (.invokevirtual 295, 3) := by decide +kernel
theorem dX7_limit_15 : decode cX7_limit 15 = .ok (.ireturn, 1) := by decide +kernel
set_option maxRecDepth 20000 in
theorem ggX7_setLimit_X7_needAccount : GoodIn wsX7_setLimit wsX7_needAccount := goodIn_ca (goodIn_r _ [12, 13, 14, 11, 15, 16, 17, 18, 1, 2] (by decide +kernel) (by decide +kernel)) (goodIn_sub (fun _ h => List.mem_cons_of_mem _ (List.mem_append_left _ (List.mem_append_right _ h))) (by decide +kernel))
set_option maxRecDepth 20000 in
theorem gX7_setLimit_X7_needAccount : GoodIn wsX7_setLimit (va_wsS RX7 286 yX7_needAccount wsX7_needAccount) := goodIn_app (goodIn_of _ (by decide +kernel)) ggX7_setLimit_X7_needAccount
set_option maxRecDepth 20000 in
theorem ggX7_setLimit_X7_needRange : GoodIn wsX7_setLimit wsX7_needRange := goodIn_ca (goodIn_r _ [18, 1, 2] (by decide +kernel) (by decide +kernel)) (goodIn_sub (fun _ h => List.mem_cons_of_mem _ (List.mem_append_left _ (List.mem_append_right _ h))) (by decide +kernel))
set_option maxRecDepth 20000 in
theorem gX7_setLimit_X7_needRange : GoodIn wsX7_setLimit (va_wsS RX7 54 yX7_needRange wsX7_needRange) := goodIn_app (goodIn_of _ (by decide +kernel)) ggX7_setLimit_X7_needRange
set_option maxRecDepth 20000 in
theorem ggX7_setLimit_X4_concern : GoodIn wsX7_setLimit wsX4_concern := goodIn_r _ [23, 24, 25, 26, 164, 165, 166, 167, 168] (by decide +kernel) (by decide +kernel)
set_option maxRecDepth 20000 in
theorem gX7_setLimit_X4_concern : GoodIn wsX7_setLimit (wsV RX7 302 RX4 yX4_concern wsX4_concern) := goodIn_app (goodIn_of _ (by decide +kernel)) ggX7_setLimit_X4_concern
set_option maxRecDepth 20000 in
theorem ggX7_setLimit_X7_remember : GoodIn wsX7_setLimit wsX7_remember := goodIn_r _ [30, 31, 32, 6, 33, 34, 35, 36, 37, 38, 39, 40, 41, 42, 43, 44, 45, 46, 47, 48, 49, 50, 51, 52, 53, 54, 55, 56, 57, 58, 59, 60, 61, 62, 63, 64, 65, 66, 67, 68, 69, 70, 71, 72, 73, 74, 75, 76, 77, 78, 79, 80, 81, 82, 83, 84, 85, 86, 87, 22, 88, 25, 89, 26, 90, 91, 24, 151, 152, 153, 154, 155, 156, 157, 158, 159, 160, 161, 162, 163, 169, 170, 171, 172, 173, 174, 175, 176, 177, 178, 179, 164, 165, 166, 167, 168] (by decide +kernel) (by decide +kernel)
set_option maxRecDepth 20000 in
theorem gX7_setLimit_X7_remember : GoodIn wsX7_setLimit (wsV RX7 64 RX7 yX7_remember wsX7_remember) := goodIn_app (goodIn_of _ (by decide +kernel)) ggX7_setLimit_X7_remember
set_option maxRecDepth 20000 in
theorem ggX7_setLimit_X7_accountOf : GoodIn wsX7_setLimit wsX7_accountOf := goodIn_r _ [94] (by decide +kernel) (by decide +kernel)
set_option maxRecDepth 20000 in
theorem gX7_setLimit_X7_accountOf : GoodIn wsX7_setLimit (va_wsS RX7 289 yX7_accountOf wsX7_accountOf) := goodIn_app (goodIn_of _ (by decide +kernel)) ggX7_setLimit_X7_accountOf
set_option maxRecDepth 20000 in
theorem ggX7_setLimit_X0_setLimits : GoodIn wsX7_setLimit wsX0_setLimits := goodIn_r _ [98, 82, 83, 176, 177, 178, 179] (by decide +kernel) (by decide +kernel)
set_option maxRecDepth 20000 in
theorem gX7_setLimit_X0_setLimits : GoodIn wsX7_setLimit (wsV RX7 308 RX0 yX0_setLimits wsX0_setLimits) := goodIn_app (goodIn_of _ (by decide +kernel)) ggX7_setLimit_X0_setLimits
set_option maxRecDepth 20000 in
theorem ggX7_setLimit_X6_setClocks : GoodIn wsX7_setLimit wsX6_setClocks := goodIn_r _ [102, 49, 51, 93, 11, 94, 103, 104, 105, 45, 106, 107, 108, 109, 110, 50, 111, 112, 36, 113, 114, 115, 116, 78, 117, 83, 82, 118, 119, 120, 22, 121, 24, 26, 90, 25, 122, 123, 124, 125, 80, 126, 127, 128, 129, 84, 130, 131, 132, 133, 158, 159, 160, 161, 162, 163, 176, 177, 178, 179, 164, 165, 166, 167, 168] (by decide +kernel) (by decide +kernel)
set_option maxRecDepth 20000 in
theorem gX7_setLimit_X6_setClocks : GoodIn wsX7_setLimit (wsV RX7 78 RX6 yX6_setClocks wsX6_setClocks) := goodIn_app (goodIn_of _ (by decide +kernel)) ggX7_setLimit_X6_setClocks
set_option maxRecDepth 20000 in
theorem ggX7_setLimit_X6_stateOf : GoodIn wsX7_setLimit wsX6_stateOf := goodIn_r _ [137, 49, 103, 104, 105, 45, 106, 107, 108, 109, 110, 50, 111, 112, 36, 113, 93, 11, 94, 114, 115, 116, 78, 117, 83, 82, 118, 119, 120, 22, 121, 24, 26, 90, 25, 122, 123, 124, 125, 80, 138, 139, 140, 141, 51, 142, 143, 144, 145, 52, 130, 131, 132, 133, 84, 146, 147, 148, 149, 150, 158, 159, 160, 161, 162, 163, 176, 177, 178, 179, 164, 165, 166, 167, 168] (by decide +kernel) (by decide +kernel)
set_option maxRecDepth 20000 in
theorem gX7_setLimit_X6_stateOf : GoodIn wsX7_setLimit (wsV RX7 311 RX6 yX6_stateOf wsX6_stateOf) := goodIn_app (goodIn_of _ (by decide +kernel)) ggX7_setLimit_X6_stateOf
theorem dX7_setLimit_0 : decode cX7_setLimit 0 = .ok (.iload_n 1, 1) := by decide +kernel
theorem dX7_setLimit_1 : decode cX7_setLimit 1 = .ok (.iload_n 2, 1) := by decide +kernel
theorem dX7_setLimit_2 : decode cX7_setLimit 2 = .ok (.invokestatic 286, 3) := by decide +kernel
theorem dX7_setLimit_5 : decode cX7_setLimit 5 = .ok (.iload_n 3, 1) := by decide +kernel
theorem dX7_setLimit_6 : decode cX7_setLimit 6 = .ok (.iconst 0, 1) := by decide +kernel
theorem dX7_setLimit_7 : decode cX7_setLimit 7 = .ok (.ldc_w 299, 3) := by decide +kernel
theorem dX7_setLimit_10 : decode cX7_setLimit 10 = .ok (.invokestatic 54, 3) := by decide +kernel
theorem dX7_setLimit_13 : decode cX7_setLimit 13 = .ok (.iload 4, 2) := by decide +kernel
theorem dX7_setLimit_15 : decode cX7_setLimit 15 = .ok (.iconst 0, 1) := by decide +kernel
theorem dX7_setLimit_16 : decode cX7_setLimit 16 = .ok (.ldc_w 299, 3) := by decide +kernel
theorem dX7_setLimit_19 : decode cX7_setLimit 19 = .ok (.invokestatic 54, 3) := by decide +kernel
theorem dX7_setLimit_22 : decode cX7_setLimit 22 = .ok (.iload 4, 2) := by decide +kernel
theorem dX7_setLimit_24 : decode cX7_setLimit 24 = .ok (.ifCond .le 20, 3) := by decide +kernel
theorem dX7_setLimit_27 : decode cX7_setLimit 27 = .ok (.iload 4, 2) := by decide +kernel
theorem dX7_setLimit_29 : decode cX7_setLimit 29 = .ok (.iload_n 3, 1) := by decide +kernel
theorem dX7_setLimit_30 : decode cX7_setLimit 30 = .ok (.if_icmp .ge 14, 3) := by decide +kernel
theorem dX7_setLimit_33 : decode cX7_setLimit 33 = .ok (.new 123, 3) := by decide +kernel
theorem dX7_setLimit_36 : decode cX7_setLimit 36 = .ok (.dup, 1) := by decide +kernel
theorem dX7_setLimit_37 : decode cX7_setLimit 37 = .ok (.ldc_w 300, 3) := by decide +kernel
theorem dX7_setLimit_40 : decode cX7_setLimit 40 = .ok (.invokespecial 127, 3) := by decide +kernel
theorem dX7_setLimit_43 : decode cX7_setLimit 43 = .ok (.athrow, 1) := by decide +kernel
theorem dX7_setLimit_44 : decode cX7_setLimit 44 = .ok (.iload 4, 2) := by decide +kernel
theorem dX7_setLimit_46 : decode cX7_setLimit 46 = .ok (.ifCond .ne 32, 3) := by decide +kernel
theorem dX7_setLimit_49 : decode cX7_setLimit 49 = .ok (.iload_n 2, 1) := by decide +kernel
theorem dX7_setLimit_50 : decode cX7_setLimit 50 = .ok (.ifCond .ne 28, 3) := by decide +kernel
theorem dX7_setLimit_53 : decode cX7_setLimit 53 = .ok (.aload_n 0, 1) := by decide +kernel
theorem dX7_setLimit_54 : decode cX7_setLimit 54 = .ok (.getfield 12, 3) := by decide +kernel
theorem dX7_setLimit_57 : decode cX7_setLimit 57 = .ok (.getfield 110, 3) := by decide +kernel
theorem dX7_setLimit_60 : decode cX7_setLimit 60 = .ok (.iload_n 1, 1) := by decide +kernel
theorem dX7_setLimit_61 : decode cX7_setLimit 61 = .ok (.invokevirtual 302, 3) := by decide +kernel
theorem dX7_setLimit_64 : decode cX7_setLimit 64 = .ok (.ifCond .eq 14, 3) := by decide +kernel
theorem dX7_setLimit_67 : decode cX7_setLimit 67 = .ok (.new 43, 3) := by decide +kernel
theorem dX7_setLimit_70 : decode cX7_setLimit 70 = .ok (.dup, 1) := by decide +kernel
theorem dX7_setLimit_71 : decode cX7_setLimit 71 = .ok (.ldc_w 306, 3) := by decide +kernel
theorem dX7_setLimit_74 : decode cX7_setLimit 74 = .ok (.invokespecial 47, 3) := by decide +kernel
theorem dX7_setLimit_77 : decode cX7_setLimit 77 = .ok (.athrow, 1) := by decide +kernel
theorem dX7_setLimit_78 : decode cX7_setLimit 78 = .ok (.aload_n 0, 1) := by decide +kernel
theorem dX7_setLimit_79 : decode cX7_setLimit 79 = .ok (.invokevirtual 64, 3) := by decide +kernel
theorem dX7_setLimit_82 : decode cX7_setLimit 82 = .ok (.aload_n 0, 1) := by decide +kernel
theorem dX7_setLimit_83 : decode cX7_setLimit 83 = .ok (.getfield 12, 3) := by decide +kernel
theorem dX7_setLimit_86 : decode cX7_setLimit 86 = .ok (.getfield 255, 3) := by decide +kernel
theorem dX7_setLimit_89 : decode cX7_setLimit 89 = .ok (.iload_n 1, 1) := by decide +kernel
theorem dX7_setLimit_90 : decode cX7_setLimit 90 = .ok (.iload_n 2, 1) := by decide +kernel
theorem dX7_setLimit_91 : decode cX7_setLimit 91 = .ok (.invokestatic 289, 3) := by decide +kernel
theorem dX7_setLimit_94 : decode cX7_setLimit 94 = .ok (.iload_n 3, 1) := by decide +kernel
theorem dX7_setLimit_95 : decode cX7_setLimit 95 = .ok (.iload 4, 2) := by decide +kernel
theorem dX7_setLimit_97 : decode cX7_setLimit 97 = .ok (.invokevirtual 308, 3) := by decide +kernel
theorem dX7_setLimit_100 : decode cX7_setLimit 100 = .ok (.aload_n 0, 1) := by decide +kernel
theorem dX7_setLimit_101 : decode cX7_setLimit 101 = .ok (.getfield 12, 3) := by decide +kernel
theorem dX7_setLimit_104 : decode cX7_setLimit 104 = .ok (.invokevirtual 78, 3) := by decide +kernel
theorem dX7_setLimit_107 : decode cX7_setLimit 107 = .ok (.aload_n 0, 1) := by decide +kernel
theorem dX7_setLimit_108 : decode cX7_setLimit 108 = .ok (.getfield 12, 3) := by decide +kernel
theorem dX7_setLimit_111 : decode cX7_setLimit 111 = .ok (.iload_n 1, 1) := by decide +kernel
theorem dX7_setLimit_112 : decode cX7_setLimit 112 = .ok (.iload_n 2, 1) := by decide +kernel
theorem dX7_setLimit_113 : decode cX7_setLimit 113 = .ok (.invokevirtual 311, 3) := by decide +kernel
theorem dX7_setLimit_116 : decode cX7_setLimit 116 = .ok (.ireturn, 1) := by decide +kernel
set_option maxRecDepth 20000 in
theorem ggX7_state_X7_needAccount : GoodIn wsX7_state wsX7_needAccount := goodIn_ca (goodIn_r _ [5, 6, 7, 4, 8, 9, 10, 11, 12, 13] (by decide +kernel) (by decide +kernel)) (goodIn_sub (fun _ h => List.mem_cons_of_mem _ (List.mem_append_right _ h)) (by decide +kernel))
set_option maxRecDepth 20000 in
theorem gX7_state_X7_needAccount : GoodIn wsX7_state (va_wsS RX7 286 yX7_needAccount wsX7_needAccount) := goodIn_app (goodIn_of _ (by decide +kernel)) ggX7_state_X7_needAccount
set_option maxRecDepth 20000 in
theorem ggX7_state_X6_stateOf : GoodIn wsX7_state wsX6_stateOf := goodIn_r _ [18, 19, 20, 21, 22, 17, 23, 24, 25, 26, 27, 28, 29, 30, 31, 32, 33, 4, 34, 35, 36, 37, 38, 39, 40, 41, 42, 43, 44, 45, 46, 47, 48, 49, 50, 51, 52, 53, 54, 55, 56, 57, 58, 59, 60, 61, 62, 63, 64, 65, 66, 67, 68, 69, 70, 71, 72, 73, 74, 75, 83, 84, 85, 86, 87, 88, 89, 90, 91, 92, 93, 94, 95, 96, 97] (by decide +kernel) (by decide +kernel)
set_option maxRecDepth 20000 in
theorem gX7_state_X6_stateOf : GoodIn wsX7_state (wsV RX7 311 RX6 yX6_stateOf wsX6_stateOf) := goodIn_app (goodIn_of _ (by decide +kernel)) ggX7_state_X6_stateOf
theorem dX7_state_0 : decode cX7_state 0 = .ok (.iload_n 1, 1) := by decide +kernel
theorem dX7_state_1 : decode cX7_state 1 = .ok (.iload_n 2, 1) := by decide +kernel
theorem dX7_state_2 : decode cX7_state 2 = .ok (.invokestatic 286, 3) := by decide +kernel
theorem dX7_state_5 : decode cX7_state 5 = .ok (.aload_n 0, 1) := by decide +kernel
theorem dX7_state_6 : decode cX7_state 6 = .ok (.getfield 12, 3) := by decide +kernel
theorem dX7_state_9 : decode cX7_state 9 = .ok (.iload_n 1, 1) := by decide +kernel
theorem dX7_state_10 : decode cX7_state 10 = .ok (.iload_n 2, 1) := by decide +kernel
theorem dX7_state_11 : decode cX7_state 11 = .ok (.invokevirtual 311, 3) := by decide +kernel
theorem dX7_state_14 : decode cX7_state 14 = .ok (.ireturn, 1) := by decide +kernel
set_option maxRecDepth 20000 in
theorem ggX7_graceLeft_X7_needAccount : GoodIn wsX7_graceLeft wsX7_needAccount := goodIn_ca (goodIn_r _ [10, 11, 12, 9, 13, 14, 15, 16, 17, 18] (by decide +kernel) (by decide +kernel)) (goodIn_sub (fun _ h => List.mem_cons_of_mem _ (List.mem_append_right _ h)) (by decide +kernel))
set_option maxRecDepth 20000 in
theorem gX7_graceLeft_X7_needAccount : GoodIn wsX7_graceLeft (va_wsS RX7 286 yX7_needAccount wsX7_needAccount) := goodIn_app (goodIn_of _ (by decide +kernel)) ggX7_graceLeft_X7_needAccount
set_option maxRecDepth 20000 in
theorem ggX7_graceLeft_X6_graceEnd : GoodIn wsX7_graceLeft wsX6_graceEnd := goodIn_r _ [23, 24, 25, 26, 9, 27, 28, 29, 30, 31, 32, 33, 41, 42, 43, 44, 45, 46, 47, 48, 49, 50] (by decide +kernel) (by decide +kernel)
set_option maxRecDepth 20000 in
theorem gX7_graceLeft_X6_graceEnd : GoodIn wsX7_graceLeft (wsV RX7 314 RX6 yX6_graceEnd wsX6_graceEnd) := goodIn_app (goodIn_of _ (by decide +kernel)) ggX7_graceLeft_X6_graceEnd
theorem dX7_graceLeft_0 : decode cX7_graceLeft 0 = .ok (.iload_n 1, 1) := by decide +kernel
theorem dX7_graceLeft_1 : decode cX7_graceLeft 1 = .ok (.iload_n 2, 1) := by decide +kernel
theorem dX7_graceLeft_2 : decode cX7_graceLeft 2 = .ok (.invokestatic 286, 3) := by decide +kernel
theorem dX7_graceLeft_5 : decode cX7_graceLeft 5 = .ok (.aload_n 0, 1) := by decide +kernel
theorem dX7_graceLeft_6 : decode cX7_graceLeft 6 = .ok (.getfield 12, 3) := by decide +kernel
theorem dX7_graceLeft_9 : decode cX7_graceLeft 9 = .ok (.iload_n 1, 1) := by decide +kernel
theorem dX7_graceLeft_10 : decode cX7_graceLeft 10 = .ok (.iload_n 2, 1) := by decide +kernel
theorem dX7_graceLeft_11 : decode cX7_graceLeft 11 = .ok (.invokevirtual 314, 3) := by decide +kernel
theorem dX7_graceLeft_14 : decode cX7_graceLeft 14 = .ok (.istore_n 3, 1) := by decide +kernel
theorem dX7_graceLeft_15 : decode cX7_graceLeft 15 = .ok (.iload_n 3, 1) := by decide +kernel
theorem dX7_graceLeft_16 : decode cX7_graceLeft 16 = .ok (.iconst (-1), 1) := by decide +kernel
theorem dX7_graceLeft_17 : decode cX7_graceLeft 17 = .ok (.if_icmp .ne 7, 3) := by decide +kernel
theorem dX7_graceLeft_20 : decode cX7_graceLeft 20 = .ok (.iconst (-1), 1) := by decide +kernel
theorem dX7_graceLeft_21 : decode cX7_graceLeft 21 = .ok (.goto 16, 3) := by decide +kernel
theorem dX7_graceLeft_24 : decode cX7_graceLeft 24 = .ok (.iload_n 3, 1) := by decide +kernel
theorem dX7_graceLeft_25 : decode cX7_graceLeft 25 = .ok (.aload_n 0, 1) := by decide +kernel
theorem dX7_graceLeft_26 : decode cX7_graceLeft 26 = .ok (.getfield 12, 3) := by decide +kernel
theorem dX7_graceLeft_29 : decode cX7_graceLeft 29 = .ok (.getfield 104, 3) := by decide +kernel
theorem dX7_graceLeft_32 : decode cX7_graceLeft 32 = .ok (.isub, 1) := by decide +kernel
theorem dX7_graceLeft_33 : decode cX7_graceLeft 33 = .ok (.iconst 0, 1) := by decide +kernel
theorem dX7_graceLeft_34 : decode cX7_graceLeft 34 = .ok (.invokestatic 317, 3) := by decide +kernel
theorem dX7_graceLeft_37 : decode cX7_graceLeft 37 = .ok (.ireturn, 1) := by decide +kernel
set_option maxRecDepth 20000 in
theorem ggX7_setGrace_X7_needRange : GoodIn wsX7_setGrace wsX7_needRange := goodIn_ca (goodIn_r _ [6, 7, 8] (by decide +kernel) (by decide +kernel)) (goodIn_sub (fun _ h => List.mem_cons_of_mem _ (List.mem_append_right _ h)) (by decide +kernel))
set_option maxRecDepth 20000 in
theorem gX7_setGrace_X7_needRange : GoodIn wsX7_setGrace (va_wsS RX7 54 yX7_needRange wsX7_needRange) := goodIn_app (goodIn_of _ (by decide +kernel)) ggX7_setGrace_X7_needRange
set_option maxRecDepth 20000 in
theorem ggX7_setGrace_X7_remember : GoodIn wsX7_setGrace wsX7_remember := goodIn_r _ [12, 13, 14, 1, 15, 16, 17, 18, 19, 20, 21, 22, 23, 24, 25, 26, 27, 28, 29, 30, 31, 32, 33, 34, 35, 36, 37, 38, 39, 40, 41, 42, 43, 44, 45, 46, 47, 48, 49, 50, 51, 52, 53, 54, 55, 56, 57, 58, 59, 60, 61, 62, 63, 64, 65, 66, 67, 68, 69, 70, 71, 72, 73, 74, 75, 76, 77, 115, 116, 117, 118, 119, 120, 121, 122, 123, 124, 125, 126, 127, 128, 129, 130, 131, 132, 133, 134, 135, 136, 137, 138, 139, 140, 141, 142, 143] (by decide +kernel) (by decide +kernel)
set_option maxRecDepth 20000 in
theorem gX7_setGrace_X7_remember : GoodIn wsX7_setGrace (wsV RX7 64 RX7 yX7_remember wsX7_remember) := goodIn_app (goodIn_of _ (by decide +kernel)) ggX7_setGrace_X7_remember
set_option maxRecDepth 20000 in
theorem ggX7_setGrace_X6_setClocks : GoodIn wsX7_setGrace wsX6_setClocks := goodIn_r _ [81, 31, 33, 82, 5, 83, 84, 85, 86, 27, 87, 88, 89, 90, 91, 32, 92, 93, 18, 94, 95, 96, 97, 60, 98, 65, 64, 99, 100, 101, 70, 102, 77, 74, 75, 72, 103, 104, 105, 106, 62, 107, 108, 109, 110, 66, 111, 112, 113, 114, 122, 123, 124, 125, 126, 127, 135, 136, 137, 138, 139, 140, 141, 142, 143] (by decide +kernel) (by decide +kernel)
set_option maxRecDepth 20000 in
theorem gX7_setGrace_X6_setClocks : GoodIn wsX7_setGrace (wsV RX7 78 RX6 yX6_setClocks wsX6_setClocks) := goodIn_app (goodIn_of _ (by decide +kernel)) ggX7_setGrace_X6_setClocks
theorem dX7_setGrace_0 : decode cX7_setGrace 0 = .ok (.iload_n 1, 1) := by decide +kernel
theorem dX7_setGrace_1 : decode cX7_setGrace 1 = .ok (.iconst 1, 1) := by decide +kernel
theorem dX7_setGrace_2 : decode cX7_setGrace 2 = .ok (.bipush 99, 2) := by decide +kernel
theorem dX7_setGrace_4 : decode cX7_setGrace 4 = .ok (.invokestatic 54, 3) := by decide +kernel
theorem dX7_setGrace_7 : decode cX7_setGrace 7 = .ok (.aload_n 0, 1) := by decide +kernel
theorem dX7_setGrace_8 : decode cX7_setGrace 8 = .ok (.getfield 12, 3) := by decide +kernel
theorem dX7_setGrace_11 : decode cX7_setGrace 11 = .ok (.getfield 107, 3) := by decide +kernel
theorem dX7_setGrace_14 : decode cX7_setGrace 14 = .ok (.istore_n 2, 1) := by decide +kernel
theorem dX7_setGrace_15 : decode cX7_setGrace 15 = .ok (.aload_n 0, 1) := by decide +kernel
theorem dX7_setGrace_16 : decode cX7_setGrace 16 = .ok (.invokevirtual 64, 3) := by decide +kernel
theorem dX7_setGrace_19 : decode cX7_setGrace 19 = .ok (.aload_n 0, 1) := by decide +kernel
theorem dX7_setGrace_20 : decode cX7_setGrace 20 = .ok (.getfield 12, 3) := by decide +kernel
theorem dX7_setGrace_23 : decode cX7_setGrace 23 = .ok (.iload_n 1, 1) := by decide +kernel
theorem dX7_setGrace_24 : decode cX7_setGrace 24 = .ok (.putfield 107, 3) := by decide +kernel
theorem dX7_setGrace_27 : decode cX7_setGrace 27 = .ok (.aload_n 0, 1) := by decide +kernel
theorem dX7_setGrace_28 : decode cX7_setGrace 28 = .ok (.getfield 12, 3) := by decide +kernel
theorem dX7_setGrace_31 : decode cX7_setGrace 31 = .ok (.invokevirtual 78, 3) := by decide +kernel
theorem dX7_setGrace_34 : decode cX7_setGrace 34 = .ok (.iload_n 2, 1) := by decide +kernel
theorem dX7_setGrace_35 : decode cX7_setGrace 35 = .ok (.ireturn, 1) := by decide +kernel
set_option maxRecDepth 20000 in
theorem ggX7_tick_X7_needRange : GoodIn wsX7_tick wsX7_needRange := goodIn_ca (goodIn_r _ [9, 10, 11] (by decide +kernel) (by decide +kernel)) (goodIn_sub (fun _ h => List.mem_cons_of_mem _ (List.mem_append_right _ h)) (by decide +kernel))
set_option maxRecDepth 20000 in
theorem gX7_tick_X7_needRange : GoodIn wsX7_tick (va_wsS RX7 54 yX7_needRange wsX7_needRange) := goodIn_app (goodIn_of _ (by decide +kernel)) ggX7_tick_X7_needRange
set_option maxRecDepth 20000 in
theorem ggX7_tick_X7_remember : GoodIn wsX7_tick wsX7_remember := goodIn_r _ [15, 16, 17, 3, 18, 19, 20, 21, 22, 23, 24, 25, 26, 27, 28, 29, 30, 31, 32, 33, 34, 35, 36, 37, 38, 39, 40, 41, 42, 43, 44, 45, 46, 47, 48, 49, 50, 51, 52, 53, 54, 55, 56, 57, 58, 59, 60, 61, 62, 63, 64, 65, 66, 67, 68, 69, 70, 71, 72, 73, 74, 75, 76, 77, 78, 79, 80, 134, 135, 136, 137, 138, 139, 140, 141, 142, 143, 144, 145, 146, 147, 148, 149, 150, 151, 152, 153, 154, 155, 156, 157, 158, 159, 160, 161, 162] (by decide +kernel) (by decide +kernel)
set_option maxRecDepth 20000 in
theorem gX7_tick_X7_remember : GoodIn wsX7_tick (wsV RX7 64 RX7 yX7_remember wsX7_remember) := goodIn_app (goodIn_of _ (by decide +kernel)) ggX7_tick_X7_remember
set_option maxRecDepth 20000 in
theorem ggX7_tick_X4_removeEnded : GoodIn wsX7_tick wsX4_removeEnded := goodIn_r _ [84, 80, 85, 86, 87, 73, 88, 79, 89, 90, 91, 92, 93, 94, 95, 96, 75, 77, 78, 158, 159, 160, 161, 162] (by decide +kernel) (by decide +kernel)
set_option maxRecDepth 20000 in
theorem gX7_tick_X4_removeEnded : GoodIn wsX7_tick (wsV RX7 324 RX4 yX4_removeEnded wsX4_removeEnded) := goodIn_app (goodIn_of _ (by decide +kernel)) ggX7_tick_X4_removeEnded
set_option maxRecDepth 20000 in
theorem ggX7_tick_X6_setClocks : GoodIn wsX7_tick wsX6_setClocks := goodIn_r _ [100, 34, 36, 101, 8, 102, 103, 104, 105, 30, 106, 107, 108, 109, 110, 35, 111, 112, 21, 113, 114, 115, 116, 63, 117, 68, 67, 118, 119, 120, 73, 121, 80, 77, 78, 75, 122, 123, 124, 125, 65, 126, 127, 128, 129, 69, 130, 131, 132, 133, 141, 142, 143, 144, 145, 146, 154, 155, 156, 157, 158, 159, 160, 161, 162] (by decide +kernel) (by decide +kernel)
set_option maxRecDepth 20000 in
theorem gX7_tick_X6_setClocks : GoodIn wsX7_tick (wsV RX7 78 RX6 yX6_setClocks wsX6_setClocks) := goodIn_app (goodIn_of _ (by decide +kernel)) ggX7_tick_X6_setClocks
theorem dX7_tick_0 : decode cX7_tick 0 = .ok (.iload_n 1, 1) := by decide +kernel
theorem dX7_tick_1 : decode cX7_tick 1 = .ok (.iconst 1, 1) := by decide +kernel
theorem dX7_tick_2 : decode cX7_tick 2 = .ok (.sipush 999, 3) := by decide +kernel
theorem dX7_tick_5 : decode cX7_tick 5 = .ok (.invokestatic 54, 3) := by decide +kernel
theorem dX7_tick_8 : decode cX7_tick 8 = .ok (.aload_n 0, 1) := by decide +kernel
theorem dX7_tick_9 : decode cX7_tick 9 = .ok (.getfield 12, 3) := by decide +kernel
theorem dX7_tick_12 : decode cX7_tick 12 = .ok (.getfield 104, 3) := by decide +kernel
theorem dX7_tick_15 : decode cX7_tick 15 = .ok (.iload_n 1, 1) := by decide +kernel
theorem dX7_tick_16 : decode cX7_tick 16 = .ok (.iadd, 1) := by decide +kernel
theorem dX7_tick_17 : decode cX7_tick 17 = .ok (.sipush 9999, 3) := by decide +kernel
theorem dX7_tick_20 : decode cX7_tick 20 = .ok (.if_icmp .le 14, 3) := by decide +kernel
theorem dX7_tick_23 : decode cX7_tick 23 = .ok (.new 43, 3) := by decide +kernel
theorem dX7_tick_26 : decode cX7_tick 26 = .ok (.dup, 1) := by decide +kernel
theorem dX7_tick_27 : decode cX7_tick 27 = .ok (.ldc_w 322, 3) := by decide +kernel
theorem dX7_tick_30 : decode cX7_tick 30 = .ok (.invokespecial 47, 3) := by decide +kernel
theorem dX7_tick_33 : decode cX7_tick 33 = .ok (.athrow, 1) := by decide +kernel
theorem dX7_tick_34 : decode cX7_tick 34 = .ok (.aload_n 0, 1) := by decide +kernel
theorem dX7_tick_35 : decode cX7_tick 35 = .ok (.invokevirtual 64, 3) := by decide +kernel
theorem dX7_tick_38 : decode cX7_tick 38 = .ok (.aload_n 0, 1) := by decide +kernel
theorem dX7_tick_39 : decode cX7_tick 39 = .ok (.getfield 12, 3) := by decide +kernel
theorem dX7_tick_42 : decode cX7_tick 42 = .ok (.dup, 1) := by decide +kernel
theorem dX7_tick_43 : decode cX7_tick 43 = .ok (.getfield 104, 3) := by decide +kernel
theorem dX7_tick_46 : decode cX7_tick 46 = .ok (.iload_n 1, 1) := by decide +kernel
theorem dX7_tick_47 : decode cX7_tick 47 = .ok (.iadd, 1) := by decide +kernel
theorem dX7_tick_48 : decode cX7_tick 48 = .ok (.putfield 104, 3) := by decide +kernel
theorem dX7_tick_51 : decode cX7_tick 51 = .ok (.aload_n 0, 1) := by decide +kernel
theorem dX7_tick_52 : decode cX7_tick 52 = .ok (.getfield 12, 3) := by decide +kernel
theorem dX7_tick_55 : decode cX7_tick 55 = .ok (.getfield 110, 3) := by decide +kernel
theorem dX7_tick_58 : decode cX7_tick 58 = .ok (.aload_n 0, 1) := by decide +kernel
theorem dX7_tick_59 : decode cX7_tick 59 = .ok (.getfield 12, 3) := by decide +kernel
theorem dX7_tick_62 : decode cX7_tick 62 = .ok (.getfield 104, 3) := by decide +kernel
theorem dX7_tick_65 : decode cX7_tick 65 = .ok (.invokevirtual 324, 3) := by decide +kernel
theorem dX7_tick_68 : decode cX7_tick 68 = .ok (.istore_n 2, 1) := by decide +kernel
theorem dX7_tick_69 : decode cX7_tick 69 = .ok (.aload_n 0, 1) := by decide +kernel
theorem dX7_tick_70 : decode cX7_tick 70 = .ok (.getfield 12, 3) := by decide +kernel
theorem dX7_tick_73 : decode cX7_tick 73 = .ok (.invokevirtual 78, 3) := by decide +kernel
theorem dX7_tick_76 : decode cX7_tick 76 = .ok (.iload_n 2, 1) := by decide +kernel
theorem dX7_tick_77 : decode cX7_tick 77 = .ok (.ireturn, 1) := by decide +kernel
set_option maxRecDepth 20000 in
theorem ggX7_nextEvent_X4_firstEnd : GoodIn wsX7_nextEvent wsX4_firstEnd := goodIn_r _ [7, 8, 9, 53, 54, 55, 56, 57] (by decide +kernel) (by decide +kernel)
set_option maxRecDepth 20000 in
theorem gX7_nextEvent_X4_firstEnd : GoodIn wsX7_nextEvent (wsV RX7 327 RX4 yX4_firstEnd wsX4_firstEnd) := goodIn_app (goodIn_of _ (by decide +kernel)) ggX7_nextEvent_X4_firstEnd
set_option maxRecDepth 20000 in
theorem ggX7_nextEvent_X6_firstGraceEnd : GoodIn wsX7_nextEvent wsX6_firstGraceEnd := goodIn_r _ [14, 15, 16, 17, 13, 18, 19, 20, 21, 22, 23, 24, 25, 26, 27, 28, 29, 30, 31, 32, 33, 34, 35, 36, 37, 38, 47, 48, 49, 50, 51, 52, 58, 59, 60, 61] (by decide +kernel) (by decide +kernel)
set_option maxRecDepth 20000 in
theorem gX7_nextEvent_X6_firstGraceEnd : GoodIn wsX7_nextEvent (wsV RX7 330 RX6 yX6_firstGraceEnd wsX6_firstGraceEnd) := goodIn_app (goodIn_of _ (by decide +kernel)) ggX7_nextEvent_X6_firstGraceEnd
set_option maxRecDepth 20000 in
theorem ggX7_nextEvent_X6_earlierEvent : GoodIn wsX7_nextEvent wsX6_earlierEvent := goodIn_r _ [33, 34, 35, 36, 37, 38, 47, 48, 49, 50, 51, 52] (by decide +kernel) (by decide +kernel)
set_option maxRecDepth 20000 in
theorem gX7_nextEvent_X6_earlierEvent : GoodIn wsX7_nextEvent (wsV RX7 333 RX6 yX6_earlierEvent wsX6_earlierEvent) := goodIn_app (goodIn_of _ (by decide +kernel)) ggX7_nextEvent_X6_earlierEvent
theorem dX7_nextEvent_0 : decode cX7_nextEvent 0 = .ok (.aload_n 0, 1) := by decide +kernel
theorem dX7_nextEvent_1 : decode cX7_nextEvent 1 = .ok (.getfield 12, 3) := by decide +kernel
theorem dX7_nextEvent_4 : decode cX7_nextEvent 4 = .ok (.aload_n 0, 1) := by decide +kernel
theorem dX7_nextEvent_5 : decode cX7_nextEvent 5 = .ok (.getfield 12, 3) := by decide +kernel
theorem dX7_nextEvent_8 : decode cX7_nextEvent 8 = .ok (.getfield 110, 3) := by decide +kernel
theorem dX7_nextEvent_11 : decode cX7_nextEvent 11 = .ok (.invokevirtual 327, 3) := by decide +kernel
theorem dX7_nextEvent_14 : decode cX7_nextEvent 14 = .ok (.aload_n 0, 1) := by decide +kernel
theorem dX7_nextEvent_15 : decode cX7_nextEvent 15 = .ok (.getfield 12, 3) := by decide +kernel
theorem dX7_nextEvent_18 : decode cX7_nextEvent 18 = .ok (.invokevirtual 330, 3) := by decide +kernel
theorem dX7_nextEvent_21 : decode cX7_nextEvent 21 = .ok (.invokevirtual 333, 3) := by decide +kernel
theorem dX7_nextEvent_24 : decode cX7_nextEvent 24 = .ok (.ireturn, 1) := by decide +kernel
set_option maxRecDepth 20000 in
theorem ggX7_share_X7_needAccount : GoodIn wsX7_share wsX7_needAccount := goodIn_ca (goodIn_r _ [8, 9, 10, 7, 11, 12, 13, 14, 15, 16] (by decide +kernel) (by decide +kernel)) (goodIn_sub (fun _ h => List.mem_cons_of_mem _ (List.mem_append_right _ h)) (by decide +kernel))
set_option maxRecDepth 20000 in
theorem gX7_share_X7_needAccount : GoodIn wsX7_share (va_wsS RX7 286 yX7_needAccount wsX7_needAccount) := goodIn_app (goodIn_of _ (by decide +kernel)) ggX7_share_X7_needAccount
set_option maxRecDepth 20000 in
theorem ggX7_share_X6_effectiveLimit : GoodIn wsX7_share wsX6_effectiveLimit := goodIn_r _ [21, 22, 23, 24, 25, 26, 27, 28, 7, 29, 30, 31, 32, 33, 34, 35, 36, 37, 38, 39, 40, 41, 42, 43, 44, 45, 59, 60, 61, 62, 63, 64, 65, 66, 67, 68, 69, 70, 71, 72, 73] (by decide +kernel) (by decide +kernel)
set_option maxRecDepth 20000 in
theorem gX7_share_X6_effectiveLimit : GoodIn wsX7_share (wsV RX7 295 RX6 yX6_effectiveLimit wsX6_effectiveLimit) := goodIn_app (goodIn_of _ (by decide +kernel)) ggX7_share_X6_effectiveLimit
set_option maxRecDepth 20000 in
theorem ggX7_share_X7_accountOf : GoodIn wsX7_share wsX7_accountOf := goodIn_r _ [29] (by decide +kernel) (by decide +kernel)
set_option maxRecDepth 20000 in
theorem gX7_share_X7_accountOf : GoodIn wsX7_share (va_wsS RX7 289 yX7_accountOf wsX7_accountOf) := goodIn_app (goodIn_of _ (by decide +kernel)) ggX7_share_X7_accountOf
set_option maxRecDepth 20000 in
theorem ggX7_share_X0_amountOf : GoodIn wsX7_share wsX0_amountOf := goodIn_r _ [50, 51, 65, 66, 67, 68] (by decide +kernel) (by decide +kernel)
set_option maxRecDepth 20000 in
theorem gX7_share_X0_amountOf : GoodIn wsX7_share (wsV RX7 292 RX0 yX0_amountOf wsX0_amountOf) := goodIn_app (goodIn_of _ (by decide +kernel)) ggX7_share_X0_amountOf
theorem dX7_share_0 : decode cX7_share 0 = .ok (.iload_n 1, 1) := by decide +kernel
theorem dX7_share_1 : decode cX7_share 1 = .ok (.iload_n 2, 1) := by decide +kernel
theorem dX7_share_2 : decode cX7_share 2 = .ok (.invokestatic 286, 3) := by decide +kernel
theorem dX7_share_5 : decode cX7_share 5 = .ok (.aload_n 0, 1) := by decide +kernel
theorem dX7_share_6 : decode cX7_share 6 = .ok (.getfield 12, 3) := by decide +kernel
theorem dX7_share_9 : decode cX7_share 9 = .ok (.iload_n 1, 1) := by decide +kernel
theorem dX7_share_10 : decode cX7_share 10 = .ok (.iload_n 2, 1) := by decide +kernel
theorem dX7_share_11 : decode cX7_share 11 = .ok (.iconst 1, 1) := by decide +kernel
theorem dX7_share_12 : decode cX7_share 12 = .ok (.invokevirtual 295, 3) := by decide +kernel
theorem dX7_share_15 : decode cX7_share 15 = .ok (.istore_n 3, 1) := by decide +kernel
theorem dX7_share_16 : decode cX7_share 16 = .ok (.iload_n 3, 1) := by decide +kernel
theorem dX7_share_17 : decode cX7_share 17 = .ok (.ifCond .gt 14, 3) := by decide +kernel
theorem dX7_share_20 : decode cX7_share 20 = .ok (.new 168, 3) := by decide +kernel
theorem dX7_share_23 : decode cX7_share 23 = .ok (.dup, 1) := by decide +kernel
theorem dX7_share_24 : decode cX7_share 24 = .ok (.ldc_w 336, 3) := by decide +kernel
theorem dX7_share_27 : decode cX7_share 27 = .ok (.invokespecial 172, 3) := by decide +kernel
theorem dX7_share_30 : decode cX7_share 30 = .ok (.athrow, 1) := by decide +kernel
theorem dX7_share_31 : decode cX7_share 31 = .ok (.aload_n 0, 1) := by decide +kernel
theorem dX7_share_32 : decode cX7_share 32 = .ok (.getfield 12, 3) := by decide +kernel
theorem dX7_share_35 : decode cX7_share 35 = .ok (.getfield 255, 3) := by decide +kernel
theorem dX7_share_38 : decode cX7_share 38 = .ok (.iload_n 1, 1) := by decide +kernel
theorem dX7_share_39 : decode cX7_share 39 = .ok (.iload_n 2, 1) := by decide +kernel
theorem dX7_share_40 : decode cX7_share 40 = .ok (.invokestatic 289, 3) := by decide +kernel
theorem dX7_share_43 : decode cX7_share 43 = .ok (.invokevirtual 292, 3) := by decide +kernel
theorem dX7_share_46 : decode cX7_share 46 = .ok (.i2f, 1) := by decide +kernel
theorem dX7_share_47 : decode cX7_share 47 = .ok (.iload_n 3, 1) := by decide +kernel
theorem dX7_share_48 : decode cX7_share 48 = .ok (.i2f, 1) := by decide +kernel
theorem dX7_share_49 : decode cX7_share 49 = .ok (.fdiv, 1) := by decide +kernel
theorem dX7_share_50 : decode cX7_share 50 = .ok (.freturn, 1) := by decide +kernel
set_option maxRecDepth 20000 in
theorem ggX7_gift_X7_needProject : GoodIn wsX7_gift wsX7_needProject := goodIn_ca (goodIn_r _ [12, 13, 14, 11, 15, 1, 2] (by decide +kernel) (by decide +kernel)) (goodIn_sub (fun _ h => List.mem_cons_of_mem _ (List.mem_append_left _ (List.mem_append_right _ h))) (by decide +kernel))
set_option maxRecDepth 20000 in
theorem gX7_gift_X7_needProject : GoodIn wsX7_gift (va_wsS RX7 278 yX7_needProject wsX7_needProject) := goodIn_app (goodIn_of _ (by decide +kernel)) ggX7_gift_X7_needProject
set_option maxRecDepth 20000 in
theorem ggX7_gift_X7_needRange : GoodIn wsX7_gift wsX7_needRange := goodIn_ca (goodIn_r _ [15, 1, 2] (by decide +kernel) (by decide +kernel)) (goodIn_sub (fun _ h => List.mem_cons_of_mem _ (List.mem_append_left _ (List.mem_append_right _ h))) (by decide +kernel))
set_option maxRecDepth 20000 in
theorem gX7_gift_X7_needRange : GoodIn wsX7_gift (va_wsS RX7 54 yX7_needRange wsX7_needRange) := goodIn_app (goodIn_of _ (by decide +kernel)) ggX7_gift_X7_needRange
set_option maxRecDepth 20000 in
theorem ggX7_gift_X4_isFull : GoodIn wsX7_gift wsX4_isFull := goodIn_r _ [20, 21, 148, 149, 150, 151, 152] (by decide +kernel) (by decide +kernel)
set_option maxRecDepth 20000 in
theorem gX7_gift_X4_isFull : GoodIn wsX7_gift (wsV RX7 340 RX4 yX4_isFull wsX4_isFull) := goodIn_app (goodIn_of _ (by decide +kernel)) ggX7_gift_X4_isFull
set_option maxRecDepth 20000 in
theorem ggX7_gift_X6_canGive : GoodIn wsX7_gift wsX6_canGive := goodIn_r _ [26, 27, 28, 29, 30, 25, 31, 32, 33, 34, 35, 36, 37, 11, 38, 39, 40, 41, 42, 43, 44, 45, 46, 47, 48, 19, 49, 21, 50, 51, 52, 53, 54, 55, 56, 57, 142, 143, 144, 145, 146, 147, 153, 154, 155, 156, 148, 149, 150, 151, 152] (by decide +kernel) (by decide +kernel)
set_option maxRecDepth 20000 in
theorem gX7_gift_X6_canGive : GoodIn wsX7_gift (wsV RX7 341 RX6 yX6_canGive wsX6_canGive) := goodIn_app (goodIn_of _ (by decide +kernel)) ggX7_gift_X6_canGive
set_option maxRecDepth 20000 in
theorem ggX7_gift_X7_remember : GoodIn wsX7_gift wsX7_remember := goodIn_r _ [61, 62, 63, 5, 64, 65, 66, 35, 67, 68, 69, 70, 71, 72, 73, 74, 25, 75, 76, 77, 27, 32, 78, 79, 80, 81, 82, 83, 84, 85, 86, 87, 88, 89, 90, 91, 92, 93, 94, 95, 96, 97, 98, 99, 100, 101, 102, 103, 104, 42, 105, 57, 106, 45, 44, 107, 108, 109, 110, 19, 111, 52, 112, 50, 51, 113, 21, 135, 136, 137, 138, 139, 140, 141, 142, 143, 144, 145, 146, 147, 157, 158, 159, 160, 161, 162, 163, 153, 154, 155, 156, 148, 149, 150, 151, 152] (by decide +kernel) (by decide +kernel)
set_option maxRecDepth 20000 in
theorem gX7_gift_X7_remember : GoodIn wsX7_gift (wsV RX7 64 RX7 yX7_remember wsX7_remember) := goodIn_app (goodIn_of _ (by decide +kernel)) ggX7_gift_X7_remember
set_option maxRecDepth 20000 in
theorem ggX7_gift_X4_add : GoodIn wsX7_gift wsX4_add := goodIn_r _ [117, 52, 21, 50, 51, 113, 118, 17, 18, 19, 20, 148, 149, 150, 151, 152] (by decide +kernel) (by decide +kernel)
set_option maxRecDepth 20000 in
theorem gX7_gift_X4_add : GoodIn wsX7_gift (wsV RX7 347 RX4 yX4_add wsX4_add) := goodIn_app (goodIn_of _ (by decide +kernel)) ggX7_gift_X4_add
set_option maxRecDepth 20000 in
theorem ggX7_gift_X6_setClocks : GoodIn wsX7_gift wsX6_setClocks := goodIn_r _ [122, 27, 78, 37, 11, 38, 123, 124, 125, 25, 126, 28, 29, 30, 31, 32, 33, 34, 35, 36, 39, 40, 41, 42, 43, 44, 45, 46, 47, 48, 19, 49, 21, 50, 51, 52, 53, 54, 55, 56, 57, 127, 128, 129, 130, 107, 131, 132, 133, 134, 142, 143, 144, 145, 146, 147, 153, 154, 155, 156, 148, 149, 150, 151, 152] (by decide +kernel) (by decide +kernel)
set_option maxRecDepth 20000 in
theorem gX7_gift_X6_setClocks : GoodIn wsX7_gift (wsV RX7 78 RX6 yX6_setClocks wsX6_setClocks) := goodIn_app (goodIn_of _ (by decide +kernel)) ggX7_gift_X6_setClocks
theorem dX7_gift_0 : decode cX7_gift 0 = .ok (.iload_n 1, 1) := by decide +kernel
theorem dX7_gift_1 : decode cX7_gift 1 = .ok (.invokestatic 278, 3) := by decide +kernel
theorem dX7_gift_4 : decode cX7_gift 4 = .ok (.iload_n 2, 1) := by decide +kernel
theorem dX7_gift_5 : decode cX7_gift 5 = .ok (.invokestatic 278, 3) := by decide +kernel
theorem dX7_gift_8 : decode cX7_gift 8 = .ok (.iload_n 3, 1) := by decide +kernel
theorem dX7_gift_9 : decode cX7_gift 9 = .ok (.iconst 1, 1) := by decide +kernel
theorem dX7_gift_10 : decode cX7_gift 10 = .ok (.sipush 9999, 3) := by decide +kernel
theorem dX7_gift_13 : decode cX7_gift 13 = .ok (.invokestatic 54, 3) := by decide +kernel
theorem dX7_gift_16 : decode cX7_gift 16 = .ok (.iload 4, 2) := by decide +kernel
theorem dX7_gift_18 : decode cX7_gift 18 = .ok (.iconst 1, 1) := by decide +kernel
theorem dX7_gift_19 : decode cX7_gift 19 = .ok (.sipush 999, 3) := by decide +kernel
theorem dX7_gift_22 : decode cX7_gift 22 = .ok (.invokestatic 54, 3) := by decide +kernel
theorem dX7_gift_25 : decode cX7_gift 25 = .ok (.iload_n 1, 1) := by decide +kernel
theorem dX7_gift_26 : decode cX7_gift 26 = .ok (.iload_n 2, 1) := by decide +kernel
theorem dX7_gift_27 : decode cX7_gift 27 = .ok (.if_icmp .ne 14, 3) := by decide +kernel
theorem dX7_gift_30 : decode cX7_gift 30 = .ok (.new 123, 3) := by decide +kernel
theorem dX7_gift_33 : decode cX7_gift 33 = .ok (.dup, 1) := by decide +kernel
theorem dX7_gift_34 : decode cX7_gift 34 = .ok (.ldc_w 338, 3) := by decide +kernel
theorem dX7_gift_37 : decode cX7_gift 37 = .ok (.invokespecial 127, 3) := by decide +kernel
theorem dX7_gift_40 : decode cX7_gift 40 = .ok (.athrow, 1) := by decide +kernel
theorem dX7_gift_41 : decode cX7_gift 41 = .ok (.aload_n 0, 1) := by decide +kernel
theorem dX7_gift_42 : decode cX7_gift 42 = .ok (.getfield 12, 3) := by decide +kernel
theorem dX7_gift_45 : decode cX7_gift 45 = .ok (.getfield 110, 3) := by decide +kernel
theorem dX7_gift_48 : decode cX7_gift 48 = .ok (.invokevirtual 340, 3) := by decide +kernel
theorem dX7_gift_51 : decode cX7_gift 51 = .ok (.ifCond .ne 16, 3) := by decide +kernel
theorem dX7_gift_54 : decode cX7_gift 54 = .ok (.aload_n 0, 1) := by decide +kernel
theorem dX7_gift_55 : decode cX7_gift 55 = .ok (.getfield 12, 3) := by decide +kernel
theorem dX7_gift_58 : decode cX7_gift 58 = .ok (.iload_n 1, 1) := by decide +kernel
theorem dX7_gift_59 : decode cX7_gift 59 = .ok (.iload_n 2, 1) := by decide +kernel
theorem dX7_gift_60 : decode cX7_gift 60 = .ok (.iload_n 3, 1) := by decide +kernel
theorem dX7_gift_61 : decode cX7_gift 61 = .ok (.invokevirtual 341, 3) := by decide +kernel
theorem dX7_gift_64 : decode cX7_gift 64 = .ok (.ifCond .ne 14, 3) := by decide +kernel
theorem dX7_gift_67 : decode cX7_gift 67 = .ok (.new 43, 3) := by decide +kernel
theorem dX7_gift_70 : decode cX7_gift 70 = .ok (.dup, 1) := by decide +kernel
theorem dX7_gift_71 : decode cX7_gift 71 = .ok (.ldc_w 345, 3) := by decide +kernel
theorem dX7_gift_74 : decode cX7_gift 74 = .ok (.invokespecial 47, 3) := by decide +kernel
theorem dX7_gift_77 : decode cX7_gift 77 = .ok (.athrow, 1) := by decide +kernel
theorem dX7_gift_78 : decode cX7_gift 78 = .ok (.aload_n 0, 1) := by decide +kernel
theorem dX7_gift_79 : decode cX7_gift 79 = .ok (.invokevirtual 64, 3) := by decide +kernel
theorem dX7_gift_82 : decode cX7_gift 82 = .ok (.aload_n 0, 1) := by decide +kernel
theorem dX7_gift_83 : decode cX7_gift 83 = .ok (.getfield 12, 3) := by decide +kernel
theorem dX7_gift_86 : decode cX7_gift 86 = .ok (.getfield 110, 3) := by decide +kernel
theorem dX7_gift_89 : decode cX7_gift 89 = .ok (.iload_n 1, 1) := by decide +kernel
theorem dX7_gift_90 : decode cX7_gift 90 = .ok (.iload_n 2, 1) := by decide +kernel
theorem dX7_gift_91 : decode cX7_gift 91 = .ok (.iload_n 3, 1) := by decide +kernel
theorem dX7_gift_92 : decode cX7_gift 92 = .ok (.aload_n 0, 1) := by decide +kernel
theorem dX7_gift_93 : decode cX7_gift 93 = .ok (.getfield 12, 3) := by decide +kernel
theorem dX7_gift_96 : decode cX7_gift 96 = .ok (.getfield 104, 3) := by decide +kernel
theorem dX7_gift_99 : decode cX7_gift 99 = .ok (.iload 4, 2) := by decide +kernel
theorem dX7_gift_101 : decode cX7_gift 101 = .ok (.iadd, 1) := by decide +kernel
theorem dX7_gift_102 : decode cX7_gift 102 = .ok (.invokevirtual 347, 3) := by decide +kernel
theorem dX7_gift_105 : decode cX7_gift 105 = .ok (.aload_n 0, 1) := by decide +kernel
theorem dX7_gift_106 : decode cX7_gift 106 = .ok (.getfield 12, 3) := by decide +kernel
theorem dX7_gift_109 : decode cX7_gift 109 = .ok (.invokevirtual 78, 3) := by decide +kernel
theorem dX7_gift_112 : decode cX7_gift 112 = .ok (.aload_n 0, 1) := by decide +kernel
theorem dX7_gift_113 : decode cX7_gift 113 = .ok (.getfield 12, 3) := by decide +kernel
theorem dX7_gift_116 : decode cX7_gift 116 = .ok (.getfield 110, 3) := by decide +kernel
theorem dX7_gift_119 : decode cX7_gift 119 = .ok (.getfield 114, 3) := by decide +kernel
theorem dX7_gift_122 : decode cX7_gift 122 = .ok (.iconst 1, 1) := by decide +kernel
theorem dX7_gift_123 : decode cX7_gift 123 = .ok (.isub, 1) := by decide +kernel
theorem dX7_gift_124 : decode cX7_gift 124 = .ok (.ireturn, 1) := by decide +kernel
set_option maxRecDepth 20000 in
theorem ggX7_giftOf_X7_needGift : GoodIn wsX7_giftOf wsX7_needGift := goodIn_ca (goodIn_r _ [9, 10, 11, 3, 4, 12, 13, 14, 15, 16, 17, 39, 40, 41, 42, 43, 44, 45, 46, 47, 48, 49, 50, 51, 52, 53, 54, 55, 56] (by decide +kernel) (by decide +kernel)) (goodIn_sub (fun _ h => List.mem_cons_of_mem _ (List.mem_append_right _ h)) (by decide +kernel))
set_option maxRecDepth 20000 in
theorem gX7_giftOf_X7_needGift : GoodIn wsX7_giftOf (wsV RX7 349 RX7 yX7_needGift wsX7_needGift) := goodIn_app (goodIn_of _ (by decide +kernel)) ggX7_giftOf_X7_needGift
set_option maxRecDepth 20000 in
theorem ggX7_giftOf_X4_giverOf : GoodIn wsX7_giftOf wsX4_giverOf := goodIn_r _ [21, 22, 23, 13, 14, 15, 16, 17, 52, 53, 54, 55, 56] (by decide +kernel) (by decide +kernel)
set_option maxRecDepth 20000 in
theorem gX7_giftOf_X4_giverOf : GoodIn wsX7_giftOf (wsV RX7 352 RX4 yX4_giverOf wsX4_giverOf) := goodIn_app (goodIn_of _ (by decide +kernel)) ggX7_giftOf_X4_giverOf
set_option maxRecDepth 20000 in
theorem ggX7_giftOf_X4_getterOf : GoodIn wsX7_giftOf wsX4_getterOf := goodIn_r _ [27, 28, 23, 13, 14, 15, 16, 17, 52, 53, 54, 55, 56] (by decide +kernel) (by decide +kernel)
set_option maxRecDepth 20000 in
theorem gX7_giftOf_X4_getterOf : GoodIn wsX7_giftOf (wsV RX7 355 RX4 yX4_getterOf wsX4_getterOf) := goodIn_app (goodIn_of _ (by decide +kernel)) ggX7_giftOf_X4_getterOf
set_option maxRecDepth 20000 in
theorem ggX7_giftOf_X4_blocksOf : GoodIn wsX7_giftOf wsX4_blocksOf := goodIn_r _ [32, 33, 23, 13, 14, 15, 16, 17, 52, 53, 54, 55, 56] (by decide +kernel) (by decide +kernel)
set_option maxRecDepth 20000 in
theorem gX7_giftOf_X4_blocksOf : GoodIn wsX7_giftOf (wsV RX7 358 RX4 yX4_blocksOf wsX4_blocksOf) := goodIn_app (goodIn_of _ (by decide +kernel)) ggX7_giftOf_X4_blocksOf
set_option maxRecDepth 20000 in
theorem ggX7_giftOf_X4_endOf : GoodIn wsX7_giftOf wsX4_endOf := goodIn_r _ [37, 38, 23, 13, 14, 15, 16, 17, 52, 53, 54, 55, 56] (by decide +kernel) (by decide +kernel)
set_option maxRecDepth 20000 in
theorem gX7_giftOf_X4_endOf : GoodIn wsX7_giftOf (wsV RX7 361 RX4 yX4_endOf wsX4_endOf) := goodIn_app (goodIn_of _ (by decide +kernel)) ggX7_giftOf_X4_endOf
theorem dX7_giftOf_0 : decode cX7_giftOf 0 = .ok (.aload_n 0, 1) := by decide +kernel
theorem dX7_giftOf_1 : decode cX7_giftOf 1 = .ok (.iload_n 1, 1) := by decide +kernel
theorem dX7_giftOf_2 : decode cX7_giftOf 2 = .ok (.invokevirtual 349, 3) := by decide +kernel
theorem dX7_giftOf_5 : decode cX7_giftOf 5 = .ok (.iload_n 2, 1) := by decide +kernel
theorem dX7_giftOf_6 : decode cX7_giftOf 6 = .ok (.tableswitch 78 0 3 #[30, 42, 54, 66], 30) := by decide +kernel
theorem dX7_giftOf_36 : decode cX7_giftOf 36 = .ok (.aload_n 0, 1) := by decide +kernel
theorem dX7_giftOf_37 : decode cX7_giftOf 37 = .ok (.getfield 12, 3) := by decide +kernel
theorem dX7_giftOf_40 : decode cX7_giftOf 40 = .ok (.getfield 110, 3) := by decide +kernel
theorem dX7_giftOf_43 : decode cX7_giftOf 43 = .ok (.iload_n 1, 1) := by decide +kernel
theorem dX7_giftOf_44 : decode cX7_giftOf 44 = .ok (.invokevirtual 352, 3) := by decide +kernel
theorem dX7_giftOf_47 : decode cX7_giftOf 47 = .ok (.ireturn, 1) := by decide +kernel
theorem dX7_giftOf_48 : decode cX7_giftOf 48 = .ok (.aload_n 0, 1) := by decide +kernel
theorem dX7_giftOf_49 : decode cX7_giftOf 49 = .ok (.getfield 12, 3) := by decide +kernel
theorem dX7_giftOf_52 : decode cX7_giftOf 52 = .ok (.getfield 110, 3) := by decide +kernel
theorem dX7_giftOf_55 : decode cX7_giftOf 55 = .ok (.iload_n 1, 1) := by decide +kernel
theorem dX7_giftOf_56 : decode cX7_giftOf 56 = .ok (.invokevirtual 355, 3) := by decide +kernel
theorem dX7_giftOf_59 : decode cX7_giftOf 59 = .ok (.ireturn, 1) := by decide +kernel
theorem dX7_giftOf_60 : decode cX7_giftOf 60 = .ok (.aload_n 0, 1) := by decide +kernel
theorem dX7_giftOf_61 : decode cX7_giftOf 61 = .ok (.getfield 12, 3) := by decide +kernel
theorem dX7_giftOf_64 : decode cX7_giftOf 64 = .ok (.getfield 110, 3) := by decide +kernel
theorem dX7_giftOf_67 : decode cX7_giftOf 67 = .ok (.iload_n 1, 1) := by decide +kernel
theorem dX7_giftOf_68 : decode cX7_giftOf 68 = .ok (.invokevirtual 358, 3) := by decide +kernel
theorem dX7_giftOf_71 : decode cX7_giftOf 71 = .ok (.ireturn, 1) := by decide +kernel
theorem dX7_giftOf_72 : decode cX7_giftOf 72 = .ok (.aload_n 0, 1) := by decide +kernel
theorem dX7_giftOf_73 : decode cX7_giftOf 73 = .ok (.getfield 12, 3) := by decide +kernel
theorem dX7_giftOf_76 : decode cX7_giftOf 76 = .ok (.getfield 110, 3) := by decide +kernel
theorem dX7_giftOf_79 : decode cX7_giftOf 79 = .ok (.iload_n 1, 1) := by decide +kernel
theorem dX7_giftOf_80 : decode cX7_giftOf 80 = .ok (.invokevirtual 361, 3) := by decide +kernel
theorem dX7_giftOf_83 : decode cX7_giftOf 83 = .ok (.ireturn, 1) := by decide +kernel
theorem dX7_giftOf_84 : decode cX7_giftOf 84 = .ok (.new 123, 3) := by decide +kernel
theorem dX7_giftOf_87 : decode cX7_giftOf 87 = .ok (.dup, 1) := by decide +kernel
theorem dX7_giftOf_88 : decode cX7_giftOf 88 = .ok (.ldc_w 364, 3) := by decide +kernel
theorem dX7_giftOf_91 : decode cX7_giftOf 91 = .ok (.invokespecial 127, 3) := by decide +kernel
theorem dX7_giftOf_94 : decode cX7_giftOf 94 = .ok (.athrow, 1) := by decide +kernel
set_option maxRecDepth 20000 in
theorem ggX7_endGift_X7_needGift : GoodIn wsX7_endGift wsX7_needGift := goodIn_ca (goodIn_r _ [8, 9, 10, 1, 2, 11, 12, 13, 14, 15, 16, 126, 127, 128, 129, 130, 131, 132, 133, 134, 135, 136, 137, 138, 139, 140, 141, 142, 143] (by decide +kernel) (by decide +kernel)) (goodIn_sub (fun _ h => List.mem_cons_of_mem _ (List.mem_append_right _ h)) (by decide +kernel))
set_option maxRecDepth 20000 in
theorem gX7_endGift_X7_needGift : GoodIn wsX7_endGift (wsV RX7 349 RX7 yX7_needGift wsX7_needGift) := goodIn_app (goodIn_of _ (by decide +kernel)) ggX7_endGift_X7_needGift
set_option maxRecDepth 20000 in
theorem ggX7_endGift_X7_remember : GoodIn wsX7_endGift wsX7_remember := goodIn_r _ [20, 21, 22, 1, 23, 24, 25, 26, 27, 28, 29, 30, 31, 32, 33, 34, 35, 36, 37, 38, 39, 40, 41, 42, 43, 44, 45, 46, 47, 48, 49, 50, 51, 52, 53, 54, 55, 56, 57, 58, 59, 60, 61, 62, 63, 64, 65, 66, 67, 68, 69, 70, 71, 72, 73, 74, 75, 76, 77, 14, 78, 79, 80, 81, 82, 83, 16, 126, 127, 128, 129, 130, 131, 132, 133, 134, 135, 136, 137, 138, 144, 145, 146, 147, 148, 149, 150, 151, 152, 153, 154, 139, 140, 141, 142, 143] (by decide +kernel) (by decide +kernel)
set_option maxRecDepth 20000 in
theorem gX7_endGift_X7_remember : GoodIn wsX7_endGift (wsV RX7 64 RX7 yX7_remember wsX7_remember) := goodIn_app (goodIn_of _ (by decide +kernel)) ggX7_endGift_X7_remember
set_option maxRecDepth 20000 in
theorem ggX7_endGift_X4_removeAt : GoodIn wsX7_endGift wsX4_removeAt := goodIn_r _ [87, 16, 79, 81, 82, 83, 88, 12, 13, 14, 15, 139, 140, 141, 142, 143] (by decide +kernel) (by decide +kernel)
set_option maxRecDepth 20000 in
theorem gX7_endGift_X4_removeAt : GoodIn wsX7_endGift (wsV RX7 366 RX4 yX4_removeAt wsX4_removeAt) := goodIn_app (goodIn_of _ (by decide +kernel)) ggX7_endGift_X4_removeAt
set_option maxRecDepth 20000 in
theorem ggX7_endGift_X6_setClocks : GoodIn wsX7_endGift wsX6_setClocks := goodIn_r _ [92, 39, 41, 93, 7, 94, 95, 96, 97, 35, 98, 99, 100, 101, 102, 40, 103, 104, 26, 105, 106, 107, 108, 68, 109, 73, 72, 110, 111, 112, 14, 113, 16, 81, 82, 79, 114, 115, 116, 117, 70, 118, 119, 120, 121, 74, 122, 123, 124, 125, 133, 134, 135, 136, 137, 138, 151, 152, 153, 154, 139, 140, 141, 142, 143] (by decide +kernel) (by decide +kernel)
set_option maxRecDepth 20000 in
theorem gX7_endGift_X6_setClocks : GoodIn wsX7_endGift (wsV RX7 78 RX6 yX6_setClocks wsX6_setClocks) := goodIn_app (goodIn_of _ (by decide +kernel)) ggX7_endGift_X6_setClocks
theorem dX7_endGift_0 : decode cX7_endGift 0 = .ok (.aload_n 0, 1) := by decide +kernel
theorem dX7_endGift_1 : decode cX7_endGift 1 = .ok (.iload_n 1, 1) := by decide +kernel
theorem dX7_endGift_2 : decode cX7_endGift 2 = .ok (.invokevirtual 349, 3) := by decide +kernel
theorem dX7_endGift_5 : decode cX7_endGift 5 = .ok (.aload_n 0, 1) := by decide +kernel
theorem dX7_endGift_6 : decode cX7_endGift 6 = .ok (.invokevirtual 64, 3) := by decide +kernel
theorem dX7_endGift_9 : decode cX7_endGift 9 = .ok (.aload_n 0, 1) := by decide +kernel
theorem dX7_endGift_10 : decode cX7_endGift 10 = .ok (.getfield 12, 3) := by decide +kernel
theorem dX7_endGift_13 : decode cX7_endGift 13 = .ok (.getfield 110, 3) := by decide +kernel
theorem dX7_endGift_16 : decode cX7_endGift 16 = .ok (.iload_n 1, 1) := by decide +kernel
theorem dX7_endGift_17 : decode cX7_endGift 17 = .ok (.invokevirtual 366, 3) := by decide +kernel
theorem dX7_endGift_20 : decode cX7_endGift 20 = .ok (.aload_n 0, 1) := by decide +kernel
theorem dX7_endGift_21 : decode cX7_endGift 21 = .ok (.getfield 12, 3) := by decide +kernel
theorem dX7_endGift_24 : decode cX7_endGift 24 = .ok (.invokevirtual 78, 3) := by decide +kernel
theorem dX7_endGift_27 : decode cX7_endGift 27 = .ok (.aload_n 0, 1) := by decide +kernel
theorem dX7_endGift_28 : decode cX7_endGift 28 = .ok (.getfield 12, 3) := by decide +kernel
theorem dX7_endGift_31 : decode cX7_endGift 31 = .ok (.getfield 110, 3) := by decide +kernel
theorem dX7_endGift_34 : decode cX7_endGift 34 = .ok (.getfield 114, 3) := by decide +kernel
theorem dX7_endGift_37 : decode cX7_endGift 37 = .ok (.ireturn, 1) := by decide +kernel
set_option maxRecDepth 20000 in
theorem ggX7_adjust_X7_needAccount : GoodIn wsX7_adjust wsX7_needAccount := goodIn_ca (goodIn_r _ [9, 10, 11, 8, 12, 13, 14, 15, 16, 17] (by decide +kernel) (by decide +kernel)) (goodIn_sub (fun _ h => List.mem_cons_of_mem _ (List.mem_append_right _ h)) (by decide +kernel))
set_option maxRecDepth 20000 in
theorem gX7_adjust_X7_needAccount : GoodIn wsX7_adjust (va_wsS RX7 286 yX7_needAccount wsX7_needAccount) := goodIn_app (goodIn_of _ (by decide +kernel)) ggX7_adjust_X7_needAccount
set_option maxRecDepth 20000 in
theorem ggX7_adjust_X7_needRange : GoodIn wsX7_adjust wsX7_needRange := goodIn_ca (goodIn_r _ [15, 16, 17] (by decide +kernel) (by decide +kernel)) (goodIn_sub (fun _ h => List.mem_cons_of_mem _ (List.mem_append_right _ h)) (by decide +kernel))
set_option maxRecDepth 20000 in
theorem gX7_adjust_X7_needRange : GoodIn wsX7_adjust (va_wsS RX7 54 yX7_needRange wsX7_needRange) := goodIn_app (goodIn_of _ (by decide +kernel)) ggX7_adjust_X7_needRange
set_option maxRecDepth 20000 in
theorem ggX7_adjust_X7_accountOf : GoodIn wsX7_adjust wsX7_accountOf := goodIn_r _ [20] (by decide +kernel) (by decide +kernel)
set_option maxRecDepth 20000 in
theorem gX7_adjust_X7_accountOf : GoodIn wsX7_adjust (va_wsS RX7 289 yX7_accountOf wsX7_accountOf) := goodIn_app (goodIn_of _ (by decide +kernel)) ggX7_adjust_X7_accountOf
set_option maxRecDepth 20000 in
theorem ggX7_adjust_X0_amountOf : GoodIn wsX7_adjust wsX0_amountOf := goodIn_r _ [25, 26, 143, 144, 145, 146] (by decide +kernel) (by decide +kernel)
set_option maxRecDepth 20000 in
theorem gX7_adjust_X0_amountOf : GoodIn wsX7_adjust (wsV RX7 292 RX0 yX0_amountOf wsX0_amountOf) := goodIn_app (goodIn_of _ (by decide +kernel)) ggX7_adjust_X0_amountOf
set_option maxRecDepth 20000 in
theorem ggX7_adjust_X7_remember : GoodIn wsX7_adjust wsX7_remember := goodIn_r _ [30, 31, 32, 3, 33, 34, 35, 36, 37, 38, 39, 40, 41, 42, 43, 44, 45, 46, 47, 48, 49, 50, 51, 52, 53, 54, 55, 56, 57, 58, 59, 60, 61, 62, 63, 64, 65, 66, 67, 68, 69, 70, 71, 72, 73, 74, 75, 76, 77, 24, 78, 26, 79, 80, 81, 82, 83, 84, 85, 86, 87, 88, 89, 90, 91, 92, 93, 130, 131, 132, 133, 134, 135, 136, 137, 138, 139, 140, 141, 142, 147, 148, 149, 150, 151, 152, 153, 143, 144, 145, 146, 154, 155, 156, 157, 158] (by decide +kernel) (by decide +kernel)
set_option maxRecDepth 20000 in
theorem gX7_adjust_X7_remember : GoodIn wsX7_adjust (wsV RX7 64 RX7 yX7_remember wsX7_remember) := goodIn_app (goodIn_of _ (by decide +kernel)) ggX7_adjust_X7_remember
set_option maxRecDepth 20000 in
theorem ggX7_adjust_X0_setAmount : GoodIn wsX7_adjust wsX0_setAmount := goodIn_r _ [97, 26, 143, 144, 145, 146] (by decide +kernel) (by decide +kernel)
set_option maxRecDepth 20000 in
theorem gX7_adjust_X0_setAmount : GoodIn wsX7_adjust (wsV RX7 370 RX0 yX0_setAmount wsX0_setAmount) := goodIn_app (goodIn_of _ (by decide +kernel)) ggX7_adjust_X0_setAmount
set_option maxRecDepth 20000 in
theorem ggX7_adjust_X6_setClocks : GoodIn wsX7_adjust wsX6_setClocks := goodIn_r _ [101, 49, 51, 19, 8, 20, 102, 103, 104, 45, 105, 106, 107, 108, 109, 50, 110, 111, 36, 112, 113, 114, 115, 24, 116, 81, 80, 117, 118, 119, 86, 120, 93, 90, 91, 88, 121, 22, 23, 25, 26, 122, 123, 124, 125, 82, 126, 127, 128, 129, 137, 138, 139, 140, 141, 142, 143, 144, 145, 146, 154, 155, 156, 157, 158] (by decide +kernel) (by decide +kernel)
set_option maxRecDepth 20000 in
theorem gX7_adjust_X6_setClocks : GoodIn wsX7_adjust (wsV RX7 78 RX6 yX6_setClocks wsX6_setClocks) := goodIn_app (goodIn_of _ (by decide +kernel)) ggX7_adjust_X6_setClocks
theorem dX7_adjust_0 : decode cX7_adjust 0 = .ok (.iload_n 1, 1) := by decide +kernel
theorem dX7_adjust_1 : decode cX7_adjust 1 = .ok (.iload_n 2, 1) := by decide +kernel
theorem dX7_adjust_2 : decode cX7_adjust 2 = .ok (.invokestatic 286, 3) := by decide +kernel
theorem dX7_adjust_5 : decode cX7_adjust 5 = .ok (.iload_n 3, 1) := by decide +kernel
theorem dX7_adjust_6 : decode cX7_adjust 6 = .ok (.sipush (-9999), 3) := by decide +kernel
theorem dX7_adjust_9 : decode cX7_adjust 9 = .ok (.sipush 9999, 3) := by decide +kernel
theorem dX7_adjust_12 : decode cX7_adjust 12 = .ok (.invokestatic 54, 3) := by decide +kernel
theorem dX7_adjust_15 : decode cX7_adjust 15 = .ok (.iload_n 1, 1) := by decide +kernel
theorem dX7_adjust_16 : decode cX7_adjust 16 = .ok (.iload_n 2, 1) := by decide +kernel
theorem dX7_adjust_17 : decode cX7_adjust 17 = .ok (.invokestatic 289, 3) := by decide +kernel
theorem dX7_adjust_20 : decode cX7_adjust 20 = .ok (.istore 4, 2) := by decide +kernel
theorem dX7_adjust_22 : decode cX7_adjust 22 = .ok (.aload_n 0, 1) := by decide +kernel
theorem dX7_adjust_23 : decode cX7_adjust 23 = .ok (.getfield 12, 3) := by decide +kernel
theorem dX7_adjust_26 : decode cX7_adjust 26 = .ok (.getfield 255, 3) := by decide +kernel
theorem dX7_adjust_29 : decode cX7_adjust 29 = .ok (.iload 4, 2) := by decide +kernel
theorem dX7_adjust_31 : decode cX7_adjust 31 = .ok (.invokevirtual 292, 3) := by decide +kernel
theorem dX7_adjust_34 : decode cX7_adjust 34 = .ok (.iload_n 3, 1) := by decide +kernel
theorem dX7_adjust_35 : decode cX7_adjust 35 = .ok (.iadd, 1) := by decide +kernel
theorem dX7_adjust_36 : decode cX7_adjust 36 = .ok (.istore 5, 2) := by decide +kernel
theorem dX7_adjust_38 : decode cX7_adjust 38 = .ok (.iload 5, 2) := by decide +kernel
theorem dX7_adjust_40 : decode cX7_adjust 40 = .ok (.ifCond .lt 11, 3) := by decide +kernel
theorem dX7_adjust_43 : decode cX7_adjust 43 = .ok (.iload 5, 2) := by decide +kernel
theorem dX7_adjust_45 : decode cX7_adjust 45 = .ok (.ldc_w 367, 3) := by decide +kernel
theorem dX7_adjust_48 : decode cX7_adjust 48 = .ok (.if_icmp .le 14, 3) := by decide +kernel
theorem dX7_adjust_51 : decode cX7_adjust 51 = .ok (.new 43, 3) := by decide +kernel
theorem dX7_adjust_54 : decode cX7_adjust 54 = .ok (.dup, 1) := by decide +kernel
theorem dX7_adjust_55 : decode cX7_adjust 55 = .ok (.ldc_w 368, 3) := by decide +kernel
theorem dX7_adjust_58 : decode cX7_adjust 58 = .ok (.invokespecial 47, 3) := by decide +kernel
theorem dX7_adjust_61 : decode cX7_adjust 61 = .ok (.athrow, 1) := by decide +kernel
theorem dX7_adjust_62 : decode cX7_adjust 62 = .ok (.aload_n 0, 1) := by decide +kernel
theorem dX7_adjust_63 : decode cX7_adjust 63 = .ok (.invokevirtual 64, 3) := by decide +kernel
theorem dX7_adjust_66 : decode cX7_adjust 66 = .ok (.aload_n 0, 1) := by decide +kernel
theorem dX7_adjust_67 : decode cX7_adjust 67 = .ok (.getfield 12, 3) := by decide +kernel
theorem dX7_adjust_70 : decode cX7_adjust 70 = .ok (.getfield 255, 3) := by decide +kernel
theorem dX7_adjust_73 : decode cX7_adjust 73 = .ok (.iload 4, 2) := by decide +kernel
theorem dX7_adjust_75 : decode cX7_adjust 75 = .ok (.iload 5, 2) := by decide +kernel
theorem dX7_adjust_77 : decode cX7_adjust 77 = .ok (.invokevirtual 370, 3) := by decide +kernel
theorem dX7_adjust_80 : decode cX7_adjust 80 = .ok (.aload_n 0, 1) := by decide +kernel
theorem dX7_adjust_81 : decode cX7_adjust 81 = .ok (.getfield 12, 3) := by decide +kernel
theorem dX7_adjust_84 : decode cX7_adjust 84 = .ok (.invokevirtual 78, 3) := by decide +kernel
theorem dX7_adjust_87 : decode cX7_adjust 87 = .ok (.iload 5, 2) := by decide +kernel
theorem dX7_adjust_89 : decode cX7_adjust 89 = .ok (.ireturn, 1) := by decide +kernel
set_option maxRecDepth 20000 in
theorem ggX7_repair_X7_remember : GoodIn wsX7_repair wsX7_remember := goodIn_r _ [6, 7, 8, 1, 9, 10, 11, 12, 13, 14, 15, 16, 17, 18, 19, 20, 21, 22, 23, 24, 25, 26, 27, 28, 29, 30, 31, 32, 33, 34, 35, 36, 37, 38, 39, 40, 41, 42, 43, 44, 45, 46, 47, 48, 49, 50, 51, 52, 53, 54, 55, 56, 57, 58, 59, 60, 61, 62, 63, 64, 65, 66, 67, 68, 69, 70, 71, 158, 159, 160, 161, 162, 163, 164, 165, 166, 167, 168, 169, 170, 171, 172, 173, 174, 175, 176, 177, 178, 179, 180, 181, 182, 183, 184, 185, 186] (by decide +kernel) (by decide +kernel)
set_option maxRecDepth 20000 in
theorem gX7_repair_X7_remember : GoodIn wsX7_repair (wsV RX7 64 RX7 yX7_remember wsX7_remember) := goodIn_app (goodIn_of _ (by decide +kernel)) ggX7_repair_X7_remember
set_option maxRecDepth 20000 in
theorem ggX7_repair_X6_correctAccounts : GoodIn wsX7_repair wsX6_correctAccounts := goodIn_r _ [75, 25, 76, 5, 77, 78, 79, 80, 21, 81, 24, 82, 83, 84, 85, 86, 23, 87, 88, 89, 45, 90, 47, 91, 92, 93, 94, 50, 95, 96, 97, 32, 98, 99, 100, 101, 102, 40, 103, 104, 105, 106, 41, 107, 108, 109, 110, 34, 111, 112, 113, 114, 115, 116, 117, 118, 49, 119, 120, 121, 54, 122, 56, 123, 124, 125, 126, 165, 166, 167, 168, 169, 170, 175, 176, 177, 171, 172, 173, 174, 178, 179, 180, 181] (by decide +kernel) (by decide +kernel)
set_option maxRecDepth 20000 in
theorem gX7_repair_X6_correctAccounts : GoodIn wsX7_repair (wsV RX7 74 RX6 yX6_correctAccounts wsX6_correctAccounts) := goodIn_app (goodIn_of _ (by decide +kernel)) ggX7_repair_X6_correctAccounts
set_option maxRecDepth 20000 in
theorem ggX7_repair_X6_setClocks : GoodIn wsX7_repair wsX6_setClocks := goodIn_r _ [130, 25, 27, 76, 5, 77, 131, 132, 133, 21, 134, 135, 136, 137, 138, 26, 139, 140, 12, 141, 142, 143, 144, 54, 145, 59, 58, 146, 147, 148, 64, 149, 71, 68, 69, 66, 119, 120, 121, 122, 56, 150, 151, 152, 153, 60, 154, 155, 156, 157, 165, 166, 167, 168, 169, 170, 178, 179, 180, 181, 182, 183, 184, 185, 186] (by decide +kernel) (by decide +kernel)
set_option maxRecDepth 20000 in
theorem gX7_repair_X6_setClocks : GoodIn wsX7_repair (wsV RX7 78 RX6 yX6_setClocks wsX6_setClocks) := goodIn_app (goodIn_of _ (by decide +kernel)) ggX7_repair_X6_setClocks
theorem dX7_repair_0 : decode cX7_repair 0 = .ok (.aload_n 0, 1) := by decide +kernel
theorem dX7_repair_1 : decode cX7_repair 1 = .ok (.invokevirtual 64, 3) := by decide +kernel
theorem dX7_repair_4 : decode cX7_repair 4 = .ok (.aload_n 0, 1) := by decide +kernel
theorem dX7_repair_5 : decode cX7_repair 5 = .ok (.getfield 12, 3) := by decide +kernel
theorem dX7_repair_8 : decode cX7_repair 8 = .ok (.invokevirtual 74, 3) := by decide +kernel
theorem dX7_repair_11 : decode cX7_repair 11 = .ok (.istore_n 1, 1) := by decide +kernel
theorem dX7_repair_12 : decode cX7_repair 12 = .ok (.aload_n 0, 1) := by decide +kernel
theorem dX7_repair_13 : decode cX7_repair 13 = .ok (.getfield 12, 3) := by decide +kernel
theorem dX7_repair_16 : decode cX7_repair 16 = .ok (.invokevirtual 78, 3) := by decide +kernel
theorem dX7_repair_19 : decode cX7_repair 19 = .ok (.iload_n 1, 1) := by decide +kernel
theorem dX7_repair_20 : decode cX7_repair 20 = .ok (.ireturn, 1) := by decide +kernel
set_option maxRecDepth 20000 in
theorem ggX7_writePath_X7_needFolder : GoodIn wsX7_writePath wsX7_needFolder := goodIn_ca (goodIn_r _ [9, 10, 11, 3, 4, 12, 13, 14, 15, 16, 17, 50, 51, 52, 53, 54, 55, 56, 59, 60, 61, 62, 63, 64, 65, 66, 67, 68] (by decide +kernel) (by decide +kernel)) (goodIn_sub (fun _ h => List.mem_cons_of_mem _ (List.mem_append_right _ h)) (by decide +kernel))
set_option maxRecDepth 20000 in
theorem gX7_writePath_X7_needFolder : GoodIn wsX7_writePath (wsV RX7 132 RX7 yX7_needFolder wsX7_needFolder) := goodIn_app (goodIn_of _ (by decide +kernel)) ggX7_writePath_X7_needFolder
set_option maxRecDepth 20000 in
theorem ggX7_writePath_X3_depthOf : GoodIn wsX7_writePath wsX3_depthOf := goodIn_r _ [21, 22, 23, 24, 15, 25, 26, 27, 13, 14, 16, 17, 65, 66, 67, 68] (by decide +kernel) (by decide +kernel)
set_option maxRecDepth 20000 in
theorem gX7_writePath_X3_depthOf : GoodIn wsX7_writePath (wsV RX7 151 RX3 yX3_depthOf wsX3_depthOf) := goodIn_app (goodIn_of _ (by decide +kernel)) ggX7_writePath_X3_depthOf
set_option maxRecDepth 20000 in
theorem ggX7_writePath_X3_ancestorOf : GoodIn wsX7_writePath wsX3_ancestorOf := goodIn_r _ [31, 22, 23, 24, 15, 25, 26, 27, 13, 14, 16, 17, 65, 66, 67, 68] (by decide +kernel) (by decide +kernel)
set_option maxRecDepth 20000 in
theorem gX7_writePath_X3_ancestorOf : GoodIn wsX7_writePath (wsV RX7 373 RX3 yX3_ancestorOf wsX3_ancestorOf) := goodIn_app (goodIn_of _ (by decide +kernel)) ggX7_writePath_X3_ancestorOf
set_option maxRecDepth 20000 in
theorem ggX7_writePath_X3_nameOf : GoodIn wsX7_writePath wsX3_nameOf := goodIn_r _ [35, 36, 27, 13, 14, 15, 16, 17, 65, 66, 67, 68] (by decide +kernel) (by decide +kernel)
set_option maxRecDepth 20000 in
theorem gX7_writePath_X3_nameOf : GoodIn wsX7_writePath (wsV RX7 376 RX3 yX3_nameOf wsX3_nameOf) := goodIn_app (goodIn_of _ (by decide +kernel)) ggX7_writePath_X3_nameOf
set_option maxRecDepth 20000 in
theorem ggX7_writePath_X1_putName : GoodIn wsX7_writePath wsX1_putName := goodIn_r _ [41, 42, 43, 44, 45, 40, 46, 47, 48, 57, 58] (by decide +kernel) (by decide +kernel)
set_option maxRecDepth 20000 in
theorem gX7_writePath_X1_putName : GoodIn wsX7_writePath (wsV RX7 380 RX1 yX1_putName wsX1_putName) := goodIn_app (goodIn_of _ (by decide +kernel)) ggX7_writePath_X1_putName
set_option maxRecDepth 20000 in
theorem ggX7_writePath_X1_put : GoodIn wsX7_writePath wsX1_put := goodIn_r _ [46, 47, 48, 57, 58] (by decide +kernel) (by decide +kernel)
set_option maxRecDepth 20000 in
theorem gX7_writePath_X1_put : GoodIn wsX7_writePath (wsV RX7 384 RX1 yX1_put wsX1_put) := goodIn_app (goodIn_of _ (by decide +kernel)) ggX7_writePath_X1_put
theorem dX7_writePath_0 : decode cX7_writePath 0 = .ok (.aload_n 0, 1) := by decide +kernel
theorem dX7_writePath_1 : decode cX7_writePath 1 = .ok (.iload_n 1, 1) := by decide +kernel
theorem dX7_writePath_2 : decode cX7_writePath 2 = .ok (.invokevirtual 132, 3) := by decide +kernel
theorem dX7_writePath_5 : decode cX7_writePath 5 = .ok (.aload_n 0, 1) := by decide +kernel
theorem dX7_writePath_6 : decode cX7_writePath 6 = .ok (.getfield 27, 3) := by decide +kernel
theorem dX7_writePath_9 : decode cX7_writePath 9 = .ok (.iconst 0, 1) := by decide +kernel
theorem dX7_writePath_10 : decode cX7_writePath 10 = .ok (.putfield 39, 3) := by decide +kernel
theorem dX7_writePath_13 : decode cX7_writePath 13 = .ok (.aload_n 0, 1) := by decide +kernel
theorem dX7_writePath_14 : decode cX7_writePath 14 = .ok (.getfield 12, 3) := by decide +kernel
theorem dX7_writePath_17 : decode cX7_writePath 17 = .ok (.getfield 93, 3) := by decide +kernel
theorem dX7_writePath_20 : decode cX7_writePath 20 = .ok (.iload_n 1, 1) := by decide +kernel
theorem dX7_writePath_21 : decode cX7_writePath 21 = .ok (.invokevirtual 151, 3) := by decide +kernel
theorem dX7_writePath_24 : decode cX7_writePath 24 = .ok (.istore_n 2, 1) := by decide +kernel
theorem dX7_writePath_25 : decode cX7_writePath 25 = .ok (.iload_n 2, 1) := by decide +kernel
theorem dX7_writePath_26 : decode cX7_writePath 26 = .ok (.ifCond .lt 51, 3) := by decide +kernel
theorem dX7_writePath_29 : decode cX7_writePath 29 = .ok (.aload_n 0, 1) := by decide +kernel
theorem dX7_writePath_30 : decode cX7_writePath 30 = .ok (.getfield 27, 3) := by decide +kernel
theorem dX7_writePath_33 : decode cX7_writePath 33 = .ok (.aload_n 0, 1) := by decide +kernel
theorem dX7_writePath_34 : decode cX7_writePath 34 = .ok (.getfield 12, 3) := by decide +kernel
theorem dX7_writePath_37 : decode cX7_writePath 37 = .ok (.getfield 93, 3) := by decide +kernel
theorem dX7_writePath_40 : decode cX7_writePath 40 = .ok (.aload_n 0, 1) := by decide +kernel
theorem dX7_writePath_41 : decode cX7_writePath 41 = .ok (.getfield 12, 3) := by decide +kernel
theorem dX7_writePath_44 : decode cX7_writePath 44 = .ok (.getfield 93, 3) := by decide +kernel
theorem dX7_writePath_47 : decode cX7_writePath 47 = .ok (.iload_n 1, 1) := by decide +kernel
theorem dX7_writePath_48 : decode cX7_writePath 48 = .ok (.iload_n 2, 1) := by decide +kernel
theorem dX7_writePath_49 : decode cX7_writePath 49 = .ok (.invokevirtual 373, 3) := by decide +kernel
theorem dX7_writePath_52 : decode cX7_writePath 52 = .ok (.invokevirtual 376, 3) := by decide +kernel
theorem dX7_writePath_55 : decode cX7_writePath 55 = .ok (.invokevirtual 380, 3) := by decide +kernel
theorem dX7_writePath_58 : decode cX7_writePath 58 = .ok (.iload_n 2, 1) := by decide +kernel
theorem dX7_writePath_59 : decode cX7_writePath 59 = .ok (.ifCond .le 12, 3) := by decide +kernel
theorem dX7_writePath_62 : decode cX7_writePath 62 = .ok (.aload_n 0, 1) := by decide +kernel
theorem dX7_writePath_63 : decode cX7_writePath 63 = .ok (.getfield 27, 3) := by decide +kernel
theorem dX7_writePath_66 : decode cX7_writePath 66 = .ok (.bipush 47, 2) := by decide +kernel
theorem dX7_writePath_68 : decode cX7_writePath 68 = .ok (.invokevirtual 384, 3) := by decide +kernel
theorem dX7_writePath_71 : decode cX7_writePath 71 = .ok (.iinc 2 (-1), 3) := by decide +kernel
theorem dX7_writePath_74 : decode cX7_writePath 74 = .ok (.goto (-49), 3) := by decide +kernel
theorem dX7_writePath_77 : decode cX7_writePath 77 = .ok (.aload_n 0, 1) := by decide +kernel
theorem dX7_writePath_78 : decode cX7_writePath 78 = .ok (.getfield 27, 3) := by decide +kernel
theorem dX7_writePath_81 : decode cX7_writePath 81 = .ok (.getfield 39, 3) := by decide +kernel
theorem dX7_writePath_84 : decode cX7_writePath 84 = .ok (.ireturn, 1) := by decide +kernel
set_option maxRecDepth 20000 in
theorem ggX7_writeAccounts_X7_needProject : GoodIn wsX7_writeAccounts wsX7_needProject := goodIn_ca (goodIn_r _ [6, 7, 8, 5, 9, 10, 11] (by decide +kernel) (by decide +kernel)) (goodIn_sub (fun _ h => List.mem_cons_of_mem _ (List.mem_append_right _ h)) (by decide +kernel))
set_option maxRecDepth 20000 in
theorem gX7_writeAccounts_X7_needProject : GoodIn wsX7_writeAccounts (va_wsS RX7 278 yX7_needProject wsX7_needProject) := goodIn_app (goodIn_of _ (by decide +kernel)) ggX7_writeAccounts_X7_needProject
set_option maxRecDepth 20000 in
theorem ggX7_writeAccounts_X1_putNumber : GoodIn wsX7_writeAccounts wsX1_putNumber := goodIn_r _ [16, 17, 18, 19, 20, 15, 21, 22, 23, 103, 104] (by decide +kernel) (by decide +kernel)
set_option maxRecDepth 20000 in
theorem gX7_writeAccounts_X1_putNumber : GoodIn wsX7_writeAccounts (wsV RX7 387 RX1 yX1_putNumber wsX1_putNumber) := goodIn_app (goodIn_of _ (by decide +kernel)) ggX7_writeAccounts_X1_putNumber
set_option maxRecDepth 20000 in
theorem ggX7_writeAccounts_X1_put : GoodIn wsX7_writeAccounts wsX1_put := goodIn_r _ [21, 22, 23, 103, 104] (by decide +kernel) (by decide +kernel)
set_option maxRecDepth 20000 in
theorem gX7_writeAccounts_X1_put : GoodIn wsX7_writeAccounts (wsV RX7 384 RX1 yX1_put wsX1_put) := goodIn_app (goodIn_of _ (by decide +kernel)) ggX7_writeAccounts_X1_put
set_option maxRecDepth 20000 in
theorem ggX7_writeAccounts_X7_putAccount : GoodIn wsX7_writeAccounts wsX7_putAccount := goodIn_r _ [28, 1, 29, 30, 24, 19, 20, 15, 21, 22, 23, 31, 32, 5, 33, 34, 35, 36, 37, 38, 39, 12, 13, 14, 16, 17, 18, 40, 41, 42, 43, 44, 45, 46, 47, 48, 49, 50, 51, 52, 53, 54, 55, 56, 57, 58, 59, 60, 61, 62, 63, 64, 65, 66, 67, 68, 69, 70, 71, 72, 73, 74, 75, 76, 77, 78, 79, 80, 81, 82, 83, 84, 85, 86, 87, 88, 89, 90, 91, 92, 93, 94, 95, 96, 97, 98, 99, 100, 101, 102, 105, 106, 107, 108, 109, 110, 103, 104, 111, 112, 113, 114, 115, 116, 117, 118, 119] (by decide +kernel) (by decide +kernel)
set_option maxRecDepth 20000 in
theorem gX7_writeAccounts_X7_putAccount : GoodIn wsX7_writeAccounts (wsV RX7 390 RX7 yX7_putAccount wsX7_putAccount) := goodIn_app (goodIn_of _ (by decide +kernel)) ggX7_writeAccounts_X7_putAccount
theorem dX7_writeAccounts_0 : decode cX7_writeAccounts 0 = .ok (.iload_n 1, 1) := by decide +kernel
theorem dX7_writeAccounts_1 : decode cX7_writeAccounts 1 = .ok (.invokestatic 278, 3) := by decide +kernel
theorem dX7_writeAccounts_4 : decode cX7_writeAccounts 4 = .ok (.aload_n 0, 1) := by decide +kernel
theorem dX7_writeAccounts_5 : decode cX7_writeAccounts 5 = .ok (.getfield 27, 3) := by decide +kernel
theorem dX7_writeAccounts_8 : decode cX7_writeAccounts 8 = .ok (.iconst 0, 1) := by decide +kernel
theorem dX7_writeAccounts_9 : decode cX7_writeAccounts 9 = .ok (.putfield 39, 3) := by decide +kernel
theorem dX7_writeAccounts_12 : decode cX7_writeAccounts 12 = .ok (.aload_n 0, 1) := by decide +kernel
theorem dX7_writeAccounts_13 : decode cX7_writeAccounts 13 = .ok (.getfield 27, 3) := by decide +kernel
theorem dX7_writeAccounts_16 : decode cX7_writeAccounts 16 = .ok (.iload_n 1, 1) := by decide +kernel
theorem dX7_writeAccounts_17 : decode cX7_writeAccounts 17 = .ok (.invokevirtual 387, 3) := by decide +kernel
theorem dX7_writeAccounts_20 : decode cX7_writeAccounts 20 = .ok (.aload_n 0, 1) := by decide +kernel
theorem dX7_writeAccounts_21 : decode cX7_writeAccounts 21 = .ok (.getfield 27, 3) := by decide +kernel
theorem dX7_writeAccounts_24 : decode cX7_writeAccounts 24 = .ok (.bipush 58, 2) := by decide +kernel
theorem dX7_writeAccounts_26 : decode cX7_writeAccounts 26 = .ok (.invokevirtual 384, 3) := by decide +kernel
theorem dX7_writeAccounts_29 : decode cX7_writeAccounts 29 = .ok (.iconst 0, 1) := by decide +kernel
theorem dX7_writeAccounts_30 : decode cX7_writeAccounts 30 = .ok (.istore_n 2, 1) := by decide +kernel
theorem dX7_writeAccounts_31 : decode cX7_writeAccounts 31 = .ok (.iload_n 2, 1) := by decide +kernel
theorem dX7_writeAccounts_32 : decode cX7_writeAccounts 32 = .ok (.iconst 2, 1) := by decide +kernel
theorem dX7_writeAccounts_33 : decode cX7_writeAccounts 33 = .ok (.if_icmp .ge 15, 3) := by decide +kernel
theorem dX7_writeAccounts_36 : decode cX7_writeAccounts 36 = .ok (.aload_n 0, 1) := by decide +kernel
theorem dX7_writeAccounts_37 : decode cX7_writeAccounts 37 = .ok (.iload_n 1, 1) := by decide +kernel
theorem dX7_writeAccounts_38 : decode cX7_writeAccounts 38 = .ok (.iload_n 2, 1) := by decide +kernel
theorem dX7_writeAccounts_39 : decode cX7_writeAccounts 39 = .ok (.invokevirtual 390, 3) := by decide +kernel
theorem dX7_writeAccounts_42 : decode cX7_writeAccounts 42 = .ok (.iinc 2 1, 3) := by decide +kernel
theorem dX7_writeAccounts_45 : decode cX7_writeAccounts 45 = .ok (.goto (-14), 3) := by decide +kernel
theorem dX7_writeAccounts_48 : decode cX7_writeAccounts 48 = .ok (.aload_n 0, 1) := by decide +kernel
theorem dX7_writeAccounts_49 : decode cX7_writeAccounts 49 = .ok (.getfield 27, 3) := by decide +kernel
theorem dX7_writeAccounts_52 : decode cX7_writeAccounts 52 = .ok (.getfield 39, 3) := by decide +kernel
theorem dX7_writeAccounts_55 : decode cX7_writeAccounts 55 = .ok (.ireturn, 1) := by decide +kernel
set_option maxRecDepth 20000 in
theorem ggX7_writtenByte_X1_byteAt : GoodIn wsX7_writtenByte wsX1_byteAt := goodIn_r _ [9, 10, 11, 19, 20] (by decide +kernel) (by decide +kernel)
set_option maxRecDepth 20000 in
theorem gX7_writtenByte_X1_byteAt : GoodIn wsX7_writtenByte (wsV RX7 398 RX1 yX1_byteAt wsX1_byteAt) := goodIn_app (goodIn_of _ (by decide +kernel)) ggX7_writtenByte_X1_byteAt
theorem dX7_writtenByte_0 : decode cX7_writtenByte 0 = .ok (.iload_n 1, 1) := by decide +kernel
theorem dX7_writtenByte_1 : decode cX7_writtenByte 1 = .ok (.ifCond .lt 14, 3) := by decide +kernel
theorem dX7_writtenByte_4 : decode cX7_writtenByte 4 = .ok (.iload_n 1, 1) := by decide +kernel
theorem dX7_writtenByte_5 : decode cX7_writtenByte 5 = .ok (.aload_n 0, 1) := by decide +kernel
theorem dX7_writtenByte_6 : decode cX7_writtenByte 6 = .ok (.getfield 27, 3) := by decide +kernel
theorem dX7_writtenByte_9 : decode cX7_writtenByte 9 = .ok (.getfield 39, 3) := by decide +kernel
theorem dX7_writtenByte_12 : decode cX7_writtenByte 12 = .ok (.if_icmp .lt 14, 3) := by decide +kernel
theorem dX7_writtenByte_15 : decode cX7_writtenByte 15 = .ok (.new 393, 3) := by decide +kernel
theorem dX7_writtenByte_18 : decode cX7_writtenByte 18 = .ok (.dup, 1) := by decide +kernel
theorem dX7_writtenByte_19 : decode cX7_writtenByte 19 = .ok (.ldc_w 395, 3) := by decide +kernel
theorem dX7_writtenByte_22 : decode cX7_writtenByte 22 = .ok (.invokespecial 397, 3) := by decide +kernel
theorem dX7_writtenByte_25 : decode cX7_writtenByte 25 = .ok (.athrow, 1) := by decide +kernel
theorem dX7_writtenByte_26 : decode cX7_writtenByte 26 = .ok (.aload_n 0, 1) := by decide +kernel
theorem dX7_writtenByte_27 : decode cX7_writtenByte 27 = .ok (.getfield 27, 3) := by decide +kernel
theorem dX7_writtenByte_30 : decode cX7_writtenByte 30 = .ok (.iload_n 1, 1) := by decide +kernel
theorem dX7_writtenByte_31 : decode cX7_writtenByte 31 = .ok (.invokevirtual 398, 3) := by decide +kernel
theorem dX7_writtenByte_34 : decode cX7_writtenByte 34 = .ok (.ireturn, 1) := by decide +kernel
set_option maxRecDepth 20000 in
theorem ggX7_undo_J9_floorMod_7cf53 : GoodIn wsX7_undo wsJ9_floorMod_7cf53 := goodIn_r _ [10] (by decide +kernel) (by decide +kernel)
set_option maxRecDepth 20000 in
theorem gX7_undo_J9_floorMod_7cf53 : GoodIn wsX7_undo (va_wsS RX7 409 yJ9_floorMod_7cf53 wsJ9_floorMod_7cf53) := goodIn_app (goodIn_of _ (by decide +kernel)) ggX7_undo_J9_floorMod_7cf53
set_option maxRecDepth 20000 in
theorem ggX7_undo_X6_copyFrom : GoodIn wsX7_undo wsX6_copyFrom := goodIn_r _ [15, 16, 17, 18, 19, 20, 21, 22, 23, 24, 25, 26, 27, 28, 29, 30, 31, 32, 33, 34, 35, 36, 37, 38, 39, 40, 41, 42, 43, 44, 45, 46, 47, 48, 49, 50, 51, 52, 53, 54, 55, 56, 57, 58, 59, 60, 61, 62, 63, 64, 72, 73, 74, 75, 76, 77, 78, 79, 80, 81, 82, 83, 84, 85, 86, 87, 88, 89, 90, 91, 92, 93] (by decide +kernel) (by decide +kernel)
set_option maxRecDepth 20000 in
theorem gX7_undo_X6_copyFrom : GoodIn wsX7_undo (wsV RX7 70 RX6 yX6_copyFrom wsX6_copyFrom) := goodIn_app (goodIn_of _ (by decide +kernel)) ggX7_undo_X6_copyFrom
theorem dX7_undo_0 : decode cX7_undo 0 = .ok (.aload_n 0, 1) := by decide +kernel
theorem dX7_undo_1 : decode cX7_undo 1 = .ok (.getfield 401, 3) := by decide +kernel
theorem dX7_undo_4 : decode cX7_undo 4 = .ok (.ifCond .ne 14, 3) := by decide +kernel
theorem dX7_undo_7 : decode cX7_undo 7 = .ok (.new 43, 3) := by decide +kernel
theorem dX7_undo_10 : decode cX7_undo 10 = .ok (.dup, 1) := by decide +kernel
theorem dX7_undo_11 : decode cX7_undo 11 = .ok (.ldc_w 404, 3) := by decide +kernel
theorem dX7_undo_14 : decode cX7_undo 14 = .ok (.invokespecial 47, 3) := by decide +kernel
theorem dX7_undo_17 : decode cX7_undo 17 = .ok (.athrow, 1) := by decide +kernel
theorem dX7_undo_18 : decode cX7_undo 18 = .ok (.aload_n 0, 1) := by decide +kernel
theorem dX7_undo_19 : decode cX7_undo 19 = .ok (.dup, 1) := by decide +kernel
theorem dX7_undo_20 : decode cX7_undo 20 = .ok (.getfield 401, 3) := by decide +kernel
theorem dX7_undo_23 : decode cX7_undo 23 = .ok (.iconst 1, 1) := by decide +kernel
theorem dX7_undo_24 : decode cX7_undo 24 = .ok (.isub, 1) := by decide +kernel
theorem dX7_undo_25 : decode cX7_undo 25 = .ok (.putfield 401, 3) := by decide +kernel
theorem dX7_undo_28 : decode cX7_undo 28 = .ok (.aload_n 0, 1) := by decide +kernel
theorem dX7_undo_29 : decode cX7_undo 29 = .ok (.dup, 1) := by decide +kernel
theorem dX7_undo_30 : decode cX7_undo 30 = .ok (.getfield 406, 3) := by decide +kernel
theorem dX7_undo_33 : decode cX7_undo 33 = .ok (.iconst 1, 1) := by decide +kernel
theorem dX7_undo_34 : decode cX7_undo 34 = .ok (.isub, 1) := by decide +kernel
theorem dX7_undo_35 : decode cX7_undo 35 = .ok (.putfield 406, 3) := by decide +kernel
theorem dX7_undo_38 : decode cX7_undo 38 = .ok (.aload_n 0, 1) := by decide +kernel
theorem dX7_undo_39 : decode cX7_undo 39 = .ok (.getfield 16, 3) := by decide +kernel
theorem dX7_undo_42 : decode cX7_undo 42 = .ok (.aload_n 0, 1) := by decide +kernel
theorem dX7_undo_43 : decode cX7_undo 43 = .ok (.getfield 406, 3) := by decide +kernel
theorem dX7_undo_46 : decode cX7_undo 46 = .ok (.bipush 8, 2) := by decide +kernel
theorem dX7_undo_48 : decode cX7_undo 48 = .ok (.invokestatic 409, 3) := by decide +kernel
theorem dX7_undo_51 : decode cX7_undo 51 = .ok (.aaload, 1) := by decide +kernel
theorem dX7_undo_52 : decode cX7_undo 52 = .ok (.astore_n 1, 1) := by decide +kernel
theorem dX7_undo_53 : decode cX7_undo 53 = .ok (.aload_n 1, 1) := by decide +kernel
theorem dX7_undo_54 : decode cX7_undo 54 = .ok (.ifnull 11, 3) := by decide +kernel
theorem dX7_undo_57 : decode cX7_undo 57 = .ok (.aload_n 0, 1) := by decide +kernel
theorem dX7_undo_58 : decode cX7_undo 58 = .ok (.getfield 12, 3) := by decide +kernel
theorem dX7_undo_61 : decode cX7_undo 61 = .ok (.aload_n 1, 1) := by decide +kernel
theorem dX7_undo_62 : decode cX7_undo 62 = .ok (.invokevirtual 70, 3) := by decide +kernel
theorem dX7_undo_65 : decode cX7_undo 65 = .ok (.aload_n 0, 1) := by decide +kernel
theorem dX7_undo_66 : decode cX7_undo 66 = .ok (.getfield 401, 3) := by decide +kernel
theorem dX7_undo_69 : decode cX7_undo 69 = .ok (.ireturn, 1) := by decide +kernel
set_option maxRecDepth 20000 in
theorem ggX7_remember_J9_floorMod_7cf53 : GoodIn wsX7_remember wsJ9_floorMod_7cf53 := goodIn_r _ [12] (by decide +kernel) (by decide +kernel)
set_option maxRecDepth 20000 in
theorem gX7_remember_J9_floorMod_7cf53 : GoodIn wsX7_remember (va_wsS RX7 409 yJ9_floorMod_7cf53 wsJ9_floorMod_7cf53) := goodIn_app (goodIn_of _ (by decide +kernel)) ggX7_remember_J9_floorMod_7cf53
set_option maxRecDepth 20000 in
theorem ggX7_remember_X6_copyFrom : GoodIn wsX7_remember wsX6_copyFrom := goodIn_r _ [17, 18, 19, 20, 21, 22, 23, 24, 25, 26, 27, 28, 29, 30, 31, 32, 33, 34, 35, 36, 37, 38, 39, 40, 41, 42, 43, 44, 45, 46, 47, 48, 49, 50, 51, 52, 53, 54, 55, 56, 57, 58, 59, 60, 61, 62, 63, 64, 65, 66, 74, 75, 76, 77, 78, 79, 80, 81, 82, 83, 84, 85, 86, 87, 88, 89, 90, 91, 92, 93, 94, 95] (by decide +kernel) (by decide +kernel)
set_option maxRecDepth 20000 in
theorem gX7_remember_X6_copyFrom : GoodIn wsX7_remember (wsV RX7 70 RX6 yX6_copyFrom wsX6_copyFrom) := goodIn_app (goodIn_of _ (by decide +kernel)) ggX7_remember_X6_copyFrom
theorem dX7_remember_0 : decode cX7_remember 0 = .ok (.aload_n 0, 1) := by decide +kernel
theorem dX7_remember_1 : decode cX7_remember 1 = .ok (.getfield 16, 3) := by decide +kernel
theorem dX7_remember_4 : decode cX7_remember 4 = .ok (.aload_n 0, 1) := by decide +kernel
theorem dX7_remember_5 : decode cX7_remember 5 = .ok (.getfield 406, 3) := by decide +kernel
theorem dX7_remember_8 : decode cX7_remember 8 = .ok (.bipush 8, 2) := by decide +kernel
theorem dX7_remember_10 : decode cX7_remember 10 = .ok (.invokestatic 409, 3) := by decide +kernel
theorem dX7_remember_13 : decode cX7_remember 13 = .ok (.aaload, 1) := by decide +kernel
theorem dX7_remember_14 : decode cX7_remember 14 = .ok (.astore_n 1, 1) := by decide +kernel
theorem dX7_remember_15 : decode cX7_remember 15 = .ok (.aload_n 1, 1) := by decide +kernel
theorem dX7_remember_16 : decode cX7_remember 16 = .ok (.ifnull 11, 3) := by decide +kernel
theorem dX7_remember_19 : decode cX7_remember 19 = .ok (.aload_n 1, 1) := by decide +kernel
theorem dX7_remember_20 : decode cX7_remember 20 = .ok (.aload_n 0, 1) := by decide +kernel
theorem dX7_remember_21 : decode cX7_remember 21 = .ok (.getfield 12, 3) := by decide +kernel
theorem dX7_remember_24 : decode cX7_remember 24 = .ok (.invokevirtual 70, 3) := by decide +kernel
theorem dX7_remember_27 : decode cX7_remember 27 = .ok (.aload_n 0, 1) := by decide +kernel
theorem dX7_remember_28 : decode cX7_remember 28 = .ok (.dup, 1) := by decide +kernel
theorem dX7_remember_29 : decode cX7_remember 29 = .ok (.getfield 406, 3) := by decide +kernel
theorem dX7_remember_32 : decode cX7_remember 32 = .ok (.iconst 1, 1) := by decide +kernel
theorem dX7_remember_33 : decode cX7_remember 33 = .ok (.iadd, 1) := by decide +kernel
theorem dX7_remember_34 : decode cX7_remember 34 = .ok (.putfield 406, 3) := by decide +kernel
theorem dX7_remember_37 : decode cX7_remember 37 = .ok (.aload_n 0, 1) := by decide +kernel
theorem dX7_remember_38 : decode cX7_remember 38 = .ok (.aload_n 0, 1) := by decide +kernel
theorem dX7_remember_39 : decode cX7_remember 39 = .ok (.getfield 401, 3) := by decide +kernel
theorem dX7_remember_42 : decode cX7_remember 42 = .ok (.iconst 1, 1) := by decide +kernel
theorem dX7_remember_43 : decode cX7_remember 43 = .ok (.iadd, 1) := by decide +kernel
theorem dX7_remember_44 : decode cX7_remember 44 = .ok (.bipush 8, 2) := by decide +kernel
theorem dX7_remember_46 : decode cX7_remember 46 = .ok (.invokestatic 412, 3) := by decide +kernel
theorem dX7_remember_49 : decode cX7_remember 49 = .ok (.putfield 401, 3) := by decide +kernel
theorem dX7_remember_52 : decode cX7_remember 52 = .ok (.return_, 1) := by decide +kernel
set_option maxRecDepth 20000 in
theorem ggX7_putAccount_X1_put : GoodIn wsX7_putAccount wsX1_put := goodIn_r _ [8, 9, 10, 96, 97] (by decide +kernel) (by decide +kernel)
set_option maxRecDepth 20000 in
theorem gX7_putAccount_X1_put : GoodIn wsX7_putAccount (wsV RX7 384 RX1 yX1_put wsX1_put) := goodIn_app (goodIn_of _ (by decide +kernel)) ggX7_putAccount_X1_put
set_option maxRecDepth 20000 in
theorem ggX7_putAccount_X7_accountOf : GoodIn wsX7_putAccount wsX7_accountOf := goodIn_r _ [14] (by decide +kernel) (by decide +kernel)
set_option maxRecDepth 20000 in
theorem gX7_putAccount_X7_accountOf : GoodIn wsX7_putAccount (va_wsS RX7 289 yX7_accountOf wsX7_accountOf) := goodIn_app (goodIn_of _ (by decide +kernel)) ggX7_putAccount_X7_accountOf
set_option maxRecDepth 20000 in
theorem ggX7_putAccount_X0_amountOf : GoodIn wsX7_putAccount wsX0_amountOf := goodIn_r _ [19, 20, 98, 99, 100, 101] (by decide +kernel) (by decide +kernel)
set_option maxRecDepth 20000 in
theorem gX7_putAccount_X0_amountOf : GoodIn wsX7_putAccount (wsV RX7 292 RX0 yX0_amountOf wsX0_amountOf) := goodIn_app (goodIn_of _ (by decide +kernel)) ggX7_putAccount_X0_amountOf
set_option maxRecDepth 20000 in
theorem ggX7_putAccount_X1_putNumber : GoodIn wsX7_putAccount wsX1_putNumber := goodIn_r _ [24, 25, 26, 5, 6, 7, 8, 9, 10, 96, 97] (by decide +kernel) (by decide +kernel)
set_option maxRecDepth 20000 in
theorem gX7_putAccount_X1_putNumber : GoodIn wsX7_putAccount (wsV RX7 387 RX1 yX1_putNumber wsX1_putNumber) := goodIn_app (goodIn_of _ (by decide +kernel)) ggX7_putAccount_X1_putNumber
set_option maxRecDepth 20000 in
theorem ggX7_putAccount_X6_effectiveLimit : GoodIn wsX7_putAccount wsX6_effectiveLimit := goodIn_r _ [31, 32, 33, 34, 35, 36, 37, 12, 13, 14, 38, 39, 40, 18, 41, 42, 43, 44, 45, 46, 47, 48, 49, 50, 51, 52, 90, 91, 92, 93, 94, 95, 98, 99, 100, 101, 102, 103, 104, 105, 106] (by decide +kernel) (by decide +kernel)
set_option maxRecDepth 20000 in
theorem gX7_putAccount_X6_effectiveLimit : GoodIn wsX7_putAccount (wsV RX7 295 RX6 yX6_effectiveLimit wsX6_effectiveLimit) := goodIn_app (goodIn_of _ (by decide +kernel)) ggX7_putAccount_X6_effectiveLimit
set_option maxRecDepth 20000 in
theorem ggX7_putAccount_X6_stateOf : GoodIn wsX7_putAccount wsX6_stateOf := goodIn_r _ [56, 32, 57, 58, 59, 30, 60, 61, 28, 29, 31, 33, 34, 35, 36, 37, 12, 13, 14, 38, 39, 40, 18, 41, 42, 43, 44, 45, 46, 47, 48, 49, 50, 51, 52, 62, 16, 17, 19, 20, 63, 64, 65, 66, 67, 68, 69, 70, 71, 72, 73, 74, 75, 76, 77, 78, 79, 80, 81, 82, 90, 91, 92, 93, 94, 95, 98, 99, 100, 101, 102, 103, 104, 105, 106] (by decide +kernel) (by decide +kernel)
set_option maxRecDepth 20000 in
theorem gX7_putAccount_X6_stateOf : GoodIn wsX7_putAccount (wsV RX7 311 RX6 yX6_stateOf wsX6_stateOf) := goodIn_app (goodIn_of _ (by decide +kernel)) ggX7_putAccount_X6_stateOf
theorem dX7_putAccount_0 : decode cX7_putAccount 0 = .ok (.aload_n 0, 1) := by decide +kernel
theorem dX7_putAccount_1 : decode cX7_putAccount 1 = .ok (.getfield 27, 3) := by decide +kernel
theorem dX7_putAccount_4 : decode cX7_putAccount 4 = .ok (.bipush 32, 2) := by decide +kernel
theorem dX7_putAccount_6 : decode cX7_putAccount 6 = .ok (.invokevirtual 384, 3) := by decide +kernel
theorem dX7_putAccount_9 : decode cX7_putAccount 9 = .ok (.aload_n 0, 1) := by decide +kernel
theorem dX7_putAccount_10 : decode cX7_putAccount 10 = .ok (.getfield 27, 3) := by decide +kernel
theorem dX7_putAccount_13 : decode cX7_putAccount 13 = .ok (.aload_n 0, 1) := by decide +kernel
theorem dX7_putAccount_14 : decode cX7_putAccount 14 = .ok (.getfield 12, 3) := by decide +kernel
theorem dX7_putAccount_17 : decode cX7_putAccount 17 = .ok (.getfield 255, 3) := by decide +kernel
theorem dX7_putAccount_20 : decode cX7_putAccount 20 = .ok (.iload_n 1, 1) := by decide +kernel
theorem dX7_putAccount_21 : decode cX7_putAccount 21 = .ok (.iload_n 2, 1) := by decide +kernel
theorem dX7_putAccount_22 : decode cX7_putAccount 22 = .ok (.invokestatic 289, 3) := by decide +kernel
theorem dX7_putAccount_25 : decode cX7_putAccount 25 = .ok (.invokevirtual 292, 3) := by decide +kernel
theorem dX7_putAccount_28 : decode cX7_putAccount 28 = .ok (.invokevirtual 387, 3) := by decide +kernel
theorem dX7_putAccount_31 : decode cX7_putAccount 31 = .ok (.aload_n 0, 1) := by decide +kernel
theorem dX7_putAccount_32 : decode cX7_putAccount 32 = .ok (.getfield 27, 3) := by decide +kernel
theorem dX7_putAccount_35 : decode cX7_putAccount 35 = .ok (.bipush 47, 2) := by decide +kernel
theorem dX7_putAccount_37 : decode cX7_putAccount 37 = .ok (.invokevirtual 384, 3) := by decide +kernel
theorem dX7_putAccount_40 : decode cX7_putAccount 40 = .ok (.aload_n 0, 1) := by decide +kernel
theorem dX7_putAccount_41 : decode cX7_putAccount 41 = .ok (.getfield 12, 3) := by decide +kernel
theorem dX7_putAccount_44 : decode cX7_putAccount 44 = .ok (.iload_n 1, 1) := by decide +kernel
theorem dX7_putAccount_45 : decode cX7_putAccount 45 = .ok (.iload_n 2, 1) := by decide +kernel
theorem dX7_putAccount_46 : decode cX7_putAccount 46 = .ok (.iconst 1, 1) := by decide +kernel
theorem dX7_putAccount_47 : decode cX7_putAccount 47 = .ok (.invokevirtual 295, 3) := by decide +kernel
theorem dX7_putAccount_50 : decode cX7_putAccount 50 = .ok (.istore_n 3, 1) := by decide +kernel
theorem dX7_putAccount_51 : decode cX7_putAccount 51 = .ok (.iload_n 3, 1) := by decide +kernel
theorem dX7_putAccount_52 : decode cX7_putAccount 52 = .ok (.iconst (-1), 1) := by decide +kernel
theorem dX7_putAccount_53 : decode cX7_putAccount 53 = .ok (.if_icmp .ne 15, 3) := by decide +kernel
theorem dX7_putAccount_56 : decode cX7_putAccount 56 = .ok (.aload_n 0, 1) := by decide +kernel
theorem dX7_putAccount_57 : decode cX7_putAccount 57 = .ok (.getfield 27, 3) := by decide +kernel
theorem dX7_putAccount_60 : decode cX7_putAccount 60 = .ok (.bipush 45, 2) := by decide +kernel
theorem dX7_putAccount_62 : decode cX7_putAccount 62 = .ok (.invokevirtual 384, 3) := by decide +kernel
theorem dX7_putAccount_65 : decode cX7_putAccount 65 = .ok (.goto 11, 3) := by decide +kernel
theorem dX7_putAccount_68 : decode cX7_putAccount 68 = .ok (.aload_n 0, 1) := by decide +kernel
theorem dX7_putAccount_69 : decode cX7_putAccount 69 = .ok (.getfield 27, 3) := by decide +kernel
theorem dX7_putAccount_72 : decode cX7_putAccount 72 = .ok (.iload_n 3, 1) := by decide +kernel
theorem dX7_putAccount_73 : decode cX7_putAccount 73 = .ok (.invokevirtual 387, 3) := by decide +kernel
theorem dX7_putAccount_76 : decode cX7_putAccount 76 = .ok (.aload_n 0, 1) := by decide +kernel
theorem dX7_putAccount_77 : decode cX7_putAccount 77 = .ok (.getfield 12, 3) := by decide +kernel
theorem dX7_putAccount_80 : decode cX7_putAccount 80 = .ok (.iload_n 1, 1) := by decide +kernel
theorem dX7_putAccount_81 : decode cX7_putAccount 81 = .ok (.iload_n 2, 1) := by decide +kernel
theorem dX7_putAccount_82 : decode cX7_putAccount 82 = .ok (.invokevirtual 311, 3) := by decide +kernel
theorem dX7_putAccount_85 : decode cX7_putAccount 85 = .ok (.istore 4, 2) := by decide +kernel
theorem dX7_putAccount_87 : decode cX7_putAccount 87 = .ok (.iload 4, 2) := by decide +kernel
theorem dX7_putAccount_89 : decode cX7_putAccount 89 = .ok (.iconst 2, 1) := by decide +kernel
theorem dX7_putAccount_90 : decode cX7_putAccount 90 = .ok (.if_icmp .ne 15, 3) := by decide +kernel
theorem dX7_putAccount_93 : decode cX7_putAccount 93 = .ok (.aload_n 0, 1) := by decide +kernel
theorem dX7_putAccount_94 : decode cX7_putAccount 94 = .ok (.getfield 27, 3) := by decide +kernel
theorem dX7_putAccount_97 : decode cX7_putAccount 97 = .ok (.bipush 43, 2) := by decide +kernel
theorem dX7_putAccount_99 : decode cX7_putAccount 99 = .ok (.invokevirtual 384, 3) := by decide +kernel
theorem dX7_putAccount_102 : decode cX7_putAccount 102 = .ok (.goto 18, 3) := by decide +kernel
theorem dX7_putAccount_105 : decode cX7_putAccount 105 = .ok (.iload 4, 2) := by decide +kernel
theorem dX7_putAccount_107 : decode cX7_putAccount 107 = .ok (.iconst 2, 1) := by decide +kernel
theorem dX7_putAccount_108 : decode cX7_putAccount 108 = .ok (.if_icmp .le 12, 3) := by decide +kernel
theorem dX7_putAccount_111 : decode cX7_putAccount 111 = .ok (.aload_n 0, 1) := by decide +kernel
theorem dX7_putAccount_112 : decode cX7_putAccount 112 = .ok (.getfield 27, 3) := by decide +kernel
theorem dX7_putAccount_115 : decode cX7_putAccount 115 = .ok (.bipush 33, 2) := by decide +kernel
theorem dX7_putAccount_117 : decode cX7_putAccount 117 = .ok (.invokevirtual 384, 3) := by decide +kernel
theorem dX7_putAccount_120 : decode cX7_putAccount 120 = .ok (.return_, 1) := by decide +kernel
set_option maxRecDepth 20000 in
theorem ggX7_needFolder_X3_has : GoodIn wsX7_needFolder wsX3_has := goodIn_r _ [9, 10, 24, 25, 26, 27] (by decide +kernel) (by decide +kernel)
set_option maxRecDepth 20000 in
theorem gX7_needFolder_X3_has : GoodIn wsX7_needFolder (wsV RX7 415 RX3 yX3_has wsX3_has) := goodIn_app (goodIn_of _ (by decide +kernel)) ggX7_needFolder_X3_has
theorem dX7_needFolder_0 : decode cX7_needFolder 0 = .ok (.aload_n 0, 1) := by decide +kernel
theorem dX7_needFolder_1 : decode cX7_needFolder 1 = .ok (.getfield 12, 3) := by decide +kernel
theorem dX7_needFolder_4 : decode cX7_needFolder 4 = .ok (.getfield 93, 3) := by decide +kernel
theorem dX7_needFolder_7 : decode cX7_needFolder 7 = .ok (.iload_n 1, 1) := by decide +kernel
theorem dX7_needFolder_8 : decode cX7_needFolder 8 = .ok (.invokevirtual 415, 3) := by decide +kernel
theorem dX7_needFolder_11 : decode cX7_needFolder 11 = .ok (.ifCond .ne 14, 3) := by decide +kernel
theorem dX7_needFolder_14 : decode cX7_needFolder 14 = .ok (.new 393, 3) := by decide +kernel
theorem dX7_needFolder_17 : decode cX7_needFolder 17 = .ok (.dup, 1) := by decide +kernel
theorem dX7_needFolder_18 : decode cX7_needFolder 18 = .ok (.ldc_w 418, 3) := by decide +kernel
theorem dX7_needFolder_21 : decode cX7_needFolder 21 = .ok (.invokespecial 397, 3) := by decide +kernel
theorem dX7_needFolder_24 : decode cX7_needFolder 24 = .ok (.athrow, 1) := by decide +kernel
theorem dX7_needFolder_25 : decode cX7_needFolder 25 = .ok (.return_, 1) := by decide +kernel
set_option maxRecDepth 20000 in
theorem ggX7_needFile_X2_has : GoodIn wsX7_needFile wsX2_has := goodIn_r _ [9, 10, 24, 25, 26] (by decide +kernel) (by decide +kernel)
set_option maxRecDepth 20000 in
theorem gX7_needFile_X2_has : GoodIn wsX7_needFile (wsV RX7 420 RX2 yX2_has wsX2_has) := goodIn_app (goodIn_of _ (by decide +kernel)) ggX7_needFile_X2_has
theorem dX7_needFile_0 : decode cX7_needFile 0 = .ok (.aload_n 0, 1) := by decide +kernel
theorem dX7_needFile_1 : decode cX7_needFile 1 = .ok (.getfield 12, 3) := by decide +kernel
theorem dX7_needFile_4 : decode cX7_needFile 4 = .ok (.getfield 81, 3) := by decide +kernel
theorem dX7_needFile_7 : decode cX7_needFile 7 = .ok (.iload_n 1, 1) := by decide +kernel
theorem dX7_needFile_8 : decode cX7_needFile 8 = .ok (.invokevirtual 420, 3) := by decide +kernel
theorem dX7_needFile_11 : decode cX7_needFile 11 = .ok (.ifCond .ne 14, 3) := by decide +kernel
theorem dX7_needFile_14 : decode cX7_needFile 14 = .ok (.new 393, 3) := by decide +kernel
theorem dX7_needFile_17 : decode cX7_needFile 17 = .ok (.dup, 1) := by decide +kernel
theorem dX7_needFile_18 : decode cX7_needFile 18 = .ok (.ldc_w 421, 3) := by decide +kernel
theorem dX7_needFile_21 : decode cX7_needFile 21 = .ok (.invokespecial 397, 3) := by decide +kernel
theorem dX7_needFile_24 : decode cX7_needFile 24 = .ok (.athrow, 1) := by decide +kernel
theorem dX7_needFile_25 : decode cX7_needFile 25 = .ok (.return_, 1) := by decide +kernel
set_option maxRecDepth 20000 in
theorem ggX7_needGift_X4_has : GoodIn wsX7_needGift wsX4_has := goodIn_r _ [9, 10, 24, 25, 26, 27, 28] (by decide +kernel) (by decide +kernel)
set_option maxRecDepth 20000 in
theorem gX7_needGift_X4_has : GoodIn wsX7_needGift (wsV RX7 423 RX4 yX4_has wsX4_has) := goodIn_app (goodIn_of _ (by decide +kernel)) ggX7_needGift_X4_has
theorem dX7_needGift_0 : decode cX7_needGift 0 = .ok (.aload_n 0, 1) := by decide +kernel
theorem dX7_needGift_1 : decode cX7_needGift 1 = .ok (.getfield 12, 3) := by decide +kernel
theorem dX7_needGift_4 : decode cX7_needGift 4 = .ok (.getfield 110, 3) := by decide +kernel
theorem dX7_needGift_7 : decode cX7_needGift 7 = .ok (.iload_n 1, 1) := by decide +kernel
theorem dX7_needGift_8 : decode cX7_needGift 8 = .ok (.invokevirtual 423, 3) := by decide +kernel
theorem dX7_needGift_11 : decode cX7_needGift 11 = .ok (.ifCond .ne 14, 3) := by decide +kernel
theorem dX7_needGift_14 : decode cX7_needGift 14 = .ok (.new 393, 3) := by decide +kernel
theorem dX7_needGift_17 : decode cX7_needGift 17 = .ok (.dup, 1) := by decide +kernel
theorem dX7_needGift_18 : decode cX7_needGift 18 = .ok (.ldc_w 424, 3) := by decide +kernel
theorem dX7_needGift_21 : decode cX7_needGift 21 = .ok (.invokespecial 397, 3) := by decide +kernel
theorem dX7_needGift_24 : decode cX7_needGift 24 = .ok (.athrow, 1) := by decide +kernel
theorem dX7_needGift_25 : decode cX7_needGift 25 = .ok (.return_, 1) := by decide +kernel
theorem dX7_needNoReason_0 : decode cX7_needNoReason 0 = .ok (.iload_n 0, 1) := by decide +kernel
theorem dX7_needNoReason_1 : decode cX7_needNoReason 1 = .ok (.ifCond .eq 14, 3) := by decide +kernel
theorem dX7_needNoReason_4 : decode cX7_needNoReason 4 = .ok (.new 43, 3) := by decide +kernel
theorem dX7_needNoReason_7 : decode cX7_needNoReason 7 = .ok (.dup, 1) := by decide +kernel
theorem dX7_needNoReason_8 : decode cX7_needNoReason 8 = .ok (.ldc_w 426, 3) := by decide +kernel
theorem dX7_needNoReason_11 : decode cX7_needNoReason 11 = .ok (.invokespecial 47, 3) := by decide +kernel
theorem dX7_needNoReason_14 : decode cX7_needNoReason 14 = .ok (.athrow, 1) := by decide +kernel
theorem dX7_needNoReason_15 : decode cX7_needNoReason 15 = .ok (.return_, 1) := by decide +kernel
theorem dX7_needRange_0 : decode cX7_needRange 0 = .ok (.iload_n 0, 1) := by decide +kernel
theorem dX7_needRange_1 : decode cX7_needRange 1 = .ok (.iload_n 1, 1) := by decide +kernel
theorem dX7_needRange_2 : decode cX7_needRange 2 = .ok (.if_icmp .lt 8, 3) := by decide +kernel
theorem dX7_needRange_5 : decode cX7_needRange 5 = .ok (.iload_n 0, 1) := by decide +kernel
theorem dX7_needRange_6 : decode cX7_needRange 6 = .ok (.iload_n 2, 1) := by decide +kernel
theorem dX7_needRange_7 : decode cX7_needRange 7 = .ok (.if_icmp .le 14, 3) := by decide +kernel
theorem dX7_needRange_10 : decode cX7_needRange 10 = .ok (.new 123, 3) := by decide +kernel
theorem dX7_needRange_13 : decode cX7_needRange 13 = .ok (.dup, 1) := by decide +kernel
theorem dX7_needRange_14 : decode cX7_needRange 14 = .ok (.ldc_w 428, 3) := by decide +kernel
theorem dX7_needRange_17 : decode cX7_needRange 17 = .ok (.invokespecial 127, 3) := by decide +kernel
theorem dX7_needRange_20 : decode cX7_needRange 20 = .ok (.athrow, 1) := by decide +kernel
theorem dX7_needRange_21 : decode cX7_needRange 21 = .ok (.return_, 1) := by decide +kernel
set_option maxRecDepth 20000 in
theorem ggX7_needProject_X7_needRange : GoodIn wsX7_needProject wsX7_needRange := goodIn_ca (goodIn_r _ [4, 5, 6] (by decide +kernel) (by decide +kernel)) (goodIn_sub (fun _ h => List.mem_cons_of_mem _ (List.mem_append_right _ h)) (by decide +kernel))
set_option maxRecDepth 20000 in
theorem gX7_needProject_X7_needRange : GoodIn wsX7_needProject (va_wsS RX7 54 yX7_needRange wsX7_needRange) := goodIn_app (goodIn_of _ (by decide +kernel)) ggX7_needProject_X7_needRange
theorem dX7_needProject_0 : decode cX7_needProject 0 = .ok (.iload_n 0, 1) := by decide +kernel
theorem dX7_needProject_1 : decode cX7_needProject 1 = .ok (.iconst 0, 1) := by decide +kernel
theorem dX7_needProject_2 : decode cX7_needProject 2 = .ok (.bipush 7, 2) := by decide +kernel
theorem dX7_needProject_4 : decode cX7_needProject 4 = .ok (.invokestatic 54, 3) := by decide +kernel
theorem dX7_needProject_7 : decode cX7_needProject 7 = .ok (.return_, 1) := by decide +kernel
set_option maxRecDepth 20000 in
theorem ggX7_needAccount_X7_needProject : GoodIn wsX7_needAccount wsX7_needProject := goodIn_ca (goodIn_r _ [4, 5, 6, 3, 7, 8, 9] (by decide +kernel) (by decide +kernel)) (goodIn_sub (fun _ h => List.mem_cons_of_mem _ (List.mem_append_right _ h)) (by decide +kernel))
set_option maxRecDepth 20000 in
theorem gX7_needAccount_X7_needProject : GoodIn wsX7_needAccount (va_wsS RX7 278 yX7_needProject wsX7_needProject) := goodIn_app (goodIn_of _ (by decide +kernel)) ggX7_needAccount_X7_needProject
set_option maxRecDepth 20000 in
theorem ggX7_needAccount_X7_needRange : GoodIn wsX7_needAccount wsX7_needRange := goodIn_ca (goodIn_r _ [7, 8, 9] (by decide +kernel) (by decide +kernel)) (goodIn_sub (fun _ h => List.mem_cons_of_mem _ (List.mem_append_right _ h)) (by decide +kernel))
set_option maxRecDepth 20000 in
theorem gX7_needAccount_X7_needRange : GoodIn wsX7_needAccount (va_wsS RX7 54 yX7_needRange wsX7_needRange) := goodIn_app (goodIn_of _ (by decide +kernel)) ggX7_needAccount_X7_needRange
theorem dX7_needAccount_0 : decode cX7_needAccount 0 = .ok (.iload_n 0, 1) := by decide +kernel
theorem dX7_needAccount_1 : decode cX7_needAccount 1 = .ok (.invokestatic 278, 3) := by decide +kernel
theorem dX7_needAccount_4 : decode cX7_needAccount 4 = .ok (.iload_n 1, 1) := by decide +kernel
theorem dX7_needAccount_5 : decode cX7_needAccount 5 = .ok (.iconst 0, 1) := by decide +kernel
theorem dX7_needAccount_6 : decode cX7_needAccount 6 = .ok (.iconst 1, 1) := by decide +kernel
theorem dX7_needAccount_7 : decode cX7_needAccount 7 = .ok (.invokestatic 54, 3) := by decide +kernel
theorem dX7_needAccount_10 : decode cX7_needAccount 10 = .ok (.return_, 1) := by decide +kernel
theorem dX7_accountOf_0 : decode cX7_accountOf 0 = .ok (.iload_n 0, 1) := by decide +kernel
theorem dX7_accountOf_1 : decode cX7_accountOf 1 = .ok (.iconst 2, 1) := by decide +kernel
theorem dX7_accountOf_2 : decode cX7_accountOf 2 = .ok (.imul, 1) := by decide +kernel
theorem dX7_accountOf_3 : decode cX7_accountOf 3 = .ok (.iload_n 1, 1) := by decide +kernel
theorem dX7_accountOf_4 : decode cX7_accountOf 4 = .ok (.iadd, 1) := by decide +kernel
theorem dX7_accountOf_5 : decode cX7_accountOf 5 = .ok (.ireturn, 1) := by decide +kernel
theorem dX7_isName_0 : decode cX7_isName 0 = .ok (.iconst 0, 1) := by decide +kernel
theorem dX7_isName_1 : decode cX7_isName 1 = .ok (.istore_n 2, 1) := by decide +kernel
theorem dX7_isName_2 : decode cX7_isName 2 = .ok (.lload_n 0, 1) := by decide +kernel
theorem dX7_isName_3 : decode cX7_isName 3 = .ok (.lstore_n 3, 1) := by decide +kernel
theorem dX7_isName_4 : decode cX7_isName 4 = .ok (.iload_n 2, 1) := by decide +kernel
theorem dX7_isName_5 : decode cX7_isName 5 = .ok (.bipush 8, 2) := by decide +kernel
theorem dX7_isName_7 : decode cX7_isName 7 = .ok (.if_icmp .ge 44, 3) := by decide +kernel
theorem dX7_isName_10 : decode cX7_isName 10 = .ok (.lload_n 3, 1) := by decide +kernel
theorem dX7_isName_11 : decode cX7_isName 11 = .ok (.lconst 0, 1) := by decide +kernel
theorem dX7_isName_12 : decode cX7_isName 12 = .ok (.lcmp, 1) := by decide +kernel
theorem dX7_isName_13 : decode cX7_isName 13 = .ok (.ifCond .le 38, 3) := by decide +kernel
theorem dX7_isName_16 : decode cX7_isName 16 = .ok (.lload_n 3, 1) := by decide +kernel
theorem dX7_isName_17 : decode cX7_isName 17 = .ok (.ldc2_w 430, 3) := by decide +kernel
theorem dX7_isName_20 : decode cX7_isName 20 = .ok (.land, 1) := by decide +kernel
theorem dX7_isName_21 : decode cX7_isName 21 = .ok (.lstore 5, 2) := by decide +kernel
theorem dX7_isName_23 : decode cX7_isName 23 = .ok (.lload 5, 2) := by decide +kernel
theorem dX7_isName_25 : decode cX7_isName 25 = .ok (.lconst 1, 1) := by decide +kernel
theorem dX7_isName_26 : decode cX7_isName 26 = .ok (.lcmp, 1) := by decide +kernel
theorem dX7_isName_27 : decode cX7_isName 27 = .ok (.ifCond .lt 12, 3) := by decide +kernel
theorem dX7_isName_30 : decode cX7_isName 30 = .ok (.lload 5, 2) := by decide +kernel
theorem dX7_isName_32 : decode cX7_isName 32 = .ok (.ldc2_w 432, 3) := by decide +kernel
theorem dX7_isName_35 : decode cX7_isName 35 = .ok (.lcmp, 1) := by decide +kernel
theorem dX7_isName_36 : decode cX7_isName 36 = .ok (.ifCond .le 5, 3) := by decide +kernel
theorem dX7_isName_39 : decode cX7_isName 39 = .ok (.iconst 0, 1) := by decide +kernel
theorem dX7_isName_40 : decode cX7_isName 40 = .ok (.ireturn, 1) := by decide +kernel
theorem dX7_isName_41 : decode cX7_isName 41 = .ok (.lload_n 3, 1) := by decide +kernel
theorem dX7_isName_42 : decode cX7_isName 42 = .ok (.iconst 5, 1) := by decide +kernel
theorem dX7_isName_43 : decode cX7_isName 43 = .ok (.lshr, 1) := by decide +kernel
theorem dX7_isName_44 : decode cX7_isName 44 = .ok (.lstore_n 3, 1) := by decide +kernel
theorem dX7_isName_45 : decode cX7_isName 45 = .ok (.iinc 2 1, 3) := by decide +kernel
theorem dX7_isName_48 : decode cX7_isName 48 = .ok (.goto (-44), 3) := by decide +kernel
theorem dX7_isName_51 : decode cX7_isName 51 = .ok (.iload_n 2, 1) := by decide +kernel
theorem dX7_isName_52 : decode cX7_isName 52 = .ok (.ifCond .le 13, 3) := by decide +kernel
theorem dX7_isName_55 : decode cX7_isName 55 = .ok (.lload_n 3, 1) := by decide +kernel
theorem dX7_isName_56 : decode cX7_isName 56 = .ok (.lconst 0, 1) := by decide +kernel
theorem dX7_isName_57 : decode cX7_isName 57 = .ok (.lcmp, 1) := by decide +kernel
theorem dX7_isName_58 : decode cX7_isName 58 = .ok (.ifCond .ne 7, 3) := by decide +kernel
theorem dX7_isName_61 : decode cX7_isName 61 = .ok (.iconst 1, 1) := by decide +kernel
theorem dX7_isName_62 : decode cX7_isName 62 = .ok (.goto 4, 3) := by decide +kernel
theorem dX7_isName_65 : decode cX7_isName 65 = .ok (.iconst 0, 1) := by decide +kernel
theorem dX7_isName_66 : decode cX7_isName 66 = .ok (.ireturn, 1) := by decide +kernel
