theorem dX0_setAmount_0 : decode cX0_setAmount 0 = .ok (.iload_n 1, 1) := by decide +kernel
theorem dX0_setAmount_1 : decode cX0_setAmount 1 = .ok (.ifCond .lt 16, 3) := by decide +kernel
theorem dX0_setAmount_4 : decode cX0_setAmount 4 = .ok (.iload_n 1, 1) := by decide +kernel
theorem dX0_setAmount_5 : decode cX0_setAmount 5 = .ok (.bipush 16, 2) := by decide +kernel
theorem dX0_setAmount_7 : decode cX0_setAmount 7 = .ok (.if_icmp .ge 10, 3) := by decide +kernel
theorem dX0_setAmount_10 : decode cX0_setAmount 10 = .ok (.aload_n 0, 1) := by decide +kernel
theorem dX0_setAmount_11 : decode cX0_setAmount 11 = .ok (.getfield 9, 3) := by decide +kernel
theorem dX0_setAmount_14 : decode cX0_setAmount 14 = .ok (.iload_n 1, 1) := by decide +kernel
theorem dX0_setAmount_15 : decode cX0_setAmount 15 = .ok (.iload_n 2, 1) := by decide +kernel
theorem dX0_setAmount_16 : decode cX0_setAmount 16 = .ok (.iastore, 1) := by decide +kernel
theorem dX0_setAmount_17 : decode cX0_setAmount 17 = .ok (.return_, 1) := by decide +kernel
theorem dX0_setLimits_0 : decode cX0_setLimits 0 = .ok (.iload_n 1, 1) := by decide +kernel
theorem dX0_setLimits_1 : decode cX0_setLimits 1 = .ok (.ifCond .lt 23, 3) := by decide +kernel
theorem dX0_setLimits_4 : decode cX0_setLimits 4 = .ok (.iload_n 1, 1) := by decide +kernel
theorem dX0_setLimits_5 : decode cX0_setLimits 5 = .ok (.bipush 16, 2) := by decide +kernel
theorem dX0_setLimits_7 : decode cX0_setLimits 7 = .ok (.if_icmp .ge 17, 3) := by decide +kernel
theorem dX0_setLimits_10 : decode cX0_setLimits 10 = .ok (.aload_n 0, 1) := by decide +kernel
theorem dX0_setLimits_11 : decode cX0_setLimits 11 = .ok (.getfield 15, 3) := by decide +kernel
theorem dX0_setLimits_14 : decode cX0_setLimits 14 = .ok (.iload_n 1, 1) := by decide +kernel
theorem dX0_setLimits_15 : decode cX0_setLimits 15 = .ok (.iload_n 2, 1) := by decide +kernel
theorem dX0_setLimits_16 : decode cX0_setLimits 16 = .ok (.iastore, 1) := by decide +kernel
theorem dX0_setLimits_17 : decode cX0_setLimits 17 = .ok (.aload_n 0, 1) := by decide +kernel
theorem dX0_setLimits_18 : decode cX0_setLimits 18 = .ok (.getfield 18, 3) := by decide +kernel
theorem dX0_setLimits_21 : decode cX0_setLimits 21 = .ok (.iload_n 1, 1) := by decide +kernel
theorem dX0_setLimits_22 : decode cX0_setLimits 22 = .ok (.iload_n 3, 1) := by decide +kernel
theorem dX0_setLimits_23 : decode cX0_setLimits 23 = .ok (.iastore, 1) := by decide +kernel
theorem dX0_setLimits_24 : decode cX0_setLimits 24 = .ok (.return_, 1) := by decide +kernel
theorem dX0_setClock_0 : decode cX0_setClock 0 = .ok (.iload_n 1, 1) := by decide +kernel
theorem dX0_setClock_1 : decode cX0_setClock 1 = .ok (.ifCond .lt 16, 3) := by decide +kernel
theorem dX0_setClock_4 : decode cX0_setClock 4 = .ok (.iload_n 1, 1) := by decide +kernel
theorem dX0_setClock_5 : decode cX0_setClock 5 = .ok (.bipush 16, 2) := by decide +kernel
theorem dX0_setClock_7 : decode cX0_setClock 7 = .ok (.if_icmp .ge 10, 3) := by decide +kernel
theorem dX0_setClock_10 : decode cX0_setClock 10 = .ok (.aload_n 0, 1) := by decide +kernel
theorem dX0_setClock_11 : decode cX0_setClock 11 = .ok (.getfield 21, 3) := by decide +kernel
theorem dX0_setClock_14 : decode cX0_setClock 14 = .ok (.iload_n 1, 1) := by decide +kernel
theorem dX0_setClock_15 : decode cX0_setClock 15 = .ok (.iload_n 2, 1) := by decide +kernel
theorem dX0_setClock_16 : decode cX0_setClock 16 = .ok (.iastore, 1) := by decide +kernel
theorem dX0_setClock_17 : decode cX0_setClock 17 = .ok (.return_, 1) := by decide +kernel
set_option maxRecDepth 20000 in
theorem ggX0_add_X0_amountOf : GoodIn wsX0_add wsX0_amountOf := goodIn_r _ [9, 10, 15, 16, 17, 18] (by decide +kernel) (by decide +kernel)
set_option maxRecDepth 20000 in
theorem gX0_add_X0_amountOf : GoodIn wsX0_add (wsV RX0 37 RX0 yX0_amountOf wsX0_amountOf) := goodIn_app (goodIn_of _ (by decide +kernel)) ggX0_add_X0_amountOf
set_option maxRecDepth 20000 in
theorem ggX0_add_X0_setAmount : GoodIn wsX0_add wsX0_setAmount := goodIn_r _ [14, 10, 15, 16, 17, 18] (by decide +kernel) (by decide +kernel)
set_option maxRecDepth 20000 in
theorem gX0_add_X0_setAmount : GoodIn wsX0_add (wsV RX0 47 RX0 yX0_setAmount wsX0_setAmount) := goodIn_app (goodIn_of _ (by decide +kernel)) ggX0_add_X0_setAmount
theorem dX0_add_0 : decode cX0_add 0 = .ok (.aload_n 0, 1) := by decide +kernel
theorem dX0_add_1 : decode cX0_add 1 = .ok (.iload_n 1, 1) := by decide +kernel
theorem dX0_add_2 : decode cX0_add 2 = .ok (.aload_n 0, 1) := by decide +kernel
theorem dX0_add_3 : decode cX0_add 3 = .ok (.iload_n 1, 1) := by decide +kernel
theorem dX0_add_4 : decode cX0_add 4 = .ok (.invokevirtual 37, 3) := by decide +kernel
theorem dX0_add_7 : decode cX0_add 7 = .ok (.iload_n 2, 1) := by decide +kernel
theorem dX0_add_8 : decode cX0_add 8 = .ok (.iadd, 1) := by decide +kernel
theorem dX0_add_9 : decode cX0_add 9 = .ok (.iconst 0, 1) := by decide +kernel
theorem dX0_add_10 : decode cX0_add 10 = .ok (.invokestatic 41, 3) := by decide +kernel
theorem dX0_add_13 : decode cX0_add 13 = .ok (.invokevirtual 47, 3) := by decide +kernel
theorem dX0_add_16 : decode cX0_add 16 = .ok (.return_, 1) := by decide +kernel
set_option maxRecDepth 20000 in
theorem ggX0_change_X7_accountOf : GoodIn wsX0_change wsX7_accountOf := goodIn_r _ [3] (by decide +kernel) (by decide +kernel)
set_option maxRecDepth 20000 in
theorem gX0_change_X7_accountOf_n51 : GoodIn wsX0_change (wsX7_accountOf) := ggX0_change_X7_accountOf
set_option maxRecDepth 20000 in
theorem ggX0_change_X0_add : GoodIn wsX0_change wsX0_add := goodIn_r _ [8, 9, 10, 11, 12, 13, 14, 15, 7, 16, 17, 18, 19, 20, 21, 22, 23, 24, 25] (by decide +kernel) (by decide +kernel)
set_option maxRecDepth 20000 in
theorem gX0_change_X0_add : GoodIn wsX0_change (wsV RX0 54 RX0 yX0_add wsX0_add) := goodIn_app (goodIn_of _ (by decide +kernel)) ggX0_change_X0_add
theorem dX0_change_0 : decode cX0_change 0 = .ok (.iload_n 1, 1) := by decide +kernel
theorem dX0_change_1 : decode cX0_change 1 = .ok (.iconst (-1), 1) := by decide +kernel
theorem dX0_change_2 : decode cX0_change 2 = .ok (.if_icmp .eq 23, 3) := by decide +kernel
theorem dX0_change_5 : decode cX0_change 5 = .ok (.aload_n 0, 1) := by decide +kernel
theorem dX0_change_6 : decode cX0_change 6 = .ok (.iload_n 1, 1) := by decide +kernel
theorem dX0_change_7 : decode cX0_change 7 = .ok (.iconst 0, 1) := by decide +kernel
theorem dX0_change_8 : decode cX0_change 8 = .ok (.invokestatic 51, 3) := by decide +kernel
theorem dX0_change_11 : decode cX0_change 11 = .ok (.iload_n 2, 1) := by decide +kernel
theorem dX0_change_12 : decode cX0_change 12 = .ok (.invokevirtual 54, 3) := by decide +kernel
theorem dX0_change_15 : decode cX0_change 15 = .ok (.aload_n 0, 1) := by decide +kernel
theorem dX0_change_16 : decode cX0_change 16 = .ok (.iload_n 1, 1) := by decide +kernel
theorem dX0_change_17 : decode cX0_change 17 = .ok (.iconst 1, 1) := by decide +kernel
theorem dX0_change_18 : decode cX0_change 18 = .ok (.invokestatic 51, 3) := by decide +kernel
theorem dX0_change_21 : decode cX0_change 21 = .ok (.iload_n 3, 1) := by decide +kernel
theorem dX0_change_22 : decode cX0_change 22 = .ok (.invokevirtual 54, 3) := by decide +kernel
theorem dX0_change_25 : decode cX0_change 25 = .ok (.return_, 1) := by decide +kernel
set_option maxRecDepth 20000 in
theorem ggX0_transfer_X0_change : GoodIn wsX0_transfer wsX0_change := goodIn_r _ [5, 6, 7, 8, 9, 10, 11, 4, 12, 13, 14, 15, 16, 17, 18, 19, 20, 21, 22, 23, 24, 25, 26, 27, 28, 29] (by decide +kernel) (by decide +kernel)
set_option maxRecDepth 20000 in
theorem gX0_transfer_X0_change : GoodIn wsX0_transfer (wsV RX0 57 RX0 yX0_change wsX0_change) := goodIn_app (goodIn_of _ (by decide +kernel)) ggX0_transfer_X0_change
theorem dX0_transfer_0 : decode cX0_transfer 0 = .ok (.iload_n 1, 1) := by decide +kernel
theorem dX0_transfer_1 : decode cX0_transfer 1 = .ok (.iload_n 2, 1) := by decide +kernel
theorem dX0_transfer_2 : decode cX0_transfer 2 = .ok (.if_icmp .eq 21, 3) := by decide +kernel
theorem dX0_transfer_5 : decode cX0_transfer 5 = .ok (.aload_n 0, 1) := by decide +kernel
theorem dX0_transfer_6 : decode cX0_transfer 6 = .ok (.iload_n 2, 1) := by decide +kernel
theorem dX0_transfer_7 : decode cX0_transfer 7 = .ok (.iload_n 3, 1) := by decide +kernel
theorem dX0_transfer_8 : decode cX0_transfer 8 = .ok (.iload 4, 2) := by decide +kernel
theorem dX0_transfer_10 : decode cX0_transfer 10 = .ok (.invokevirtual 57, 3) := by decide +kernel
theorem dX0_transfer_13 : decode cX0_transfer 13 = .ok (.aload_n 0, 1) := by decide +kernel
theorem dX0_transfer_14 : decode cX0_transfer 14 = .ok (.iload_n 1, 1) := by decide +kernel
theorem dX0_transfer_15 : decode cX0_transfer 15 = .ok (.iload_n 3, 1) := by decide +kernel
theorem dX0_transfer_16 : decode cX0_transfer 16 = .ok (.ineg, 1) := by decide +kernel
theorem dX0_transfer_17 : decode cX0_transfer 17 = .ok (.iload 4, 2) := by decide +kernel
theorem dX0_transfer_19 : decode cX0_transfer 19 = .ok (.ineg, 1) := by decide +kernel
theorem dX0_transfer_20 : decode cX0_transfer 20 = .ok (.invokevirtual 57, 3) := by decide +kernel
theorem dX0_transfer_23 : decode cX0_transfer 23 = .ok (.return_, 1) := by decide +kernel
set_option maxRecDepth 20000 in
theorem ggX2_setPlace_X2_has : GoodIn wsX2_setPlace wsX2_has := goodIn_r _ [6, 7, 8, 9, 10] (by decide +kernel) (by decide +kernel)
set_option maxRecDepth 20000 in
theorem gX2_setPlace_X2_has : GoodIn wsX2_setPlace (wsV RX2 28 RX2 yX2_has wsX2_has) := goodIn_app (goodIn_of _ (by decide +kernel)) ggX2_setPlace_X2_has
theorem dX2_setPlace_0 : decode cX2_setPlace 0 = .ok (.aload_n 0, 1) := by decide +kernel
theorem dX2_setPlace_1 : decode cX2_setPlace 1 = .ok (.iload_n 1, 1) := by decide +kernel
theorem dX2_setPlace_2 : decode cX2_setPlace 2 = .ok (.invokevirtual 28, 3) := by decide +kernel
theorem dX2_setPlace_5 : decode cX2_setPlace 5 = .ok (.ifCond .eq 10, 3) := by decide +kernel
theorem dX2_setPlace_8 : decode cX2_setPlace 8 = .ok (.aload_n 0, 1) := by decide +kernel
theorem dX2_setPlace_9 : decode cX2_setPlace 9 = .ok (.getfield 9, 3) := by decide +kernel
theorem dX2_setPlace_12 : decode cX2_setPlace 12 = .ok (.iload_n 1, 1) := by decide +kernel
theorem dX2_setPlace_13 : decode cX2_setPlace 13 = .ok (.iload_n 2, 1) := by decide +kernel
theorem dX2_setPlace_14 : decode cX2_setPlace 14 = .ok (.iastore, 1) := by decide +kernel
theorem dX2_setPlace_15 : decode cX2_setPlace 15 = .ok (.return_, 1) := by decide +kernel
set_option maxRecDepth 20000 in
theorem ggX2_setSize_X2_has : GoodIn wsX2_setSize wsX2_has := goodIn_r _ [6, 7, 8, 9, 10] (by decide +kernel) (by decide +kernel)
set_option maxRecDepth 20000 in
theorem gX2_setSize_X2_has : GoodIn wsX2_setSize (wsV RX2 28 RX2 yX2_has wsX2_has) := goodIn_app (goodIn_of _ (by decide +kernel)) ggX2_setSize_X2_has
theorem dX2_setSize_0 : decode cX2_setSize 0 = .ok (.aload_n 0, 1) := by decide +kernel
theorem dX2_setSize_1 : decode cX2_setSize 1 = .ok (.iload_n 1, 1) := by decide +kernel
theorem dX2_setSize_2 : decode cX2_setSize 2 = .ok (.invokevirtual 28, 3) := by decide +kernel
theorem dX2_setSize_5 : decode cX2_setSize 5 = .ok (.ifCond .eq 10, 3) := by decide +kernel
theorem dX2_setSize_8 : decode cX2_setSize 8 = .ok (.aload_n 0, 1) := by decide +kernel
theorem dX2_setSize_9 : decode cX2_setSize 9 = .ok (.getfield 15, 3) := by decide +kernel
theorem dX2_setSize_12 : decode cX2_setSize 12 = .ok (.iload_n 1, 1) := by decide +kernel
theorem dX2_setSize_13 : decode cX2_setSize 13 = .ok (.iload_n 2, 1) := by decide +kernel
theorem dX2_setSize_14 : decode cX2_setSize 14 = .ok (.iastore, 1) := by decide +kernel
theorem dX2_setSize_15 : decode cX2_setSize 15 = .ok (.return_, 1) := by decide +kernel
set_option maxRecDepth 20000 in
theorem ggX2_add_X2_isFull : GoodIn wsX2_add wsX2_isFull := goodIn_r _ [8, 2, 9, 10, 11] (by decide +kernel) (by decide +kernel)
set_option maxRecDepth 20000 in
theorem gX2_add_X2_isFull : GoodIn wsX2_add (wsV RX2 36 RX2 yX2_isFull wsX2_isFull) := goodIn_app (goodIn_of _ (by decide +kernel)) ggX2_add_X2_isFull
theorem dX2_add_0 : decode cX2_add 0 = .ok (.aload_n 0, 1) := by decide +kernel
theorem dX2_add_1 : decode cX2_add 1 = .ok (.invokevirtual 36, 3) := by decide +kernel
theorem dX2_add_4 : decode cX2_add 4 = .ok (.ifCond .ne 33, 3) := by decide +kernel
theorem dX2_add_7 : decode cX2_add 7 = .ok (.aload_n 0, 1) := by decide +kernel
theorem dX2_add_8 : decode cX2_add 8 = .ok (.getfield 9, 3) := by decide +kernel
theorem dX2_add_11 : decode cX2_add 11 = .ok (.aload_n 0, 1) := by decide +kernel
theorem dX2_add_12 : decode cX2_add 12 = .ok (.getfield 24, 3) := by decide +kernel
theorem dX2_add_15 : decode cX2_add 15 = .ok (.iload_n 1, 1) := by decide +kernel
theorem dX2_add_16 : decode cX2_add 16 = .ok (.iastore, 1) := by decide +kernel
theorem dX2_add_17 : decode cX2_add 17 = .ok (.aload_n 0, 1) := by decide +kernel
theorem dX2_add_18 : decode cX2_add 18 = .ok (.getfield 15, 3) := by decide +kernel
theorem dX2_add_21 : decode cX2_add 21 = .ok (.aload_n 0, 1) := by decide +kernel
theorem dX2_add_22 : decode cX2_add 22 = .ok (.getfield 24, 3) := by decide +kernel
theorem dX2_add_25 : decode cX2_add 25 = .ok (.iload_n 2, 1) := by decide +kernel
theorem dX2_add_26 : decode cX2_add 26 = .ok (.iastore, 1) := by decide +kernel
theorem dX2_add_27 : decode cX2_add 27 = .ok (.aload_n 0, 1) := by decide +kernel
theorem dX2_add_28 : decode cX2_add 28 = .ok (.dup, 1) := by decide +kernel
theorem dX2_add_29 : decode cX2_add 29 = .ok (.getfield 24, 3) := by decide +kernel
theorem dX2_add_32 : decode cX2_add 32 = .ok (.iconst 1, 1) := by decide +kernel
theorem dX2_add_33 : decode cX2_add 33 = .ok (.iadd, 1) := by decide +kernel
theorem dX2_add_34 : decode cX2_add 34 = .ok (.putfield 24, 3) := by decide +kernel
theorem dX2_add_37 : decode cX2_add 37 = .ok (.return_, 1) := by decide +kernel
set_option maxRecDepth 20000 in
theorem ggX2_removeAt_X2_has : GoodIn wsX2_removeAt wsX2_has := goodIn_r _ [8, 1, 9, 10, 11] (by decide +kernel) (by decide +kernel)
set_option maxRecDepth 20000 in
theorem gX2_removeAt_X2_has : GoodIn wsX2_removeAt (wsV RX2 28 RX2 yX2_has wsX2_has) := goodIn_app (goodIn_of _ (by decide +kernel)) ggX2_removeAt_X2_has
theorem dX2_removeAt_0 : decode cX2_removeAt 0 = .ok (.aload_n 0, 1) := by decide +kernel
theorem dX2_removeAt_1 : decode cX2_removeAt 1 = .ok (.iload_n 1, 1) := by decide +kernel
theorem dX2_removeAt_2 : decode cX2_removeAt 2 = .ok (.invokevirtual 28, 3) := by decide +kernel
theorem dX2_removeAt_5 : decode cX2_removeAt 5 = .ok (.ifCond .ne 4, 3) := by decide +kernel
theorem dX2_removeAt_8 : decode cX2_removeAt 8 = .ok (.return_, 1) := by decide +kernel
theorem dX2_removeAt_9 : decode cX2_removeAt 9 = .ok (.aload_n 0, 1) := by decide +kernel
theorem dX2_removeAt_10 : decode cX2_removeAt 10 = .ok (.dup, 1) := by decide +kernel
theorem dX2_removeAt_11 : decode cX2_removeAt 11 = .ok (.getfield 24, 3) := by decide +kernel
theorem dX2_removeAt_14 : decode cX2_removeAt 14 = .ok (.iconst 1, 1) := by decide +kernel
theorem dX2_removeAt_15 : decode cX2_removeAt 15 = .ok (.isub, 1) := by decide +kernel
theorem dX2_removeAt_16 : decode cX2_removeAt 16 = .ok (.putfield 24, 3) := by decide +kernel
theorem dX2_removeAt_19 : decode cX2_removeAt 19 = .ok (.iload_n 1, 1) := by decide +kernel
theorem dX2_removeAt_20 : decode cX2_removeAt 20 = .ok (.istore_n 2, 1) := by decide +kernel
theorem dX2_removeAt_21 : decode cX2_removeAt 21 = .ok (.iload_n 2, 1) := by decide +kernel
theorem dX2_removeAt_22 : decode cX2_removeAt 22 = .ok (.aload_n 0, 1) := by decide +kernel
theorem dX2_removeAt_23 : decode cX2_removeAt 23 = .ok (.getfield 24, 3) := by decide +kernel
theorem dX2_removeAt_26 : decode cX2_removeAt 26 = .ok (.if_icmp .ge 37, 3) := by decide +kernel
theorem dX2_removeAt_29 : decode cX2_removeAt 29 = .ok (.aload_n 0, 1) := by decide +kernel
theorem dX2_removeAt_30 : decode cX2_removeAt 30 = .ok (.getfield 9, 3) := by decide +kernel
theorem dX2_removeAt_33 : decode cX2_removeAt 33 = .ok (.iload_n 2, 1) := by decide +kernel
theorem dX2_removeAt_34 : decode cX2_removeAt 34 = .ok (.aload_n 0, 1) := by decide +kernel
theorem dX2_removeAt_35 : decode cX2_removeAt 35 = .ok (.getfield 9, 3) := by decide +kernel
theorem dX2_removeAt_38 : decode cX2_removeAt 38 = .ok (.iload_n 2, 1) := by decide +kernel
theorem dX2_removeAt_39 : decode cX2_removeAt 39 = .ok (.iconst 1, 1) := by decide +kernel
theorem dX2_removeAt_40 : decode cX2_removeAt 40 = .ok (.iadd, 1) := by decide +kernel
theorem dX2_removeAt_41 : decode cX2_removeAt 41 = .ok (.iaload, 1) := by decide +kernel
theorem dX2_removeAt_42 : decode cX2_removeAt 42 = .ok (.iastore, 1) := by decide +kernel
theorem dX2_removeAt_43 : decode cX2_removeAt 43 = .ok (.aload_n 0, 1) := by decide +kernel
theorem dX2_removeAt_44 : decode cX2_removeAt 44 = .ok (.getfield 15, 3) := by decide +kernel
theorem dX2_removeAt_47 : decode cX2_removeAt 47 = .ok (.iload_n 2, 1) := by decide +kernel
theorem dX2_removeAt_48 : decode cX2_removeAt 48 = .ok (.aload_n 0, 1) := by decide +kernel
theorem dX2_removeAt_49 : decode cX2_removeAt 49 = .ok (.getfield 15, 3) := by decide +kernel
theorem dX2_removeAt_52 : decode cX2_removeAt 52 = .ok (.iload_n 2, 1) := by decide +kernel
theorem dX2_removeAt_53 : decode cX2_removeAt 53 = .ok (.iconst 1, 1) := by decide +kernel
theorem dX2_removeAt_54 : decode cX2_removeAt 54 = .ok (.iadd, 1) := by decide +kernel
theorem dX2_removeAt_55 : decode cX2_removeAt 55 = .ok (.iaload, 1) := by decide +kernel
theorem dX2_removeAt_56 : decode cX2_removeAt 56 = .ok (.iastore, 1) := by decide +kernel
theorem dX2_removeAt_57 : decode cX2_removeAt 57 = .ok (.iinc 2 1, 3) := by decide +kernel
theorem dX2_removeAt_60 : decode cX2_removeAt 60 = .ok (.goto (-39), 3) := by decide +kernel
theorem dX2_removeAt_63 : decode cX2_removeAt 63 = .ok (.return_, 1) := by decide +kernel
theorem dX2_closeGap_0 : decode cX2_closeGap 0 = .ok (.iconst 0, 1) := by decide +kernel
theorem dX2_closeGap_1 : decode cX2_closeGap 1 = .ok (.istore_n 2, 1) := by decide +kernel
theorem dX2_closeGap_2 : decode cX2_closeGap 2 = .ok (.iload_n 2, 1) := by decide +kernel
theorem dX2_closeGap_3 : decode cX2_closeGap 3 = .ok (.aload_n 0, 1) := by decide +kernel
theorem dX2_closeGap_4 : decode cX2_closeGap 4 = .ok (.getfield 24, 3) := by decide +kernel
theorem dX2_closeGap_7 : decode cX2_closeGap 7 = .ok (.if_icmp .ge 29, 3) := by decide +kernel
theorem dX2_closeGap_10 : decode cX2_closeGap 10 = .ok (.aload_n 0, 1) := by decide +kernel
theorem dX2_closeGap_11 : decode cX2_closeGap 11 = .ok (.getfield 9, 3) := by decide +kernel
theorem dX2_closeGap_14 : decode cX2_closeGap 14 = .ok (.iload_n 2, 1) := by decide +kernel
theorem dX2_closeGap_15 : decode cX2_closeGap 15 = .ok (.iaload, 1) := by decide +kernel
theorem dX2_closeGap_16 : decode cX2_closeGap 16 = .ok (.iload_n 1, 1) := by decide +kernel
theorem dX2_closeGap_17 : decode cX2_closeGap 17 = .ok (.if_icmp .le 13, 3) := by decide +kernel
theorem dX2_closeGap_20 : decode cX2_closeGap 20 = .ok (.aload_n 0, 1) := by decide +kernel
theorem dX2_closeGap_21 : decode cX2_closeGap 21 = .ok (.getfield 9, 3) := by decide +kernel
theorem dX2_closeGap_24 : decode cX2_closeGap 24 = .ok (.iload_n 2, 1) := by decide +kernel
theorem dX2_closeGap_25 : decode cX2_closeGap 25 = .ok (.dup2, 1) := by decide +kernel
theorem dX2_closeGap_26 : decode cX2_closeGap 26 = .ok (.iaload, 1) := by decide +kernel
theorem dX2_closeGap_27 : decode cX2_closeGap 27 = .ok (.iconst 1, 1) := by decide +kernel
theorem dX2_closeGap_28 : decode cX2_closeGap 28 = .ok (.isub, 1) := by decide +kernel
theorem dX2_closeGap_29 : decode cX2_closeGap 29 = .ok (.iastore, 1) := by decide +kernel
theorem dX2_closeGap_30 : decode cX2_closeGap 30 = .ok (.iinc 2 1, 3) := by decide +kernel
theorem dX2_closeGap_33 : decode cX2_closeGap 33 = .ok (.goto (-31), 3) := by decide +kernel
theorem dX2_closeGap_36 : decode cX2_closeGap 36 = .ok (.return_, 1) := by decide +kernel
set_option maxRecDepth 20000 in
theorem ggX3_setParent_X3_has : GoodIn wsX3_setParent wsX3_has := goodIn_r _ [6, 7, 8, 9, 10, 11] (by decide +kernel) (by decide +kernel)
set_option maxRecDepth 20000 in
theorem gX3_setParent_X3_has : GoodIn wsX3_setParent (wsV RX3 37 RX3 yX3_has wsX3_has) := goodIn_app (goodIn_of _ (by decide +kernel)) ggX3_setParent_X3_has
theorem dX3_setParent_0 : decode cX3_setParent 0 = .ok (.aload_n 0, 1) := by decide +kernel
theorem dX3_setParent_1 : decode cX3_setParent 1 = .ok (.iload_n 1, 1) := by decide +kernel
theorem dX3_setParent_2 : decode cX3_setParent 2 = .ok (.invokevirtual 37, 3) := by decide +kernel
theorem dX3_setParent_5 : decode cX3_setParent 5 = .ok (.ifCond .eq 10, 3) := by decide +kernel
theorem dX3_setParent_8 : decode cX3_setParent 8 = .ok (.aload_n 0, 1) := by decide +kernel
theorem dX3_setParent_9 : decode cX3_setParent 9 = .ok (.getfield 9, 3) := by decide +kernel
theorem dX3_setParent_12 : decode cX3_setParent 12 = .ok (.iload_n 1, 1) := by decide +kernel
theorem dX3_setParent_13 : decode cX3_setParent 13 = .ok (.iload_n 2, 1) := by decide +kernel
theorem dX3_setParent_14 : decode cX3_setParent 14 = .ok (.iastore, 1) := by decide +kernel
theorem dX3_setParent_15 : decode cX3_setParent 15 = .ok (.return_, 1) := by decide +kernel
set_option maxRecDepth 20000 in
theorem ggX3_setTag_X3_has : GoodIn wsX3_setTag wsX3_has := goodIn_r _ [6, 7, 8, 9, 10, 11] (by decide +kernel) (by decide +kernel)
set_option maxRecDepth 20000 in
theorem gX3_setTag_X3_has : GoodIn wsX3_setTag (wsV RX3 37 RX3 yX3_has wsX3_has) := goodIn_app (goodIn_of _ (by decide +kernel)) ggX3_setTag_X3_has
theorem dX3_setTag_0 : decode cX3_setTag 0 = .ok (.aload_n 0, 1) := by decide +kernel
theorem dX3_setTag_1 : decode cX3_setTag 1 = .ok (.iload_n 1, 1) := by decide +kernel
theorem dX3_setTag_2 : decode cX3_setTag 2 = .ok (.invokevirtual 37, 3) := by decide +kernel
theorem dX3_setTag_5 : decode cX3_setTag 5 = .ok (.ifCond .eq 10, 3) := by decide +kernel
theorem dX3_setTag_8 : decode cX3_setTag 8 = .ok (.aload_n 0, 1) := by decide +kernel
theorem dX3_setTag_9 : decode cX3_setTag 9 = .ok (.getfield 19, 3) := by decide +kernel
theorem dX3_setTag_12 : decode cX3_setTag 12 = .ok (.iload_n 1, 1) := by decide +kernel
theorem dX3_setTag_13 : decode cX3_setTag 13 = .ok (.iload_n 2, 1) := by decide +kernel
theorem dX3_setTag_14 : decode cX3_setTag 14 = .ok (.iastore, 1) := by decide +kernel
theorem dX3_setTag_15 : decode cX3_setTag 15 = .ok (.return_, 1) := by decide +kernel
set_option maxRecDepth 20000 in
theorem ggX3_add_X3_isFull : GoodIn wsX3_add wsX3_isFull := goodIn_r _ [9, 2, 10, 11, 12, 13] (by decide +kernel) (by decide +kernel)
set_option maxRecDepth 20000 in
theorem gX3_add_X3_isFull : GoodIn wsX3_add (wsV RX3 41 RX3 yX3_isFull wsX3_isFull) := goodIn_app (goodIn_of _ (by decide +kernel)) ggX3_add_X3_isFull
theorem dX3_add_0 : decode cX3_add 0 = .ok (.aload_n 0, 1) := by decide +kernel
theorem dX3_add_1 : decode cX3_add 1 = .ok (.invokevirtual 41, 3) := by decide +kernel
theorem dX3_add_4 : decode cX3_add 4 = .ok (.ifCond .ne 43, 3) := by decide +kernel
theorem dX3_add_7 : decode cX3_add 7 = .ok (.aload_n 0, 1) := by decide +kernel
theorem dX3_add_8 : decode cX3_add 8 = .ok (.getfield 9, 3) := by decide +kernel
theorem dX3_add_11 : decode cX3_add 11 = .ok (.aload_n 0, 1) := by decide +kernel
theorem dX3_add_12 : decode cX3_add 12 = .ok (.getfield 27, 3) := by decide +kernel
theorem dX3_add_15 : decode cX3_add 15 = .ok (.iload_n 1, 1) := by decide +kernel
theorem dX3_add_16 : decode cX3_add 16 = .ok (.iastore, 1) := by decide +kernel
theorem dX3_add_17 : decode cX3_add 17 = .ok (.aload_n 0, 1) := by decide +kernel
theorem dX3_add_18 : decode cX3_add 18 = .ok (.getfield 15, 3) := by decide +kernel
theorem dX3_add_21 : decode cX3_add 21 = .ok (.aload_n 0, 1) := by decide +kernel
theorem dX3_add_22 : decode cX3_add 22 = .ok (.getfield 27, 3) := by decide +kernel
theorem dX3_add_25 : decode cX3_add 25 = .ok (.lload_n 2, 1) := by decide +kernel
theorem dX3_add_26 : decode cX3_add 26 = .ok (.lastore, 1) := by decide +kernel
theorem dX3_add_27 : decode cX3_add 27 = .ok (.aload_n 0, 1) := by decide +kernel
theorem dX3_add_28 : decode cX3_add 28 = .ok (.getfield 19, 3) := by decide +kernel
theorem dX3_add_31 : decode cX3_add 31 = .ok (.aload_n 0, 1) := by decide +kernel
theorem dX3_add_32 : decode cX3_add 32 = .ok (.getfield 27, 3) := by decide +kernel
theorem dX3_add_35 : decode cX3_add 35 = .ok (.iconst (-1), 1) := by decide +kernel
theorem dX3_add_36 : decode cX3_add 36 = .ok (.iastore, 1) := by decide +kernel
theorem dX3_add_37 : decode cX3_add 37 = .ok (.aload_n 0, 1) := by decide +kernel
theorem dX3_add_38 : decode cX3_add 38 = .ok (.dup, 1) := by decide +kernel
theorem dX3_add_39 : decode cX3_add 39 = .ok (.getfield 27, 3) := by decide +kernel
theorem dX3_add_42 : decode cX3_add 42 = .ok (.iconst 1, 1) := by decide +kernel
theorem dX3_add_43 : decode cX3_add 43 = .ok (.iadd, 1) := by decide +kernel
theorem dX3_add_44 : decode cX3_add 44 = .ok (.putfield 27, 3) := by decide +kernel
theorem dX3_add_47 : decode cX3_add 47 = .ok (.return_, 1) := by decide +kernel
set_option maxRecDepth 20000 in
theorem ggX3_removeAt_X3_has : GoodIn wsX3_removeAt wsX3_has := goodIn_r _ [9, 1, 10, 11, 12, 13] (by decide +kernel) (by decide +kernel)
set_option maxRecDepth 20000 in
theorem gX3_removeAt_X3_has : GoodIn wsX3_removeAt (wsV RX3 37 RX3 yX3_has wsX3_has) := goodIn_app (goodIn_of _ (by decide +kernel)) ggX3_removeAt_X3_has
theorem dX3_removeAt_0 : decode cX3_removeAt 0 = .ok (.aload_n 0, 1) := by decide +kernel
theorem dX3_removeAt_1 : decode cX3_removeAt 1 = .ok (.iload_n 1, 1) := by decide +kernel
theorem dX3_removeAt_2 : decode cX3_removeAt 2 = .ok (.invokevirtual 37, 3) := by decide +kernel
theorem dX3_removeAt_5 : decode cX3_removeAt 5 = .ok (.ifCond .ne 4, 3) := by decide +kernel
theorem dX3_removeAt_8 : decode cX3_removeAt 8 = .ok (.return_, 1) := by decide +kernel
theorem dX3_removeAt_9 : decode cX3_removeAt 9 = .ok (.aload_n 0, 1) := by decide +kernel
theorem dX3_removeAt_10 : decode cX3_removeAt 10 = .ok (.dup, 1) := by decide +kernel
theorem dX3_removeAt_11 : decode cX3_removeAt 11 = .ok (.getfield 27, 3) := by decide +kernel
theorem dX3_removeAt_14 : decode cX3_removeAt 14 = .ok (.iconst 1, 1) := by decide +kernel
theorem dX3_removeAt_15 : decode cX3_removeAt 15 = .ok (.isub, 1) := by decide +kernel
theorem dX3_removeAt_16 : decode cX3_removeAt 16 = .ok (.putfield 27, 3) := by decide +kernel
theorem dX3_removeAt_19 : decode cX3_removeAt 19 = .ok (.iload_n 1, 1) := by decide +kernel
theorem dX3_removeAt_20 : decode cX3_removeAt 20 = .ok (.istore_n 2, 1) := by decide +kernel
theorem dX3_removeAt_21 : decode cX3_removeAt 21 = .ok (.iload_n 2, 1) := by decide +kernel
theorem dX3_removeAt_22 : decode cX3_removeAt 22 = .ok (.aload_n 0, 1) := by decide +kernel
theorem dX3_removeAt_23 : decode cX3_removeAt 23 = .ok (.getfield 27, 3) := by decide +kernel
theorem dX3_removeAt_26 : decode cX3_removeAt 26 = .ok (.if_icmp .ge 51, 3) := by decide +kernel
theorem dX3_removeAt_29 : decode cX3_removeAt 29 = .ok (.aload_n 0, 1) := by decide +kernel
theorem dX3_removeAt_30 : decode cX3_removeAt 30 = .ok (.getfield 9, 3) := by decide +kernel
theorem dX3_removeAt_33 : decode cX3_removeAt 33 = .ok (.iload_n 2, 1) := by decide +kernel
theorem dX3_removeAt_34 : decode cX3_removeAt 34 = .ok (.aload_n 0, 1) := by decide +kernel
theorem dX3_removeAt_35 : decode cX3_removeAt 35 = .ok (.getfield 9, 3) := by decide +kernel
theorem dX3_removeAt_38 : decode cX3_removeAt 38 = .ok (.iload_n 2, 1) := by decide +kernel
theorem dX3_removeAt_39 : decode cX3_removeAt 39 = .ok (.iconst 1, 1) := by decide +kernel
theorem dX3_removeAt_40 : decode cX3_removeAt 40 = .ok (.iadd, 1) := by decide +kernel
theorem dX3_removeAt_41 : decode cX3_removeAt 41 = .ok (.iaload, 1) := by decide +kernel
theorem dX3_removeAt_42 : decode cX3_removeAt 42 = .ok (.iastore, 1) := by decide +kernel
theorem dX3_removeAt_43 : decode cX3_removeAt 43 = .ok (.aload_n 0, 1) := by decide +kernel
theorem dX3_removeAt_44 : decode cX3_removeAt 44 = .ok (.getfield 15, 3) := by decide +kernel
theorem dX3_removeAt_47 : decode cX3_removeAt 47 = .ok (.iload_n 2, 1) := by decide +kernel
theorem dX3_removeAt_48 : decode cX3_removeAt 48 = .ok (.aload_n 0, 1) := by decide +kernel
theorem dX3_removeAt_49 : decode cX3_removeAt 49 = .ok (.getfield 15, 3) := by decide +kernel
theorem dX3_removeAt_52 : decode cX3_removeAt 52 = .ok (.iload_n 2, 1) := by decide +kernel
theorem dX3_removeAt_53 : decode cX3_removeAt 53 = .ok (.iconst 1, 1) := by decide +kernel
theorem dX3_removeAt_54 : decode cX3_removeAt 54 = .ok (.iadd, 1) := by decide +kernel
theorem dX3_removeAt_55 : decode cX3_removeAt 55 = .ok (.laload, 1) := by decide +kernel
theorem dX3_removeAt_56 : decode cX3_removeAt 56 = .ok (.lastore, 1) := by decide +kernel
theorem dX3_removeAt_57 : decode cX3_removeAt 57 = .ok (.aload_n 0, 1) := by decide +kernel
theorem dX3_removeAt_58 : decode cX3_removeAt 58 = .ok (.getfield 19, 3) := by decide +kernel
theorem dX3_removeAt_61 : decode cX3_removeAt 61 = .ok (.iload_n 2, 1) := by decide +kernel
theorem dX3_removeAt_62 : decode cX3_removeAt 62 = .ok (.aload_n 0, 1) := by decide +kernel
theorem dX3_removeAt_63 : decode cX3_removeAt 63 = .ok (.getfield 19, 3) := by decide +kernel
theorem dX3_removeAt_66 : decode cX3_removeAt 66 = .ok (.iload_n 2, 1) := by decide +kernel
theorem dX3_removeAt_67 : decode cX3_removeAt 67 = .ok (.iconst 1, 1) := by decide +kernel
theorem dX3_removeAt_68 : decode cX3_removeAt 68 = .ok (.iadd, 1) := by decide +kernel
theorem dX3_removeAt_69 : decode cX3_removeAt 69 = .ok (.iaload, 1) := by decide +kernel
theorem dX3_removeAt_70 : decode cX3_removeAt 70 = .ok (.iastore, 1) := by decide +kernel
theorem dX3_removeAt_71 : decode cX3_removeAt 71 = .ok (.iinc 2 1, 3) := by decide +kernel
theorem dX3_removeAt_74 : decode cX3_removeAt 74 = .ok (.goto (-53), 3) := by decide +kernel
theorem dX3_removeAt_77 : decode cX3_removeAt 77 = .ok (.iconst 0, 1) := by decide +kernel
theorem dX3_removeAt_78 : decode cX3_removeAt 78 = .ok (.istore_n 2, 1) := by decide +kernel
theorem dX3_removeAt_79 : decode cX3_removeAt 79 = .ok (.iload_n 2, 1) := by decide +kernel
theorem dX3_removeAt_80 : decode cX3_removeAt 80 = .ok (.aload_n 0, 1) := by decide +kernel
theorem dX3_removeAt_81 : decode cX3_removeAt 81 = .ok (.getfield 27, 3) := by decide +kernel
theorem dX3_removeAt_84 : decode cX3_removeAt 84 = .ok (.if_icmp .ge 29, 3) := by decide +kernel
theorem dX3_removeAt_87 : decode cX3_removeAt 87 = .ok (.aload_n 0, 1) := by decide +kernel
theorem dX3_removeAt_88 : decode cX3_removeAt 88 = .ok (.getfield 9, 3) := by decide +kernel
theorem dX3_removeAt_91 : decode cX3_removeAt 91 = .ok (.iload_n 2, 1) := by decide +kernel
theorem dX3_removeAt_92 : decode cX3_removeAt 92 = .ok (.iaload, 1) := by decide +kernel
theorem dX3_removeAt_93 : decode cX3_removeAt 93 = .ok (.iload_n 1, 1) := by decide +kernel
theorem dX3_removeAt_94 : decode cX3_removeAt 94 = .ok (.if_icmp .le 13, 3) := by decide +kernel
theorem dX3_removeAt_97 : decode cX3_removeAt 97 = .ok (.aload_n 0, 1) := by decide +kernel
theorem dX3_removeAt_98 : decode cX3_removeAt 98 = .ok (.getfield 9, 3) := by decide +kernel
theorem dX3_removeAt_101 : decode cX3_removeAt 101 = .ok (.iload_n 2, 1) := by decide +kernel
theorem dX3_removeAt_102 : decode cX3_removeAt 102 = .ok (.dup2, 1) := by decide +kernel
theorem dX3_removeAt_103 : decode cX3_removeAt 103 = .ok (.iaload, 1) := by decide +kernel
theorem dX3_removeAt_104 : decode cX3_removeAt 104 = .ok (.iconst 1, 1) := by decide +kernel
theorem dX3_removeAt_105 : decode cX3_removeAt 105 = .ok (.isub, 1) := by decide +kernel
theorem dX3_removeAt_106 : decode cX3_removeAt 106 = .ok (.iastore, 1) := by decide +kernel
theorem dX3_removeAt_107 : decode cX3_removeAt 107 = .ok (.iinc 2 1, 3) := by decide +kernel
theorem dX3_removeAt_110 : decode cX3_removeAt 110 = .ok (.goto (-31), 3) := by decide +kernel
theorem dX3_removeAt_113 : decode cX3_removeAt 113 = .ok (.return_, 1) := by decide +kernel
set_option maxRecDepth 20000 in
theorem ggX4_add_X4_isFull : GoodIn wsX4_add wsX4_isFull := goodIn_r _ [10, 2, 11, 12, 13, 14, 15] (by decide +kernel) (by decide +kernel)
set_option maxRecDepth 20000 in
theorem gX4_add_X4_isFull : GoodIn wsX4_add (wsV RX4 38 RX4 yX4_isFull wsX4_isFull) := goodIn_app (goodIn_of _ (by decide +kernel)) ggX4_add_X4_isFull
theorem dX4_add_0 : decode cX4_add 0 = .ok (.aload_n 0, 1) := by decide +kernel
theorem dX4_add_1 : decode cX4_add 1 = .ok (.invokevirtual 38, 3) := by decide +kernel
theorem dX4_add_4 : decode cX4_add 4 = .ok (.ifCond .ne 54, 3) := by decide +kernel
theorem dX4_add_7 : decode cX4_add 7 = .ok (.aload_n 0, 1) := by decide +kernel
theorem dX4_add_8 : decode cX4_add 8 = .ok (.getfield 9, 3) := by decide +kernel
theorem dX4_add_11 : decode cX4_add 11 = .ok (.aload_n 0, 1) := by decide +kernel
theorem dX4_add_12 : decode cX4_add 12 = .ok (.getfield 30, 3) := by decide +kernel
theorem dX4_add_15 : decode cX4_add 15 = .ok (.iload_n 1, 1) := by decide +kernel
theorem dX4_add_16 : decode cX4_add 16 = .ok (.iastore, 1) := by decide +kernel
theorem dX4_add_17 : decode cX4_add 17 = .ok (.aload_n 0, 1) := by decide +kernel
theorem dX4_add_18 : decode cX4_add 18 = .ok (.getfield 15, 3) := by decide +kernel
theorem dX4_add_21 : decode cX4_add 21 = .ok (.aload_n 0, 1) := by decide +kernel
theorem dX4_add_22 : decode cX4_add 22 = .ok (.getfield 30, 3) := by decide +kernel
theorem dX4_add_25 : decode cX4_add 25 = .ok (.iload_n 2, 1) := by decide +kernel
theorem dX4_add_26 : decode cX4_add 26 = .ok (.iastore, 1) := by decide +kernel
theorem dX4_add_27 : decode cX4_add 27 = .ok (.aload_n 0, 1) := by decide +kernel
theorem dX4_add_28 : decode cX4_add 28 = .ok (.getfield 18, 3) := by decide +kernel
theorem dX4_add_31 : decode cX4_add 31 = .ok (.aload_n 0, 1) := by decide +kernel
theorem dX4_add_32 : decode cX4_add 32 = .ok (.getfield 30, 3) := by decide +kernel
theorem dX4_add_35 : decode cX4_add 35 = .ok (.iload_n 3, 1) := by decide +kernel
theorem dX4_add_36 : decode cX4_add 36 = .ok (.iastore, 1) := by decide +kernel
theorem dX4_add_37 : decode cX4_add 37 = .ok (.aload_n 0, 1) := by decide +kernel
theorem dX4_add_38 : decode cX4_add 38 = .ok (.getfield 21, 3) := by decide +kernel
theorem dX4_add_41 : decode cX4_add 41 = .ok (.aload_n 0, 1) := by decide +kernel
theorem dX4_add_42 : decode cX4_add 42 = .ok (.getfield 30, 3) := by decide +kernel
theorem dX4_add_45 : decode cX4_add 45 = .ok (.iload 4, 2) := by decide +kernel
theorem dX4_add_47 : decode cX4_add 47 = .ok (.iastore, 1) := by decide +kernel
theorem dX4_add_48 : decode cX4_add 48 = .ok (.aload_n 0, 1) := by decide +kernel
theorem dX4_add_49 : decode cX4_add 49 = .ok (.dup, 1) := by decide +kernel
theorem dX4_add_50 : decode cX4_add 50 = .ok (.getfield 30, 3) := by decide +kernel
theorem dX4_add_53 : decode cX4_add 53 = .ok (.iconst 1, 1) := by decide +kernel
theorem dX4_add_54 : decode cX4_add 54 = .ok (.iadd, 1) := by decide +kernel
theorem dX4_add_55 : decode cX4_add 55 = .ok (.putfield 30, 3) := by decide +kernel
theorem dX4_add_58 : decode cX4_add 58 = .ok (.return_, 1) := by decide +kernel
set_option maxRecDepth 20000 in
theorem ggX4_removeAt_X4_has : GoodIn wsX4_removeAt wsX4_has := goodIn_r _ [10, 1, 11, 12, 13, 14, 15] (by decide +kernel) (by decide +kernel)
set_option maxRecDepth 20000 in
theorem gX4_removeAt_X4_has : GoodIn wsX4_removeAt (wsV RX4 34 RX4 yX4_has wsX4_has) := goodIn_app (goodIn_of _ (by decide +kernel)) ggX4_removeAt_X4_has
theorem dX4_removeAt_0 : decode cX4_removeAt 0 = .ok (.aload_n 0, 1) := by decide +kernel
theorem dX4_removeAt_1 : decode cX4_removeAt 1 = .ok (.iload_n 1, 1) := by decide +kernel
theorem dX4_removeAt_2 : decode cX4_removeAt 2 = .ok (.invokevirtual 34, 3) := by decide +kernel
theorem dX4_removeAt_5 : decode cX4_removeAt 5 = .ok (.ifCond .ne 4, 3) := by decide +kernel
theorem dX4_removeAt_8 : decode cX4_removeAt 8 = .ok (.return_, 1) := by decide +kernel
theorem dX4_removeAt_9 : decode cX4_removeAt 9 = .ok (.aload_n 0, 1) := by decide +kernel
theorem dX4_removeAt_10 : decode cX4_removeAt 10 = .ok (.dup, 1) := by decide +kernel
theorem dX4_removeAt_11 : decode cX4_removeAt 11 = .ok (.getfield 30, 3) := by decide +kernel
theorem dX4_removeAt_14 : decode cX4_removeAt 14 = .ok (.iconst 1, 1) := by decide +kernel
theorem dX4_removeAt_15 : decode cX4_removeAt 15 = .ok (.isub, 1) := by decide +kernel
theorem dX4_removeAt_16 : decode cX4_removeAt 16 = .ok (.putfield 30, 3) := by decide +kernel
theorem dX4_removeAt_19 : decode cX4_removeAt 19 = .ok (.iload_n 1, 1) := by decide +kernel
theorem dX4_removeAt_20 : decode cX4_removeAt 20 = .ok (.istore_n 2, 1) := by decide +kernel
theorem dX4_removeAt_21 : decode cX4_removeAt 21 = .ok (.iload_n 2, 1) := by decide +kernel
theorem dX4_removeAt_22 : decode cX4_removeAt 22 = .ok (.aload_n 0, 1) := by decide +kernel
theorem dX4_removeAt_23 : decode cX4_removeAt 23 = .ok (.getfield 30, 3) := by decide +kernel
theorem dX4_removeAt_26 : decode cX4_removeAt 26 = .ok (.if_icmp .ge 65, 3) := by decide +kernel
theorem dX4_removeAt_29 : decode cX4_removeAt 29 = .ok (.aload_n 0, 1) := by decide +kernel
theorem dX4_removeAt_30 : decode cX4_removeAt 30 = .ok (.getfield 9, 3) := by decide +kernel
theorem dX4_removeAt_33 : decode cX4_removeAt 33 = .ok (.iload_n 2, 1) := by decide +kernel
theorem dX4_removeAt_34 : decode cX4_removeAt 34 = .ok (.aload_n 0, 1) := by decide +kernel
theorem dX4_removeAt_35 : decode cX4_removeAt 35 = .ok (.getfield 9, 3) := by decide +kernel
theorem dX4_removeAt_38 : decode cX4_removeAt 38 = .ok (.iload_n 2, 1) := by decide +kernel
theorem dX4_removeAt_39 : decode cX4_removeAt 39 = .ok (.iconst 1, 1) := by decide +kernel
theorem dX4_removeAt_40 : decode cX4_removeAt 40 = .ok (.iadd, 1) := by decide +kernel
theorem dX4_removeAt_41 : decode cX4_removeAt 41 = .ok (.iaload, 1) := by decide +kernel
theorem dX4_removeAt_42 : decode cX4_removeAt 42 = .ok (.iastore, 1) := by decide +kernel
theorem dX4_removeAt_43 : decode cX4_removeAt 43 = .ok (.aload_n 0, 1) := by decide +kernel
theorem dX4_removeAt_44 : decode cX4_removeAt 44 = .ok (.getfield 15, 3) := by decide +kernel
theorem dX4_removeAt_47 : decode cX4_removeAt 47 = .ok (.iload_n 2, 1) := by decide +kernel
theorem dX4_removeAt_48 : decode cX4_removeAt 48 = .ok (.aload_n 0, 1) := by decide +kernel
theorem dX4_removeAt_49 : decode cX4_removeAt 49 = .ok (.getfield 15, 3) := by decide +kernel
theorem dX4_removeAt_52 : decode cX4_removeAt 52 = .ok (.iload_n 2, 1) := by decide +kernel
theorem dX4_removeAt_53 : decode cX4_removeAt 53 = .ok (.iconst 1, 1) := by decide +kernel
theorem dX4_removeAt_54 : decode cX4_removeAt 54 = .ok (.iadd, 1) := by decide +kernel
theorem dX4_removeAt_55 : decode cX4_removeAt 55 = .ok (.iaload, 1) := by decide +kernel
theorem dX4_removeAt_56 : decode cX4_removeAt 56 = .ok (.iastore, 1) := by decide +kernel
theorem dX4_removeAt_57 : decode cX4_removeAt 57 = .ok (.aload_n 0, 1) := by decide +kernel
theorem dX4_removeAt_58 : decode cX4_removeAt 58 = .ok (.getfield 18, 3) := by decide +kernel
theorem dX4_removeAt_61 : decode cX4_removeAt 61 = .ok (.iload_n 2, 1) := by decide +kernel
theorem dX4_removeAt_62 : decode cX4_removeAt 62 = .ok (.aload_n 0, 1) := by decide +kernel
theorem dX4_removeAt_63 : decode cX4_removeAt 63 = .ok (.getfield 18, 3) := by decide +kernel
theorem dX4_removeAt_66 : decode cX4_removeAt 66 = .ok (.iload_n 2, 1) := by decide +kernel
theorem dX4_removeAt_67 : decode cX4_removeAt 67 = .ok (.iconst 1, 1) := by decide +kernel
theorem dX4_removeAt_68 : decode cX4_removeAt 68 = .ok (.iadd, 1) := by decide +kernel
theorem dX4_removeAt_69 : decode cX4_removeAt 69 = .ok (.iaload, 1) := by decide +kernel
theorem dX4_removeAt_70 : decode cX4_removeAt 70 = .ok (.iastore, 1) := by decide +kernel
theorem dX4_removeAt_71 : decode cX4_removeAt 71 = .ok (.aload_n 0, 1) := by decide +kernel
theorem dX4_removeAt_72 : decode cX4_removeAt 72 = .ok (.getfield 21, 3) := by decide +kernel
theorem dX4_removeAt_75 : decode cX4_removeAt 75 = .ok (.iload_n 2, 1) := by decide +kernel
theorem dX4_removeAt_76 : decode cX4_removeAt 76 = .ok (.aload_n 0, 1) := by decide +kernel
theorem dX4_removeAt_77 : decode cX4_removeAt 77 = .ok (.getfield 21, 3) := by decide +kernel
theorem dX4_removeAt_80 : decode cX4_removeAt 80 = .ok (.iload_n 2, 1) := by decide +kernel
theorem dX4_removeAt_81 : decode cX4_removeAt 81 = .ok (.iconst 1, 1) := by decide +kernel
theorem dX4_removeAt_82 : decode cX4_removeAt 82 = .ok (.iadd, 1) := by decide +kernel
theorem dX4_removeAt_83 : decode cX4_removeAt 83 = .ok (.iaload, 1) := by decide +kernel
theorem dX4_removeAt_84 : decode cX4_removeAt 84 = .ok (.iastore, 1) := by decide +kernel
theorem dX4_removeAt_85 : decode cX4_removeAt 85 = .ok (.iinc 2 1, 3) := by decide +kernel
theorem dX4_removeAt_88 : decode cX4_removeAt 88 = .ok (.goto (-67), 3) := by decide +kernel
theorem dX4_removeAt_91 : decode cX4_removeAt 91 = .ok (.return_, 1) := by decide +kernel
