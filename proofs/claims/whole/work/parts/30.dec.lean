theorem dX0_amountOf_0 : decode cX0_amountOf 0 = .ok (.iload_n 1, 1) := by decide +kernel
theorem dX0_amountOf_1 : decode cX0_amountOf 1 = .ok (.ifCond .lt 18, 3) := by decide +kernel
theorem dX0_amountOf_4 : decode cX0_amountOf 4 = .ok (.iload_n 1, 1) := by decide +kernel
theorem dX0_amountOf_5 : decode cX0_amountOf 5 = .ok (.bipush 16, 2) := by decide +kernel
theorem dX0_amountOf_7 : decode cX0_amountOf 7 = .ok (.if_icmp .ge 12, 3) := by decide +kernel
theorem dX0_amountOf_10 : decode cX0_amountOf 10 = .ok (.aload_n 0, 1) := by decide +kernel
theorem dX0_amountOf_11 : decode cX0_amountOf 11 = .ok (.getfield 9, 3) := by decide +kernel
theorem dX0_amountOf_14 : decode cX0_amountOf 14 = .ok (.iload_n 1, 1) := by decide +kernel
theorem dX0_amountOf_15 : decode cX0_amountOf 15 = .ok (.iaload, 1) := by decide +kernel
theorem dX0_amountOf_16 : decode cX0_amountOf 16 = .ok (.goto 4, 3) := by decide +kernel
theorem dX0_amountOf_19 : decode cX0_amountOf 19 = .ok (.iconst 0, 1) := by decide +kernel
theorem dX0_amountOf_20 : decode cX0_amountOf 20 = .ok (.ireturn, 1) := by decide +kernel
theorem dX0_clockOf_0 : decode cX0_clockOf 0 = .ok (.iload_n 1, 1) := by decide +kernel
theorem dX0_clockOf_1 : decode cX0_clockOf 1 = .ok (.ifCond .lt 18, 3) := by decide +kernel
theorem dX0_clockOf_4 : decode cX0_clockOf 4 = .ok (.iload_n 1, 1) := by decide +kernel
theorem dX0_clockOf_5 : decode cX0_clockOf 5 = .ok (.bipush 16, 2) := by decide +kernel
theorem dX0_clockOf_7 : decode cX0_clockOf 7 = .ok (.if_icmp .ge 12, 3) := by decide +kernel
theorem dX0_clockOf_10 : decode cX0_clockOf 10 = .ok (.aload_n 0, 1) := by decide +kernel
theorem dX0_clockOf_11 : decode cX0_clockOf 11 = .ok (.getfield 21, 3) := by decide +kernel
theorem dX0_clockOf_14 : decode cX0_clockOf 14 = .ok (.iload_n 1, 1) := by decide +kernel
theorem dX0_clockOf_15 : decode cX0_clockOf 15 = .ok (.iaload, 1) := by decide +kernel
theorem dX0_clockOf_16 : decode cX0_clockOf 16 = .ok (.goto 4, 3) := by decide +kernel
theorem dX0_clockOf_19 : decode cX0_clockOf 19 = .ok (.iconst (-1), 1) := by decide +kernel
theorem dX0_clockOf_20 : decode cX0_clockOf 20 = .ok (.ireturn, 1) := by decide +kernel
theorem dX2_has_0 : decode cX2_has 0 = .ok (.iload_n 1, 1) := by decide +kernel
theorem dX2_has_1 : decode cX2_has 1 = .ok (.ifCond .lt 15, 3) := by decide +kernel
theorem dX2_has_4 : decode cX2_has 4 = .ok (.iload_n 1, 1) := by decide +kernel
theorem dX2_has_5 : decode cX2_has 5 = .ok (.aload_n 0, 1) := by decide +kernel
theorem dX2_has_6 : decode cX2_has 6 = .ok (.getfield 24, 3) := by decide +kernel
theorem dX2_has_9 : decode cX2_has 9 = .ok (.if_icmp .ge 7, 3) := by decide +kernel
theorem dX2_has_12 : decode cX2_has 12 = .ok (.iconst 1, 1) := by decide +kernel
theorem dX2_has_13 : decode cX2_has 13 = .ok (.goto 4, 3) := by decide +kernel
theorem dX2_has_16 : decode cX2_has 16 = .ok (.iconst 0, 1) := by decide +kernel
theorem dX2_has_17 : decode cX2_has 17 = .ok (.ireturn, 1) := by decide +kernel
theorem dX2_isFull_0 : decode cX2_isFull 0 = .ok (.aload_n 0, 1) := by decide +kernel
theorem dX2_isFull_1 : decode cX2_isFull 1 = .ok (.getfield 24, 3) := by decide +kernel
theorem dX2_isFull_4 : decode cX2_isFull 4 = .ok (.bipush 60, 2) := by decide +kernel
theorem dX2_isFull_6 : decode cX2_isFull 6 = .ok (.if_icmp .lt 7, 3) := by decide +kernel
theorem dX2_isFull_9 : decode cX2_isFull 9 = .ok (.iconst 1, 1) := by decide +kernel
theorem dX2_isFull_10 : decode cX2_isFull 10 = .ok (.goto 4, 3) := by decide +kernel
theorem dX2_isFull_13 : decode cX2_isFull 13 = .ok (.iconst 0, 1) := by decide +kernel
theorem dX2_isFull_14 : decode cX2_isFull 14 = .ok (.ireturn, 1) := by decide +kernel
set_option maxRecDepth 20000 in
theorem ggX2_placeOf_X2_has : GoodIn wsX2_placeOf wsX2_has := goodIn_r _ [6, 7, 8, 9, 10] (by decide +kernel) (by decide +kernel)
set_option maxRecDepth 20000 in
theorem gX2_placeOf_X2_has : GoodIn wsX2_placeOf (wsV RX2 28 RX2 yX2_has wsX2_has) := goodIn_app (goodIn_of _ (by decide +kernel)) ggX2_placeOf_X2_has
theorem dX2_placeOf_0 : decode cX2_placeOf 0 = .ok (.aload_n 0, 1) := by decide +kernel
theorem dX2_placeOf_1 : decode cX2_placeOf 1 = .ok (.iload_n 1, 1) := by decide +kernel
theorem dX2_placeOf_2 : decode cX2_placeOf 2 = .ok (.invokevirtual 28, 3) := by decide +kernel
theorem dX2_placeOf_5 : decode cX2_placeOf 5 = .ok (.ifCond .eq 12, 3) := by decide +kernel
theorem dX2_placeOf_8 : decode cX2_placeOf 8 = .ok (.aload_n 0, 1) := by decide +kernel
theorem dX2_placeOf_9 : decode cX2_placeOf 9 = .ok (.getfield 9, 3) := by decide +kernel
theorem dX2_placeOf_12 : decode cX2_placeOf 12 = .ok (.iload_n 1, 1) := by decide +kernel
theorem dX2_placeOf_13 : decode cX2_placeOf 13 = .ok (.iaload, 1) := by decide +kernel
theorem dX2_placeOf_14 : decode cX2_placeOf 14 = .ok (.goto 4, 3) := by decide +kernel
theorem dX2_placeOf_17 : decode cX2_placeOf 17 = .ok (.iconst (-1), 1) := by decide +kernel
theorem dX2_placeOf_18 : decode cX2_placeOf 18 = .ok (.ireturn, 1) := by decide +kernel
set_option maxRecDepth 20000 in
theorem ggX2_sizeOf_X2_has : GoodIn wsX2_sizeOf wsX2_has := goodIn_r _ [6, 7, 8, 9, 10] (by decide +kernel) (by decide +kernel)
set_option maxRecDepth 20000 in
theorem gX2_sizeOf_X2_has : GoodIn wsX2_sizeOf (wsV RX2 28 RX2 yX2_has wsX2_has) := goodIn_app (goodIn_of _ (by decide +kernel)) ggX2_sizeOf_X2_has
theorem dX2_sizeOf_0 : decode cX2_sizeOf 0 = .ok (.aload_n 0, 1) := by decide +kernel
theorem dX2_sizeOf_1 : decode cX2_sizeOf 1 = .ok (.iload_n 1, 1) := by decide +kernel
theorem dX2_sizeOf_2 : decode cX2_sizeOf 2 = .ok (.invokevirtual 28, 3) := by decide +kernel
theorem dX2_sizeOf_5 : decode cX2_sizeOf 5 = .ok (.ifCond .eq 12, 3) := by decide +kernel
theorem dX2_sizeOf_8 : decode cX2_sizeOf 8 = .ok (.aload_n 0, 1) := by decide +kernel
theorem dX2_sizeOf_9 : decode cX2_sizeOf 9 = .ok (.getfield 15, 3) := by decide +kernel
theorem dX2_sizeOf_12 : decode cX2_sizeOf 12 = .ok (.iload_n 1, 1) := by decide +kernel
theorem dX2_sizeOf_13 : decode cX2_sizeOf 13 = .ok (.iaload, 1) := by decide +kernel
theorem dX2_sizeOf_14 : decode cX2_sizeOf 14 = .ok (.goto 4, 3) := by decide +kernel
theorem dX2_sizeOf_17 : decode cX2_sizeOf 17 = .ok (.iconst 0, 1) := by decide +kernel
theorem dX2_sizeOf_18 : decode cX2_sizeOf 18 = .ok (.ireturn, 1) := by decide +kernel
theorem dX3_has_0 : decode cX3_has 0 = .ok (.iload_n 1, 1) := by decide +kernel
theorem dX3_has_1 : decode cX3_has 1 = .ok (.ifCond .lt 15, 3) := by decide +kernel
theorem dX3_has_4 : decode cX3_has 4 = .ok (.iload_n 1, 1) := by decide +kernel
theorem dX3_has_5 : decode cX3_has 5 = .ok (.aload_n 0, 1) := by decide +kernel
theorem dX3_has_6 : decode cX3_has 6 = .ok (.getfield 27, 3) := by decide +kernel
theorem dX3_has_9 : decode cX3_has 9 = .ok (.if_icmp .ge 7, 3) := by decide +kernel
theorem dX3_has_12 : decode cX3_has 12 = .ok (.iconst 1, 1) := by decide +kernel
theorem dX3_has_13 : decode cX3_has 13 = .ok (.goto 4, 3) := by decide +kernel
theorem dX3_has_16 : decode cX3_has 16 = .ok (.iconst 0, 1) := by decide +kernel
theorem dX3_has_17 : decode cX3_has 17 = .ok (.ireturn, 1) := by decide +kernel
theorem dX3_isFull_0 : decode cX3_isFull 0 = .ok (.aload_n 0, 1) := by decide +kernel
theorem dX3_isFull_1 : decode cX3_isFull 1 = .ok (.getfield 27, 3) := by decide +kernel
theorem dX3_isFull_4 : decode cX3_isFull 4 = .ok (.bipush 40, 2) := by decide +kernel
theorem dX3_isFull_6 : decode cX3_isFull 6 = .ok (.if_icmp .lt 7, 3) := by decide +kernel
theorem dX3_isFull_9 : decode cX3_isFull 9 = .ok (.iconst 1, 1) := by decide +kernel
theorem dX3_isFull_10 : decode cX3_isFull 10 = .ok (.goto 4, 3) := by decide +kernel
theorem dX3_isFull_13 : decode cX3_isFull 13 = .ok (.iconst 0, 1) := by decide +kernel
theorem dX3_isFull_14 : decode cX3_isFull 14 = .ok (.ireturn, 1) := by decide +kernel
set_option maxRecDepth 20000 in
theorem ggX3_parentOf_X3_has : GoodIn wsX3_parentOf wsX3_has := goodIn_r _ [6, 7, 8, 9, 10, 11] (by decide +kernel) (by decide +kernel)
set_option maxRecDepth 20000 in
theorem gX3_parentOf_X3_has : GoodIn wsX3_parentOf (wsV RX3 37 RX3 yX3_has wsX3_has) := goodIn_app (goodIn_of _ (by decide +kernel)) ggX3_parentOf_X3_has
theorem dX3_parentOf_0 : decode cX3_parentOf 0 = .ok (.aload_n 0, 1) := by decide +kernel
theorem dX3_parentOf_1 : decode cX3_parentOf 1 = .ok (.iload_n 1, 1) := by decide +kernel
theorem dX3_parentOf_2 : decode cX3_parentOf 2 = .ok (.invokevirtual 37, 3) := by decide +kernel
theorem dX3_parentOf_5 : decode cX3_parentOf 5 = .ok (.ifCond .eq 12, 3) := by decide +kernel
theorem dX3_parentOf_8 : decode cX3_parentOf 8 = .ok (.aload_n 0, 1) := by decide +kernel
theorem dX3_parentOf_9 : decode cX3_parentOf 9 = .ok (.getfield 9, 3) := by decide +kernel
theorem dX3_parentOf_12 : decode cX3_parentOf 12 = .ok (.iload_n 1, 1) := by decide +kernel
theorem dX3_parentOf_13 : decode cX3_parentOf 13 = .ok (.iaload, 1) := by decide +kernel
theorem dX3_parentOf_14 : decode cX3_parentOf 14 = .ok (.goto 4, 3) := by decide +kernel
theorem dX3_parentOf_17 : decode cX3_parentOf 17 = .ok (.iconst (-1), 1) := by decide +kernel
theorem dX3_parentOf_18 : decode cX3_parentOf 18 = .ok (.ireturn, 1) := by decide +kernel
set_option maxRecDepth 20000 in
theorem ggX3_nameOf_X3_has : GoodIn wsX3_nameOf wsX3_has := goodIn_r _ [6, 7, 8, 9, 10, 11] (by decide +kernel) (by decide +kernel)
set_option maxRecDepth 20000 in
theorem gX3_nameOf_X3_has : GoodIn wsX3_nameOf (wsV RX3 37 RX3 yX3_has wsX3_has) := goodIn_app (goodIn_of _ (by decide +kernel)) ggX3_nameOf_X3_has
theorem dX3_nameOf_0 : decode cX3_nameOf 0 = .ok (.aload_n 0, 1) := by decide +kernel
theorem dX3_nameOf_1 : decode cX3_nameOf 1 = .ok (.iload_n 1, 1) := by decide +kernel
theorem dX3_nameOf_2 : decode cX3_nameOf 2 = .ok (.invokevirtual 37, 3) := by decide +kernel
theorem dX3_nameOf_5 : decode cX3_nameOf 5 = .ok (.ifCond .eq 12, 3) := by decide +kernel
theorem dX3_nameOf_8 : decode cX3_nameOf 8 = .ok (.aload_n 0, 1) := by decide +kernel
theorem dX3_nameOf_9 : decode cX3_nameOf 9 = .ok (.getfield 15, 3) := by decide +kernel
theorem dX3_nameOf_12 : decode cX3_nameOf 12 = .ok (.iload_n 1, 1) := by decide +kernel
theorem dX3_nameOf_13 : decode cX3_nameOf 13 = .ok (.laload, 1) := by decide +kernel
theorem dX3_nameOf_14 : decode cX3_nameOf 14 = .ok (.goto 4, 3) := by decide +kernel
theorem dX3_nameOf_17 : decode cX3_nameOf 17 = .ok (.lconst 0, 1) := by decide +kernel
theorem dX3_nameOf_18 : decode cX3_nameOf 18 = .ok (.lreturn, 1) := by decide +kernel
set_option maxRecDepth 20000 in
theorem ggX3_tagOf_X3_has : GoodIn wsX3_tagOf wsX3_has := goodIn_r _ [6, 7, 8, 9, 10, 11] (by decide +kernel) (by decide +kernel)
set_option maxRecDepth 20000 in
theorem gX3_tagOf_X3_has : GoodIn wsX3_tagOf (wsV RX3 37 RX3 yX3_has wsX3_has) := goodIn_app (goodIn_of _ (by decide +kernel)) ggX3_tagOf_X3_has
theorem dX3_tagOf_0 : decode cX3_tagOf 0 = .ok (.aload_n 0, 1) := by decide +kernel
theorem dX3_tagOf_1 : decode cX3_tagOf 1 = .ok (.iload_n 1, 1) := by decide +kernel
theorem dX3_tagOf_2 : decode cX3_tagOf 2 = .ok (.invokevirtual 37, 3) := by decide +kernel
theorem dX3_tagOf_5 : decode cX3_tagOf 5 = .ok (.ifCond .eq 12, 3) := by decide +kernel
theorem dX3_tagOf_8 : decode cX3_tagOf 8 = .ok (.aload_n 0, 1) := by decide +kernel
theorem dX3_tagOf_9 : decode cX3_tagOf 9 = .ok (.getfield 19, 3) := by decide +kernel
theorem dX3_tagOf_12 : decode cX3_tagOf 12 = .ok (.iload_n 1, 1) := by decide +kernel
theorem dX3_tagOf_13 : decode cX3_tagOf 13 = .ok (.iaload, 1) := by decide +kernel
theorem dX3_tagOf_14 : decode cX3_tagOf 14 = .ok (.goto 4, 3) := by decide +kernel
theorem dX3_tagOf_17 : decode cX3_tagOf 17 = .ok (.iconst (-1), 1) := by decide +kernel
theorem dX3_tagOf_18 : decode cX3_tagOf 18 = .ok (.ireturn, 1) := by decide +kernel
theorem dX3_numberOf_0 : decode cX3_numberOf 0 = .ok (.iconst 0, 1) := by decide +kernel
theorem dX3_numberOf_1 : decode cX3_numberOf 1 = .ok (.istore_n 3, 1) := by decide +kernel
theorem dX3_numberOf_2 : decode cX3_numberOf 2 = .ok (.iload_n 3, 1) := by decide +kernel
theorem dX3_numberOf_3 : decode cX3_numberOf 3 = .ok (.aload_n 0, 1) := by decide +kernel
theorem dX3_numberOf_4 : decode cX3_numberOf 4 = .ok (.getfield 27, 3) := by decide +kernel
theorem dX3_numberOf_7 : decode cX3_numberOf 7 = .ok (.if_icmp .ge 22, 3) := by decide +kernel
theorem dX3_numberOf_10 : decode cX3_numberOf 10 = .ok (.aload_n 0, 1) := by decide +kernel
theorem dX3_numberOf_11 : decode cX3_numberOf 11 = .ok (.getfield 15, 3) := by decide +kernel
theorem dX3_numberOf_14 : decode cX3_numberOf 14 = .ok (.iload_n 3, 1) := by decide +kernel
theorem dX3_numberOf_15 : decode cX3_numberOf 15 = .ok (.laload, 1) := by decide +kernel
theorem dX3_numberOf_16 : decode cX3_numberOf 16 = .ok (.lload_n 1, 1) := by decide +kernel
theorem dX3_numberOf_17 : decode cX3_numberOf 17 = .ok (.lcmp, 1) := by decide +kernel
theorem dX3_numberOf_18 : decode cX3_numberOf 18 = .ok (.ifCond .ne 5, 3) := by decide +kernel
theorem dX3_numberOf_21 : decode cX3_numberOf 21 = .ok (.iload_n 3, 1) := by decide +kernel
theorem dX3_numberOf_22 : decode cX3_numberOf 22 = .ok (.ireturn, 1) := by decide +kernel
theorem dX3_numberOf_23 : decode cX3_numberOf 23 = .ok (.iinc 3 1, 3) := by decide +kernel
theorem dX3_numberOf_26 : decode cX3_numberOf 26 = .ok (.goto (-24), 3) := by decide +kernel
theorem dX3_numberOf_29 : decode cX3_numberOf 29 = .ok (.iconst (-1), 1) := by decide +kernel
theorem dX3_numberOf_30 : decode cX3_numberOf 30 = .ok (.ireturn, 1) := by decide +kernel
theorem dX3_taggedTotal_0 : decode cX3_taggedTotal 0 = .ok (.iconst 0, 1) := by decide +kernel
theorem dX3_taggedTotal_1 : decode cX3_taggedTotal 1 = .ok (.istore_n 1, 1) := by decide +kernel
theorem dX3_taggedTotal_2 : decode cX3_taggedTotal 2 = .ok (.iconst 0, 1) := by decide +kernel
theorem dX3_taggedTotal_3 : decode cX3_taggedTotal 3 = .ok (.istore_n 2, 1) := by decide +kernel
theorem dX3_taggedTotal_4 : decode cX3_taggedTotal 4 = .ok (.iload_n 2, 1) := by decide +kernel
theorem dX3_taggedTotal_5 : decode cX3_taggedTotal 5 = .ok (.aload_n 0, 1) := by decide +kernel
theorem dX3_taggedTotal_6 : decode cX3_taggedTotal 6 = .ok (.getfield 27, 3) := by decide +kernel
theorem dX3_taggedTotal_9 : decode cX3_taggedTotal 9 = .ok (.if_icmp .ge 22, 3) := by decide +kernel
theorem dX3_taggedTotal_12 : decode cX3_taggedTotal 12 = .ok (.aload_n 0, 1) := by decide +kernel
theorem dX3_taggedTotal_13 : decode cX3_taggedTotal 13 = .ok (.getfield 19, 3) := by decide +kernel
theorem dX3_taggedTotal_16 : decode cX3_taggedTotal 16 = .ok (.iload_n 2, 1) := by decide +kernel
theorem dX3_taggedTotal_17 : decode cX3_taggedTotal 17 = .ok (.iaload, 1) := by decide +kernel
theorem dX3_taggedTotal_18 : decode cX3_taggedTotal 18 = .ok (.iconst (-1), 1) := by decide +kernel
theorem dX3_taggedTotal_19 : decode cX3_taggedTotal 19 = .ok (.if_icmp .eq 6, 3) := by decide +kernel
theorem dX3_taggedTotal_22 : decode cX3_taggedTotal 22 = .ok (.iinc 1 1, 3) := by decide +kernel
theorem dX3_taggedTotal_25 : decode cX3_taggedTotal 25 = .ok (.iinc 2 1, 3) := by decide +kernel
theorem dX3_taggedTotal_28 : decode cX3_taggedTotal 28 = .ok (.goto (-24), 3) := by decide +kernel
theorem dX3_taggedTotal_31 : decode cX3_taggedTotal 31 = .ok (.iload_n 1, 1) := by decide +kernel
theorem dX3_taggedTotal_32 : decode cX3_taggedTotal 32 = .ok (.ireturn, 1) := by decide +kernel
theorem dX3_childrenOf_0 : decode cX3_childrenOf 0 = .ok (.iconst 0, 1) := by decide +kernel
theorem dX3_childrenOf_1 : decode cX3_childrenOf 1 = .ok (.istore_n 2, 1) := by decide +kernel
theorem dX3_childrenOf_2 : decode cX3_childrenOf 2 = .ok (.iconst 0, 1) := by decide +kernel
theorem dX3_childrenOf_3 : decode cX3_childrenOf 3 = .ok (.istore_n 3, 1) := by decide +kernel
theorem dX3_childrenOf_4 : decode cX3_childrenOf 4 = .ok (.iload_n 3, 1) := by decide +kernel
theorem dX3_childrenOf_5 : decode cX3_childrenOf 5 = .ok (.aload_n 0, 1) := by decide +kernel
theorem dX3_childrenOf_6 : decode cX3_childrenOf 6 = .ok (.getfield 27, 3) := by decide +kernel
theorem dX3_childrenOf_9 : decode cX3_childrenOf 9 = .ok (.if_icmp .ge 22, 3) := by decide +kernel
theorem dX3_childrenOf_12 : decode cX3_childrenOf 12 = .ok (.aload_n 0, 1) := by decide +kernel
theorem dX3_childrenOf_13 : decode cX3_childrenOf 13 = .ok (.getfield 9, 3) := by decide +kernel
theorem dX3_childrenOf_16 : decode cX3_childrenOf 16 = .ok (.iload_n 3, 1) := by decide +kernel
theorem dX3_childrenOf_17 : decode cX3_childrenOf 17 = .ok (.iaload, 1) := by decide +kernel
theorem dX3_childrenOf_18 : decode cX3_childrenOf 18 = .ok (.iload_n 1, 1) := by decide +kernel
theorem dX3_childrenOf_19 : decode cX3_childrenOf 19 = .ok (.if_icmp .ne 6, 3) := by decide +kernel
theorem dX3_childrenOf_22 : decode cX3_childrenOf 22 = .ok (.iinc 2 1, 3) := by decide +kernel
theorem dX3_childrenOf_25 : decode cX3_childrenOf 25 = .ok (.iinc 3 1, 3) := by decide +kernel
theorem dX3_childrenOf_28 : decode cX3_childrenOf 28 = .ok (.goto (-24), 3) := by decide +kernel
theorem dX3_childrenOf_31 : decode cX3_childrenOf 31 = .ok (.iload_n 2, 1) := by decide +kernel
theorem dX3_childrenOf_32 : decode cX3_childrenOf 32 = .ok (.ireturn, 1) := by decide +kernel
set_option maxRecDepth 20000 in
theorem ggX3_depthOf_X3_parentOf : GoodIn wsX3_depthOf wsX3_parentOf := goodIn_r _ [5, 6, 7, 8, 9, 4, 10, 11, 12, 13, 14, 15] (by decide +kernel) (by decide +kernel)
set_option maxRecDepth 20000 in
theorem gX3_depthOf_X3_parentOf : GoodIn wsX3_depthOf (wsV RX3 49 RX3 yX3_parentOf wsX3_parentOf) := goodIn_app (goodIn_of _ (by decide +kernel)) ggX3_depthOf_X3_parentOf
theorem dX3_depthOf_0 : decode cX3_depthOf 0 = .ok (.iconst 0, 1) := by decide +kernel
theorem dX3_depthOf_1 : decode cX3_depthOf 1 = .ok (.istore_n 2, 1) := by decide +kernel
theorem dX3_depthOf_2 : decode cX3_depthOf 2 = .ok (.aload_n 0, 1) := by decide +kernel
theorem dX3_depthOf_3 : decode cX3_depthOf 3 = .ok (.iload_n 1, 1) := by decide +kernel
theorem dX3_depthOf_4 : decode cX3_depthOf 4 = .ok (.invokevirtual 49, 3) := by decide +kernel
theorem dX3_depthOf_7 : decode cX3_depthOf 7 = .ok (.istore_n 3, 1) := by decide +kernel
theorem dX3_depthOf_8 : decode cX3_depthOf 8 = .ok (.iload_n 3, 1) := by decide +kernel
theorem dX3_depthOf_9 : decode cX3_depthOf 9 = .ok (.iconst (-1), 1) := by decide +kernel
theorem dX3_depthOf_10 : decode cX3_depthOf 10 = .ok (.if_icmp .eq 21, 3) := by decide +kernel
theorem dX3_depthOf_13 : decode cX3_depthOf 13 = .ok (.iload_n 2, 1) := by decide +kernel
theorem dX3_depthOf_14 : decode cX3_depthOf 14 = .ok (.bipush 40, 2) := by decide +kernel
theorem dX3_depthOf_16 : decode cX3_depthOf 16 = .ok (.if_icmp .ge 15, 3) := by decide +kernel
theorem dX3_depthOf_19 : decode cX3_depthOf 19 = .ok (.iinc 2 1, 3) := by decide +kernel
theorem dX3_depthOf_22 : decode cX3_depthOf 22 = .ok (.aload_n 0, 1) := by decide +kernel
theorem dX3_depthOf_23 : decode cX3_depthOf 23 = .ok (.iload_n 3, 1) := by decide +kernel
theorem dX3_depthOf_24 : decode cX3_depthOf 24 = .ok (.invokevirtual 49, 3) := by decide +kernel
theorem dX3_depthOf_27 : decode cX3_depthOf 27 = .ok (.istore_n 3, 1) := by decide +kernel
theorem dX3_depthOf_28 : decode cX3_depthOf 28 = .ok (.goto (-20), 3) := by decide +kernel
theorem dX3_depthOf_31 : decode cX3_depthOf 31 = .ok (.iload_n 2, 1) := by decide +kernel
theorem dX3_depthOf_32 : decode cX3_depthOf 32 = .ok (.ireturn, 1) := by decide +kernel
set_option maxRecDepth 20000 in
theorem ggX3_projectOf_X3_tagOf : GoodIn wsX3_projectOf wsX3_tagOf := goodIn_r _ [5, 6, 7, 8, 9, 4, 10, 11, 17, 18, 19, 20] (by decide +kernel) (by decide +kernel)
set_option maxRecDepth 20000 in
theorem gX3_projectOf_X3_tagOf : GoodIn wsX3_projectOf (wsV RX3 53 RX3 yX3_tagOf wsX3_tagOf) := goodIn_app (goodIn_of _ (by decide +kernel)) ggX3_projectOf_X3_tagOf
set_option maxRecDepth 20000 in
theorem ggX3_projectOf_X3_parentOf : GoodIn wsX3_projectOf wsX3_parentOf := goodIn_r _ [15, 16, 7, 8, 9, 4, 10, 11, 17, 18, 19, 20] (by decide +kernel) (by decide +kernel)
set_option maxRecDepth 20000 in
theorem gX3_projectOf_X3_parentOf : GoodIn wsX3_projectOf (wsV RX3 49 RX3 yX3_parentOf wsX3_parentOf) := goodIn_app (goodIn_of _ (by decide +kernel)) ggX3_projectOf_X3_parentOf
theorem dX3_projectOf_0 : decode cX3_projectOf 0 = .ok (.iload_n 1, 1) := by decide +kernel
theorem dX3_projectOf_1 : decode cX3_projectOf 1 = .ok (.istore_n 2, 1) := by decide +kernel
theorem dX3_projectOf_2 : decode cX3_projectOf 2 = .ok (.iconst 0, 1) := by decide +kernel
theorem dX3_projectOf_3 : decode cX3_projectOf 3 = .ok (.istore_n 3, 1) := by decide +kernel
theorem dX3_projectOf_4 : decode cX3_projectOf 4 = .ok (.iload_n 3, 1) := by decide +kernel
theorem dX3_projectOf_5 : decode cX3_projectOf 5 = .ok (.bipush 40, 2) := by decide +kernel
theorem dX3_projectOf_7 : decode cX3_projectOf 7 = .ok (.if_icmp .ge 35, 3) := by decide +kernel
theorem dX3_projectOf_10 : decode cX3_projectOf 10 = .ok (.iload_n 2, 1) := by decide +kernel
theorem dX3_projectOf_11 : decode cX3_projectOf 11 = .ok (.iconst (-1), 1) := by decide +kernel
theorem dX3_projectOf_12 : decode cX3_projectOf 12 = .ok (.if_icmp .eq 30, 3) := by decide +kernel
theorem dX3_projectOf_15 : decode cX3_projectOf 15 = .ok (.aload_n 0, 1) := by decide +kernel
theorem dX3_projectOf_16 : decode cX3_projectOf 16 = .ok (.iload_n 2, 1) := by decide +kernel
theorem dX3_projectOf_17 : decode cX3_projectOf 17 = .ok (.invokevirtual 53, 3) := by decide +kernel
theorem dX3_projectOf_20 : decode cX3_projectOf 20 = .ok (.iconst (-1), 1) := by decide +kernel
theorem dX3_projectOf_21 : decode cX3_projectOf 21 = .ok (.if_icmp .eq 9, 3) := by decide +kernel
theorem dX3_projectOf_24 : decode cX3_projectOf 24 = .ok (.aload_n 0, 1) := by decide +kernel
theorem dX3_projectOf_25 : decode cX3_projectOf 25 = .ok (.iload_n 2, 1) := by decide +kernel
theorem dX3_projectOf_26 : decode cX3_projectOf 26 = .ok (.invokevirtual 53, 3) := by decide +kernel
theorem dX3_projectOf_29 : decode cX3_projectOf 29 = .ok (.ireturn, 1) := by decide +kernel
theorem dX3_projectOf_30 : decode cX3_projectOf 30 = .ok (.aload_n 0, 1) := by decide +kernel
theorem dX3_projectOf_31 : decode cX3_projectOf 31 = .ok (.iload_n 2, 1) := by decide +kernel
theorem dX3_projectOf_32 : decode cX3_projectOf 32 = .ok (.invokevirtual 49, 3) := by decide +kernel
theorem dX3_projectOf_35 : decode cX3_projectOf 35 = .ok (.istore_n 2, 1) := by decide +kernel
theorem dX3_projectOf_36 : decode cX3_projectOf 36 = .ok (.iinc 3 1, 3) := by decide +kernel
theorem dX3_projectOf_39 : decode cX3_projectOf 39 = .ok (.goto (-35), 3) := by decide +kernel
theorem dX3_projectOf_42 : decode cX3_projectOf 42 = .ok (.iconst (-1), 1) := by decide +kernel
theorem dX3_projectOf_43 : decode cX3_projectOf 43 = .ok (.ireturn, 1) := by decide +kernel
set_option maxRecDepth 20000 in
theorem ggX3_isInSubtree_X3_parentOf : GoodIn wsX3_isInSubtree wsX3_parentOf := goodIn_r _ [5, 6, 7, 8, 9, 4, 10, 11, 12, 13, 14, 15] (by decide +kernel) (by decide +kernel)
set_option maxRecDepth 20000 in
theorem gX3_isInSubtree_X3_parentOf : GoodIn wsX3_isInSubtree (wsV RX3 49 RX3 yX3_parentOf wsX3_parentOf) := goodIn_app (goodIn_of _ (by decide +kernel)) ggX3_isInSubtree_X3_parentOf
theorem dX3_isInSubtree_0 : decode cX3_isInSubtree 0 = .ok (.iload_n 1, 1) := by decide +kernel
theorem dX3_isInSubtree_1 : decode cX3_isInSubtree 1 = .ok (.istore_n 3, 1) := by decide +kernel
theorem dX3_isInSubtree_2 : decode cX3_isInSubtree 2 = .ok (.iconst 0, 1) := by decide +kernel
theorem dX3_isInSubtree_3 : decode cX3_isInSubtree 3 = .ok (.istore 4, 2) := by decide +kernel
theorem dX3_isInSubtree_5 : decode cX3_isInSubtree 5 = .ok (.iload 4, 2) := by decide +kernel
theorem dX3_isInSubtree_7 : decode cX3_isInSubtree 7 = .ok (.bipush 40, 2) := by decide +kernel
theorem dX3_isInSubtree_9 : decode cX3_isInSubtree 9 = .ok (.if_icmp .ge 27, 3) := by decide +kernel
theorem dX3_isInSubtree_12 : decode cX3_isInSubtree 12 = .ok (.iload_n 3, 1) := by decide +kernel
theorem dX3_isInSubtree_13 : decode cX3_isInSubtree 13 = .ok (.iconst (-1), 1) := by decide +kernel
theorem dX3_isInSubtree_14 : decode cX3_isInSubtree 14 = .ok (.if_icmp .eq 22, 3) := by decide +kernel
theorem dX3_isInSubtree_17 : decode cX3_isInSubtree 17 = .ok (.iload_n 3, 1) := by decide +kernel
theorem dX3_isInSubtree_18 : decode cX3_isInSubtree 18 = .ok (.iload_n 2, 1) := by decide +kernel
theorem dX3_isInSubtree_19 : decode cX3_isInSubtree 19 = .ok (.if_icmp .ne 5, 3) := by decide +kernel
theorem dX3_isInSubtree_22 : decode cX3_isInSubtree 22 = .ok (.iconst 1, 1) := by decide +kernel
theorem dX3_isInSubtree_23 : decode cX3_isInSubtree 23 = .ok (.ireturn, 1) := by decide +kernel
theorem dX3_isInSubtree_24 : decode cX3_isInSubtree 24 = .ok (.aload_n 0, 1) := by decide +kernel
theorem dX3_isInSubtree_25 : decode cX3_isInSubtree 25 = .ok (.iload_n 3, 1) := by decide +kernel
theorem dX3_isInSubtree_26 : decode cX3_isInSubtree 26 = .ok (.invokevirtual 49, 3) := by decide +kernel
theorem dX3_isInSubtree_29 : decode cX3_isInSubtree 29 = .ok (.istore_n 3, 1) := by decide +kernel
theorem dX3_isInSubtree_30 : decode cX3_isInSubtree 30 = .ok (.iinc 4 1, 3) := by decide +kernel
theorem dX3_isInSubtree_33 : decode cX3_isInSubtree 33 = .ok (.goto (-28), 3) := by decide +kernel
theorem dX3_isInSubtree_36 : decode cX3_isInSubtree 36 = .ok (.iconst 0, 1) := by decide +kernel
theorem dX3_isInSubtree_37 : decode cX3_isInSubtree 37 = .ok (.ireturn, 1) := by decide +kernel
