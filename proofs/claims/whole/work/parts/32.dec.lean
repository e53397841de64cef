theorem dX0_limitOf_0 : decode cX0_limitOf 0 = .ok (.iload_n 2, 1) := by decide +kernel
theorem dX0_limitOf_1 : decode cX0_limitOf 1 = .ok (.ifCond .eq 10, 3) := by decide +kernel
theorem dX0_limitOf_4 : decode cX0_limitOf 4 = .ok (.aload_n 0, 1) := by decide +kernel
theorem dX0_limitOf_5 : decode cX0_limitOf 5 = .ok (.getfield 18, 3) := by decide +kernel
theorem dX0_limitOf_8 : decode cX0_limitOf 8 = .ok (.goto 7, 3) := by decide +kernel
theorem dX0_limitOf_11 : decode cX0_limitOf 11 = .ok (.aload_n 0, 1) := by decide +kernel
theorem dX0_limitOf_12 : decode cX0_limitOf 12 = .ok (.getfield 15, 3) := by decide +kernel
theorem dX0_limitOf_15 : decode cX0_limitOf 15 = .ok (.astore_n 3, 1) := by decide +kernel
theorem dX0_limitOf_16 : decode cX0_limitOf 16 = .ok (.iload_n 1, 1) := by decide +kernel
theorem dX0_limitOf_17 : decode cX0_limitOf 17 = .ok (.ifCond .lt 15, 3) := by decide +kernel
theorem dX0_limitOf_20 : decode cX0_limitOf 20 = .ok (.iload_n 1, 1) := by decide +kernel
theorem dX0_limitOf_21 : decode cX0_limitOf 21 = .ok (.bipush 16, 2) := by decide +kernel
theorem dX0_limitOf_23 : decode cX0_limitOf 23 = .ok (.if_icmp .ge 9, 3) := by decide +kernel
theorem dX0_limitOf_26 : decode cX0_limitOf 26 = .ok (.aload_n 3, 1) := by decide +kernel
theorem dX0_limitOf_27 : decode cX0_limitOf 27 = .ok (.iload_n 1, 1) := by decide +kernel
theorem dX0_limitOf_28 : decode cX0_limitOf 28 = .ok (.iaload, 1) := by decide +kernel
theorem dX0_limitOf_29 : decode cX0_limitOf 29 = .ok (.goto 4, 3) := by decide +kernel
theorem dX0_limitOf_32 : decode cX0_limitOf 32 = .ok (.iconst 0, 1) := by decide +kernel
theorem dX0_limitOf_33 : decode cX0_limitOf 33 = .ok (.ireturn, 1) := by decide +kernel
set_option maxRecDepth 20000 in
theorem ggX0_hasLimit_X0_limitOf : GoodIn wsX0_hasLimit wsX0_limitOf := goodIn_r _ [5, 6, 7, 8, 9, 10, 11] (by decide +kernel) (by decide +kernel)
set_option maxRecDepth 20000 in
theorem gX0_hasLimit_X0_limitOf : GoodIn wsX0_hasLimit (wsV RX0 33 RX0 yX0_limitOf wsX0_limitOf) := goodIn_app (goodIn_of _ (by decide +kernel)) ggX0_hasLimit_X0_limitOf
theorem dX0_hasLimit_0 : decode cX0_hasLimit 0 = .ok (.aload_n 0, 1) := by decide +kernel
theorem dX0_hasLimit_1 : decode cX0_hasLimit 1 = .ok (.iload_n 1, 1) := by decide +kernel
theorem dX0_hasLimit_2 : decode cX0_hasLimit 2 = .ok (.iconst 0, 1) := by decide +kernel
theorem dX0_hasLimit_3 : decode cX0_hasLimit 3 = .ok (.invokevirtual 33, 3) := by decide +kernel
theorem dX0_hasLimit_6 : decode cX0_hasLimit 6 = .ok (.ifCond .gt 12, 3) := by decide +kernel
theorem dX0_hasLimit_9 : decode cX0_hasLimit 9 = .ok (.aload_n 0, 1) := by decide +kernel
theorem dX0_hasLimit_10 : decode cX0_hasLimit 10 = .ok (.iload_n 1, 1) := by decide +kernel
theorem dX0_hasLimit_11 : decode cX0_hasLimit 11 = .ok (.iconst 1, 1) := by decide +kernel
theorem dX0_hasLimit_12 : decode cX0_hasLimit 12 = .ok (.invokevirtual 33, 3) := by decide +kernel
theorem dX0_hasLimit_15 : decode cX0_hasLimit 15 = .ok (.ifCond .le 7, 3) := by decide +kernel
theorem dX0_hasLimit_18 : decode cX0_hasLimit 18 = .ok (.iconst 1, 1) := by decide +kernel
theorem dX0_hasLimit_19 : decode cX0_hasLimit 19 = .ok (.goto 4, 3) := by decide +kernel
theorem dX0_hasLimit_22 : decode cX0_hasLimit 22 = .ok (.iconst 0, 1) := by decide +kernel
theorem dX0_hasLimit_23 : decode cX0_hasLimit 23 = .ok (.ireturn, 1) := by decide +kernel
set_option maxRecDepth 20000 in
theorem ggX2_weightOf_X2_sizeOf : GoodIn wsX2_weightOf wsX2_sizeOf := goodIn_r _ [5, 6, 7, 8, 9, 4, 10, 11, 12, 13, 14] (by decide +kernel) (by decide +kernel)
set_option maxRecDepth 20000 in
theorem gX2_weightOf_X2_sizeOf : GoodIn wsX2_weightOf (wsV RX2 32 RX2 yX2_sizeOf wsX2_sizeOf) := goodIn_app (goodIn_of _ (by decide +kernel)) ggX2_weightOf_X2_sizeOf
theorem dX2_weightOf_0 : decode cX2_weightOf 0 = .ok (.iload_n 2, 1) := by decide +kernel
theorem dX2_weightOf_1 : decode cX2_weightOf 1 = .ok (.ifCond .ne 11, 3) := by decide +kernel
theorem dX2_weightOf_4 : decode cX2_weightOf 4 = .ok (.aload_n 0, 1) := by decide +kernel
theorem dX2_weightOf_5 : decode cX2_weightOf 5 = .ok (.iload_n 1, 1) := by decide +kernel
theorem dX2_weightOf_6 : decode cX2_weightOf 6 = .ok (.invokevirtual 32, 3) := by decide +kernel
theorem dX2_weightOf_9 : decode cX2_weightOf 9 = .ok (.goto 4, 3) := by decide +kernel
theorem dX2_weightOf_12 : decode cX2_weightOf 12 = .ok (.iconst 1, 1) := by decide +kernel
theorem dX2_weightOf_13 : decode cX2_weightOf 13 = .ok (.ireturn, 1) := by decide +kernel
theorem dX2_totalIn_0 : decode cX2_totalIn 0 = .ok (.iconst 0, 1) := by decide +kernel
theorem dX2_totalIn_1 : decode cX2_totalIn 1 = .ok (.istore_n 2, 1) := by decide +kernel
theorem dX2_totalIn_2 : decode cX2_totalIn 2 = .ok (.iconst 0, 1) := by decide +kernel
theorem dX2_totalIn_3 : decode cX2_totalIn 3 = .ok (.istore_n 3, 1) := by decide +kernel
theorem dX2_totalIn_4 : decode cX2_totalIn 4 = .ok (.iload_n 3, 1) := by decide +kernel
theorem dX2_totalIn_5 : decode cX2_totalIn 5 = .ok (.aload_n 0, 1) := by decide +kernel
theorem dX2_totalIn_6 : decode cX2_totalIn 6 = .ok (.getfield 24, 3) := by decide +kernel
theorem dX2_totalIn_9 : decode cX2_totalIn 9 = .ok (.if_icmp .ge 22, 3) := by decide +kernel
theorem dX2_totalIn_12 : decode cX2_totalIn 12 = .ok (.aload_n 0, 1) := by decide +kernel
theorem dX2_totalIn_13 : decode cX2_totalIn 13 = .ok (.getfield 9, 3) := by decide +kernel
theorem dX2_totalIn_16 : decode cX2_totalIn 16 = .ok (.iload_n 3, 1) := by decide +kernel
theorem dX2_totalIn_17 : decode cX2_totalIn 17 = .ok (.iaload, 1) := by decide +kernel
theorem dX2_totalIn_18 : decode cX2_totalIn 18 = .ok (.iload_n 1, 1) := by decide +kernel
theorem dX2_totalIn_19 : decode cX2_totalIn 19 = .ok (.if_icmp .ne 6, 3) := by decide +kernel
theorem dX2_totalIn_22 : decode cX2_totalIn 22 = .ok (.iinc 2 1, 3) := by decide +kernel
theorem dX2_totalIn_25 : decode cX2_totalIn 25 = .ok (.iinc 3 1, 3) := by decide +kernel
theorem dX2_totalIn_28 : decode cX2_totalIn 28 = .ok (.goto (-24), 3) := by decide +kernel
theorem dX2_totalIn_31 : decode cX2_totalIn 31 = .ok (.iload_n 2, 1) := by decide +kernel
theorem dX2_totalIn_32 : decode cX2_totalIn 32 = .ok (.ireturn, 1) := by decide +kernel
set_option maxRecDepth 20000 in
theorem ggX3_subtreeTotal_X3_isInSubtree : GoodIn wsX3_subtreeTotal wsX3_isInSubtree := goodIn_r _ [6, 7, 8, 9, 5, 10, 11, 12, 13, 14, 15, 1, 16, 17, 18, 19] (by decide +kernel) (by decide +kernel)
set_option maxRecDepth 20000 in
theorem gX3_subtreeTotal_X3_isInSubtree : GoodIn wsX3_subtreeTotal (wsV RX3 45 RX3 yX3_isInSubtree wsX3_isInSubtree) := goodIn_app (goodIn_of _ (by decide +kernel)) ggX3_subtreeTotal_X3_isInSubtree
theorem dX3_subtreeTotal_0 : decode cX3_subtreeTotal 0 = .ok (.iconst 0, 1) := by decide +kernel
theorem dX3_subtreeTotal_1 : decode cX3_subtreeTotal 1 = .ok (.istore_n 2, 1) := by decide +kernel
theorem dX3_subtreeTotal_2 : decode cX3_subtreeTotal 2 = .ok (.iconst 0, 1) := by decide +kernel
theorem dX3_subtreeTotal_3 : decode cX3_subtreeTotal 3 = .ok (.istore_n 3, 1) := by decide +kernel
theorem dX3_subtreeTotal_4 : decode cX3_subtreeTotal 4 = .ok (.iload_n 3, 1) := by decide +kernel
theorem dX3_subtreeTotal_5 : decode cX3_subtreeTotal 5 = .ok (.aload_n 0, 1) := by decide +kernel
theorem dX3_subtreeTotal_6 : decode cX3_subtreeTotal 6 = .ok (.getfield 27, 3) := by decide +kernel
theorem dX3_subtreeTotal_9 : decode cX3_subtreeTotal 9 = .ok (.if_icmp .ge 21, 3) := by decide +kernel
theorem dX3_subtreeTotal_12 : decode cX3_subtreeTotal 12 = .ok (.aload_n 0, 1) := by decide +kernel
theorem dX3_subtreeTotal_13 : decode cX3_subtreeTotal 13 = .ok (.iload_n 3, 1) := by decide +kernel
theorem dX3_subtreeTotal_14 : decode cX3_subtreeTotal 14 = .ok (.iload_n 1, 1) := by decide +kernel
theorem dX3_subtreeTotal_15 : decode cX3_subtreeTotal 15 = .ok (.invokevirtual 45, 3) := by decide +kernel
theorem dX3_subtreeTotal_18 : decode cX3_subtreeTotal 18 = .ok (.ifCond .eq 6, 3) := by decide +kernel
theorem dX3_subtreeTotal_21 : decode cX3_subtreeTotal 21 = .ok (.iinc 2 1, 3) := by decide +kernel
theorem dX3_subtreeTotal_24 : decode cX3_subtreeTotal 24 = .ok (.iinc 3 1, 3) := by decide +kernel
theorem dX3_subtreeTotal_27 : decode cX3_subtreeTotal 27 = .ok (.goto (-23), 3) := by decide +kernel
theorem dX3_subtreeTotal_30 : decode cX3_subtreeTotal 30 = .ok (.iload_n 2, 1) := by decide +kernel
theorem dX3_subtreeTotal_31 : decode cX3_subtreeTotal 31 = .ok (.ireturn, 1) := by decide +kernel
set_option maxRecDepth 20000 in
theorem ggX3_ancestorOf_X3_parentOf : GoodIn wsX3_ancestorOf wsX3_parentOf := goodIn_r _ [5, 6, 7, 8, 9, 4, 10, 11, 12, 13, 14, 15] (by decide +kernel) (by decide +kernel)
set_option maxRecDepth 20000 in
theorem gX3_ancestorOf_X3_parentOf : GoodIn wsX3_ancestorOf (wsV RX3 49 RX3 yX3_parentOf wsX3_parentOf) := goodIn_app (goodIn_of _ (by decide +kernel)) ggX3_ancestorOf_X3_parentOf
theorem dX3_ancestorOf_0 : decode cX3_ancestorOf 0 = .ok (.iload_n 1, 1) := by decide +kernel
theorem dX3_ancestorOf_1 : decode cX3_ancestorOf 1 = .ok (.istore_n 3, 1) := by decide +kernel
theorem dX3_ancestorOf_2 : decode cX3_ancestorOf 2 = .ok (.iconst 0, 1) := by decide +kernel
theorem dX3_ancestorOf_3 : decode cX3_ancestorOf 3 = .ok (.istore 4, 2) := by decide +kernel
theorem dX3_ancestorOf_5 : decode cX3_ancestorOf 5 = .ok (.iload 4, 2) := by decide +kernel
theorem dX3_ancestorOf_7 : decode cX3_ancestorOf 7 = .ok (.iload_n 2, 1) := by decide +kernel
theorem dX3_ancestorOf_8 : decode cX3_ancestorOf 8 = .ok (.if_icmp .ge 15, 3) := by decide +kernel
theorem dX3_ancestorOf_11 : decode cX3_ancestorOf 11 = .ok (.aload_n 0, 1) := by decide +kernel
theorem dX3_ancestorOf_12 : decode cX3_ancestorOf 12 = .ok (.iload_n 3, 1) := by decide +kernel
theorem dX3_ancestorOf_13 : decode cX3_ancestorOf 13 = .ok (.invokevirtual 49, 3) := by decide +kernel
theorem dX3_ancestorOf_16 : decode cX3_ancestorOf 16 = .ok (.istore_n 3, 1) := by decide +kernel
theorem dX3_ancestorOf_17 : decode cX3_ancestorOf 17 = .ok (.iinc 4 1, 3) := by decide +kernel
theorem dX3_ancestorOf_20 : decode cX3_ancestorOf 20 = .ok (.goto (-15), 3) := by decide +kernel
theorem dX3_ancestorOf_23 : decode cX3_ancestorOf 23 = .ok (.iload_n 3, 1) := by decide +kernel
theorem dX3_ancestorOf_24 : decode cX3_ancestorOf 24 = .ok (.ireturn, 1) := by decide +kernel
set_option maxRecDepth 20000 in
theorem ggX3_projectIfTagged_X3_parentOf : GoodIn wsX3_projectIfTagged wsX3_parentOf := goodIn_r _ [5, 6, 7, 8, 9, 4, 10, 11, 21, 22, 23, 24] (by decide +kernel) (by decide +kernel)
set_option maxRecDepth 20000 in
theorem gX3_projectIfTagged_X3_parentOf : GoodIn wsX3_projectIfTagged (wsV RX3 49 RX3 yX3_parentOf wsX3_parentOf) := goodIn_app (goodIn_of _ (by decide +kernel)) ggX3_projectIfTagged_X3_parentOf
set_option maxRecDepth 20000 in
theorem ggX3_projectIfTagged_X3_projectOf : GoodIn wsX3_projectIfTagged wsX3_projectOf := goodIn_r _ [15, 16, 17, 18, 4, 19, 20, 7, 8, 9, 10, 11, 1, 2, 3, 5, 6, 21, 22, 23, 24] (by decide +kernel) (by decide +kernel)
set_option maxRecDepth 20000 in
theorem gX3_projectIfTagged_X3_projectOf : GoodIn wsX3_projectIfTagged (wsV RX3 56 RX3 yX3_projectOf wsX3_projectOf) := goodIn_app (goodIn_of _ (by decide +kernel)) ggX3_projectIfTagged_X3_projectOf
theorem dX3_projectIfTagged_0 : decode cX3_projectIfTagged 0 = .ok (.iload_n 2, 1) := by decide +kernel
theorem dX3_projectIfTagged_1 : decode cX3_projectIfTagged 1 = .ok (.iconst (-1), 1) := by decide +kernel
theorem dX3_projectIfTagged_2 : decode cX3_projectIfTagged 2 = .ok (.if_icmp .eq 7, 3) := by decide +kernel
theorem dX3_projectIfTagged_5 : decode cX3_projectIfTagged 5 = .ok (.iload_n 2, 1) := by decide +kernel
theorem dX3_projectIfTagged_6 : decode cX3_projectIfTagged 6 = .ok (.goto 12, 3) := by decide +kernel
theorem dX3_projectIfTagged_9 : decode cX3_projectIfTagged 9 = .ok (.aload_n 0, 1) := by decide +kernel
theorem dX3_projectIfTagged_10 : decode cX3_projectIfTagged 10 = .ok (.aload_n 0, 1) := by decide +kernel
theorem dX3_projectIfTagged_11 : decode cX3_projectIfTagged 11 = .ok (.iload_n 1, 1) := by decide +kernel
theorem dX3_projectIfTagged_12 : decode cX3_projectIfTagged 12 = .ok (.invokevirtual 49, 3) := by decide +kernel
theorem dX3_projectIfTagged_15 : decode cX3_projectIfTagged 15 = .ok (.invokevirtual 56, 3) := by decide +kernel
theorem dX3_projectIfTagged_18 : decode cX3_projectIfTagged 18 = .ok (.ireturn, 1) := by decide +kernel
set_option maxRecDepth 20000 in
theorem ggX3_projectIfMoved_X3_tagOf : GoodIn wsX3_projectIfMoved wsX3_tagOf := goodIn_r _ [5, 6, 7, 8, 9, 4, 10, 11, 21, 22, 23, 24] (by decide +kernel) (by decide +kernel)
set_option maxRecDepth 20000 in
theorem gX3_projectIfMoved_X3_tagOf : GoodIn wsX3_projectIfMoved (wsV RX3 53 RX3 yX3_tagOf wsX3_tagOf) := goodIn_app (goodIn_of _ (by decide +kernel)) ggX3_projectIfMoved_X3_tagOf
set_option maxRecDepth 20000 in
theorem ggX3_projectIfMoved_X3_projectOf : GoodIn wsX3_projectIfMoved wsX3_projectOf := goodIn_r _ [15, 1, 2, 3, 4, 5, 6, 7, 8, 9, 10, 11, 16, 17, 18, 19, 20, 21, 22, 23, 24] (by decide +kernel) (by decide +kernel)
set_option maxRecDepth 20000 in
theorem gX3_projectIfMoved_X3_projectOf : GoodIn wsX3_projectIfMoved (wsV RX3 56 RX3 yX3_projectOf wsX3_projectOf) := goodIn_app (goodIn_of _ (by decide +kernel)) ggX3_projectIfMoved_X3_projectOf
theorem dX3_projectIfMoved_0 : decode cX3_projectIfMoved 0 = .ok (.aload_n 0, 1) := by decide +kernel
theorem dX3_projectIfMoved_1 : decode cX3_projectIfMoved 1 = .ok (.iload_n 1, 1) := by decide +kernel
theorem dX3_projectIfMoved_2 : decode cX3_projectIfMoved 2 = .ok (.invokevirtual 53, 3) := by decide +kernel
theorem dX3_projectIfMoved_5 : decode cX3_projectIfMoved 5 = .ok (.iconst (-1), 1) := by decide +kernel
theorem dX3_projectIfMoved_6 : decode cX3_projectIfMoved 6 = .ok (.if_icmp .eq 11, 3) := by decide +kernel
theorem dX3_projectIfMoved_9 : decode cX3_projectIfMoved 9 = .ok (.aload_n 0, 1) := by decide +kernel
theorem dX3_projectIfMoved_10 : decode cX3_projectIfMoved 10 = .ok (.iload_n 1, 1) := by decide +kernel
theorem dX3_projectIfMoved_11 : decode cX3_projectIfMoved 11 = .ok (.invokevirtual 53, 3) := by decide +kernel
theorem dX3_projectIfMoved_14 : decode cX3_projectIfMoved 14 = .ok (.goto 8, 3) := by decide +kernel
theorem dX3_projectIfMoved_17 : decode cX3_projectIfMoved 17 = .ok (.aload_n 0, 1) := by decide +kernel
theorem dX3_projectIfMoved_18 : decode cX3_projectIfMoved 18 = .ok (.iload_n 2, 1) := by decide +kernel
theorem dX3_projectIfMoved_19 : decode cX3_projectIfMoved 19 = .ok (.invokevirtual 56, 3) := by decide +kernel
theorem dX3_projectIfMoved_22 : decode cX3_projectIfMoved 22 = .ok (.ireturn, 1) := by decide +kernel
set_option maxRecDepth 20000 in
theorem ggX3_isOpenTo_X3_tagOf : GoodIn wsX3_isOpenTo wsX3_tagOf := goodIn_r _ [5, 6, 7, 8, 9, 4, 10, 11, 17, 18, 19, 20] (by decide +kernel) (by decide +kernel)
set_option maxRecDepth 20000 in
theorem gX3_isOpenTo_X3_tagOf : GoodIn wsX3_isOpenTo (wsV RX3 53 RX3 yX3_tagOf wsX3_tagOf) := goodIn_app (goodIn_of _ (by decide +kernel)) ggX3_isOpenTo_X3_tagOf
set_option maxRecDepth 20000 in
theorem ggX3_isOpenTo_X3_parentOf : GoodIn wsX3_isOpenTo wsX3_parentOf := goodIn_r _ [15, 16, 7, 8, 9, 4, 10, 11, 17, 18, 19, 20] (by decide +kernel) (by decide +kernel)
set_option maxRecDepth 20000 in
theorem gX3_isOpenTo_X3_parentOf : GoodIn wsX3_isOpenTo (wsV RX3 49 RX3 yX3_parentOf wsX3_parentOf) := goodIn_app (goodIn_of _ (by decide +kernel)) ggX3_isOpenTo_X3_parentOf
theorem dX3_isOpenTo_0 : decode cX3_isOpenTo 0 = .ok (.iload_n 1, 1) := by decide +kernel
theorem dX3_isOpenTo_1 : decode cX3_isOpenTo 1 = .ok (.istore_n 3, 1) := by decide +kernel
theorem dX3_isOpenTo_2 : decode cX3_isOpenTo 2 = .ok (.iconst 0, 1) := by decide +kernel
theorem dX3_isOpenTo_3 : decode cX3_isOpenTo 3 = .ok (.istore 4, 2) := by decide +kernel
theorem dX3_isOpenTo_5 : decode cX3_isOpenTo 5 = .ok (.iload 4, 2) := by decide +kernel
theorem dX3_isOpenTo_7 : decode cX3_isOpenTo 7 = .ok (.bipush 40, 2) := by decide +kernel
theorem dX3_isOpenTo_9 : decode cX3_isOpenTo 9 = .ok (.if_icmp .ge 38, 3) := by decide +kernel
theorem dX3_isOpenTo_12 : decode cX3_isOpenTo 12 = .ok (.iload_n 3, 1) := by decide +kernel
theorem dX3_isOpenTo_13 : decode cX3_isOpenTo 13 = .ok (.iconst (-1), 1) := by decide +kernel
theorem dX3_isOpenTo_14 : decode cX3_isOpenTo 14 = .ok (.if_icmp .eq 33, 3) := by decide +kernel
theorem dX3_isOpenTo_17 : decode cX3_isOpenTo 17 = .ok (.iload_n 3, 1) := by decide +kernel
theorem dX3_isOpenTo_18 : decode cX3_isOpenTo 18 = .ok (.iload_n 2, 1) := by decide +kernel
theorem dX3_isOpenTo_19 : decode cX3_isOpenTo 19 = .ok (.if_icmp .ne 5, 3) := by decide +kernel
theorem dX3_isOpenTo_22 : decode cX3_isOpenTo 22 = .ok (.iconst 1, 1) := by decide +kernel
theorem dX3_isOpenTo_23 : decode cX3_isOpenTo 23 = .ok (.ireturn, 1) := by decide +kernel
theorem dX3_isOpenTo_24 : decode cX3_isOpenTo 24 = .ok (.aload_n 0, 1) := by decide +kernel
theorem dX3_isOpenTo_25 : decode cX3_isOpenTo 25 = .ok (.iload_n 3, 1) := by decide +kernel
theorem dX3_isOpenTo_26 : decode cX3_isOpenTo 26 = .ok (.invokevirtual 53, 3) := by decide +kernel
theorem dX3_isOpenTo_29 : decode cX3_isOpenTo 29 = .ok (.iconst (-1), 1) := by decide +kernel
theorem dX3_isOpenTo_30 : decode cX3_isOpenTo 30 = .ok (.if_icmp .eq 5, 3) := by decide +kernel
theorem dX3_isOpenTo_33 : decode cX3_isOpenTo 33 = .ok (.iconst 0, 1) := by decide +kernel
theorem dX3_isOpenTo_34 : decode cX3_isOpenTo 34 = .ok (.ireturn, 1) := by decide +kernel
theorem dX3_isOpenTo_35 : decode cX3_isOpenTo 35 = .ok (.aload_n 0, 1) := by decide +kernel
theorem dX3_isOpenTo_36 : decode cX3_isOpenTo 36 = .ok (.iload_n 3, 1) := by decide +kernel
theorem dX3_isOpenTo_37 : decode cX3_isOpenTo 37 = .ok (.invokevirtual 49, 3) := by decide +kernel
theorem dX3_isOpenTo_40 : decode cX3_isOpenTo 40 = .ok (.istore_n 3, 1) := by decide +kernel
theorem dX3_isOpenTo_41 : decode cX3_isOpenTo 41 = .ok (.iinc 4 1, 3) := by decide +kernel
theorem dX3_isOpenTo_44 : decode cX3_isOpenTo 44 = .ok (.goto (-39), 3) := by decide +kernel
theorem dX3_isOpenTo_47 : decode cX3_isOpenTo 47 = .ok (.iconst 0, 1) := by decide +kernel
theorem dX3_isOpenTo_48 : decode cX3_isOpenTo 48 = .ok (.ireturn, 1) := by decide +kernel
set_option maxRecDepth 20000 in
theorem ggX3_nextChild_X3_parentOf : GoodIn wsX3_nextChild wsX3_parentOf := goodIn_r _ [6, 7, 8, 9, 10, 5, 11, 1, 12, 13, 14, 15] (by decide +kernel) (by decide +kernel)
set_option maxRecDepth 20000 in
theorem gX3_nextChild_X3_parentOf : GoodIn wsX3_nextChild (wsV RX3 49 RX3 yX3_parentOf wsX3_parentOf) := goodIn_app (goodIn_of _ (by decide +kernel)) ggX3_nextChild_X3_parentOf
theorem dX3_nextChild_0 : decode cX3_nextChild 0 = .ok (.iload_n 2, 1) := by decide +kernel
theorem dX3_nextChild_1 : decode cX3_nextChild 1 = .ok (.iconst 1, 1) := by decide +kernel
theorem dX3_nextChild_2 : decode cX3_nextChild 2 = .ok (.iadd, 1) := by decide +kernel
theorem dX3_nextChild_3 : decode cX3_nextChild 3 = .ok (.istore_n 3, 1) := by decide +kernel
theorem dX3_nextChild_4 : decode cX3_nextChild 4 = .ok (.iload_n 3, 1) := by decide +kernel
theorem dX3_nextChild_5 : decode cX3_nextChild 5 = .ok (.aload_n 0, 1) := by decide +kernel
theorem dX3_nextChild_6 : decode cX3_nextChild 6 = .ok (.getfield 27, 3) := by decide +kernel
theorem dX3_nextChild_9 : decode cX3_nextChild 9 = .ok (.if_icmp .ge 20, 3) := by decide +kernel
theorem dX3_nextChild_12 : decode cX3_nextChild 12 = .ok (.aload_n 0, 1) := by decide +kernel
theorem dX3_nextChild_13 : decode cX3_nextChild 13 = .ok (.iload_n 3, 1) := by decide +kernel
theorem dX3_nextChild_14 : decode cX3_nextChild 14 = .ok (.invokevirtual 49, 3) := by decide +kernel
theorem dX3_nextChild_17 : decode cX3_nextChild 17 = .ok (.iload_n 1, 1) := by decide +kernel
theorem dX3_nextChild_18 : decode cX3_nextChild 18 = .ok (.if_icmp .ne 5, 3) := by decide +kernel
theorem dX3_nextChild_21 : decode cX3_nextChild 21 = .ok (.iload_n 3, 1) := by decide +kernel
theorem dX3_nextChild_22 : decode cX3_nextChild 22 = .ok (.ireturn, 1) := by decide +kernel
theorem dX3_nextChild_23 : decode cX3_nextChild 23 = .ok (.iinc 3 1, 3) := by decide +kernel
theorem dX3_nextChild_26 : decode cX3_nextChild 26 = .ok (.goto (-22), 3) := by decide +kernel
theorem dX3_nextChild_29 : decode cX3_nextChild 29 = .ok (.iconst (-1), 1) := by decide +kernel
theorem dX3_nextChild_30 : decode cX3_nextChild 30 = .ok (.ireturn, 1) := by decide +kernel
set_option maxRecDepth 20000 in
theorem ggX3_nextInWalk_X3_nextChild : GoodIn wsX3_nextInWalk wsX3_nextChild := goodIn_r _ [5, 6, 7, 8, 9, 4, 10, 11, 12, 13, 14, 15, 16, 17, 18, 19] (by decide +kernel) (by decide +kernel)
set_option maxRecDepth 20000 in
theorem gX3_nextInWalk_X3_nextChild : GoodIn wsX3_nextInWalk (wsV RX3 59 RX3 yX3_nextChild wsX3_nextChild) := goodIn_app (goodIn_of _ (by decide +kernel)) ggX3_nextInWalk_X3_nextChild
set_option maxRecDepth 20000 in
theorem ggX3_nextInWalk_X3_parentOf : GoodIn wsX3_nextInWalk wsX3_parentOf := goodIn_r _ [10, 11, 12, 13, 14, 4, 15, 6, 16, 17, 18, 19] (by decide +kernel) (by decide +kernel)
set_option maxRecDepth 20000 in
theorem gX3_nextInWalk_X3_parentOf : GoodIn wsX3_nextInWalk (wsV RX3 49 RX3 yX3_parentOf wsX3_parentOf) := goodIn_app (goodIn_of _ (by decide +kernel)) ggX3_nextInWalk_X3_parentOf
theorem dX3_nextInWalk_0 : decode cX3_nextInWalk 0 = .ok (.aload_n 0, 1) := by decide +kernel
theorem dX3_nextInWalk_1 : decode cX3_nextInWalk 1 = .ok (.iload_n 1, 1) := by decide +kernel
theorem dX3_nextInWalk_2 : decode cX3_nextInWalk 2 = .ok (.iconst (-1), 1) := by decide +kernel
theorem dX3_nextInWalk_3 : decode cX3_nextInWalk 3 = .ok (.invokevirtual 59, 3) := by decide +kernel
theorem dX3_nextInWalk_6 : decode cX3_nextInWalk 6 = .ok (.istore_n 2, 1) := by decide +kernel
theorem dX3_nextInWalk_7 : decode cX3_nextInWalk 7 = .ok (.iload_n 1, 1) := by decide +kernel
theorem dX3_nextInWalk_8 : decode cX3_nextInWalk 8 = .ok (.istore_n 3, 1) := by decide +kernel
theorem dX3_nextInWalk_9 : decode cX3_nextInWalk 9 = .ok (.iconst 0, 1) := by decide +kernel
theorem dX3_nextInWalk_10 : decode cX3_nextInWalk 10 = .ok (.istore 4, 2) := by decide +kernel
theorem dX3_nextInWalk_12 : decode cX3_nextInWalk 12 = .ok (.iload 4, 2) := by decide +kernel
theorem dX3_nextInWalk_14 : decode cX3_nextInWalk 14 = .ok (.bipush 40, 2) := by decide +kernel
theorem dX3_nextInWalk_16 : decode cX3_nextInWalk 16 = .ok (.if_icmp .ge 35, 3) := by decide +kernel
theorem dX3_nextInWalk_19 : decode cX3_nextInWalk 19 = .ok (.iload_n 2, 1) := by decide +kernel
theorem dX3_nextInWalk_20 : decode cX3_nextInWalk 20 = .ok (.iconst (-1), 1) := by decide +kernel
theorem dX3_nextInWalk_21 : decode cX3_nextInWalk 21 = .ok (.if_icmp .ne 30, 3) := by decide +kernel
theorem dX3_nextInWalk_24 : decode cX3_nextInWalk 24 = .ok (.iload_n 3, 1) := by decide +kernel
theorem dX3_nextInWalk_25 : decode cX3_nextInWalk 25 = .ok (.ifCond .eq 26, 3) := by decide +kernel
theorem dX3_nextInWalk_28 : decode cX3_nextInWalk 28 = .ok (.aload_n 0, 1) := by decide +kernel
theorem dX3_nextInWalk_29 : decode cX3_nextInWalk 29 = .ok (.aload_n 0, 1) := by decide +kernel
theorem dX3_nextInWalk_30 : decode cX3_nextInWalk 30 = .ok (.iload_n 3, 1) := by decide +kernel
theorem dX3_nextInWalk_31 : decode cX3_nextInWalk 31 = .ok (.invokevirtual 49, 3) := by decide +kernel
theorem dX3_nextInWalk_34 : decode cX3_nextInWalk 34 = .ok (.iload_n 3, 1) := by decide +kernel
theorem dX3_nextInWalk_35 : decode cX3_nextInWalk 35 = .ok (.invokevirtual 59, 3) := by decide +kernel
theorem dX3_nextInWalk_38 : decode cX3_nextInWalk 38 = .ok (.istore_n 2, 1) := by decide +kernel
theorem dX3_nextInWalk_39 : decode cX3_nextInWalk 39 = .ok (.aload_n 0, 1) := by decide +kernel
theorem dX3_nextInWalk_40 : decode cX3_nextInWalk 40 = .ok (.iload_n 3, 1) := by decide +kernel
theorem dX3_nextInWalk_41 : decode cX3_nextInWalk 41 = .ok (.invokevirtual 49, 3) := by decide +kernel
theorem dX3_nextInWalk_44 : decode cX3_nextInWalk 44 = .ok (.istore_n 3, 1) := by decide +kernel
theorem dX3_nextInWalk_45 : decode cX3_nextInWalk 45 = .ok (.iinc 4 1, 3) := by decide +kernel
theorem dX3_nextInWalk_48 : decode cX3_nextInWalk 48 = .ok (.goto (-36), 3) := by decide +kernel
theorem dX3_nextInWalk_51 : decode cX3_nextInWalk 51 = .ok (.iload_n 2, 1) := by decide +kernel
theorem dX3_nextInWalk_52 : decode cX3_nextInWalk 52 = .ok (.ireturn, 1) := by decide +kernel
theorem dX4_has_0 : decode cX4_has 0 = .ok (.iload_n 1, 1) := by decide +kernel
theorem dX4_has_1 : decode cX4_has 1 = .ok (.ifCond .lt 15, 3) := by decide +kernel
theorem dX4_has_4 : decode cX4_has 4 = .ok (.iload_n 1, 1) := by decide +kernel
theorem dX4_has_5 : decode cX4_has 5 = .ok (.aload_n 0, 1) := by decide +kernel
theorem dX4_has_6 : decode cX4_has 6 = .ok (.getfield 30, 3) := by decide +kernel
theorem dX4_has_9 : decode cX4_has 9 = .ok (.if_icmp .ge 7, 3) := by decide +kernel
theorem dX4_has_12 : decode cX4_has 12 = .ok (.iconst 1, 1) := by decide +kernel
theorem dX4_has_13 : decode cX4_has 13 = .ok (.goto 4, 3) := by decide +kernel
theorem dX4_has_16 : decode cX4_has 16 = .ok (.iconst 0, 1) := by decide +kernel
theorem dX4_has_17 : decode cX4_has 17 = .ok (.ireturn, 1) := by decide +kernel
theorem dX4_isFull_0 : decode cX4_isFull 0 = .ok (.aload_n 0, 1) := by decide +kernel
theorem dX4_isFull_1 : decode cX4_isFull 1 = .ok (.getfield 30, 3) := by decide +kernel
theorem dX4_isFull_4 : decode cX4_isFull 4 = .ok (.bipush 12, 2) := by decide +kernel
theorem dX4_isFull_6 : decode cX4_isFull 6 = .ok (.if_icmp .lt 7, 3) := by decide +kernel
theorem dX4_isFull_9 : decode cX4_isFull 9 = .ok (.iconst 1, 1) := by decide +kernel
theorem dX4_isFull_10 : decode cX4_isFull 10 = .ok (.goto 4, 3) := by decide +kernel
theorem dX4_isFull_13 : decode cX4_isFull 13 = .ok (.iconst 0, 1) := by decide +kernel
theorem dX4_isFull_14 : decode cX4_isFull 14 = .ok (.ireturn, 1) := by decide +kernel
set_option maxRecDepth 20000 in
theorem ggX4_giverOf_X4_has : GoodIn wsX4_giverOf wsX4_has := goodIn_r _ [6, 7, 8, 9, 10, 11, 12] (by decide +kernel) (by decide +kernel)
set_option maxRecDepth 20000 in
theorem gX4_giverOf_X4_has : GoodIn wsX4_giverOf (wsV RX4 34 RX4 yX4_has wsX4_has) := goodIn_app (goodIn_of _ (by decide +kernel)) ggX4_giverOf_X4_has
theorem dX4_giverOf_0 : decode cX4_giverOf 0 = .ok (.aload_n 0, 1) := by decide +kernel
theorem dX4_giverOf_1 : decode cX4_giverOf 1 = .ok (.iload_n 1, 1) := by decide +kernel
theorem dX4_giverOf_2 : decode cX4_giverOf 2 = .ok (.invokevirtual 34, 3) := by decide +kernel
theorem dX4_giverOf_5 : decode cX4_giverOf 5 = .ok (.ifCond .eq 12, 3) := by decide +kernel
theorem dX4_giverOf_8 : decode cX4_giverOf 8 = .ok (.aload_n 0, 1) := by decide +kernel
theorem dX4_giverOf_9 : decode cX4_giverOf 9 = .ok (.getfield 9, 3) := by decide +kernel
theorem dX4_giverOf_12 : decode cX4_giverOf 12 = .ok (.iload_n 1, 1) := by decide +kernel
theorem dX4_giverOf_13 : decode cX4_giverOf 13 = .ok (.iaload, 1) := by decide +kernel
theorem dX4_giverOf_14 : decode cX4_giverOf 14 = .ok (.goto 4, 3) := by decide +kernel
theorem dX4_giverOf_17 : decode cX4_giverOf 17 = .ok (.iconst (-1), 1) := by decide +kernel
theorem dX4_giverOf_18 : decode cX4_giverOf 18 = .ok (.ireturn, 1) := by decide +kernel
set_option maxRecDepth 20000 in
theorem ggX4_getterOf_X4_has : GoodIn wsX4_getterOf wsX4_has := goodIn_r _ [6, 7, 8, 9, 10, 11, 12] (by decide +kernel) (by decide +kernel)
set_option maxRecDepth 20000 in
theorem gX4_getterOf_X4_has : GoodIn wsX4_getterOf (wsV RX4 34 RX4 yX4_has wsX4_has) := goodIn_app (goodIn_of _ (by decide +kernel)) ggX4_getterOf_X4_has
theorem dX4_getterOf_0 : decode cX4_getterOf 0 = .ok (.aload_n 0, 1) := by decide +kernel
theorem dX4_getterOf_1 : decode cX4_getterOf 1 = .ok (.iload_n 1, 1) := by decide +kernel
theorem dX4_getterOf_2 : decode cX4_getterOf 2 = .ok (.invokevirtual 34, 3) := by decide +kernel
theorem dX4_getterOf_5 : decode cX4_getterOf 5 = .ok (.ifCond .eq 12, 3) := by decide +kernel
theorem dX4_getterOf_8 : decode cX4_getterOf 8 = .ok (.aload_n 0, 1) := by decide +kernel
theorem dX4_getterOf_9 : decode cX4_getterOf 9 = .ok (.getfield 15, 3) := by decide +kernel
theorem dX4_getterOf_12 : decode cX4_getterOf 12 = .ok (.iload_n 1, 1) := by decide +kernel
theorem dX4_getterOf_13 : decode cX4_getterOf 13 = .ok (.iaload, 1) := by decide +kernel
theorem dX4_getterOf_14 : decode cX4_getterOf 14 = .ok (.goto 4, 3) := by decide +kernel
theorem dX4_getterOf_17 : decode cX4_getterOf 17 = .ok (.iconst (-1), 1) := by decide +kernel
theorem dX4_getterOf_18 : decode cX4_getterOf 18 = .ok (.ireturn, 1) := by decide +kernel
set_option maxRecDepth 20000 in
theorem ggX4_blocksOf_X4_has : GoodIn wsX4_blocksOf wsX4_has := goodIn_r _ [6, 7, 8, 9, 10, 11, 12] (by decide +kernel) (by decide +kernel)
set_option maxRecDepth 20000 in
theorem gX4_blocksOf_X4_has : GoodIn wsX4_blocksOf (wsV RX4 34 RX4 yX4_has wsX4_has) := goodIn_app (goodIn_of _ (by decide +kernel)) ggX4_blocksOf_X4_has
theorem dX4_blocksOf_0 : decode cX4_blocksOf 0 = .ok (.aload_n 0, 1) := by decide +kernel
theorem dX4_blocksOf_1 : decode cX4_blocksOf 1 = .ok (.iload_n 1, 1) := by decide +kernel
theorem dX4_blocksOf_2 : decode cX4_blocksOf 2 = .ok (.invokevirtual 34, 3) := by decide +kernel
theorem dX4_blocksOf_5 : decode cX4_blocksOf 5 = .ok (.ifCond .eq 12, 3) := by decide +kernel
theorem dX4_blocksOf_8 : decode cX4_blocksOf 8 = .ok (.aload_n 0, 1) := by decide +kernel
theorem dX4_blocksOf_9 : decode cX4_blocksOf 9 = .ok (.getfield 18, 3) := by decide +kernel
theorem dX4_blocksOf_12 : decode cX4_blocksOf 12 = .ok (.iload_n 1, 1) := by decide +kernel
theorem dX4_blocksOf_13 : decode cX4_blocksOf 13 = .ok (.iaload, 1) := by decide +kernel
theorem dX4_blocksOf_14 : decode cX4_blocksOf 14 = .ok (.goto 4, 3) := by decide +kernel
theorem dX4_blocksOf_17 : decode cX4_blocksOf 17 = .ok (.iconst 0, 1) := by decide +kernel
theorem dX4_blocksOf_18 : decode cX4_blocksOf 18 = .ok (.ireturn, 1) := by decide +kernel
set_option maxRecDepth 20000 in
theorem ggX4_endOf_X4_has : GoodIn wsX4_endOf wsX4_has := goodIn_r _ [6, 7, 8, 9, 10, 11, 12] (by decide +kernel) (by decide +kernel)
set_option maxRecDepth 20000 in
theorem gX4_endOf_X4_has : GoodIn wsX4_endOf (wsV RX4 34 RX4 yX4_has wsX4_has) := goodIn_app (goodIn_of _ (by decide +kernel)) ggX4_endOf_X4_has
theorem dX4_endOf_0 : decode cX4_endOf 0 = .ok (.aload_n 0, 1) := by decide +kernel
theorem dX4_endOf_1 : decode cX4_endOf 1 = .ok (.iload_n 1, 1) := by decide +kernel
theorem dX4_endOf_2 : decode cX4_endOf 2 = .ok (.invokevirtual 34, 3) := by decide +kernel
theorem dX4_endOf_5 : decode cX4_endOf 5 = .ok (.ifCond .eq 12, 3) := by decide +kernel
theorem dX4_endOf_8 : decode cX4_endOf 8 = .ok (.aload_n 0, 1) := by decide +kernel
theorem dX4_endOf_9 : decode cX4_endOf 9 = .ok (.getfield 21, 3) := by decide +kernel
theorem dX4_endOf_12 : decode cX4_endOf 12 = .ok (.iload_n 1, 1) := by decide +kernel
theorem dX4_endOf_13 : decode cX4_endOf 13 = .ok (.iaload, 1) := by decide +kernel
theorem dX4_endOf_14 : decode cX4_endOf 14 = .ok (.goto 4, 3) := by decide +kernel
theorem dX4_endOf_17 : decode cX4_endOf 17 = .ok (.iconst (-1), 1) := by decide +kernel
theorem dX4_endOf_18 : decode cX4_endOf 18 = .ok (.ireturn, 1) := by decide +kernel
theorem dX4_firstEnd_0 : decode cX4_firstEnd 0 = .ok (.iconst (-1), 1) := by decide +kernel
theorem dX4_firstEnd_1 : decode cX4_firstEnd 1 = .ok (.istore_n 1, 1) := by decide +kernel
theorem dX4_firstEnd_2 : decode cX4_firstEnd 2 = .ok (.iconst 0, 1) := by decide +kernel
theorem dX4_firstEnd_3 : decode cX4_firstEnd 3 = .ok (.istore_n 2, 1) := by decide +kernel
theorem dX4_firstEnd_4 : decode cX4_firstEnd 4 = .ok (.iload_n 2, 1) := by decide +kernel
theorem dX4_firstEnd_5 : decode cX4_firstEnd 5 = .ok (.aload_n 0, 1) := by decide +kernel
theorem dX4_firstEnd_6 : decode cX4_firstEnd 6 = .ok (.getfield 30, 3) := by decide +kernel
theorem dX4_firstEnd_9 : decode cX4_firstEnd 9 = .ok (.if_icmp .ge 31, 3) := by decide +kernel
theorem dX4_firstEnd_12 : decode cX4_firstEnd 12 = .ok (.iload_n 1, 1) := by decide +kernel
theorem dX4_firstEnd_13 : decode cX4_firstEnd 13 = .ok (.iconst (-1), 1) := by decide +kernel
theorem dX4_firstEnd_14 : decode cX4_firstEnd 14 = .ok (.if_icmp .eq 13, 3) := by decide +kernel
theorem dX4_firstEnd_17 : decode cX4_firstEnd 17 = .ok (.aload_n 0, 1) := by decide +kernel
theorem dX4_firstEnd_18 : decode cX4_firstEnd 18 = .ok (.getfield 21, 3) := by decide +kernel
theorem dX4_firstEnd_21 : decode cX4_firstEnd 21 = .ok (.iload_n 2, 1) := by decide +kernel
theorem dX4_firstEnd_22 : decode cX4_firstEnd 22 = .ok (.iaload, 1) := by decide +kernel
theorem dX4_firstEnd_23 : decode cX4_firstEnd 23 = .ok (.iload_n 1, 1) := by decide +kernel
theorem dX4_firstEnd_24 : decode cX4_firstEnd 24 = .ok (.if_icmp .ge 10, 3) := by decide +kernel
theorem dX4_firstEnd_27 : decode cX4_firstEnd 27 = .ok (.aload_n 0, 1) := by decide +kernel
theorem dX4_firstEnd_28 : decode cX4_firstEnd 28 = .ok (.getfield 21, 3) := by decide +kernel
theorem dX4_firstEnd_31 : decode cX4_firstEnd 31 = .ok (.iload_n 2, 1) := by decide +kernel
theorem dX4_firstEnd_32 : decode cX4_firstEnd 32 = .ok (.iaload, 1) := by decide +kernel
theorem dX4_firstEnd_33 : decode cX4_firstEnd 33 = .ok (.istore_n 1, 1) := by decide +kernel
theorem dX4_firstEnd_34 : decode cX4_firstEnd 34 = .ok (.iinc 2 1, 3) := by decide +kernel
theorem dX4_firstEnd_37 : decode cX4_firstEnd 37 = .ok (.goto (-33), 3) := by decide +kernel
theorem dX4_firstEnd_40 : decode cX4_firstEnd 40 = .ok (.iload_n 1, 1) := by decide +kernel
theorem dX4_firstEnd_41 : decode cX4_firstEnd 41 = .ok (.ireturn, 1) := by decide +kernel
theorem dX4_concern_0 : decode cX4_concern 0 = .ok (.iconst 0, 1) := by decide +kernel
theorem dX4_concern_1 : decode cX4_concern 1 = .ok (.istore_n 2, 1) := by decide +kernel
theorem dX4_concern_2 : decode cX4_concern 2 = .ok (.iload_n 2, 1) := by decide +kernel
theorem dX4_concern_3 : decode cX4_concern 3 = .ok (.aload_n 0, 1) := by decide +kernel
theorem dX4_concern_4 : decode cX4_concern 4 = .ok (.getfield 30, 3) := by decide +kernel
theorem dX4_concern_7 : decode cX4_concern 7 = .ok (.if_icmp .ge 31, 3) := by decide +kernel
theorem dX4_concern_10 : decode cX4_concern 10 = .ok (.aload_n 0, 1) := by decide +kernel
theorem dX4_concern_11 : decode cX4_concern 11 = .ok (.getfield 9, 3) := by decide +kernel
theorem dX4_concern_14 : decode cX4_concern 14 = .ok (.iload_n 2, 1) := by decide +kernel
theorem dX4_concern_15 : decode cX4_concern 15 = .ok (.iaload, 1) := by decide +kernel
theorem dX4_concern_16 : decode cX4_concern 16 = .ok (.iload_n 1, 1) := by decide +kernel
theorem dX4_concern_17 : decode cX4_concern 17 = .ok (.if_icmp .eq 13, 3) := by decide +kernel
theorem dX4_concern_20 : decode cX4_concern 20 = .ok (.aload_n 0, 1) := by decide +kernel
theorem dX4_concern_21 : decode cX4_concern 21 = .ok (.getfield 15, 3) := by decide +kernel
theorem dX4_concern_24 : decode cX4_concern 24 = .ok (.iload_n 2, 1) := by decide +kernel
theorem dX4_concern_25 : decode cX4_concern 25 = .ok (.iaload, 1) := by decide +kernel
theorem dX4_concern_26 : decode cX4_concern 26 = .ok (.iload_n 1, 1) := by decide +kernel
theorem dX4_concern_27 : decode cX4_concern 27 = .ok (.if_icmp .ne 5, 3) := by decide +kernel
theorem dX4_concern_30 : decode cX4_concern 30 = .ok (.iconst 1, 1) := by decide +kernel
theorem dX4_concern_31 : decode cX4_concern 31 = .ok (.ireturn, 1) := by decide +kernel
theorem dX4_concern_32 : decode cX4_concern 32 = .ok (.iinc 2 1, 3) := by decide +kernel
theorem dX4_concern_35 : decode cX4_concern 35 = .ok (.goto (-33), 3) := by decide +kernel
theorem dX4_concern_38 : decode cX4_concern 38 = .ok (.iconst 0, 1) := by decide +kernel
theorem dX4_concern_39 : decode cX4_concern 39 = .ok (.ireturn, 1) := by decide +kernel
theorem dX4_balanceOf_0 : decode cX4_balanceOf 0 = .ok (.iconst 0, 1) := by decide +kernel
theorem dX4_balanceOf_1 : decode cX4_balanceOf 1 = .ok (.istore_n 2, 1) := by decide +kernel
theorem dX4_balanceOf_2 : decode cX4_balanceOf 2 = .ok (.iconst 0, 1) := by decide +kernel
theorem dX4_balanceOf_3 : decode cX4_balanceOf 3 = .ok (.istore_n 3, 1) := by decide +kernel
theorem dX4_balanceOf_4 : decode cX4_balanceOf 4 = .ok (.iload_n 3, 1) := by decide +kernel
theorem dX4_balanceOf_5 : decode cX4_balanceOf 5 = .ok (.aload_n 0, 1) := by decide +kernel
theorem dX4_balanceOf_6 : decode cX4_balanceOf 6 = .ok (.getfield 30, 3) := by decide +kernel
theorem dX4_balanceOf_9 : decode cX4_balanceOf 9 = .ok (.if_icmp .ge 47, 3) := by decide +kernel
theorem dX4_balanceOf_12 : decode cX4_balanceOf 12 = .ok (.aload_n 0, 1) := by decide +kernel
theorem dX4_balanceOf_13 : decode cX4_balanceOf 13 = .ok (.getfield 15, 3) := by decide +kernel
theorem dX4_balanceOf_16 : decode cX4_balanceOf 16 = .ok (.iload_n 3, 1) := by decide +kernel
theorem dX4_balanceOf_17 : decode cX4_balanceOf 17 = .ok (.iaload, 1) := by decide +kernel
theorem dX4_balanceOf_18 : decode cX4_balanceOf 18 = .ok (.iload_n 1, 1) := by decide +kernel
theorem dX4_balanceOf_19 : decode cX4_balanceOf 19 = .ok (.if_icmp .ne 12, 3) := by decide +kernel
theorem dX4_balanceOf_22 : decode cX4_balanceOf 22 = .ok (.iload_n 2, 1) := by decide +kernel
theorem dX4_balanceOf_23 : decode cX4_balanceOf 23 = .ok (.aload_n 0, 1) := by decide +kernel
theorem dX4_balanceOf_24 : decode cX4_balanceOf 24 = .ok (.getfield 18, 3) := by decide +kernel
theorem dX4_balanceOf_27 : decode cX4_balanceOf 27 = .ok (.iload_n 3, 1) := by decide +kernel
theorem dX4_balanceOf_28 : decode cX4_balanceOf 28 = .ok (.iaload, 1) := by decide +kernel
theorem dX4_balanceOf_29 : decode cX4_balanceOf 29 = .ok (.iadd, 1) := by decide +kernel
theorem dX4_balanceOf_30 : decode cX4_balanceOf 30 = .ok (.istore_n 2, 1) := by decide +kernel
theorem dX4_balanceOf_31 : decode cX4_balanceOf 31 = .ok (.aload_n 0, 1) := by decide +kernel
theorem dX4_balanceOf_32 : decode cX4_balanceOf 32 = .ok (.getfield 9, 3) := by decide +kernel
theorem dX4_balanceOf_35 : decode cX4_balanceOf 35 = .ok (.iload_n 3, 1) := by decide +kernel
theorem dX4_balanceOf_36 : decode cX4_balanceOf 36 = .ok (.iaload, 1) := by decide +kernel
theorem dX4_balanceOf_37 : decode cX4_balanceOf 37 = .ok (.iload_n 1, 1) := by decide +kernel
theorem dX4_balanceOf_38 : decode cX4_balanceOf 38 = .ok (.if_icmp .ne 12, 3) := by decide +kernel
theorem dX4_balanceOf_41 : decode cX4_balanceOf 41 = .ok (.iload_n 2, 1) := by decide +kernel
theorem dX4_balanceOf_42 : decode cX4_balanceOf 42 = .ok (.aload_n 0, 1) := by decide +kernel
theorem dX4_balanceOf_43 : decode cX4_balanceOf 43 = .ok (.getfield 18, 3) := by decide +kernel
theorem dX4_balanceOf_46 : decode cX4_balanceOf 46 = .ok (.iload_n 3, 1) := by decide +kernel
theorem dX4_balanceOf_47 : decode cX4_balanceOf 47 = .ok (.iaload, 1) := by decide +kernel
theorem dX4_balanceOf_48 : decode cX4_balanceOf 48 = .ok (.isub, 1) := by decide +kernel
theorem dX4_balanceOf_49 : decode cX4_balanceOf 49 = .ok (.istore_n 2, 1) := by decide +kernel
theorem dX4_balanceOf_50 : decode cX4_balanceOf 50 = .ok (.iinc 3 1, 3) := by decide +kernel
theorem dX4_balanceOf_53 : decode cX4_balanceOf 53 = .ok (.goto (-49), 3) := by decide +kernel
theorem dX4_balanceOf_56 : decode cX4_balanceOf 56 = .ok (.iload_n 2, 1) := by decide +kernel
theorem dX4_balanceOf_57 : decode cX4_balanceOf 57 = .ok (.ireturn, 1) := by decide +kernel
theorem dX7_accountOf_0 : decode cX7_accountOf 0 = .ok (.iload_n 0, 1) := by decide +kernel
theorem dX7_accountOf_1 : decode cX7_accountOf 1 = .ok (.iconst 2, 1) := by decide +kernel
theorem dX7_accountOf_2 : decode cX7_accountOf 2 = .ok (.imul, 1) := by decide +kernel
theorem dX7_accountOf_3 : decode cX7_accountOf 3 = .ok (.iload_n 1, 1) := by decide +kernel
theorem dX7_accountOf_4 : decode cX7_accountOf 4 = .ok (.iadd, 1) := by decide +kernel
theorem dX7_accountOf_5 : decode cX7_accountOf 5 = .ok (.ireturn, 1) := by decide +kernel
