theorem dX0_clear_0 : decode cX0_clear 0 = .ok (.iconst 0, 1) := by decide +kernel
theorem dX0_clear_1 : decode cX0_clear 1 = .ok (.istore_n 1, 1) := by decide +kernel
theorem dX0_clear_2 : decode cX0_clear 2 = .ok (.iload_n 1, 1) := by decide +kernel
theorem dX0_clear_3 : decode cX0_clear 3 = .ok (.bipush 16, 2) := by decide +kernel
theorem dX0_clear_5 : decode cX0_clear 5 = .ok (.if_icmp .ge 37, 3) := by decide +kernel
theorem dX0_clear_8 : decode cX0_clear 8 = .ok (.aload_n 0, 1) := by decide +kernel
theorem dX0_clear_9 : decode cX0_clear 9 = .ok (.getfield 9, 3) := by decide +kernel
theorem dX0_clear_12 : decode cX0_clear 12 = .ok (.iload_n 1, 1) := by decide +kernel
theorem dX0_clear_13 : decode cX0_clear 13 = .ok (.iconst 0, 1) := by decide +kernel
theorem dX0_clear_14 : decode cX0_clear 14 = .ok (.iastore, 1) := by decide +kernel
theorem dX0_clear_15 : decode cX0_clear 15 = .ok (.aload_n 0, 1) := by decide +kernel
theorem dX0_clear_16 : decode cX0_clear 16 = .ok (.getfield 15, 3) := by decide +kernel
theorem dX0_clear_19 : decode cX0_clear 19 = .ok (.iload_n 1, 1) := by decide +kernel
theorem dX0_clear_20 : decode cX0_clear 20 = .ok (.iconst 0, 1) := by decide +kernel
theorem dX0_clear_21 : decode cX0_clear 21 = .ok (.iastore, 1) := by decide +kernel
theorem dX0_clear_22 : decode cX0_clear 22 = .ok (.aload_n 0, 1) := by decide +kernel
theorem dX0_clear_23 : decode cX0_clear 23 = .ok (.getfield 18, 3) := by decide +kernel
theorem dX0_clear_26 : decode cX0_clear 26 = .ok (.iload_n 1, 1) := by decide +kernel
theorem dX0_clear_27 : decode cX0_clear 27 = .ok (.iconst 0, 1) := by decide +kernel
theorem dX0_clear_28 : decode cX0_clear 28 = .ok (.iastore, 1) := by decide +kernel
theorem dX0_clear_29 : decode cX0_clear 29 = .ok (.aload_n 0, 1) := by decide +kernel
theorem dX0_clear_30 : decode cX0_clear 30 = .ok (.getfield 21, 3) := by decide +kernel
theorem dX0_clear_33 : decode cX0_clear 33 = .ok (.iload_n 1, 1) := by decide +kernel
theorem dX0_clear_34 : decode cX0_clear 34 = .ok (.iconst (-1), 1) := by decide +kernel
theorem dX0_clear_35 : decode cX0_clear 35 = .ok (.iastore, 1) := by decide +kernel
theorem dX0_clear_36 : decode cX0_clear 36 = .ok (.iinc 1 1, 3) := by decide +kernel
theorem dX0_clear_39 : decode cX0_clear 39 = .ok (.goto (-37), 3) := by decide +kernel
theorem dX0_clear_42 : decode cX0_clear 42 = .ok (.return_, 1) := by decide +kernel
theorem dX0_copyFrom_0 : decode cX0_copyFrom 0 = .ok (.aload_n 1, 1) := by decide +kernel
theorem dX0_copyFrom_1 : decode cX0_copyFrom 1 = .ok (.getfield 9, 3) := by decide +kernel
theorem dX0_copyFrom_4 : decode cX0_copyFrom 4 = .ok (.iconst 0, 1) := by decide +kernel
theorem dX0_copyFrom_5 : decode cX0_copyFrom 5 = .ok (.aload_n 0, 1) := by decide +kernel
theorem dX0_copyFrom_6 : decode cX0_copyFrom 6 = .ok (.getfield 9, 3) := by decide +kernel
theorem dX0_copyFrom_9 : decode cX0_copyFrom 9 = .ok (.iconst 0, 1) := by decide +kernel
theorem dX0_copyFrom_10 : decode cX0_copyFrom 10 = .ok (.bipush 16, 2) := by decide +kernel
theorem dX0_copyFrom_12 : decode cX0_copyFrom 12 = .ok (.invokestatic 27, 3) := by decide +kernel
theorem dX0_copyFrom_15 : decode cX0_copyFrom 15 = .ok (.aload_n 1, 1) := by decide +kernel
theorem dX0_copyFrom_16 : decode cX0_copyFrom 16 = .ok (.getfield 15, 3) := by decide +kernel
theorem dX0_copyFrom_19 : decode cX0_copyFrom 19 = .ok (.iconst 0, 1) := by decide +kernel
theorem dX0_copyFrom_20 : decode cX0_copyFrom 20 = .ok (.aload_n 0, 1) := by decide +kernel
theorem dX0_copyFrom_21 : decode cX0_copyFrom 21 = .ok (.getfield 15, 3) := by decide +kernel
theorem dX0_copyFrom_24 : decode cX0_copyFrom 24 = .ok (.iconst 0, 1) := by decide +kernel
theorem dX0_copyFrom_25 : decode cX0_copyFrom 25 = .ok (.bipush 16, 2) := by decide +kernel
theorem dX0_copyFrom_27 : decode cX0_copyFrom 27 = .ok (.invokestatic 27, 3) := by decide +kernel
theorem dX0_copyFrom_30 : decode cX0_copyFrom 30 = .ok (.aload_n 1, 1) := by decide +kernel
theorem dX0_copyFrom_31 : decode cX0_copyFrom 31 = .ok (.getfield 18, 3) := by decide +kernel
theorem dX0_copyFrom_34 : decode cX0_copyFrom 34 = .ok (.iconst 0, 1) := by decide +kernel
theorem dX0_copyFrom_35 : decode cX0_copyFrom 35 = .ok (.aload_n 0, 1) := by decide +kernel
theorem dX0_copyFrom_36 : decode cX0_copyFrom 36 = .ok (.getfield 18, 3) := by decide +kernel
theorem dX0_copyFrom_39 : decode cX0_copyFrom 39 = .ok (.iconst 0, 1) := by decide +kernel
theorem dX0_copyFrom_40 : decode cX0_copyFrom 40 = .ok (.bipush 16, 2) := by decide +kernel
theorem dX0_copyFrom_42 : decode cX0_copyFrom 42 = .ok (.invokestatic 27, 3) := by decide +kernel
theorem dX0_copyFrom_45 : decode cX0_copyFrom 45 = .ok (.aload_n 1, 1) := by decide +kernel
theorem dX0_copyFrom_46 : decode cX0_copyFrom 46 = .ok (.getfield 21, 3) := by decide +kernel
theorem dX0_copyFrom_49 : decode cX0_copyFrom 49 = .ok (.iconst 0, 1) := by decide +kernel
theorem dX0_copyFrom_50 : decode cX0_copyFrom 50 = .ok (.aload_n 0, 1) := by decide +kernel
theorem dX0_copyFrom_51 : decode cX0_copyFrom 51 = .ok (.getfield 21, 3) := by decide +kernel
theorem dX0_copyFrom_54 : decode cX0_copyFrom 54 = .ok (.iconst 0, 1) := by decide +kernel
theorem dX0_copyFrom_55 : decode cX0_copyFrom 55 = .ok (.bipush 16, 2) := by decide +kernel
theorem dX0_copyFrom_57 : decode cX0_copyFrom 57 = .ok (.invokestatic 27, 3) := by decide +kernel
theorem dX0_copyFrom_60 : decode cX0_copyFrom 60 = .ok (.return_, 1) := by decide +kernel
theorem dX2_copyFrom_0 : decode cX2_copyFrom 0 = .ok (.aload_n 1, 1) := by decide +kernel
theorem dX2_copyFrom_1 : decode cX2_copyFrom 1 = .ok (.getfield 9, 3) := by decide +kernel
theorem dX2_copyFrom_4 : decode cX2_copyFrom 4 = .ok (.iconst 0, 1) := by decide +kernel
theorem dX2_copyFrom_5 : decode cX2_copyFrom 5 = .ok (.aload_n 0, 1) := by decide +kernel
theorem dX2_copyFrom_6 : decode cX2_copyFrom 6 = .ok (.getfield 9, 3) := by decide +kernel
theorem dX2_copyFrom_9 : decode cX2_copyFrom 9 = .ok (.iconst 0, 1) := by decide +kernel
theorem dX2_copyFrom_10 : decode cX2_copyFrom 10 = .ok (.bipush 60, 2) := by decide +kernel
theorem dX2_copyFrom_12 : decode cX2_copyFrom 12 = .ok (.invokestatic 18, 3) := by decide +kernel
theorem dX2_copyFrom_15 : decode cX2_copyFrom 15 = .ok (.aload_n 1, 1) := by decide +kernel
theorem dX2_copyFrom_16 : decode cX2_copyFrom 16 = .ok (.getfield 15, 3) := by decide +kernel
theorem dX2_copyFrom_19 : decode cX2_copyFrom 19 = .ok (.iconst 0, 1) := by decide +kernel
theorem dX2_copyFrom_20 : decode cX2_copyFrom 20 = .ok (.aload_n 0, 1) := by decide +kernel
theorem dX2_copyFrom_21 : decode cX2_copyFrom 21 = .ok (.getfield 15, 3) := by decide +kernel
theorem dX2_copyFrom_24 : decode cX2_copyFrom 24 = .ok (.iconst 0, 1) := by decide +kernel
theorem dX2_copyFrom_25 : decode cX2_copyFrom 25 = .ok (.bipush 60, 2) := by decide +kernel
theorem dX2_copyFrom_27 : decode cX2_copyFrom 27 = .ok (.invokestatic 18, 3) := by decide +kernel
theorem dX2_copyFrom_30 : decode cX2_copyFrom 30 = .ok (.aload_n 0, 1) := by decide +kernel
theorem dX2_copyFrom_31 : decode cX2_copyFrom 31 = .ok (.aload_n 1, 1) := by decide +kernel
theorem dX2_copyFrom_32 : decode cX2_copyFrom 32 = .ok (.getfield 24, 3) := by decide +kernel
theorem dX2_copyFrom_35 : decode cX2_copyFrom 35 = .ok (.putfield 24, 3) := by decide +kernel
theorem dX2_copyFrom_38 : decode cX2_copyFrom 38 = .ok (.return_, 1) := by decide +kernel
theorem dX3_clear_0 : decode cX3_clear 0 = .ok (.aload_n 0, 1) := by decide +kernel
theorem dX3_clear_1 : decode cX3_clear 1 = .ok (.getfield 9, 3) := by decide +kernel
theorem dX3_clear_4 : decode cX3_clear 4 = .ok (.iconst 0, 1) := by decide +kernel
theorem dX3_clear_5 : decode cX3_clear 5 = .ok (.iconst (-1), 1) := by decide +kernel
theorem dX3_clear_6 : decode cX3_clear 6 = .ok (.iastore, 1) := by decide +kernel
theorem dX3_clear_7 : decode cX3_clear 7 = .ok (.aload_n 0, 1) := by decide +kernel
theorem dX3_clear_8 : decode cX3_clear 8 = .ok (.getfield 15, 3) := by decide +kernel
theorem dX3_clear_11 : decode cX3_clear 11 = .ok (.iconst 0, 1) := by decide +kernel
theorem dX3_clear_12 : decode cX3_clear 12 = .ok (.ldc2_w 25, 3) := by decide +kernel
theorem dX3_clear_15 : decode cX3_clear 15 = .ok (.lastore, 1) := by decide +kernel
theorem dX3_clear_16 : decode cX3_clear 16 = .ok (.aload_n 0, 1) := by decide +kernel
theorem dX3_clear_17 : decode cX3_clear 17 = .ok (.getfield 19, 3) := by decide +kernel
theorem dX3_clear_20 : decode cX3_clear 20 = .ok (.iconst 0, 1) := by decide +kernel
theorem dX3_clear_21 : decode cX3_clear 21 = .ok (.iconst (-1), 1) := by decide +kernel
theorem dX3_clear_22 : decode cX3_clear 22 = .ok (.iastore, 1) := by decide +kernel
theorem dX3_clear_23 : decode cX3_clear 23 = .ok (.aload_n 0, 1) := by decide +kernel
theorem dX3_clear_24 : decode cX3_clear 24 = .ok (.iconst 1, 1) := by decide +kernel
theorem dX3_clear_25 : decode cX3_clear 25 = .ok (.putfield 27, 3) := by decide +kernel
theorem dX3_clear_28 : decode cX3_clear 28 = .ok (.return_, 1) := by decide +kernel
theorem dX3_copyFrom_0 : decode cX3_copyFrom 0 = .ok (.aload_n 1, 1) := by decide +kernel
theorem dX3_copyFrom_1 : decode cX3_copyFrom 1 = .ok (.getfield 9, 3) := by decide +kernel
theorem dX3_copyFrom_4 : decode cX3_copyFrom 4 = .ok (.iconst 0, 1) := by decide +kernel
theorem dX3_copyFrom_5 : decode cX3_copyFrom 5 = .ok (.aload_n 0, 1) := by decide +kernel
theorem dX3_copyFrom_6 : decode cX3_copyFrom 6 = .ok (.getfield 9, 3) := by decide +kernel
theorem dX3_copyFrom_9 : decode cX3_copyFrom 9 = .ok (.iconst 0, 1) := by decide +kernel
theorem dX3_copyFrom_10 : decode cX3_copyFrom 10 = .ok (.bipush 40, 2) := by decide +kernel
theorem dX3_copyFrom_12 : decode cX3_copyFrom 12 = .ok (.invokestatic 31, 3) := by decide +kernel
theorem dX3_copyFrom_15 : decode cX3_copyFrom 15 = .ok (.aload_n 1, 1) := by decide +kernel
theorem dX3_copyFrom_16 : decode cX3_copyFrom 16 = .ok (.getfield 15, 3) := by decide +kernel
theorem dX3_copyFrom_19 : decode cX3_copyFrom 19 = .ok (.iconst 0, 1) := by decide +kernel
theorem dX3_copyFrom_20 : decode cX3_copyFrom 20 = .ok (.aload_n 0, 1) := by decide +kernel
theorem dX3_copyFrom_21 : decode cX3_copyFrom 21 = .ok (.getfield 15, 3) := by decide +kernel
theorem dX3_copyFrom_24 : decode cX3_copyFrom 24 = .ok (.iconst 0, 1) := by decide +kernel
theorem dX3_copyFrom_25 : decode cX3_copyFrom 25 = .ok (.bipush 40, 2) := by decide +kernel
theorem dX3_copyFrom_27 : decode cX3_copyFrom 27 = .ok (.invokestatic 31, 3) := by decide +kernel
theorem dX3_copyFrom_30 : decode cX3_copyFrom 30 = .ok (.aload_n 1, 1) := by decide +kernel
theorem dX3_copyFrom_31 : decode cX3_copyFrom 31 = .ok (.getfield 19, 3) := by decide +kernel
theorem dX3_copyFrom_34 : decode cX3_copyFrom 34 = .ok (.iconst 0, 1) := by decide +kernel
theorem dX3_copyFrom_35 : decode cX3_copyFrom 35 = .ok (.aload_n 0, 1) := by decide +kernel
theorem dX3_copyFrom_36 : decode cX3_copyFrom 36 = .ok (.getfield 19, 3) := by decide +kernel
theorem dX3_copyFrom_39 : decode cX3_copyFrom 39 = .ok (.iconst 0, 1) := by decide +kernel
theorem dX3_copyFrom_40 : decode cX3_copyFrom 40 = .ok (.bipush 40, 2) := by decide +kernel
theorem dX3_copyFrom_42 : decode cX3_copyFrom 42 = .ok (.invokestatic 31, 3) := by decide +kernel
theorem dX3_copyFrom_45 : decode cX3_copyFrom 45 = .ok (.aload_n 0, 1) := by decide +kernel
theorem dX3_copyFrom_46 : decode cX3_copyFrom 46 = .ok (.aload_n 1, 1) := by decide +kernel
theorem dX3_copyFrom_47 : decode cX3_copyFrom 47 = .ok (.getfield 27, 3) := by decide +kernel
theorem dX3_copyFrom_50 : decode cX3_copyFrom 50 = .ok (.putfield 27, 3) := by decide +kernel
theorem dX3_copyFrom_53 : decode cX3_copyFrom 53 = .ok (.return_, 1) := by decide +kernel
theorem dX4_copyFrom_0 : decode cX4_copyFrom 0 = .ok (.aload_n 1, 1) := by decide +kernel
theorem dX4_copyFrom_1 : decode cX4_copyFrom 1 = .ok (.getfield 9, 3) := by decide +kernel
theorem dX4_copyFrom_4 : decode cX4_copyFrom 4 = .ok (.iconst 0, 1) := by decide +kernel
theorem dX4_copyFrom_5 : decode cX4_copyFrom 5 = .ok (.aload_n 0, 1) := by decide +kernel
theorem dX4_copyFrom_6 : decode cX4_copyFrom 6 = .ok (.getfield 9, 3) := by decide +kernel
theorem dX4_copyFrom_9 : decode cX4_copyFrom 9 = .ok (.iconst 0, 1) := by decide +kernel
theorem dX4_copyFrom_10 : decode cX4_copyFrom 10 = .ok (.bipush 12, 2) := by decide +kernel
theorem dX4_copyFrom_12 : decode cX4_copyFrom 12 = .ok (.invokestatic 24, 3) := by decide +kernel
theorem dX4_copyFrom_15 : decode cX4_copyFrom 15 = .ok (.aload_n 1, 1) := by decide +kernel
theorem dX4_copyFrom_16 : decode cX4_copyFrom 16 = .ok (.getfield 15, 3) := by decide +kernel
theorem dX4_copyFrom_19 : decode cX4_copyFrom 19 = .ok (.iconst 0, 1) := by decide +kernel
theorem dX4_copyFrom_20 : decode cX4_copyFrom 20 = .ok (.aload_n 0, 1) := by decide +kernel
theorem dX4_copyFrom_21 : decode cX4_copyFrom 21 = .ok (.getfield 15, 3) := by decide +kernel
theorem dX4_copyFrom_24 : decode cX4_copyFrom 24 = .ok (.iconst 0, 1) := by decide +kernel
theorem dX4_copyFrom_25 : decode cX4_copyFrom 25 = .ok (.bipush 12, 2) := by decide +kernel
theorem dX4_copyFrom_27 : decode cX4_copyFrom 27 = .ok (.invokestatic 24, 3) := by decide +kernel
theorem dX4_copyFrom_30 : decode cX4_copyFrom 30 = .ok (.aload_n 1, 1) := by decide +kernel
theorem dX4_copyFrom_31 : decode cX4_copyFrom 31 = .ok (.getfield 18, 3) := by decide +kernel
theorem dX4_copyFrom_34 : decode cX4_copyFrom 34 = .ok (.iconst 0, 1) := by decide +kernel
theorem dX4_copyFrom_35 : decode cX4_copyFrom 35 = .ok (.aload_n 0, 1) := by decide +kernel
theorem dX4_copyFrom_36 : decode cX4_copyFrom 36 = .ok (.getfield 18, 3) := by decide +kernel
theorem dX4_copyFrom_39 : decode cX4_copyFrom 39 = .ok (.iconst 0, 1) := by decide +kernel
theorem dX4_copyFrom_40 : decode cX4_copyFrom 40 = .ok (.bipush 12, 2) := by decide +kernel
theorem dX4_copyFrom_42 : decode cX4_copyFrom 42 = .ok (.invokestatic 24, 3) := by decide +kernel
theorem dX4_copyFrom_45 : decode cX4_copyFrom 45 = .ok (.aload_n 1, 1) := by decide +kernel
theorem dX4_copyFrom_46 : decode cX4_copyFrom 46 = .ok (.getfield 21, 3) := by decide +kernel
theorem dX4_copyFrom_49 : decode cX4_copyFrom 49 = .ok (.iconst 0, 1) := by decide +kernel
theorem dX4_copyFrom_50 : decode cX4_copyFrom 50 = .ok (.aload_n 0, 1) := by decide +kernel
theorem dX4_copyFrom_51 : decode cX4_copyFrom 51 = .ok (.getfield 21, 3) := by decide +kernel
theorem dX4_copyFrom_54 : decode cX4_copyFrom 54 = .ok (.iconst 0, 1) := by decide +kernel
theorem dX4_copyFrom_55 : decode cX4_copyFrom 55 = .ok (.bipush 12, 2) := by decide +kernel
theorem dX4_copyFrom_57 : decode cX4_copyFrom 57 = .ok (.invokestatic 24, 3) := by decide +kernel
theorem dX4_copyFrom_60 : decode cX4_copyFrom 60 = .ok (.aload_n 0, 1) := by decide +kernel
theorem dX4_copyFrom_61 : decode cX4_copyFrom 61 = .ok (.aload_n 1, 1) := by decide +kernel
theorem dX4_copyFrom_62 : decode cX4_copyFrom 62 = .ok (.getfield 30, 3) := by decide +kernel
theorem dX4_copyFrom_65 : decode cX4_copyFrom 65 = .ok (.putfield 30, 3) := by decide +kernel
theorem dX4_copyFrom_68 : decode cX4_copyFrom 68 = .ok (.return_, 1) := by decide +kernel
set_option maxRecDepth 20000 in
theorem ggX4_removeEnded_X4_endOf : GoodIn wsX4_removeEnded wsX4_endOf := goodIn_r _ [6, 7, 8, 9, 10, 5, 11, 1, 19, 20, 21, 22, 23] (by decide +kernel) (by decide +kernel)
set_option maxRecDepth 20000 in
theorem gX4_removeEnded_X4_endOf : GoodIn wsX4_removeEnded (wsV RX4 42 RX4 yX4_endOf wsX4_endOf) := goodIn_app (goodIn_of _ (by decide +kernel)) ggX4_removeEnded_X4_endOf
set_option maxRecDepth 20000 in
theorem ggX4_removeEnded_X4_removeAt : GoodIn wsX4_removeEnded wsX4_removeAt := goodIn_r _ [15, 1, 16, 17, 18, 7, 8, 9, 10, 5, 11, 19, 20, 21, 22, 23] (by decide +kernel) (by decide +kernel)
set_option maxRecDepth 20000 in
theorem gX4_removeEnded_X4_removeAt : GoodIn wsX4_removeEnded (wsV RX4 46 RX4 yX4_removeAt wsX4_removeAt) := goodIn_app (goodIn_of _ (by decide +kernel)) ggX4_removeEnded_X4_removeAt
theorem dX4_removeEnded_0 : decode cX4_removeEnded 0 = .ok (.aload_n 0, 1) := by decide +kernel
theorem dX4_removeEnded_1 : decode cX4_removeEnded 1 = .ok (.getfield 30, 3) := by decide +kernel
theorem dX4_removeEnded_4 : decode cX4_removeEnded 4 = .ok (.istore_n 2, 1) := by decide +kernel
theorem dX4_removeEnded_5 : decode cX4_removeEnded 5 = .ok (.iload_n 2, 1) := by decide +kernel
theorem dX4_removeEnded_6 : decode cX4_removeEnded 6 = .ok (.iconst 1, 1) := by decide +kernel
theorem dX4_removeEnded_7 : decode cX4_removeEnded 7 = .ok (.isub, 1) := by decide +kernel
theorem dX4_removeEnded_8 : decode cX4_removeEnded 8 = .ok (.istore_n 3, 1) := by decide +kernel
theorem dX4_removeEnded_9 : decode cX4_removeEnded 9 = .ok (.iload_n 3, 1) := by decide +kernel
theorem dX4_removeEnded_10 : decode cX4_removeEnded 10 = .ok (.ifCond .lt 23, 3) := by decide +kernel
theorem dX4_removeEnded_13 : decode cX4_removeEnded 13 = .ok (.aload_n 0, 1) := by decide +kernel
theorem dX4_removeEnded_14 : decode cX4_removeEnded 14 = .ok (.iload_n 3, 1) := by decide +kernel
theorem dX4_removeEnded_15 : decode cX4_removeEnded 15 = .ok (.invokevirtual 42, 3) := by decide +kernel
theorem dX4_removeEnded_18 : decode cX4_removeEnded 18 = .ok (.iload_n 1, 1) := by decide +kernel
theorem dX4_removeEnded_19 : decode cX4_removeEnded 19 = .ok (.if_icmp .gt 8, 3) := by decide +kernel
theorem dX4_removeEnded_22 : decode cX4_removeEnded 22 = .ok (.aload_n 0, 1) := by decide +kernel
theorem dX4_removeEnded_23 : decode cX4_removeEnded 23 = .ok (.iload_n 3, 1) := by decide +kernel
theorem dX4_removeEnded_24 : decode cX4_removeEnded 24 = .ok (.invokevirtual 46, 3) := by decide +kernel
theorem dX4_removeEnded_27 : decode cX4_removeEnded 27 = .ok (.iinc 3 (-1), 3) := by decide +kernel
theorem dX4_removeEnded_30 : decode cX4_removeEnded 30 = .ok (.goto (-21), 3) := by decide +kernel
theorem dX4_removeEnded_33 : decode cX4_removeEnded 33 = .ok (.iload_n 2, 1) := by decide +kernel
theorem dX4_removeEnded_34 : decode cX4_removeEnded 34 = .ok (.aload_n 0, 1) := by decide +kernel
theorem dX4_removeEnded_35 : decode cX4_removeEnded 35 = .ok (.getfield 30, 3) := by decide +kernel
theorem dX4_removeEnded_38 : decode cX4_removeEnded 38 = .ok (.isub, 1) := by decide +kernel
theorem dX4_removeEnded_39 : decode cX4_removeEnded 39 = .ok (.ireturn, 1) := by decide +kernel
set_option maxRecDepth 20000 in
theorem ggX6_clear_X3_clear : GoodIn wsX6_clear wsX3_clear := goodIn_r _ [13, 14, 15, 16, 17, 18, 42, 43, 44, 45] (by decide +kernel) (by decide +kernel)
set_option maxRecDepth 20000 in
theorem gX6_clear_X3_clear : GoodIn wsX6_clear (wsV RX6 43 RX3 yX3_clear wsX3_clear) := goodIn_app (goodIn_of _ (by decide +kernel)) ggX6_clear_X3_clear
set_option maxRecDepth 20000 in
theorem ggX6_clear_X0_clear : GoodIn wsX6_clear wsX0_clear := goodIn_r _ [23, 24, 25, 26, 27, 46, 47, 48, 49] (by decide +kernel) (by decide +kernel)
set_option maxRecDepth 20000 in
theorem gX6_clear_X0_clear : GoodIn wsX6_clear (wsV RX6 49 RX0 yX0_clear wsX0_clear) := goodIn_app (goodIn_of _ (by decide +kernel)) ggX6_clear_X0_clear
theorem dX6_clear_0 : decode cX6_clear 0 = .ok (.aload_n 0, 1) := by decide +kernel
theorem dX6_clear_1 : decode cX6_clear 1 = .ok (.getfield 12, 3) := by decide +kernel
theorem dX6_clear_4 : decode cX6_clear 4 = .ok (.invokevirtual 43, 3) := by decide +kernel
theorem dX6_clear_7 : decode cX6_clear 7 = .ok (.aload_n 0, 1) := by decide +kernel
theorem dX6_clear_8 : decode cX6_clear 8 = .ok (.getfield 21, 3) := by decide +kernel
theorem dX6_clear_11 : decode cX6_clear 11 = .ok (.iconst 0, 1) := by decide +kernel
theorem dX6_clear_12 : decode cX6_clear 12 = .ok (.putfield 46, 3) := by decide +kernel
theorem dX6_clear_15 : decode cX6_clear 15 = .ok (.aload_n 0, 1) := by decide +kernel
theorem dX6_clear_16 : decode cX6_clear 16 = .ok (.getfield 28, 3) := by decide +kernel
theorem dX6_clear_19 : decode cX6_clear 19 = .ok (.invokevirtual 49, 3) := by decide +kernel
theorem dX6_clear_22 : decode cX6_clear 22 = .ok (.aload_n 0, 1) := by decide +kernel
theorem dX6_clear_23 : decode cX6_clear 23 = .ok (.getfield 35, 3) := by decide +kernel
theorem dX6_clear_26 : decode cX6_clear 26 = .ok (.iconst 0, 1) := by decide +kernel
theorem dX6_clear_27 : decode cX6_clear 27 = .ok (.putfield 50, 3) := by decide +kernel
theorem dX6_clear_30 : decode cX6_clear 30 = .ok (.aload_n 0, 1) := by decide +kernel
theorem dX6_clear_31 : decode cX6_clear 31 = .ok (.iconst 0, 1) := by decide +kernel
theorem dX6_clear_32 : decode cX6_clear 32 = .ok (.putfield 51, 3) := by decide +kernel
theorem dX6_clear_35 : decode cX6_clear 35 = .ok (.aload_n 0, 1) := by decide +kernel
theorem dX6_clear_36 : decode cX6_clear 36 = .ok (.bipush 10, 2) := by decide +kernel
theorem dX6_clear_38 : decode cX6_clear 38 = .ok (.putfield 39, 3) := by decide +kernel
theorem dX6_clear_41 : decode cX6_clear 41 = .ok (.return_, 1) := by decide +kernel
set_option maxRecDepth 20000 in
theorem ggX6_copyFrom_X3_copyFrom : GoodIn wsX6_copyFrom wsX3_copyFrom := goodIn_r _ [11, 12, 13, 14, 15, 16, 17, 18, 19, 56, 57, 58, 59] (by decide +kernel) (by decide +kernel)
set_option maxRecDepth 20000 in
theorem gX6_copyFrom_X3_copyFrom : GoodIn wsX6_copyFrom (wsV RX6 54 RX3 yX3_copyFrom wsX3_copyFrom) := goodIn_app (goodIn_of _ (by decide +kernel)) ggX6_copyFrom_X3_copyFrom
set_option maxRecDepth 20000 in
theorem ggX6_copyFrom_X2_copyFrom : GoodIn wsX6_copyFrom wsX2_copyFrom := goodIn_r _ [24, 25, 26, 14, 15, 16, 27, 28, 60, 61, 62] (by decide +kernel) (by decide +kernel)
set_option maxRecDepth 20000 in
theorem gX6_copyFrom_X2_copyFrom : GoodIn wsX6_copyFrom (wsV RX6 58 RX2 yX2_copyFrom wsX2_copyFrom) := goodIn_app (goodIn_of _ (by decide +kernel)) ggX6_copyFrom_X2_copyFrom
set_option maxRecDepth 20000 in
theorem ggX6_copyFrom_X0_copyFrom : GoodIn wsX6_copyFrom wsX0_copyFrom := goodIn_r _ [33, 34, 35, 14, 15, 16, 36, 37, 38, 63, 64, 65, 66] (by decide +kernel) (by decide +kernel)
set_option maxRecDepth 20000 in
theorem gX6_copyFrom_X0_copyFrom : GoodIn wsX6_copyFrom (wsV RX6 61 RX0 yX0_copyFrom wsX0_copyFrom) := goodIn_app (goodIn_of _ (by decide +kernel)) ggX6_copyFrom_X0_copyFrom
set_option maxRecDepth 20000 in
theorem ggX6_copyFrom_X4_copyFrom : GoodIn wsX6_copyFrom wsX4_copyFrom := goodIn_r _ [43, 44, 45, 14, 15, 16, 46, 47, 48, 49, 67, 68, 69, 70, 71] (by decide +kernel) (by decide +kernel)
set_option maxRecDepth 20000 in
theorem gX6_copyFrom_X4_copyFrom : GoodIn wsX6_copyFrom (wsV RX6 64 RX4 yX4_copyFrom wsX4_copyFrom) := goodIn_app (goodIn_of _ (by decide +kernel)) ggX6_copyFrom_X4_copyFrom
theorem dX6_copyFrom_0 : decode cX6_copyFrom 0 = .ok (.aload_n 0, 1) := by decide +kernel
theorem dX6_copyFrom_1 : decode cX6_copyFrom 1 = .ok (.getfield 12, 3) := by decide +kernel
theorem dX6_copyFrom_4 : decode cX6_copyFrom 4 = .ok (.aload_n 1, 1) := by decide +kernel
theorem dX6_copyFrom_5 : decode cX6_copyFrom 5 = .ok (.getfield 12, 3) := by decide +kernel
theorem dX6_copyFrom_8 : decode cX6_copyFrom 8 = .ok (.invokevirtual 54, 3) := by decide +kernel
theorem dX6_copyFrom_11 : decode cX6_copyFrom 11 = .ok (.aload_n 0, 1) := by decide +kernel
theorem dX6_copyFrom_12 : decode cX6_copyFrom 12 = .ok (.getfield 21, 3) := by decide +kernel
theorem dX6_copyFrom_15 : decode cX6_copyFrom 15 = .ok (.aload_n 1, 1) := by decide +kernel
theorem dX6_copyFrom_16 : decode cX6_copyFrom 16 = .ok (.getfield 21, 3) := by decide +kernel
theorem dX6_copyFrom_19 : decode cX6_copyFrom 19 = .ok (.invokevirtual 58, 3) := by decide +kernel
theorem dX6_copyFrom_22 : decode cX6_copyFrom 22 = .ok (.aload_n 0, 1) := by decide +kernel
theorem dX6_copyFrom_23 : decode cX6_copyFrom 23 = .ok (.getfield 28, 3) := by decide +kernel
theorem dX6_copyFrom_26 : decode cX6_copyFrom 26 = .ok (.aload_n 1, 1) := by decide +kernel
theorem dX6_copyFrom_27 : decode cX6_copyFrom 27 = .ok (.getfield 28, 3) := by decide +kernel
theorem dX6_copyFrom_30 : decode cX6_copyFrom 30 = .ok (.invokevirtual 61, 3) := by decide +kernel
theorem dX6_copyFrom_33 : decode cX6_copyFrom 33 = .ok (.aload_n 0, 1) := by decide +kernel
theorem dX6_copyFrom_34 : decode cX6_copyFrom 34 = .ok (.getfield 35, 3) := by decide +kernel
theorem dX6_copyFrom_37 : decode cX6_copyFrom 37 = .ok (.aload_n 1, 1) := by decide +kernel
theorem dX6_copyFrom_38 : decode cX6_copyFrom 38 = .ok (.getfield 35, 3) := by decide +kernel
theorem dX6_copyFrom_41 : decode cX6_copyFrom 41 = .ok (.invokevirtual 64, 3) := by decide +kernel
theorem dX6_copyFrom_44 : decode cX6_copyFrom 44 = .ok (.aload_n 0, 1) := by decide +kernel
theorem dX6_copyFrom_45 : decode cX6_copyFrom 45 = .ok (.aload_n 1, 1) := by decide +kernel
theorem dX6_copyFrom_46 : decode cX6_copyFrom 46 = .ok (.getfield 51, 3) := by decide +kernel
theorem dX6_copyFrom_49 : decode cX6_copyFrom 49 = .ok (.putfield 51, 3) := by decide +kernel
theorem dX6_copyFrom_52 : decode cX6_copyFrom 52 = .ok (.aload_n 0, 1) := by decide +kernel
theorem dX6_copyFrom_53 : decode cX6_copyFrom 53 = .ok (.aload_n 1, 1) := by decide +kernel
theorem dX6_copyFrom_54 : decode cX6_copyFrom 54 = .ok (.getfield 39, 3) := by decide +kernel
theorem dX6_copyFrom_57 : decode cX6_copyFrom 57 = .ok (.putfield 39, 3) := by decide +kernel
theorem dX6_copyFrom_60 : decode cX6_copyFrom 60 = .ok (.return_, 1) := by decide +kernel
set_option maxRecDepth 20000 in
theorem ggX6_setClocks_X7_accountOf : GoodIn wsX6_setClocks wsX7_accountOf := goodIn_r _ [5] (by decide +kernel) (by decide +kernel)
set_option maxRecDepth 20000 in
theorem gX6_setClocks_X7_accountOf_n98 : GoodIn wsX6_setClocks (wsX7_accountOf) := ggX6_setClocks_X7_accountOf
set_option maxRecDepth 20000 in
theorem ggX6_setClocks_X6_wouldExceed : GoodIn wsX6_setClocks wsX6_wouldExceed := goodIn_r _ [10, 1, 11, 12, 13, 9, 14, 15, 16, 17, 18, 19, 3, 4, 5, 20, 21, 22, 23, 24, 25, 26, 27, 28, 29, 30, 31, 32, 33, 34, 35, 36, 37, 38, 39, 40, 50, 51, 52, 53, 54, 55, 56, 57, 58, 59, 60, 61, 62, 63, 64] (by decide +kernel) (by decide +kernel)
set_option maxRecDepth 20000 in
theorem gX6_setClocks_X6_wouldExceed : GoodIn wsX6_setClocks (wsV RX6 126 RX6 yX6_wouldExceed wsX6_wouldExceed) := goodIn_app (goodIn_of _ (by decide +kernel)) ggX6_setClocks_X6_wouldExceed
set_option maxRecDepth 20000 in
theorem ggX6_setClocks_X0_setClock : GoodIn wsX6_setClocks wsX0_setClock := goodIn_r _ [44, 45, 56, 57, 58, 59] (by decide +kernel) (by decide +kernel)
set_option maxRecDepth 20000 in
theorem gX6_setClocks_X0_setClock : GoodIn wsX6_setClocks (wsV RX6 137 RX0 yX0_setClock wsX0_setClock) := goodIn_app (goodIn_of _ (by decide +kernel)) ggX6_setClocks_X0_setClock
set_option maxRecDepth 20000 in
theorem ggX6_setClocks_X0_clockOf : GoodIn wsX6_setClocks wsX0_clockOf := goodIn_r _ [49, 45, 56, 57, 58, 59] (by decide +kernel) (by decide +kernel)
set_option maxRecDepth 20000 in
theorem gX6_setClocks_X0_clockOf : GoodIn wsX6_setClocks (wsV RX6 120 RX0 yX0_clockOf wsX0_clockOf) := goodIn_app (goodIn_of _ (by decide +kernel)) ggX6_setClocks_X0_clockOf
theorem dX6_setClocks_0 : decode cX6_setClocks 0 = .ok (.iconst 0, 1) := by decide +kernel
theorem dX6_setClocks_1 : decode cX6_setClocks 1 = .ok (.istore_n 1, 1) := by decide +kernel
theorem dX6_setClocks_2 : decode cX6_setClocks 2 = .ok (.iload_n 1, 1) := by decide +kernel
theorem dX6_setClocks_3 : decode cX6_setClocks 3 = .ok (.bipush 8, 2) := by decide +kernel
theorem dX6_setClocks_5 : decode cX6_setClocks 5 = .ok (.if_icmp .ge 75, 3) := by decide +kernel
theorem dX6_setClocks_8 : decode cX6_setClocks 8 = .ok (.iconst 0, 1) := by decide +kernel
theorem dX6_setClocks_9 : decode cX6_setClocks 9 = .ok (.istore_n 2, 1) := by decide +kernel
theorem dX6_setClocks_10 : decode cX6_setClocks 10 = .ok (.iload_n 2, 1) := by decide +kernel
theorem dX6_setClocks_11 : decode cX6_setClocks 11 = .ok (.iconst 2, 1) := by decide +kernel
theorem dX6_setClocks_12 : decode cX6_setClocks 12 = .ok (.if_icmp .ge 62, 3) := by decide +kernel
theorem dX6_setClocks_15 : decode cX6_setClocks 15 = .ok (.iload_n 1, 1) := by decide +kernel
theorem dX6_setClocks_16 : decode cX6_setClocks 16 = .ok (.iload_n 2, 1) := by decide +kernel
theorem dX6_setClocks_17 : decode cX6_setClocks 17 = .ok (.invokestatic 98, 3) := by decide +kernel
theorem dX6_setClocks_20 : decode cX6_setClocks 20 = .ok (.istore_n 3, 1) := by decide +kernel
theorem dX6_setClocks_21 : decode cX6_setClocks 21 = .ok (.aload_n 0, 1) := by decide +kernel
theorem dX6_setClocks_22 : decode cX6_setClocks 22 = .ok (.iload_n 1, 1) := by decide +kernel
theorem dX6_setClocks_23 : decode cX6_setClocks 23 = .ok (.iload_n 2, 1) := by decide +kernel
theorem dX6_setClocks_24 : decode cX6_setClocks 24 = .ok (.iconst 0, 1) := by decide +kernel
theorem dX6_setClocks_25 : decode cX6_setClocks 25 = .ok (.iconst 0, 1) := by decide +kernel
theorem dX6_setClocks_26 : decode cX6_setClocks 26 = .ok (.invokevirtual 126, 3) := by decide +kernel
theorem dX6_setClocks_29 : decode cX6_setClocks 29 = .ok (.ifCond .ne 15, 3) := by decide +kernel
theorem dX6_setClocks_32 : decode cX6_setClocks 32 = .ok (.aload_n 0, 1) := by decide +kernel
theorem dX6_setClocks_33 : decode cX6_setClocks 33 = .ok (.getfield 28, 3) := by decide +kernel
theorem dX6_setClocks_36 : decode cX6_setClocks 36 = .ok (.iload_n 3, 1) := by decide +kernel
theorem dX6_setClocks_37 : decode cX6_setClocks 37 = .ok (.iconst (-1), 1) := by decide +kernel
theorem dX6_setClocks_38 : decode cX6_setClocks 38 = .ok (.invokevirtual 137, 3) := by decide +kernel
theorem dX6_setClocks_41 : decode cX6_setClocks 41 = .ok (.goto 27, 3) := by decide +kernel
theorem dX6_setClocks_44 : decode cX6_setClocks 44 = .ok (.aload_n 0, 1) := by decide +kernel
theorem dX6_setClocks_45 : decode cX6_setClocks 45 = .ok (.getfield 28, 3) := by decide +kernel
theorem dX6_setClocks_48 : decode cX6_setClocks 48 = .ok (.iload_n 3, 1) := by decide +kernel
theorem dX6_setClocks_49 : decode cX6_setClocks 49 = .ok (.invokevirtual 120, 3) := by decide +kernel
theorem dX6_setClocks_52 : decode cX6_setClocks 52 = .ok (.iconst (-1), 1) := by decide +kernel
theorem dX6_setClocks_53 : decode cX6_setClocks 53 = .ok (.if_icmp .ne 15, 3) := by decide +kernel
theorem dX6_setClocks_56 : decode cX6_setClocks 56 = .ok (.aload_n 0, 1) := by decide +kernel
theorem dX6_setClocks_57 : decode cX6_setClocks 57 = .ok (.getfield 28, 3) := by decide +kernel
theorem dX6_setClocks_60 : decode cX6_setClocks 60 = .ok (.iload_n 3, 1) := by decide +kernel
theorem dX6_setClocks_61 : decode cX6_setClocks 61 = .ok (.aload_n 0, 1) := by decide +kernel
theorem dX6_setClocks_62 : decode cX6_setClocks 62 = .ok (.getfield 51, 3) := by decide +kernel
theorem dX6_setClocks_65 : decode cX6_setClocks 65 = .ok (.invokevirtual 137, 3) := by decide +kernel
theorem dX6_setClocks_68 : decode cX6_setClocks 68 = .ok (.iinc 2 1, 3) := by decide +kernel
theorem dX6_setClocks_71 : decode cX6_setClocks 71 = .ok (.goto (-61), 3) := by decide +kernel
theorem dX6_setClocks_74 : decode cX6_setClocks 74 = .ok (.iinc 1 1, 3) := by decide +kernel
theorem dX6_setClocks_77 : decode cX6_setClocks 77 = .ok (.goto (-75), 3) := by decide +kernel
theorem dX6_setClocks_80 : decode cX6_setClocks 80 = .ok (.return_, 1) := by decide +kernel
set_option maxRecDepth 20000 in
theorem ggX6_transferOpenPart_X3_projectOf : GoodIn wsX6_transferOpenPart wsX3_projectOf := goodIn_r _ [7, 8, 9, 10, 6, 11, 12, 13, 14, 15, 16, 17, 18, 19, 20, 21, 22, 89, 90, 91, 92] (by decide +kernel) (by decide +kernel)
set_option maxRecDepth 20000 in
theorem gX6_transferOpenPart_X3_projectOf : GoodIn wsX6_transferOpenPart (wsV RX6 71 RX3 yX3_projectOf wsX3_projectOf) := goodIn_app (goodIn_of _ (by decide +kernel)) ggX6_transferOpenPart_X3_projectOf
set_option maxRecDepth 20000 in
theorem ggX6_transferOpenPart_X6_openSum : GoodIn wsX6_transferOpenPart wsX6_openSum := goodIn_r _ [27, 28, 29, 1, 30, 31, 32, 33, 34, 35, 36, 37, 38, 39, 40, 41, 42, 43, 6, 44, 8, 9, 10, 11, 12, 13, 14, 15, 16, 17, 18, 19, 20, 21, 22, 45, 46, 47, 48, 49, 50, 51, 52, 53, 83, 84, 85, 86, 87, 88, 93, 94, 95, 89, 90, 91, 92] (by decide +kernel) (by decide +kernel)
set_option maxRecDepth 20000 in
theorem gX6_transferOpenPart_X6_openSum : GoodIn wsX6_transferOpenPart (wsV RX6 144 RX6 yX6_openSum wsX6_openSum) := goodIn_app (goodIn_of _ (by decide +kernel)) ggX6_transferOpenPart_X6_openSum
set_option maxRecDepth 20000 in
theorem ggX6_transferOpenPart_X0_transfer : GoodIn wsX6_transferOpenPart wsX0_transfer := goodIn_r _ [58, 59, 60, 61, 57, 62, 63, 64, 65, 66, 67, 68, 69, 70, 71, 72, 73, 74, 75, 76, 77, 78, 79, 80, 81, 82, 96, 97, 98, 99] (by decide +kernel) (by decide +kernel)
set_option maxRecDepth 20000 in
theorem gX6_transferOpenPart_X0_transfer : GoodIn wsX6_transferOpenPart (wsV RX6 151 RX0 yX0_transfer wsX0_transfer) := goodIn_app (goodIn_of _ (by decide +kernel)) ggX6_transferOpenPart_X0_transfer
theorem dX6_transferOpenPart_0 : decode cX6_transferOpenPart 0 = .ok (.aload_n 0, 1) := by decide +kernel
theorem dX6_transferOpenPart_1 : decode cX6_transferOpenPart 1 = .ok (.getfield 12, 3) := by decide +kernel
theorem dX6_transferOpenPart_4 : decode cX6_transferOpenPart 4 = .ok (.iload_n 1, 1) := by decide +kernel
theorem dX6_transferOpenPart_5 : decode cX6_transferOpenPart 5 = .ok (.invokevirtual 71, 3) := by decide +kernel
theorem dX6_transferOpenPart_8 : decode cX6_transferOpenPart 8 = .ok (.istore_n 3, 1) := by decide +kernel
theorem dX6_transferOpenPart_9 : decode cX6_transferOpenPart 9 = .ok (.iload_n 3, 1) := by decide +kernel
theorem dX6_transferOpenPart_10 : decode cX6_transferOpenPart 10 = .ok (.iload_n 2, 1) := by decide +kernel
theorem dX6_transferOpenPart_11 : decode cX6_transferOpenPart 11 = .ok (.if_icmp .ne 5, 3) := by decide +kernel
theorem dX6_transferOpenPart_14 : decode cX6_transferOpenPart 14 = .ok (.iconst 0, 1) := by decide +kernel
theorem dX6_transferOpenPart_15 : decode cX6_transferOpenPart 15 = .ok (.ireturn, 1) := by decide +kernel
theorem dX6_transferOpenPart_16 : decode cX6_transferOpenPart 16 = .ok (.aload_n 0, 1) := by decide +kernel
theorem dX6_transferOpenPart_17 : decode cX6_transferOpenPart 17 = .ok (.iload_n 1, 1) := by decide +kernel
theorem dX6_transferOpenPart_18 : decode cX6_transferOpenPart 18 = .ok (.iconst 1, 1) := by decide +kernel
theorem dX6_transferOpenPart_19 : decode cX6_transferOpenPart 19 = .ok (.invokevirtual 144, 3) := by decide +kernel
theorem dX6_transferOpenPart_22 : decode cX6_transferOpenPart 22 = .ok (.istore 4, 2) := by decide +kernel
theorem dX6_transferOpenPart_24 : decode cX6_transferOpenPart 24 = .ok (.aload_n 0, 1) := by decide +kernel
theorem dX6_transferOpenPart_25 : decode cX6_transferOpenPart 25 = .ok (.getfield 28, 3) := by decide +kernel
theorem dX6_transferOpenPart_28 : decode cX6_transferOpenPart 28 = .ok (.iload_n 3, 1) := by decide +kernel
theorem dX6_transferOpenPart_29 : decode cX6_transferOpenPart 29 = .ok (.iload_n 2, 1) := by decide +kernel
theorem dX6_transferOpenPart_30 : decode cX6_transferOpenPart 30 = .ok (.aload_n 0, 1) := by decide +kernel
theorem dX6_transferOpenPart_31 : decode cX6_transferOpenPart 31 = .ok (.iload_n 1, 1) := by decide +kernel
theorem dX6_transferOpenPart_32 : decode cX6_transferOpenPart 32 = .ok (.iconst 0, 1) := by decide +kernel
theorem dX6_transferOpenPart_33 : decode cX6_transferOpenPart 33 = .ok (.invokevirtual 144, 3) := by decide +kernel
theorem dX6_transferOpenPart_36 : decode cX6_transferOpenPart 36 = .ok (.iload 4, 2) := by decide +kernel
theorem dX6_transferOpenPart_38 : decode cX6_transferOpenPart 38 = .ok (.invokevirtual 151, 3) := by decide +kernel
theorem dX6_transferOpenPart_41 : decode cX6_transferOpenPart 41 = .ok (.iload 4, 2) := by decide +kernel
theorem dX6_transferOpenPart_43 : decode cX6_transferOpenPart 43 = .ok (.ireturn, 1) := by decide +kernel
set_option maxRecDepth 20000 in
theorem ggX6_correctAccounts_X7_accountOf : GoodIn wsX6_correctAccounts wsX7_accountOf := goodIn_r _ [4] (by decide +kernel) (by decide +kernel)
set_option maxRecDepth 20000 in
theorem gX6_correctAccounts_X7_accountOf_n98 : GoodIn wsX6_correctAccounts (wsX7_accountOf) := ggX6_correctAccounts_X7_accountOf
set_option maxRecDepth 20000 in
theorem ggX6_correctAccounts_X6_countAnew : GoodIn wsX6_correctAccounts wsX6_countAnew := goodIn_r _ [9, 10, 11, 12, 13, 14, 8, 15, 16, 17, 18, 19, 20, 21, 22, 23, 24, 25, 26, 27, 28, 29, 30, 31, 32, 33, 34, 35, 36, 37, 38, 39, 40, 41, 42, 43, 44, 45, 46, 47, 48, 49, 50, 51, 52, 53, 54, 55, 56, 67, 68, 69, 70, 71, 72, 73, 74, 75, 76, 77, 78, 79] (by decide +kernel) (by decide +kernel)
set_option maxRecDepth 20000 in
theorem gX6_correctAccounts_X6_countAnew : GoodIn wsX6_correctAccounts (wsV RX6 155 RX6 yX6_countAnew wsX6_countAnew) := goodIn_app (goodIn_of _ (by decide +kernel)) ggX6_correctAccounts_X6_countAnew
set_option maxRecDepth 20000 in
theorem ggX6_correctAccounts_X0_amountOf : GoodIn wsX6_correctAccounts wsX0_amountOf := goodIn_r _ [61, 62, 80, 81, 82, 83] (by decide +kernel) (by decide +kernel)
set_option maxRecDepth 20000 in
theorem gX6_correctAccounts_X0_amountOf : GoodIn wsX6_correctAccounts (wsV RX6 117 RX0 yX0_amountOf wsX0_amountOf) := goodIn_app (goodIn_of _ (by decide +kernel)) ggX6_correctAccounts_X0_amountOf
set_option maxRecDepth 20000 in
theorem ggX6_correctAccounts_X0_setAmount : GoodIn wsX6_correctAccounts wsX0_setAmount := goodIn_r _ [66, 62, 80, 81, 82, 83] (by decide +kernel) (by decide +kernel)
set_option maxRecDepth 20000 in
theorem gX6_correctAccounts_X0_setAmount : GoodIn wsX6_correctAccounts (wsV RX6 158 RX0 yX0_setAmount wsX0_setAmount) := goodIn_app (goodIn_of _ (by decide +kernel)) ggX6_correctAccounts_X0_setAmount
theorem dX6_correctAccounts_0 : decode cX6_correctAccounts 0 = .ok (.iconst 0, 1) := by decide +kernel
theorem dX6_correctAccounts_1 : decode cX6_correctAccounts 1 = .ok (.istore_n 1, 1) := by decide +kernel
theorem dX6_correctAccounts_2 : decode cX6_correctAccounts 2 = .ok (.iconst 0, 1) := by decide +kernel
theorem dX6_correctAccounts_3 : decode cX6_correctAccounts 3 = .ok (.istore_n 2, 1) := by decide +kernel
theorem dX6_correctAccounts_4 : decode cX6_correctAccounts 4 = .ok (.iload_n 2, 1) := by decide +kernel
theorem dX6_correctAccounts_5 : decode cX6_correctAccounts 5 = .ok (.bipush 8, 2) := by decide +kernel
theorem dX6_correctAccounts_7 : decode cX6_correctAccounts 7 = .ok (.if_icmp .ge 65, 3) := by decide +kernel
theorem dX6_correctAccounts_10 : decode cX6_correctAccounts 10 = .ok (.iconst 0, 1) := by decide +kernel
theorem dX6_correctAccounts_11 : decode cX6_correctAccounts 11 = .ok (.istore_n 3, 1) := by decide +kernel
theorem dX6_correctAccounts_12 : decode cX6_correctAccounts 12 = .ok (.iload_n 3, 1) := by decide +kernel
theorem dX6_correctAccounts_13 : decode cX6_correctAccounts 13 = .ok (.iconst 2, 1) := by decide +kernel
theorem dX6_correctAccounts_14 : decode cX6_correctAccounts 14 = .ok (.if_icmp .ge 52, 3) := by decide +kernel
theorem dX6_correctAccounts_17 : decode cX6_correctAccounts 17 = .ok (.iload_n 2, 1) := by decide +kernel
theorem dX6_correctAccounts_18 : decode cX6_correctAccounts 18 = .ok (.iload_n 3, 1) := by decide +kernel
theorem dX6_correctAccounts_19 : decode cX6_correctAccounts 19 = .ok (.invokestatic 98, 3) := by decide +kernel
theorem dX6_correctAccounts_22 : decode cX6_correctAccounts 22 = .ok (.istore 4, 2) := by decide +kernel
theorem dX6_correctAccounts_24 : decode cX6_correctAccounts 24 = .ok (.aload_n 0, 1) := by decide +kernel
theorem dX6_correctAccounts_25 : decode cX6_correctAccounts 25 = .ok (.iload_n 2, 1) := by decide +kernel
theorem dX6_correctAccounts_26 : decode cX6_correctAccounts 26 = .ok (.iload_n 3, 1) := by decide +kernel
theorem dX6_correctAccounts_27 : decode cX6_correctAccounts 27 = .ok (.invokevirtual 155, 3) := by decide +kernel
theorem dX6_correctAccounts_30 : decode cX6_correctAccounts 30 = .ok (.istore 5, 2) := by decide +kernel
theorem dX6_correctAccounts_32 : decode cX6_correctAccounts 32 = .ok (.aload_n 0, 1) := by decide +kernel
theorem dX6_correctAccounts_33 : decode cX6_correctAccounts 33 = .ok (.getfield 28, 3) := by decide +kernel
theorem dX6_correctAccounts_36 : decode cX6_correctAccounts 36 = .ok (.iload 4, 2) := by decide +kernel
theorem dX6_correctAccounts_38 : decode cX6_correctAccounts 38 = .ok (.invokevirtual 117, 3) := by decide +kernel
theorem dX6_correctAccounts_41 : decode cX6_correctAccounts 41 = .ok (.iload 5, 2) := by decide +kernel
theorem dX6_correctAccounts_43 : decode cX6_correctAccounts 43 = .ok (.if_icmp .eq 17, 3) := by decide +kernel
theorem dX6_correctAccounts_46 : decode cX6_correctAccounts 46 = .ok (.aload_n 0, 1) := by decide +kernel
theorem dX6_correctAccounts_47 : decode cX6_correctAccounts 47 = .ok (.getfield 28, 3) := by decide +kernel
theorem dX6_correctAccounts_50 : decode cX6_correctAccounts 50 = .ok (.iload 4, 2) := by decide +kernel
theorem dX6_correctAccounts_52 : decode cX6_correctAccounts 52 = .ok (.iload 5, 2) := by decide +kernel
theorem dX6_correctAccounts_54 : decode cX6_correctAccounts 54 = .ok (.invokevirtual 158, 3) := by decide +kernel
theorem dX6_correctAccounts_57 : decode cX6_correctAccounts 57 = .ok (.iinc 1 1, 3) := by decide +kernel
theorem dX6_correctAccounts_60 : decode cX6_correctAccounts 60 = .ok (.iinc 3 1, 3) := by decide +kernel
theorem dX6_correctAccounts_63 : decode cX6_correctAccounts 63 = .ok (.goto (-51), 3) := by decide +kernel
theorem dX6_correctAccounts_66 : decode cX6_correctAccounts 66 = .ok (.iinc 2 1, 3) := by decide +kernel
theorem dX6_correctAccounts_69 : decode cX6_correctAccounts 69 = .ok (.goto (-65), 3) := by decide +kernel
theorem dX6_correctAccounts_72 : decode cX6_correctAccounts 72 = .ok (.iload_n 1, 1) := by decide +kernel
theorem dX6_correctAccounts_73 : decode cX6_correctAccounts 73 = .ok (.ireturn, 1) := by decide +kernel
