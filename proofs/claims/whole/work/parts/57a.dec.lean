set_option maxRecDepth 20000 in
theorem ggX8_walked_X8_isFolder : GoodIn wsX8_walked wsX8_isFolder := goodIn_r _ [6, 7, 8, 9, 5, 10, 19, 20, 21, 22, 23, 24, 25, 26, 27, 28, 29, 30, 31, 32, 33, 34, 35, 36] (by decide +kernel) (by decide +kernel)
set_option maxRecDepth 20000 in
theorem gX8_walked_X8_isFolder : GoodIn wsX8_walked (wsV RX8 220 RX8 yX8_isFolder wsX8_isFolder) := goodIn_app (goodIn_of _ (by decide +kernel)) ggX8_walked_X8_isFolder
set_option maxRecDepth 20000 in
theorem ggX8_walked_X8_childBehind : GoodIn wsX8_walked wsX8_childBehind := goodIn_r _ [14, 7, 15, 16, 17, 5, 18, 19, 20, 21, 22, 23, 24, 25, 26, 27, 28, 29, 30, 31, 32, 33, 34, 35, 36] (by decide +kernel) (by decide +kernel)
set_option maxRecDepth 20000 in
theorem gX8_walked_X8_childBehind : GoodIn wsX8_walked (wsV RX8 240 RX8 yX8_childBehind wsX8_childBehind) := goodIn_app (goodIn_of _ (by decide +kernel)) ggX8_walked_X8_childBehind
set_option maxRecDepth 20000 in
theorem ggX8_walked_X8_parentOf : GoodIn wsX8_walked wsX8_parentOf := goodIn_r _ [18, 7, 19, 20, 21, 22, 23, 24, 25, 26, 27, 28, 29, 30, 31, 32, 33, 34, 35, 36] (by decide +kernel) (by decide +kernel)
set_option maxRecDepth 20000 in
theorem gX8_walked_X8_parentOf : GoodIn wsX8_walked (wsV RX8 194 RX8 yX8_parentOf wsX8_parentOf) := goodIn_app (goodIn_of _ (by decide +kernel)) ggX8_walked_X8_parentOf
theorem dX8_walked_0 : decode cX8_walked 0 = .ok (.aload_n 0, 1) := by decide +kernel
theorem dX8_walked_1 : decode cX8_walked 1 = .ok (.aload_n 0, 1) := by decide +kernel
theorem dX8_walked_2 : decode cX8_walked 2 = .ok (.iload_n 1, 1) := by decide +kernel
theorem dX8_walked_3 : decode cX8_walked 3 = .ok (.invokevirtual 220, 3) := by decide +kernel
theorem dX8_walked_6 : decode cX8_walked 6 = .ok (.ifCond .eq 7, 3) := by decide +kernel
theorem dX8_walked_9 : decode cX8_walked 9 = .ok (.iconst 0, 1) := by decide +kernel
theorem dX8_walked_10 : decode cX8_walked 10 = .ok (.goto 4, 3) := by decide +kernel
theorem dX8_walked_13 : decode cX8_walked 13 = .ok (.iconst 1, 1) := by decide +kernel
theorem dX8_walked_14 : decode cX8_walked 14 = .ok (.putfield 43, 3) := by decide +kernel
theorem dX8_walked_17 : decode cX8_walked 17 = .ok (.iconst 0, 1) := by decide +kernel
theorem dX8_walked_18 : decode cX8_walked 18 = .ok (.istore_n 2, 1) := by decide +kernel
theorem dX8_walked_19 : decode cX8_walked 19 = .ok (.iload_n 1, 1) := by decide +kernel
theorem dX8_walked_20 : decode cX8_walked 20 = .ok (.istore_n 3, 1) := by decide +kernel
theorem dX8_walked_21 : decode cX8_walked 21 = .ok (.iload_n 3, 1) := by decide +kernel
theorem dX8_walked_22 : decode cX8_walked 22 = .ok (.ifCond .le 54, 3) := by decide +kernel
theorem dX8_walked_25 : decode cX8_walked 25 = .ok (.aload_n 0, 1) := by decide +kernel
theorem dX8_walked_26 : decode cX8_walked 26 = .ok (.getfield 43, 3) := by decide +kernel
theorem dX8_walked_29 : decode cX8_walked 29 = .ok (.ifCond .ne 47, 3) := by decide +kernel
theorem dX8_walked_32 : decode cX8_walked 32 = .ok (.aload_n 0, 1) := by decide +kernel
theorem dX8_walked_33 : decode cX8_walked 33 = .ok (.iload_n 2, 1) := by decide +kernel
theorem dX8_walked_34 : decode cX8_walked 34 = .ok (.iconst 0, 1) := by decide +kernel
theorem dX8_walked_35 : decode cX8_walked 35 = .ok (.invokevirtual 240, 3) := by decide +kernel
theorem dX8_walked_38 : decode cX8_walked 38 = .ok (.istore 4, 2) := by decide +kernel
theorem dX8_walked_40 : decode cX8_walked 40 = .ok (.iload 4, 2) := by decide +kernel
theorem dX8_walked_42 : decode cX8_walked 42 = .ok (.iconst (-1), 1) := by decide +kernel
theorem dX8_walked_43 : decode cX8_walked 43 = .ok (.if_icmp .ne 24, 3) := by decide +kernel
theorem dX8_walked_46 : decode cX8_walked 46 = .ok (.aload_n 0, 1) := by decide +kernel
theorem dX8_walked_47 : decode cX8_walked 47 = .ok (.aload_n 0, 1) := by decide +kernel
theorem dX8_walked_48 : decode cX8_walked 48 = .ok (.iload_n 2, 1) := by decide +kernel
theorem dX8_walked_49 : decode cX8_walked 49 = .ok (.invokevirtual 194, 3) := by decide +kernel
theorem dX8_walked_52 : decode cX8_walked 52 = .ok (.iload_n 2, 1) := by decide +kernel
theorem dX8_walked_53 : decode cX8_walked 53 = .ok (.invokevirtual 240, 3) := by decide +kernel
theorem dX8_walked_56 : decode cX8_walked 56 = .ok (.istore 4, 2) := by decide +kernel
theorem dX8_walked_58 : decode cX8_walked 58 = .ok (.aload_n 0, 1) := by decide +kernel
theorem dX8_walked_59 : decode cX8_walked 59 = .ok (.iload_n 2, 1) := by decide +kernel
theorem dX8_walked_60 : decode cX8_walked 60 = .ok (.invokevirtual 194, 3) := by decide +kernel
theorem dX8_walked_63 : decode cX8_walked 63 = .ok (.istore_n 2, 1) := by decide +kernel
theorem dX8_walked_64 : decode cX8_walked 64 = .ok (.goto (-24), 3) := by decide +kernel
theorem dX8_walked_67 : decode cX8_walked 67 = .ok (.iload 4, 2) := by decide +kernel
theorem dX8_walked_69 : decode cX8_walked 69 = .ok (.istore_n 2, 1) := by decide +kernel
theorem dX8_walked_70 : decode cX8_walked 70 = .ok (.iinc 3 (-1), 3) := by decide +kernel
theorem dX8_walked_73 : decode cX8_walked 73 = .ok (.goto (-52), 3) := by decide +kernel
theorem dX8_walked_76 : decode cX8_walked 76 = .ok (.iload_n 2, 1) := by decide +kernel
theorem dX8_walked_77 : decode cX8_walked 77 = .ok (.ireturn, 1) := by decide +kernel
set_option maxRecDepth 20000 in
theorem ggX8_heaviest_X8_isFolder : GoodIn wsX8_heaviest wsX8_isFolder := goodIn_r _ [6, 7, 8, 9, 5, 10, 35, 36, 37, 38, 39, 40, 41, 42, 43, 44, 45, 46, 47, 48, 49, 50, 51, 52] (by decide +kernel) (by decide +kernel)
set_option maxRecDepth 20000 in
theorem gX8_heaviest_X8_isFolder : GoodIn wsX8_heaviest (wsV RX8 220 RX8 yX8_isFolder wsX8_isFolder) := goodIn_app (goodIn_of _ (by decide +kernel)) ggX8_heaviest_X8_isFolder
set_option maxRecDepth 20000 in
theorem ggX8_heaviest_X8_childrenOf : GoodIn wsX8_heaviest wsX8_childrenOf := goodIn_r _ [14, 7, 15, 16, 17, 5, 18, 35, 36, 37, 38, 39, 40, 41, 42, 43, 44, 45, 46, 47, 48, 49, 50, 51, 52] (by decide +kernel) (by decide +kernel)
set_option maxRecDepth 20000 in
theorem gX8_heaviest_X8_childrenOf : GoodIn wsX8_heaviest (wsV RX8 225 RX8 yX8_childrenOf wsX8_childrenOf) := goodIn_app (goodIn_of _ (by decide +kernel)) ggX8_heaviest_X8_childrenOf
set_option maxRecDepth 20000 in
theorem ggX8_heaviest_X8_childBehind : GoodIn wsX8_heaviest wsX8_childBehind := goodIn_r _ [22, 7, 15, 16, 17, 5, 18, 35, 36, 37, 38, 39, 40, 41, 42, 43, 44, 45, 46, 47, 48, 49, 50, 51, 52] (by decide +kernel) (by decide +kernel)
set_option maxRecDepth 20000 in
theorem gX8_heaviest_X8_childBehind : GoodIn wsX8_heaviest (wsV RX8 240 RX8 yX8_childBehind wsX8_childBehind) := goodIn_app (goodIn_of _ (by decide +kernel)) ggX8_heaviest_X8_childBehind
set_option maxRecDepth 20000 in
theorem ggX8_heaviest_X8_filesBelow : GoodIn wsX8_heaviest wsX8_filesBelow := goodIn_r _ [26, 7, 27, 28, 29, 5, 30, 31, 32, 33, 34, 15, 16, 17, 18, 35, 36, 37, 38, 39, 40, 41, 42, 43, 44, 45, 46, 47, 48, 49, 50, 51, 52] (by decide +kernel) (by decide +kernel)
set_option maxRecDepth 20000 in
theorem gX8_heaviest_X8_filesBelow : GoodIn wsX8_heaviest (wsV RX8 210 RX8 yX8_filesBelow wsX8_filesBelow) := goodIn_app (goodIn_of _ (by decide +kernel)) ggX8_heaviest_X8_filesBelow
theorem dX8_heaviest_0 : decode cX8_heaviest 0 = .ok (.aload_n 0, 1) := by decide +kernel
theorem dX8_heaviest_1 : decode cX8_heaviest 1 = .ok (.aload_n 0, 1) := by decide +kernel
theorem dX8_heaviest_2 : decode cX8_heaviest 2 = .ok (.iload_n 1, 1) := by decide +kernel
theorem dX8_heaviest_3 : decode cX8_heaviest 3 = .ok (.invokevirtual 220, 3) := by decide +kernel
theorem dX8_heaviest_6 : decode cX8_heaviest 6 = .ok (.ifCond .ne 7, 3) := by decide +kernel
theorem dX8_heaviest_9 : decode cX8_heaviest 9 = .ok (.iconst 1, 1) := by decide +kernel
theorem dX8_heaviest_10 : decode cX8_heaviest 10 = .ok (.goto 16, 3) := by decide +kernel
theorem dX8_heaviest_13 : decode cX8_heaviest 13 = .ok (.aload_n 0, 1) := by decide +kernel
theorem dX8_heaviest_14 : decode cX8_heaviest 14 = .ok (.iload_n 1, 1) := by decide +kernel
theorem dX8_heaviest_15 : decode cX8_heaviest 15 = .ok (.invokevirtual 225, 3) := by decide +kernel
theorem dX8_heaviest_18 : decode cX8_heaviest 18 = .ok (.ifCond .ne 7, 3) := by decide +kernel
theorem dX8_heaviest_21 : decode cX8_heaviest 21 = .ok (.iconst 2, 1) := by decide +kernel
theorem dX8_heaviest_22 : decode cX8_heaviest 22 = .ok (.goto 4, 3) := by decide +kernel
theorem dX8_heaviest_25 : decode cX8_heaviest 25 = .ok (.iconst 0, 1) := by decide +kernel
theorem dX8_heaviest_26 : decode cX8_heaviest 26 = .ok (.putfield 43, 3) := by decide +kernel
theorem dX8_heaviest_29 : decode cX8_heaviest 29 = .ok (.aload_n 0, 1) := by decide +kernel
theorem dX8_heaviest_30 : decode cX8_heaviest 30 = .ok (.getfield 43, 3) := by decide +kernel
theorem dX8_heaviest_33 : decode cX8_heaviest 33 = .ok (.ifCond .le 5, 3) := by decide +kernel
theorem dX8_heaviest_36 : decode cX8_heaviest 36 = .ok (.iconst 0, 1) := by decide +kernel
theorem dX8_heaviest_37 : decode cX8_heaviest 37 = .ok (.ireturn, 1) := by decide +kernel
theorem dX8_heaviest_38 : decode cX8_heaviest 38 = .ok (.aload_n 0, 1) := by decide +kernel
theorem dX8_heaviest_39 : decode cX8_heaviest 39 = .ok (.iload_n 1, 1) := by decide +kernel
theorem dX8_heaviest_40 : decode cX8_heaviest 40 = .ok (.iconst 0, 1) := by decide +kernel
theorem dX8_heaviest_41 : decode cX8_heaviest 41 = .ok (.invokevirtual 240, 3) := by decide +kernel
theorem dX8_heaviest_44 : decode cX8_heaviest 44 = .ok (.istore_n 2, 1) := by decide +kernel
theorem dX8_heaviest_45 : decode cX8_heaviest 45 = .ok (.iload_n 2, 1) := by decide +kernel
theorem dX8_heaviest_46 : decode cX8_heaviest 46 = .ok (.istore_n 3, 1) := by decide +kernel
theorem dX8_heaviest_47 : decode cX8_heaviest 47 = .ok (.iload_n 3, 1) := by decide +kernel
theorem dX8_heaviest_48 : decode cX8_heaviest 48 = .ok (.iconst (-1), 1) := by decide +kernel
theorem dX8_heaviest_49 : decode cX8_heaviest 49 = .ok (.if_icmp .eq 35, 3) := by decide +kernel
theorem dX8_heaviest_52 : decode cX8_heaviest 52 = .ok (.aload_n 0, 1) := by decide +kernel
theorem dX8_heaviest_53 : decode cX8_heaviest 53 = .ok (.iload_n 3, 1) := by decide +kernel
theorem dX8_heaviest_54 : decode cX8_heaviest 54 = .ok (.iconst 1, 1) := by decide +kernel
theorem dX8_heaviest_55 : decode cX8_heaviest 55 = .ok (.invokevirtual 210, 3) := by decide +kernel
theorem dX8_heaviest_58 : decode cX8_heaviest 58 = .ok (.aload_n 0, 1) := by decide +kernel
theorem dX8_heaviest_59 : decode cX8_heaviest 59 = .ok (.iload_n 2, 1) := by decide +kernel
theorem dX8_heaviest_60 : decode cX8_heaviest 60 = .ok (.iconst 1, 1) := by decide +kernel
theorem dX8_heaviest_61 : decode cX8_heaviest 61 = .ok (.invokevirtual 210, 3) := by decide +kernel
theorem dX8_heaviest_64 : decode cX8_heaviest 64 = .ok (.lcmp, 1) := by decide +kernel
theorem dX8_heaviest_65 : decode cX8_heaviest 65 = .ok (.ifCond .le 7, 3) := by decide +kernel
theorem dX8_heaviest_68 : decode cX8_heaviest 68 = .ok (.iload_n 3, 1) := by decide +kernel
theorem dX8_heaviest_69 : decode cX8_heaviest 69 = .ok (.goto 4, 3) := by decide +kernel
theorem dX8_heaviest_72 : decode cX8_heaviest 72 = .ok (.iload_n 2, 1) := by decide +kernel
theorem dX8_heaviest_73 : decode cX8_heaviest 73 = .ok (.istore_n 2, 1) := by decide +kernel
theorem dX8_heaviest_74 : decode cX8_heaviest 74 = .ok (.aload_n 0, 1) := by decide +kernel
theorem dX8_heaviest_75 : decode cX8_heaviest 75 = .ok (.iload_n 1, 1) := by decide +kernel
theorem dX8_heaviest_76 : decode cX8_heaviest 76 = .ok (.iload_n 3, 1) := by decide +kernel
theorem dX8_heaviest_77 : decode cX8_heaviest 77 = .ok (.invokevirtual 240, 3) := by decide +kernel
theorem dX8_heaviest_80 : decode cX8_heaviest 80 = .ok (.istore_n 3, 1) := by decide +kernel
theorem dX8_heaviest_81 : decode cX8_heaviest 81 = .ok (.goto (-34), 3) := by decide +kernel
theorem dX8_heaviest_84 : decode cX8_heaviest 84 = .ok (.iload_n 2, 1) := by decide +kernel
theorem dX8_heaviest_85 : decode cX8_heaviest 85 = .ok (.ireturn, 1) := by decide +kernel
set_option maxRecDepth 20000 in
theorem ggX8_room_X8_isFolder : GoodIn wsX8_room wsX8_isFolder := goodIn_r _ [6, 7, 8, 9, 5, 10, 58, 59, 60, 61, 62, 63, 64, 65, 66, 67, 68, 69, 70, 71, 72, 73, 74, 75] (by decide +kernel) (by decide +kernel)
set_option maxRecDepth 20000 in
theorem gX8_room_X8_isFolder : GoodIn wsX8_room (wsV RX8 220 RX8 yX8_isFolder wsX8_isFolder) := goodIn_app (goodIn_of _ (by decide +kernel)) ggX8_room_X8_isFolder
set_option maxRecDepth 20000 in
theorem ggX8_room_X8_projectOf : GoodIn wsX8_room wsX8_projectOf := goodIn_r _ [14, 15, 16, 17, 5, 18, 7, 19, 20, 21, 22, 58, 59, 60, 61, 62, 63, 64, 65, 66, 67, 68, 69, 70, 71, 72, 73, 74, 75] (by decide +kernel) (by decide +kernel)
set_option maxRecDepth 20000 in
theorem gX8_room_X8_projectOf : GoodIn wsX8_room (wsV RX8 207 RX8 yX8_projectOf wsX8_projectOf) := goodIn_app (goodIn_of _ (by decide +kernel)) ggX8_room_X8_projectOf
set_option maxRecDepth 20000 in
theorem ggX8_room_X8_reasonFor : GoodIn wsX8_room wsX8_reasonFor := goodIn_r _ [26, 27, 28, 29, 5, 30, 31, 32, 33, 34, 35, 7, 36, 37, 38, 39, 40, 41, 42, 43, 44, 45, 46, 47, 48, 49, 50, 51, 52, 53, 54, 55, 56, 57, 58, 59, 60, 61, 62, 63, 64, 65, 66, 67, 68, 69, 70, 71, 72, 73, 74, 75] (by decide +kernel) (by decide +kernel)
set_option maxRecDepth 20000 in
theorem gX8_room_X8_reasonFor : GoodIn wsX8_room (wsV RX8 283 RX8 yX8_reasonFor wsX8_reasonFor) := goodIn_app (goodIn_of _ (by decide +kernel)) ggX8_room_X8_reasonFor
theorem dX8_room_0 : decode cX8_room 0 = .ok (.aload_n 0, 1) := by decide +kernel
theorem dX8_room_1 : decode cX8_room 1 = .ok (.aload_n 0, 1) := by decide +kernel
theorem dX8_room_2 : decode cX8_room 2 = .ok (.iload_n 1, 1) := by decide +kernel
theorem dX8_room_3 : decode cX8_room 3 = .ok (.invokevirtual 220, 3) := by decide +kernel
theorem dX8_room_6 : decode cX8_room 6 = .ok (.ifCond .eq 7, 3) := by decide +kernel
theorem dX8_room_9 : decode cX8_room 9 = .ok (.iconst 0, 1) := by decide +kernel
theorem dX8_room_10 : decode cX8_room 10 = .ok (.goto 4, 3) := by decide +kernel
theorem dX8_room_13 : decode cX8_room 13 = .ok (.iconst 1, 1) := by decide +kernel
theorem dX8_room_14 : decode cX8_room 14 = .ok (.putfield 43, 3) := by decide +kernel
theorem dX8_room_17 : decode cX8_room 17 = .ok (.aload_n 0, 1) := by decide +kernel
theorem dX8_room_18 : decode cX8_room 18 = .ok (.getfield 43, 3) := by decide +kernel
theorem dX8_room_21 : decode cX8_room 21 = .ok (.ifCond .le 5, 3) := by decide +kernel
theorem dX8_room_24 : decode cX8_room 24 = .ok (.iconst 0, 1) := by decide +kernel
theorem dX8_room_25 : decode cX8_room 25 = .ok (.ireturn, 1) := by decide +kernel
theorem dX8_room_26 : decode cX8_room 26 = .ok (.aload_n 0, 1) := by decide +kernel
theorem dX8_room_27 : decode cX8_room 27 = .ok (.iload_n 1, 1) := by decide +kernel
theorem dX8_room_28 : decode cX8_room 28 = .ok (.invokevirtual 207, 3) := by decide +kernel
theorem dX8_room_31 : decode cX8_room 31 = .ok (.istore_n 2, 1) := by decide +kernel
theorem dX8_room_32 : decode cX8_room 32 = .ok (.sipush 9999, 3) := by decide +kernel
theorem dX8_room_35 : decode cX8_room 35 = .ok (.istore_n 3, 1) := by decide +kernel
theorem dX8_room_36 : decode cX8_room 36 = .ok (.iload_n 3, 1) := by decide +kernel
theorem dX8_room_37 : decode cX8_room 37 = .ok (.ifCond .lt 20, 3) := by decide +kernel
theorem dX8_room_40 : decode cX8_room 40 = .ok (.aload_n 0, 1) := by decide +kernel
theorem dX8_room_41 : decode cX8_room 41 = .ok (.iload_n 2, 1) := by decide +kernel
theorem dX8_room_42 : decode cX8_room 42 = .ok (.iload_n 3, 1) := by decide +kernel
theorem dX8_room_43 : decode cX8_room 43 = .ok (.i2l, 1) := by decide +kernel
theorem dX8_room_44 : decode cX8_room 44 = .ok (.lconst 1, 1) := by decide +kernel
theorem dX8_room_45 : decode cX8_room 45 = .ok (.invokevirtual 283, 3) := by decide +kernel
theorem dX8_room_48 : decode cX8_room 48 = .ok (.ifCond .le 9, 3) := by decide +kernel
theorem dX8_room_51 : decode cX8_room 51 = .ok (.iinc 3 (-1), 3) := by decide +kernel
theorem dX8_room_54 : decode cX8_room 54 = .ok (.goto (-18), 3) := by decide +kernel
theorem dX8_room_57 : decode cX8_room 57 = .ok (.iload_n 3, 1) := by decide +kernel
theorem dX8_room_58 : decode cX8_room 58 = .ok (.ireturn, 1) := by decide +kernel
set_option maxRecDepth 20000 in
theorem ggX8_greatest_X8_isProject : GoodIn wsX8_greatest wsX8_isProject := goodIn_r _ [6, 7, 8, 9, 5, 10] (by decide +kernel) (by decide +kernel)
set_option maxRecDepth 20000 in
theorem gX8_greatest_X8_isProject : GoodIn wsX8_greatest (va_wsS RX8 320 yX8_isProject wsX8_isProject) := goodIn_app (goodIn_of _ (by decide +kernel)) ggX8_greatest_X8_isProject
set_option maxRecDepth 20000 in
theorem ggX8_greatest_X8_countedOf : GoodIn wsX8_greatest wsX8_countedOf := goodIn_r _ [14, 2, 15, 16, 17, 5, 18, 19, 20, 21, 22, 23, 24, 25, 26, 27, 28, 29, 30, 31, 32, 33, 34, 35, 36, 37, 38, 39, 40, 41, 42, 43, 44, 45, 46, 47, 48] (by decide +kernel) (by decide +kernel)
set_option maxRecDepth 20000 in
theorem gX8_greatest_X8_countedOf : GoodIn wsX8_greatest (wsV RX8 182 RX8 yX8_countedOf wsX8_countedOf) := goodIn_app (goodIn_of _ (by decide +kernel)) ggX8_greatest_X8_countedOf
set_option maxRecDepth 20000 in
theorem ggX8_greatest_X8_folderOf : GoodIn wsX8_greatest wsX8_folderOf := goodIn_r _ [18, 2, 31, 32, 33, 34, 35, 36, 37, 38, 39, 40, 41, 42, 43, 44, 45, 46, 47, 48] (by decide +kernel) (by decide +kernel)
set_option maxRecDepth 20000 in
theorem gX8_greatest_X8_folderOf : GoodIn wsX8_greatest (wsV RX8 197 RX8 yX8_folderOf wsX8_folderOf) := goodIn_app (goodIn_of _ (by decide +kernel)) ggX8_greatest_X8_folderOf
set_option maxRecDepth 20000 in
theorem ggX8_greatest_X8_projectOf : GoodIn wsX8_greatest wsX8_projectOf := goodIn_r _ [22, 23, 24, 25, 5, 26, 2, 27, 28, 29, 30, 31, 32, 33, 34, 35, 36, 37, 38, 39, 40, 41, 42, 43, 44, 45, 46, 47, 48] (by decide +kernel) (by decide +kernel)
set_option maxRecDepth 20000 in
theorem gX8_greatest_X8_projectOf : GoodIn wsX8_greatest (wsV RX8 207 RX8 yX8_projectOf wsX8_projectOf) := goodIn_app (goodIn_of _ (by decide +kernel)) ggX8_greatest_X8_projectOf
theorem dX8_greatest_0 : decode cX8_greatest 0 = .ok (.aload_n 0, 1) := by decide +kernel
theorem dX8_greatest_1 : decode cX8_greatest 1 = .ok (.iload_n 1, 1) := by decide +kernel
theorem dX8_greatest_2 : decode cX8_greatest 2 = .ok (.invokestatic 320, 3) := by decide +kernel
theorem dX8_greatest_5 : decode cX8_greatest 5 = .ok (.ifCond .ne 7, 3) := by decide +kernel
theorem dX8_greatest_8 : decode cX8_greatest 8 = .ok (.iconst 1, 1) := by decide +kernel
theorem dX8_greatest_9 : decode cX8_greatest 9 = .ok (.goto 19, 3) := by decide +kernel
theorem dX8_greatest_12 : decode cX8_greatest 12 = .ok (.aload_n 0, 1) := by decide +kernel
theorem dX8_greatest_13 : decode cX8_greatest 13 = .ok (.iload_n 1, 1) := by decide +kernel
theorem dX8_greatest_14 : decode cX8_greatest 14 = .ok (.iconst 1, 1) := by decide +kernel
theorem dX8_greatest_15 : decode cX8_greatest 15 = .ok (.invokevirtual 182, 3) := by decide +kernel
theorem dX8_greatest_18 : decode cX8_greatest 18 = .ok (.lconst 0, 1) := by decide +kernel
theorem dX8_greatest_19 : decode cX8_greatest 19 = .ok (.lcmp, 1) := by decide +kernel
theorem dX8_greatest_20 : decode cX8_greatest 20 = .ok (.ifCond .ne 7, 3) := by decide +kernel
theorem dX8_greatest_23 : decode cX8_greatest 23 = .ok (.iconst 2, 1) := by decide +kernel
theorem dX8_greatest_24 : decode cX8_greatest 24 = .ok (.goto 4, 3) := by decide +kernel
theorem dX8_greatest_27 : decode cX8_greatest 27 = .ok (.iconst 0, 1) := by decide +kernel
theorem dX8_greatest_28 : decode cX8_greatest 28 = .ok (.putfield 43, 3) := by decide +kernel
theorem dX8_greatest_31 : decode cX8_greatest 31 = .ok (.iconst (-1), 1) := by decide +kernel
theorem dX8_greatest_32 : decode cX8_greatest 32 = .ok (.istore_n 2, 1) := by decide +kernel
theorem dX8_greatest_33 : decode cX8_greatest 33 = .ok (.iconst 0, 1) := by decide +kernel
theorem dX8_greatest_34 : decode cX8_greatest 34 = .ok (.istore_n 3, 1) := by decide +kernel
theorem dX8_greatest_35 : decode cX8_greatest 35 = .ok (.iload_n 3, 1) := by decide +kernel
theorem dX8_greatest_36 : decode cX8_greatest 36 = .ok (.i2l, 1) := by decide +kernel
theorem dX8_greatest_37 : decode cX8_greatest 37 = .ok (.aload_n 0, 1) := by decide +kernel
theorem dX8_greatest_38 : decode cX8_greatest 38 = .ok (.getfield 7, 3) := by decide +kernel
theorem dX8_greatest_41 : decode cX8_greatest 41 = .ok (.iconst 3, 1) := by decide +kernel
theorem dX8_greatest_42 : decode cX8_greatest 42 = .ok (.laload, 1) := by decide +kernel
theorem dX8_greatest_43 : decode cX8_greatest 43 = .ok (.lcmp, 1) := by decide +kernel
theorem dX8_greatest_44 : decode cX8_greatest 44 = .ok (.ifCond .ge 63, 3) := by decide +kernel
theorem dX8_greatest_47 : decode cX8_greatest 47 = .ok (.aload_n 0, 1) := by decide +kernel
theorem dX8_greatest_48 : decode cX8_greatest 48 = .ok (.getfield 43, 3) := by decide +kernel
theorem dX8_greatest_51 : decode cX8_greatest 51 = .ok (.ifCond .ne 56, 3) := by decide +kernel
theorem dX8_greatest_54 : decode cX8_greatest 54 = .ok (.aload_n 0, 1) := by decide +kernel
theorem dX8_greatest_55 : decode cX8_greatest 55 = .ok (.aload_n 0, 1) := by decide +kernel
theorem dX8_greatest_56 : decode cX8_greatest 56 = .ok (.iload_n 3, 1) := by decide +kernel
theorem dX8_greatest_57 : decode cX8_greatest 57 = .ok (.invokevirtual 197, 3) := by decide +kernel
theorem dX8_greatest_60 : decode cX8_greatest 60 = .ok (.invokevirtual 207, 3) := by decide +kernel
theorem dX8_greatest_63 : decode cX8_greatest 63 = .ok (.iload_n 1, 1) := by decide +kernel
theorem dX8_greatest_64 : decode cX8_greatest 64 = .ok (.if_icmp .eq 6, 3) := by decide +kernel
theorem dX8_greatest_67 : decode cX8_greatest 67 = .ok (.goto 34, 3) := by decide +kernel
theorem dX8_greatest_70 : decode cX8_greatest 70 = .ok (.iload_n 2, 1) := by decide +kernel
theorem dX8_greatest_71 : decode cX8_greatest 71 = .ok (.iconst (-1), 1) := by decide +kernel
theorem dX8_greatest_72 : decode cX8_greatest 72 = .ok (.if_icmp .eq 27, 3) := by decide +kernel
theorem dX8_greatest_75 : decode cX8_greatest 75 = .ok (.aload_n 0, 1) := by decide +kernel
theorem dX8_greatest_76 : decode cX8_greatest 76 = .ok (.getfield 7, 3) := by decide +kernel
theorem dX8_greatest_79 : decode cX8_greatest 79 = .ok (.sipush 249, 3) := by decide +kernel
theorem dX8_greatest_82 : decode cX8_greatest 82 = .ok (.iload_n 3, 1) := by decide +kernel
theorem dX8_greatest_83 : decode cX8_greatest 83 = .ok (.iadd, 1) := by decide +kernel
theorem dX8_greatest_84 : decode cX8_greatest 84 = .ok (.laload, 1) := by decide +kernel
theorem dX8_greatest_85 : decode cX8_greatest 85 = .ok (.aload_n 0, 1) := by decide +kernel
theorem dX8_greatest_86 : decode cX8_greatest 86 = .ok (.getfield 7, 3) := by decide +kernel
theorem dX8_greatest_89 : decode cX8_greatest 89 = .ok (.sipush 249, 3) := by decide +kernel
theorem dX8_greatest_92 : decode cX8_greatest 92 = .ok (.iload_n 2, 1) := by decide +kernel
theorem dX8_greatest_93 : decode cX8_greatest 93 = .ok (.iadd, 1) := by decide +kernel
theorem dX8_greatest_94 : decode cX8_greatest 94 = .ok (.laload, 1) := by decide +kernel
theorem dX8_greatest_95 : decode cX8_greatest 95 = .ok (.lcmp, 1) := by decide +kernel
theorem dX8_greatest_96 : decode cX8_greatest 96 = .ok (.ifCond .le 5, 3) := by decide +kernel
theorem dX8_greatest_99 : decode cX8_greatest 99 = .ok (.iload_n 3, 1) := by decide +kernel
theorem dX8_greatest_100 : decode cX8_greatest 100 = .ok (.istore_n 2, 1) := by decide +kernel
theorem dX8_greatest_101 : decode cX8_greatest 101 = .ok (.iinc 3 1, 3) := by decide +kernel
theorem dX8_greatest_104 : decode cX8_greatest 104 = .ok (.goto (-69), 3) := by decide +kernel
theorem dX8_greatest_107 : decode cX8_greatest 107 = .ok (.aload_n 0, 1) := by decide +kernel
theorem dX8_greatest_108 : decode cX8_greatest 108 = .ok (.getfield 43, 3) := by decide +kernel
theorem dX8_greatest_111 : decode cX8_greatest 111 = .ok (.ifCond .le 7, 3) := by decide +kernel
theorem dX8_greatest_114 : decode cX8_greatest 114 = .ok (.iconst 0, 1) := by decide +kernel
theorem dX8_greatest_115 : decode cX8_greatest 115 = .ok (.goto 4, 3) := by decide +kernel
theorem dX8_greatest_118 : decode cX8_greatest 118 = .ok (.iload_n 2, 1) := by decide +kernel
theorem dX8_greatest_119 : decode cX8_greatest 119 = .ok (.ireturn, 1) := by decide +kernel
set_option maxRecDepth 20000 in
theorem ggX8_nextEvent_X8_sooner : GoodIn wsX8_nextEvent wsX8_sooner := goodIn_r _ [8, 3, 2, 9, 10, 11, 12, 13, 14, 15, 16, 17, 18, 19, 20, 21, 22, 23, 24, 25, 26] (by decide +kernel) (by decide +kernel)
set_option maxRecDepth 20000 in
theorem gX8_nextEvent_X8_sooner : GoodIn wsX8_nextEvent (wsV RX8 348 RX8 yX8_sooner wsX8_sooner) := goodIn_app (goodIn_of _ (by decide +kernel)) ggX8_nextEvent_X8_sooner
theorem dX8_nextEvent_0 : decode cX8_nextEvent 0 = .ok (.aload_n 0, 1) := by decide +kernel
theorem dX8_nextEvent_1 : decode cX8_nextEvent 1 = .ok (.iconst 0, 1) := by decide +kernel
theorem dX8_nextEvent_2 : decode cX8_nextEvent 2 = .ok (.putfield 43, 3) := by decide +kernel
theorem dX8_nextEvent_5 : decode cX8_nextEvent 5 = .ok (.ldc2_w 37, 3) := by decide +kernel
theorem dX8_nextEvent_8 : decode cX8_nextEvent 8 = .ok (.lstore_n 1, 1) := by decide +kernel
theorem dX8_nextEvent_9 : decode cX8_nextEvent 9 = .ok (.iconst 0, 1) := by decide +kernel
theorem dX8_nextEvent_10 : decode cX8_nextEvent 10 = .ok (.istore_n 3, 1) := by decide +kernel
theorem dX8_nextEvent_11 : decode cX8_nextEvent 11 = .ok (.iload_n 3, 1) := by decide +kernel
theorem dX8_nextEvent_12 : decode cX8_nextEvent 12 = .ok (.i2l, 1) := by decide +kernel
theorem dX8_nextEvent_13 : decode cX8_nextEvent 13 = .ok (.aload_n 0, 1) := by decide +kernel
theorem dX8_nextEvent_14 : decode cX8_nextEvent 14 = .ok (.getfield 7, 3) := by decide +kernel
theorem dX8_nextEvent_17 : decode cX8_nextEvent 17 = .ok (.iconst 4, 1) := by decide +kernel
theorem dX8_nextEvent_18 : decode cX8_nextEvent 18 = .ok (.laload, 1) := by decide +kernel
theorem dX8_nextEvent_19 : decode cX8_nextEvent 19 = .ok (.lcmp, 1) := by decide +kernel
theorem dX8_nextEvent_20 : decode cX8_nextEvent 20 = .ok (.ifCond .ge 29, 3) := by decide +kernel
theorem dX8_nextEvent_23 : decode cX8_nextEvent 23 = .ok (.aload_n 0, 1) := by decide +kernel
theorem dX8_nextEvent_24 : decode cX8_nextEvent 24 = .ok (.lload_n 1, 1) := by decide +kernel
theorem dX8_nextEvent_25 : decode cX8_nextEvent 25 = .ok (.aload_n 0, 1) := by decide +kernel
theorem dX8_nextEvent_26 : decode cX8_nextEvent 26 = .ok (.getfield 7, 3) := by decide +kernel
theorem dX8_nextEvent_29 : decode cX8_nextEvent 29 = .ok (.sipush 309, 3) := by decide +kernel
theorem dX8_nextEvent_32 : decode cX8_nextEvent 32 = .ok (.iconst 4, 1) := by decide +kernel
theorem dX8_nextEvent_33 : decode cX8_nextEvent 33 = .ok (.iload_n 3, 1) := by decide +kernel
theorem dX8_nextEvent_34 : decode cX8_nextEvent 34 = .ok (.imul, 1) := by decide +kernel
theorem dX8_nextEvent_35 : decode cX8_nextEvent 35 = .ok (.iadd, 1) := by decide +kernel
theorem dX8_nextEvent_36 : decode cX8_nextEvent 36 = .ok (.iconst 3, 1) := by decide +kernel
theorem dX8_nextEvent_37 : decode cX8_nextEvent 37 = .ok (.iadd, 1) := by decide +kernel
theorem dX8_nextEvent_38 : decode cX8_nextEvent 38 = .ok (.laload, 1) := by decide +kernel
theorem dX8_nextEvent_39 : decode cX8_nextEvent 39 = .ok (.invokevirtual 348, 3) := by decide +kernel
theorem dX8_nextEvent_42 : decode cX8_nextEvent 42 = .ok (.lstore_n 1, 1) := by decide +kernel
theorem dX8_nextEvent_43 : decode cX8_nextEvent 43 = .ok (.iinc 3 1, 3) := by decide +kernel
theorem dX8_nextEvent_46 : decode cX8_nextEvent 46 = .ok (.goto (-35), 3) := by decide +kernel
theorem dX8_nextEvent_49 : decode cX8_nextEvent 49 = .ok (.iconst 0, 1) := by decide +kernel
theorem dX8_nextEvent_50 : decode cX8_nextEvent 50 = .ok (.istore_n 3, 1) := by decide +kernel
theorem dX8_nextEvent_51 : decode cX8_nextEvent 51 = .ok (.iload_n 3, 1) := by decide +kernel
theorem dX8_nextEvent_52 : decode cX8_nextEvent 52 = .ok (.bipush 16, 2) := by decide +kernel
theorem dX8_nextEvent_54 : decode cX8_nextEvent 54 = .ok (.if_icmp .ge 51, 3) := by decide +kernel
theorem dX8_nextEvent_57 : decode cX8_nextEvent 57 = .ok (.aload_n 0, 1) := by decide +kernel
theorem dX8_nextEvent_58 : decode cX8_nextEvent 58 = .ok (.getfield 7, 3) := by decide +kernel
theorem dX8_nextEvent_61 : decode cX8_nextEvent 61 = .ok (.bipush 53, 2) := by decide +kernel
theorem dX8_nextEvent_63 : decode cX8_nextEvent 63 = .ok (.iload_n 3, 1) := by decide +kernel
theorem dX8_nextEvent_64 : decode cX8_nextEvent 64 = .ok (.iadd, 1) := by decide +kernel
theorem dX8_nextEvent_65 : decode cX8_nextEvent 65 = .ok (.laload, 1) := by decide +kernel
theorem dX8_nextEvent_66 : decode cX8_nextEvent 66 = .ok (.ldc2_w 37, 3) := by decide +kernel
theorem dX8_nextEvent_69 : decode cX8_nextEvent 69 = .ok (.lcmp, 1) := by decide +kernel
theorem dX8_nextEvent_70 : decode cX8_nextEvent 70 = .ok (.ifCond .ne 7, 3) := by decide +kernel
theorem dX8_nextEvent_73 : decode cX8_nextEvent 73 = .ok (.lload_n 1, 1) := by decide +kernel
theorem dX8_nextEvent_74 : decode cX8_nextEvent 74 = .ok (.goto 24, 3) := by decide +kernel
theorem dX8_nextEvent_77 : decode cX8_nextEvent 77 = .ok (.aload_n 0, 1) := by decide +kernel
theorem dX8_nextEvent_78 : decode cX8_nextEvent 78 = .ok (.lload_n 1, 1) := by decide +kernel
theorem dX8_nextEvent_79 : decode cX8_nextEvent 79 = .ok (.aload_n 0, 1) := by decide +kernel
theorem dX8_nextEvent_80 : decode cX8_nextEvent 80 = .ok (.getfield 7, 3) := by decide +kernel
theorem dX8_nextEvent_83 : decode cX8_nextEvent 83 = .ok (.bipush 53, 2) := by decide +kernel
theorem dX8_nextEvent_85 : decode cX8_nextEvent 85 = .ok (.iload_n 3, 1) := by decide +kernel
theorem dX8_nextEvent_86 : decode cX8_nextEvent 86 = .ok (.iadd, 1) := by decide +kernel
theorem dX8_nextEvent_87 : decode cX8_nextEvent 87 = .ok (.laload, 1) := by decide +kernel
theorem dX8_nextEvent_88 : decode cX8_nextEvent 88 = .ok (.aload_n 0, 1) := by decide +kernel
theorem dX8_nextEvent_89 : decode cX8_nextEvent 89 = .ok (.getfield 7, 3) := by decide +kernel
theorem dX8_nextEvent_92 : decode cX8_nextEvent 92 = .ok (.iconst 1, 1) := by decide +kernel
theorem dX8_nextEvent_93 : decode cX8_nextEvent 93 = .ok (.laload, 1) := by decide +kernel
theorem dX8_nextEvent_94 : decode cX8_nextEvent 94 = .ok (.ladd, 1) := by decide +kernel
theorem dX8_nextEvent_95 : decode cX8_nextEvent 95 = .ok (.invokevirtual 348, 3) := by decide +kernel
theorem dX8_nextEvent_98 : decode cX8_nextEvent 98 = .ok (.lstore_n 1, 1) := by decide +kernel
theorem dX8_nextEvent_99 : decode cX8_nextEvent 99 = .ok (.iinc 3 1, 3) := by decide +kernel
theorem dX8_nextEvent_102 : decode cX8_nextEvent 102 = .ok (.goto (-51), 3) := by decide +kernel
theorem dX8_nextEvent_105 : decode cX8_nextEvent 105 = .ok (.lload_n 1, 1) := by decide +kernel
theorem dX8_nextEvent_106 : decode cX8_nextEvent 106 = .ok (.l2i, 1) := by decide +kernel
theorem dX8_nextEvent_107 : decode cX8_nextEvent 107 = .ok (.ireturn, 1) := by decide +kernel
