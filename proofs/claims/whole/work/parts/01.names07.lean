set_option maxRecDepth 20000 in
theorem ggX10_would_X10_in : GoodIn wsX10_would wsX10_in := goodIn_r _ [12] (by decide +kernel) (by decide +kernel)
set_option maxRecDepth 20000 in
theorem gX10_would_X10_in : GoodIn wsX10_would (va_wsS RX10 121 yX10_in wsX10_in) := goodIn_app (goodIn_of _ (by decide +kernel)) ggX10_would_X10_in
set_option maxRecDepth 20000 in
theorem ggX10_would_X10_minds : GoodIn wsX10_would wsX10_minds := goodIn_r _ [16, 17, 18, 19, 20, 21, 22, 2, 23, 24, 25, 26, 27, 28, 29, 30, 31, 7, 32, 97, 98, 99, 100, 101, 102, 103, 104, 105, 106, 107, 108, 109, 110, 111, 112, 113, 114, 115, 116, 117, 118, 119, 120, 121, 122, 123, 124, 125, 126, 127, 128, 129, 130, 131, 132, 133, 134, 135, 136, 137, 138, 139, 140, 141, 142, 143] (by decide +kernel) (by decide +kernel)
set_option maxRecDepth 20000 in
theorem gX10_would_X10_minds : GoodIn wsX10_would (wsV RX10 365 RX10 yX10_minds wsX10_minds) := goodIn_app (goodIn_of _ (by decide +kernel)) ggX10_would_X10_minds
set_option maxRecDepth 20000 in
theorem ggX10_would_X10_afresh : GoodIn wsX10_would wsX10_afresh := goodIn_r _ [36, 18, 19, 25, 26, 27, 28, 23, 97, 98, 99, 100, 101, 102, 103, 104, 105, 106, 107, 108, 109, 110, 111, 112, 113, 114, 115, 116, 117, 118, 119, 120, 121, 122, 123, 124, 125, 126, 127, 128, 129, 130, 131, 132, 133, 134, 135, 136, 137, 138, 139, 140, 141, 142, 143] (by decide +kernel) (by decide +kernel)
set_option maxRecDepth 20000 in
theorem gX10_would_X10_afresh : GoodIn wsX10_would (wsV RX10 115 RX10 yX10_afresh wsX10_afresh) := goodIn_app (goodIn_of _ (by decide +kernel)) ggX10_would_X10_afresh
set_option maxRecDepth 20000 in
theorem ggX10_would_X10_goesOn : GoodIn wsX10_would wsX10_goesOn := goodIn_r _ [40, 18, 3, 41, 42, 43, 7, 44, 9, 23, 45, 20, 19, 24, 25, 46, 47, 48, 49, 2, 21, 50, 51, 52, 53, 54, 55, 56, 57, 58, 59, 60, 61, 62, 63, 64, 65, 66, 67, 68, 69, 70, 26, 27, 28, 71, 72, 73, 74, 75, 76, 77, 78, 79, 80, 81, 82, 83, 84, 97, 98, 99, 100, 101, 102, 103, 104, 105, 106, 107, 108, 109, 110, 111, 112, 113, 114, 115, 116, 117, 118, 119, 120, 121, 122, 123, 124, 125, 126, 127, 128, 129, 130, 131, 132, 133, 134, 135, 136, 137, 138, 139, 140, 141, 142, 143] (by decide +kernel) (by decide +kernel)
set_option maxRecDepth 20000 in
theorem gX10_would_X10_goesOn : GoodIn wsX10_would (wsV RX10 310 RX10 yX10_goesOn wsX10_goesOn) := goodIn_app (goodIn_of _ (by decide +kernel)) ggX10_would_X10_goesOn
set_option maxRecDepth 20000 in
theorem ggX10_would_X10_faults : GoodIn wsX10_would wsX10_faults := goodIn_r _ [88, 18, 25, 26, 97, 98, 99, 100, 101, 102, 103, 104, 105, 106, 107, 108, 109, 110, 111, 112, 113, 114, 115, 116, 117, 118, 119, 120, 121, 122, 123, 124, 125, 126, 127, 128, 129, 130, 131, 132, 133, 134, 135, 136, 137, 138, 139, 140, 141, 142, 143] (by decide +kernel) (by decide +kernel)
set_option maxRecDepth 20000 in
theorem gX10_would_X10_faults : GoodIn wsX10_would (wsV RX10 313 RX10 yX10_faults wsX10_faults) := goodIn_app (goodIn_of _ (by decide +kernel)) ggX10_would_X10_faults
set_option maxRecDepth 20000 in
theorem ggX10_would_X10_forgets : GoodIn wsX10_would wsX10_forgets := goodIn_r _ [92, 17, 18, 19, 20, 21, 22, 2, 23, 24, 25, 26, 27, 28, 93, 94, 95, 7, 96, 97, 98, 99, 100, 101, 102, 103, 104, 105, 106, 107, 108, 109, 110, 111, 112, 113, 114, 115, 116, 117, 118, 119, 120, 121, 122, 123, 124, 125, 126, 127, 128, 129, 130, 131, 132, 133, 134, 135, 136, 137, 138, 139, 140, 141, 142, 143] (by decide +kernel) (by decide +kernel)
set_option maxRecDepth 20000 in
theorem gX10_would_X10_forgets : GoodIn wsX10_would (wsV RX10 368 RX10 yX10_forgets wsX10_forgets) := goodIn_app (goodIn_of _ (by decide +kernel)) ggX10_would_X10_forgets
theorem dX10_would_0 : decode cX10_would 0 = .ok (.aload_n 0, 1) := by decide +kernel
theorem dX10_would_1 : decode cX10_would 1 = .ok (.iload_n 1, 1) := by decide +kernel
theorem dX10_would_2 : decode cX10_would 2 = .ok (.invokevirtual 279, 3) := by decide +kernel
theorem dX10_would_5 : decode cX10_would 5 = .ok (.ifCond .ne 5, 3) := by decide +kernel
theorem dX10_would_8 : decode cX10_would 8 = .ok (.iconst (-1), 1) := by decide +kernel
theorem dX10_would_9 : decode cX10_would 9 = .ok (.ireturn, 1) := by decide +kernel
theorem dX10_would_10 : decode cX10_would 10 = .ok (.iload_n 2, 1) := by decide +kernel
theorem dX10_would_11 : decode cX10_would 11 = .ok (.i2l, 1) := by decide +kernel
theorem dX10_would_12 : decode cX10_would 12 = .ok (.lconst 1, 1) := by decide +kernel
theorem dX10_would_13 : decode cX10_would 13 = .ok (.ldc2_w 282, 3) := by decide +kernel
theorem dX10_would_16 : decode cX10_would 16 = .ok (.invokestatic 121, 3) := by decide +kernel
theorem dX10_would_19 : decode cX10_would 19 = .ok (.ifCond .ne 6, 3) := by decide +kernel
theorem dX10_would_22 : decode cX10_would 22 = .ok (.bipush (-2), 2) := by decide +kernel
theorem dX10_would_24 : decode cX10_would 24 = .ok (.ireturn, 1) := by decide +kernel
theorem dX10_would_25 : decode cX10_would 25 = .ok (.aload_n 0, 1) := by decide +kernel
theorem dX10_would_26 : decode cX10_would 26 = .ok (.invokevirtual 365, 3) := by decide +kernel
theorem dX10_would_29 : decode cX10_would 29 = .ok (.aload_n 0, 1) := by decide +kernel
theorem dX10_would_30 : decode cX10_would 30 = .ok (.getfield 25, 3) := by decide +kernel
theorem dX10_would_33 : decode cX10_would 33 = .ok (.iload_n 1, 1) := by decide +kernel
theorem dX10_would_34 : decode cX10_would 34 = .ok (.iload_n 2, 1) := by decide +kernel
theorem dX10_would_35 : decode cX10_would 35 = .ok (.iastore, 1) := by decide +kernel
theorem dX10_would_36 : decode cX10_would 36 = .ok (.aload_n 0, 1) := by decide +kernel
theorem dX10_would_37 : decode cX10_would 37 = .ok (.invokevirtual 115, 3) := by decide +kernel
theorem dX10_would_40 : decode cX10_would 40 = .ok (.aload_n 0, 1) := by decide +kernel
theorem dX10_would_41 : decode cX10_would 41 = .ok (.aload_n 0, 1) := by decide +kernel
theorem dX10_would_42 : decode cX10_would 42 = .ok (.getfield 125, 3) := by decide +kernel
theorem dX10_would_45 : decode cX10_would 45 = .ok (.invokevirtual 310, 3) := by decide +kernel
theorem dX10_would_48 : decode cX10_would 48 = .ok (.pop, 1) := by decide +kernel
theorem dX10_would_49 : decode cX10_would 49 = .ok (.aload_n 0, 1) := by decide +kernel
theorem dX10_would_50 : decode cX10_would 50 = .ok (.iconst 0, 1) := by decide +kernel
theorem dX10_would_51 : decode cX10_would 51 = .ok (.invokevirtual 313, 3) := by decide +kernel
theorem dX10_would_54 : decode cX10_would 54 = .ok (.istore_n 3, 1) := by decide +kernel
theorem dX10_would_55 : decode cX10_would 55 = .ok (.aload_n 0, 1) := by decide +kernel
theorem dX10_would_56 : decode cX10_would 56 = .ok (.invokevirtual 368, 3) := by decide +kernel
theorem dX10_would_59 : decode cX10_would 59 = .ok (.iload_n 3, 1) := by decide +kernel
theorem dX10_would_60 : decode cX10_would 60 = .ok (.ireturn, 1) := by decide +kernel
set_option maxRecDepth 20000 in
theorem ggX10_need_X10_isColumn : GoodIn wsX10_need wsX10_isColumn := goodIn_r _ [6, 7, 8, 9, 5, 10, 30, 31, 32, 33, 34, 35, 36, 37, 38, 39, 40, 41, 42, 43, 44, 45, 46, 47, 48, 49, 50, 51, 52, 53, 54, 55, 56, 57, 58, 59, 60, 61, 62, 63, 64, 65, 66, 67, 68, 69, 70, 71, 72, 73, 74, 75, 76] (by decide +kernel) (by decide +kernel)
set_option maxRecDepth 20000 in
theorem gX10_need_X10_isColumn : GoodIn wsX10_need (wsV RX10 279 RX10 yX10_isColumn wsX10_isColumn) := goodIn_app (goodIn_of _ (by decide +kernel)) ggX10_need_X10_isColumn
set_option maxRecDepth 20000 in
theorem ggX10_need_X10_in : GoodIn wsX10_need wsX10_in := goodIn_r _ [10] (by decide +kernel) (by decide +kernel)
set_option maxRecDepth 20000 in
theorem gX10_need_X10_in : GoodIn wsX10_need (va_wsS RX10 121 yX10_in wsX10_in) := goodIn_app (goodIn_of _ (by decide +kernel)) ggX10_need_X10_in
set_option maxRecDepth 20000 in
theorem ggX10_need_X10_guess : GoodIn wsX10_need wsX10_guess := goodIn_r _ [14, 15, 16, 17, 5, 18, 19, 20, 21, 22, 23, 24, 25, 26, 27, 28, 29, 30, 31, 32, 33, 34, 35, 36, 37, 38, 39, 40, 41, 42, 43, 44, 45, 46, 47, 48, 49, 50, 51, 52, 53, 54, 55, 56, 57, 58, 59, 60, 61, 62, 63, 64, 65, 66, 67, 68, 69, 70, 71, 72, 73, 74, 75, 76] (by decide +kernel) (by decide +kernel)
set_option maxRecDepth 20000 in
theorem gX10_need_X10_guess : GoodIn wsX10_need (wsV RX10 274 RX10 yX10_guess wsX10_guess) := goodIn_app (goodIn_of _ (by decide +kernel)) ggX10_need_X10_guess
theorem dX10_need_0 : decode cX10_need 0 = .ok (.aload_n 0, 1) := by decide +kernel
theorem dX10_need_1 : decode cX10_need 1 = .ok (.iload_n 1, 1) := by decide +kernel
theorem dX10_need_2 : decode cX10_need 2 = .ok (.invokevirtual 279, 3) := by decide +kernel
theorem dX10_need_5 : decode cX10_need 5 = .ok (.ifCond .ne 5, 3) := by decide +kernel
theorem dX10_need_8 : decode cX10_need 8 = .ok (.iconst (-1), 1) := by decide +kernel
theorem dX10_need_9 : decode cX10_need 9 = .ok (.ireturn, 1) := by decide +kernel
theorem dX10_need_10 : decode cX10_need 10 = .ok (.iload_n 2, 1) := by decide +kernel
theorem dX10_need_11 : decode cX10_need 11 = .ok (.i2l, 1) := by decide +kernel
theorem dX10_need_12 : decode cX10_need 12 = .ok (.lconst 1, 1) := by decide +kernel
theorem dX10_need_13 : decode cX10_need 13 = .ok (.ldc2_w 282, 3) := by decide +kernel
theorem dX10_need_16 : decode cX10_need 16 = .ok (.invokestatic 121, 3) := by decide +kernel
theorem dX10_need_19 : decode cX10_need 19 = .ok (.ifCond .ne 6, 3) := by decide +kernel
theorem dX10_need_22 : decode cX10_need 22 = .ok (.bipush (-2), 2) := by decide +kernel
theorem dX10_need_24 : decode cX10_need 24 = .ok (.ireturn, 1) := by decide +kernel
theorem dX10_need_25 : decode cX10_need 25 = .ok (.iconst 1, 1) := by decide +kernel
theorem dX10_need_26 : decode cX10_need 26 = .ok (.istore_n 3, 1) := by decide +kernel
theorem dX10_need_27 : decode cX10_need 27 = .ok (.iload_n 3, 1) := by decide +kernel
theorem dX10_need_28 : decode cX10_need 28 = .ok (.bipush 24, 2) := by decide +kernel
theorem dX10_need_30 : decode cX10_need 30 = .ok (.if_icmp .gt 21, 3) := by decide +kernel
theorem dX10_need_33 : decode cX10_need 33 = .ok (.aload_n 0, 1) := by decide +kernel
theorem dX10_need_34 : decode cX10_need 34 = .ok (.iload_n 1, 1) := by decide +kernel
theorem dX10_need_35 : decode cX10_need 35 = .ok (.iload_n 3, 1) := by decide +kernel
theorem dX10_need_36 : decode cX10_need 36 = .ok (.invokevirtual 274, 3) := by decide +kernel
theorem dX10_need_39 : decode cX10_need 39 = .ok (.iload_n 2, 1) := by decide +kernel
theorem dX10_need_40 : decode cX10_need 40 = .ok (.if_icmp .ne 5, 3) := by decide +kernel
theorem dX10_need_43 : decode cX10_need 43 = .ok (.iload_n 3, 1) := by decide +kernel
theorem dX10_need_44 : decode cX10_need 44 = .ok (.ireturn, 1) := by decide +kernel
theorem dX10_need_45 : decode cX10_need 45 = .ok (.iinc 3 1, 3) := by decide +kernel
theorem dX10_need_48 : decode cX10_need 48 = .ok (.goto (-21), 3) := by decide +kernel
theorem dX10_need_51 : decode cX10_need 51 = .ok (.bipush (-5), 2) := by decide +kernel
theorem dX10_need_53 : decode cX10_need 53 = .ok (.ireturn, 1) := by decide +kernel
set_option maxRecDepth 20000 in
theorem ggX10_see_X10_isLine : GoodIn wsX10_see wsX10_isLine := goodIn_r _ [8, 9, 10, 11, 7, 12, 13, 14, 15, 16, 17, 18, 19, 20, 21, 22, 23, 24, 25, 26, 27, 28, 29, 30, 31, 32, 33, 34, 35, 36, 37, 38, 39, 40, 41, 42, 43, 44, 45, 46, 47, 48, 49, 50, 51, 52, 53, 54, 55, 56, 57, 58, 59] (by decide +kernel) (by decide +kernel)
set_option maxRecDepth 20000 in
theorem gX10_see_X10_isLine : GoodIn wsX10_see (wsV RX10 288 RX10 yX10_isLine wsX10_isLine) := goodIn_app (goodIn_of _ (by decide +kernel)) ggX10_see_X10_isLine
theorem dX10_see_0 : decode cX10_see 0 = .ok (.iload_n 1, 1) := by decide +kernel
theorem dX10_see_1 : decode cX10_see 1 = .ok (.iconst (-1), 1) := by decide +kernel
theorem dX10_see_2 : decode cX10_see 2 = .ok (.if_icmp .ne 10, 3) := by decide +kernel
theorem dX10_see_5 : decode cX10_see 5 = .ok (.aload_n 0, 1) := by decide +kernel
theorem dX10_see_6 : decode cX10_see 6 = .ok (.iconst 0, 1) := by decide +kernel
theorem dX10_see_7 : decode cX10_see 7 = .ok (.putfield 145, 3) := by decide +kernel
theorem dX10_see_10 : decode cX10_see 10 = .ok (.iconst 0, 1) := by decide +kernel
theorem dX10_see_11 : decode cX10_see 11 = .ok (.ireturn, 1) := by decide +kernel
theorem dX10_see_12 : decode cX10_see 12 = .ok (.aload_n 0, 1) := by decide +kernel
theorem dX10_see_13 : decode cX10_see 13 = .ok (.iload_n 1, 1) := by decide +kernel
theorem dX10_see_14 : decode cX10_see 14 = .ok (.invokevirtual 288, 3) := by decide +kernel
theorem dX10_see_17 : decode cX10_see 17 = .ok (.ifCond .ne 5, 3) := by decide +kernel
theorem dX10_see_20 : decode cX10_see 20 = .ok (.iconst (-1), 1) := by decide +kernel
theorem dX10_see_21 : decode cX10_see 21 = .ok (.ireturn, 1) := by decide +kernel
theorem dX10_see_22 : decode cX10_see 22 = .ok (.aload_n 0, 1) := by decide +kernel
theorem dX10_see_23 : decode cX10_see 23 = .ok (.getfield 145, 3) := by decide +kernel
theorem dX10_see_26 : decode cX10_see 26 = .ok (.bipush 6, 2) := by decide +kernel
theorem dX10_see_28 : decode cX10_see 28 = .ok (.if_icmp .ne 6, 3) := by decide +kernel
theorem dX10_see_31 : decode cX10_see 31 = .ok (.bipush (-4), 2) := by decide +kernel
theorem dX10_see_33 : decode cX10_see 33 = .ok (.ireturn, 1) := by decide +kernel
theorem dX10_see_34 : decode cX10_see 34 = .ok (.aload_n 0, 1) := by decide +kernel
theorem dX10_see_35 : decode cX10_see 35 = .ok (.getfield 65, 3) := by decide +kernel
theorem dX10_see_38 : decode cX10_see 38 = .ok (.aload_n 0, 1) := by decide +kernel
theorem dX10_see_39 : decode cX10_see 39 = .ok (.getfield 145, 3) := by decide +kernel
theorem dX10_see_42 : decode cX10_see 42 = .ok (.iload_n 1, 1) := by decide +kernel
theorem dX10_see_43 : decode cX10_see 43 = .ok (.iastore, 1) := by decide +kernel
theorem dX10_see_44 : decode cX10_see 44 = .ok (.aload_n 0, 1) := by decide +kernel
theorem dX10_see_45 : decode cX10_see 45 = .ok (.getfield 68, 3) := by decide +kernel
theorem dX10_see_48 : decode cX10_see 48 = .ok (.aload_n 0, 1) := by decide +kernel
theorem dX10_see_49 : decode cX10_see 49 = .ok (.getfield 145, 3) := by decide +kernel
theorem dX10_see_52 : decode cX10_see 52 = .ok (.iload_n 2, 1) := by decide +kernel
theorem dX10_see_53 : decode cX10_see 53 = .ok (.ifCond .eq 7, 3) := by decide +kernel
theorem dX10_see_56 : decode cX10_see 56 = .ok (.iconst 1, 1) := by decide +kernel
theorem dX10_see_57 : decode cX10_see 57 = .ok (.goto 4, 3) := by decide +kernel
theorem dX10_see_60 : decode cX10_see 60 = .ok (.iconst 0, 1) := by decide +kernel
theorem dX10_see_61 : decode cX10_see 61 = .ok (.iastore, 1) := by decide +kernel
theorem dX10_see_62 : decode cX10_see 62 = .ok (.aload_n 0, 1) := by decide +kernel
theorem dX10_see_63 : decode cX10_see 63 = .ok (.dup, 1) := by decide +kernel
theorem dX10_see_64 : decode cX10_see 64 = .ok (.getfield 145, 3) := by decide +kernel
theorem dX10_see_67 : decode cX10_see 67 = .ok (.iconst 1, 1) := by decide +kernel
theorem dX10_see_68 : decode cX10_see 68 = .ok (.iadd, 1) := by decide +kernel
theorem dX10_see_69 : decode cX10_see 69 = .ok (.putfield 145, 3) := by decide +kernel
theorem dX10_see_72 : decode cX10_see 72 = .ok (.aload_n 0, 1) := by decide +kernel
theorem dX10_see_73 : decode cX10_see 73 = .ok (.getfield 145, 3) := by decide +kernel
theorem dX10_see_76 : decode cX10_see 76 = .ok (.ireturn, 1) := by decide +kernel
theorem dX10_isAllSeen_0 : decode cX10_isAllSeen 0 = .ok (.iconst 0, 1) := by decide +kernel
theorem dX10_isAllSeen_1 : decode cX10_isAllSeen 1 = .ok (.istore_n 1, 1) := by decide +kernel
theorem dX10_isAllSeen_2 : decode cX10_isAllSeen 2 = .ok (.iload_n 1, 1) := by decide +kernel
theorem dX10_isAllSeen_3 : decode cX10_isAllSeen 3 = .ok (.aload_n 0, 1) := by decide +kernel
theorem dX10_isAllSeen_4 : decode cX10_isAllSeen 4 = .ok (.getfield 145, 3) := by decide +kernel
theorem dX10_isAllSeen_7 : decode cX10_isAllSeen 7 = .ok (.if_icmp .ge 48, 3) := by decide +kernel
theorem dX10_isAllSeen_10 : decode cX10_isAllSeen 10 = .ok (.aload_n 0, 1) := by decide +kernel
theorem dX10_isAllSeen_11 : decode cX10_isAllSeen 11 = .ok (.getfield 53, 3) := by decide +kernel
theorem dX10_isAllSeen_14 : decode cX10_isAllSeen 14 = .ok (.aload_n 0, 1) := by decide +kernel
theorem dX10_isAllSeen_15 : decode cX10_isAllSeen 15 = .ok (.getfield 65, 3) := by decide +kernel
theorem dX10_isAllSeen_18 : decode cX10_isAllSeen 18 = .ok (.iload_n 1, 1) := by decide +kernel
theorem dX10_isAllSeen_19 : decode cX10_isAllSeen 19 = .ok (.iaload, 1) := by decide +kernel
theorem dX10_isAllSeen_20 : decode cX10_isAllSeen 20 = .ok (.iaload, 1) := by decide +kernel
theorem dX10_isAllSeen_21 : decode cX10_isAllSeen 21 = .ok (.ifCond .ge 7, 3) := by decide +kernel
theorem dX10_isAllSeen_24 : decode cX10_isAllSeen 24 = .ok (.iconst 1, 1) := by decide +kernel
theorem dX10_isAllSeen_25 : decode cX10_isAllSeen 25 = .ok (.goto 4, 3) := by decide +kernel
theorem dX10_isAllSeen_28 : decode cX10_isAllSeen 28 = .ok (.iconst 0, 1) := by decide +kernel
theorem dX10_isAllSeen_29 : decode cX10_isAllSeen 29 = .ok (.aload_n 0, 1) := by decide +kernel
theorem dX10_isAllSeen_30 : decode cX10_isAllSeen 30 = .ok (.getfield 68, 3) := by decide +kernel
theorem dX10_isAllSeen_33 : decode cX10_isAllSeen 33 = .ok (.iload_n 1, 1) := by decide +kernel
theorem dX10_isAllSeen_34 : decode cX10_isAllSeen 34 = .ok (.iaload, 1) := by decide +kernel
theorem dX10_isAllSeen_35 : decode cX10_isAllSeen 35 = .ok (.iconst 1, 1) := by decide +kernel
theorem dX10_isAllSeen_36 : decode cX10_isAllSeen 36 = .ok (.if_icmp .ne 7, 3) := by decide +kernel
theorem dX10_isAllSeen_39 : decode cX10_isAllSeen 39 = .ok (.iconst 1, 1) := by decide +kernel
theorem dX10_isAllSeen_40 : decode cX10_isAllSeen 40 = .ok (.goto 4, 3) := by decide +kernel
theorem dX10_isAllSeen_43 : decode cX10_isAllSeen 43 = .ok (.iconst 0, 1) := by decide +kernel
theorem dX10_isAllSeen_44 : decode cX10_isAllSeen 44 = .ok (.if_icmp .eq 5, 3) := by decide +kernel
theorem dX10_isAllSeen_47 : decode cX10_isAllSeen 47 = .ok (.iconst 0, 1) := by decide +kernel
theorem dX10_isAllSeen_48 : decode cX10_isAllSeen 48 = .ok (.ireturn, 1) := by decide +kernel
theorem dX10_isAllSeen_49 : decode cX10_isAllSeen 49 = .ok (.iinc 1 1, 3) := by decide +kernel
theorem dX10_isAllSeen_52 : decode cX10_isAllSeen 52 = .ok (.goto (-50), 3) := by decide +kernel
theorem dX10_isAllSeen_55 : decode cX10_isAllSeen 55 = .ok (.iconst 1, 1) := by decide +kernel
theorem dX10_isAllSeen_56 : decode cX10_isAllSeen 56 = .ok (.ireturn, 1) := by decide +kernel
set_option maxRecDepth 20000 in
theorem ggX10_fits_X10_in : GoodIn wsX10_fits wsX10_in := goodIn_r _ [6] (by decide +kernel) (by decide +kernel)
set_option maxRecDepth 20000 in
theorem gX10_fits_X10_in : GoodIn wsX10_fits (va_wsS RX10 121 yX10_in wsX10_in) := goodIn_app (goodIn_of _ (by decide +kernel)) ggX10_fits_X10_in
set_option maxRecDepth 20000 in
theorem ggX10_fits_X10_minds : GoodIn wsX10_fits wsX10_minds := goodIn_r _ [10, 11, 12, 13, 14, 1, 15, 16, 17, 18, 19, 20, 21, 22, 23, 24, 25, 5, 26, 95, 96, 97, 98, 99, 100, 101, 102, 103, 104, 105, 106, 107, 108, 109, 110, 111, 112, 113, 114, 115, 116, 117, 118, 119, 120, 121, 122, 123, 124, 125, 126, 127, 128, 129, 130, 131, 132, 133, 134, 135, 136, 137, 138, 139, 140, 141] (by decide +kernel) (by decide +kernel)
set_option maxRecDepth 20000 in
theorem gX10_fits_X10_minds : GoodIn wsX10_fits (wsV RX10 365 RX10 yX10_minds wsX10_minds) := goodIn_app (goodIn_of _ (by decide +kernel)) ggX10_fits_X10_minds
set_option maxRecDepth 20000 in
theorem ggX10_fits_X10_afresh : GoodIn wsX10_fits wsX10_afresh := goodIn_r _ [30, 12, 13, 19, 20, 21, 22, 17, 95, 96, 97, 98, 99, 100, 101, 102, 103, 104, 105, 106, 107, 108, 109, 110, 111, 112, 113, 114, 115, 116, 117, 118, 119, 120, 121, 122, 123, 124, 125, 126, 127, 128, 129, 130, 131, 132, 133, 134, 135, 136, 137, 138, 139, 140, 141] (by decide +kernel) (by decide +kernel)
set_option maxRecDepth 20000 in
theorem gX10_fits_X10_afresh : GoodIn wsX10_fits (wsV RX10 115 RX10 yX10_afresh wsX10_afresh) := goodIn_app (goodIn_of _ (by decide +kernel)) ggX10_fits_X10_afresh
set_option maxRecDepth 20000 in
theorem ggX10_fits_X10_goesOn : GoodIn wsX10_fits wsX10_goesOn := goodIn_r _ [34, 12, 2, 35, 36, 37, 5, 38, 39, 17, 40, 14, 13, 18, 19, 41, 42, 43, 44, 16, 1, 45, 46, 47, 48, 49, 50, 51, 52, 53, 54, 55, 56, 57, 58, 59, 60, 61, 62, 63, 64, 65, 20, 21, 22, 66, 67, 68, 69, 70, 71, 72, 73, 74, 75, 76, 77, 78, 79, 95, 96, 97, 98, 99, 100, 101, 102, 103, 104, 105, 106, 107, 108, 109, 110, 111, 112, 113, 114, 115, 116, 117, 118, 119, 120, 121, 122, 123, 124, 125, 126, 127, 128, 129, 130, 131, 132, 133, 134, 135, 136, 137, 138, 139, 140, 141] (by decide +kernel) (by decide +kernel)
set_option maxRecDepth 20000 in
theorem gX10_fits_X10_goesOn : GoodIn wsX10_fits (wsV RX10 310 RX10 yX10_goesOn wsX10_goesOn) := goodIn_app (goodIn_of _ (by decide +kernel)) ggX10_fits_X10_goesOn
set_option maxRecDepth 20000 in
theorem ggX10_fits_X10_isAllSeen : GoodIn wsX10_fits wsX10_isAllSeen := goodIn_r _ [83, 84, 19, 85, 86, 95, 96, 97, 98, 99, 100, 101, 102, 103, 104, 105, 106, 107, 108, 109, 110, 111, 112, 113, 114, 115, 116, 117, 118, 119, 120, 121, 122, 123, 124, 125, 126, 127, 128, 129, 130, 131, 132, 133, 134, 135, 136, 137, 138, 139, 140, 141] (by decide +kernel) (by decide +kernel)
set_option maxRecDepth 20000 in
theorem gX10_fits_X10_isAllSeen : GoodIn wsX10_fits (wsV RX10 371 RX10 yX10_isAllSeen wsX10_isAllSeen) := goodIn_app (goodIn_of _ (by decide +kernel)) ggX10_fits_X10_isAllSeen
set_option maxRecDepth 20000 in
theorem ggX10_fits_X10_forgets : GoodIn wsX10_fits wsX10_forgets := goodIn_r _ [90, 11, 12, 13, 14, 1, 15, 16, 17, 18, 19, 20, 21, 22, 91, 92, 93, 5, 94, 95, 96, 97, 98, 99, 100, 101, 102, 103, 104, 105, 106, 107, 108, 109, 110, 111, 112, 113, 114, 115, 116, 117, 118, 119, 120, 121, 122, 123, 124, 125, 126, 127, 128, 129, 130, 131, 132, 133, 134, 135, 136, 137, 138, 139, 140, 141] (by decide +kernel) (by decide +kernel)
set_option maxRecDepth 20000 in
theorem gX10_fits_X10_forgets : GoodIn wsX10_fits (wsV RX10 368 RX10 yX10_forgets wsX10_forgets) := goodIn_app (goodIn_of _ (by decide +kernel)) ggX10_fits_X10_forgets
theorem dX10_fits_0 : decode cX10_fits 0 = .ok (.iload_n 1, 1) := by decide +kernel
theorem dX10_fits_1 : decode cX10_fits 1 = .ok (.i2l, 1) := by decide +kernel
theorem dX10_fits_2 : decode cX10_fits 2 = .ok (.lconst 0, 1) := by decide +kernel
theorem dX10_fits_3 : decode cX10_fits 3 = .ok (.lconst 1, 1) := by decide +kernel
theorem dX10_fits_4 : decode cX10_fits 4 = .ok (.invokestatic 121, 3) := by decide +kernel
theorem dX10_fits_7 : decode cX10_fits 7 = .ok (.ifCond .ne 5, 3) := by decide +kernel
theorem dX10_fits_10 : decode cX10_fits 10 = .ok (.iconst (-1), 1) := by decide +kernel
theorem dX10_fits_11 : decode cX10_fits 11 = .ok (.ireturn, 1) := by decide +kernel
theorem dX10_fits_12 : decode cX10_fits 12 = .ok (.iconst 0, 1) := by decide +kernel
theorem dX10_fits_13 : decode cX10_fits 13 = .ok (.istore_n 2, 1) := by decide +kernel
theorem dX10_fits_14 : decode cX10_fits 14 = .ok (.bipush (-5), 2) := by decide +kernel
theorem dX10_fits_16 : decode cX10_fits 16 = .ok (.istore_n 3, 1) := by decide +kernel
theorem dX10_fits_17 : decode cX10_fits 17 = .ok (.aload_n 0, 1) := by decide +kernel
theorem dX10_fits_18 : decode cX10_fits 18 = .ok (.invokevirtual 365, 3) := by decide +kernel
theorem dX10_fits_21 : decode cX10_fits 21 = .ok (.bipush 24, 2) := by decide +kernel
theorem dX10_fits_23 : decode cX10_fits 23 = .ok (.istore 4, 2) := by decide +kernel
theorem dX10_fits_25 : decode cX10_fits 25 = .ok (.iload 4, 2) := by decide +kernel
theorem dX10_fits_27 : decode cX10_fits 27 = .ok (.ifCond .le 57, 3) := by decide +kernel
theorem dX10_fits_30 : decode cX10_fits 30 = .ok (.aload_n 0, 1) := by decide +kernel
theorem dX10_fits_31 : decode cX10_fits 31 = .ok (.iload 4, 2) := by decide +kernel
theorem dX10_fits_33 : decode cX10_fits 33 = .ok (.putfield 9, 3) := by decide +kernel
theorem dX10_fits_36 : decode cX10_fits 36 = .ok (.aload_n 0, 1) := by decide +kernel
theorem dX10_fits_37 : decode cX10_fits 37 = .ok (.invokevirtual 115, 3) := by decide +kernel
theorem dX10_fits_40 : decode cX10_fits 40 = .ok (.aload_n 0, 1) := by decide +kernel
theorem dX10_fits_41 : decode cX10_fits 41 = .ok (.aload_n 0, 1) := by decide +kernel
theorem dX10_fits_42 : decode cX10_fits 42 = .ok (.getfield 125, 3) := by decide +kernel
theorem dX10_fits_45 : decode cX10_fits 45 = .ok (.invokevirtual 310, 3) := by decide +kernel
theorem dX10_fits_48 : decode cX10_fits 48 = .ok (.pop, 1) := by decide +kernel
theorem dX10_fits_49 : decode cX10_fits 49 = .ok (.iload_n 2, 1) := by decide +kernel
theorem dX10_fits_50 : decode cX10_fits 50 = .ok (.aload_n 0, 1) := by decide +kernel
theorem dX10_fits_51 : decode cX10_fits 51 = .ok (.invokevirtual 371, 3) := by decide +kernel
theorem dX10_fits_54 : decode cX10_fits 54 = .ok (.ifCond .eq 7, 3) := by decide +kernel
theorem dX10_fits_57 : decode cX10_fits 57 = .ok (.iconst 1, 1) := by decide +kernel
theorem dX10_fits_58 : decode cX10_fits 58 = .ok (.goto 4, 3) := by decide +kernel
theorem dX10_fits_61 : decode cX10_fits 61 = .ok (.iconst 0, 1) := by decide +kernel
theorem dX10_fits_62 : decode cX10_fits 62 = .ok (.iadd, 1) := by decide +kernel
theorem dX10_fits_63 : decode cX10_fits 63 = .ok (.istore_n 2, 1) := by decide +kernel
theorem dX10_fits_64 : decode cX10_fits 64 = .ok (.aload_n 0, 1) := by decide +kernel
theorem dX10_fits_65 : decode cX10_fits 65 = .ok (.invokevirtual 371, 3) := by decide +kernel
theorem dX10_fits_68 : decode cX10_fits 68 = .ok (.ifCond .eq 8, 3) := by decide +kernel
theorem dX10_fits_71 : decode cX10_fits 71 = .ok (.iload 4, 2) := by decide +kernel
theorem dX10_fits_73 : decode cX10_fits 73 = .ok (.goto 4, 3) := by decide +kernel
theorem dX10_fits_76 : decode cX10_fits 76 = .ok (.iload_n 3, 1) := by decide +kernel
theorem dX10_fits_77 : decode cX10_fits 77 = .ok (.istore_n 3, 1) := by decide +kernel
theorem dX10_fits_78 : decode cX10_fits 78 = .ok (.iinc 4 (-1), 3) := by decide +kernel
theorem dX10_fits_81 : decode cX10_fits 81 = .ok (.goto (-56), 3) := by decide +kernel
theorem dX10_fits_84 : decode cX10_fits 84 = .ok (.aload_n 0, 1) := by decide +kernel
theorem dX10_fits_85 : decode cX10_fits 85 = .ok (.invokevirtual 368, 3) := by decide +kernel
theorem dX10_fits_88 : decode cX10_fits 88 = .ok (.iload_n 1, 1) := by decide +kernel
theorem dX10_fits_89 : decode cX10_fits 89 = .ok (.ifCond .ne 7, 3) := by decide +kernel
theorem dX10_fits_92 : decode cX10_fits 92 = .ok (.iload_n 2, 1) := by decide +kernel
theorem dX10_fits_93 : decode cX10_fits 93 = .ok (.goto 4, 3) := by decide +kernel
theorem dX10_fits_96 : decode cX10_fits 96 = .ok (.iload_n 3, 1) := by decide +kernel
theorem dX10_fits_97 : decode cX10_fits 97 = .ok (.ireturn, 1) := by decide +kernel
theorem dX10_lowest_0 : decode cX10_lowest 0 = .ok (.lload_n 0, 1) := by decide +kernel
theorem dX10_lowest_1 : decode cX10_lowest 1 = .ok (.invokestatic 341, 3) := by decide +kernel
theorem dX10_lowest_4 : decode cX10_lowest 4 = .ok (.lstore 5, 2) := by decide +kernel
theorem dX10_lowest_6 : decode cX10_lowest 6 = .ok (.lload_n 2, 1) := by decide +kernel
theorem dX10_lowest_7 : decode cX10_lowest 7 = .ok (.lstore 7, 2) := by decide +kernel
theorem dX10_lowest_9 : decode cX10_lowest 9 = .ok (.lload 7, 2) := by decide +kernel
theorem dX10_lowest_11 : decode cX10_lowest 11 = .ok (.lconst 0, 1) := by decide +kernel
theorem dX10_lowest_12 : decode cX10_lowest 12 = .ok (.lcmp, 1) := by decide +kernel
theorem dX10_lowest_13 : decode cX10_lowest 13 = .ok (.ifCond .eq 21, 3) := by decide +kernel
theorem dX10_lowest_16 : decode cX10_lowest 16 = .ok (.lload 5, 2) := by decide +kernel
theorem dX10_lowest_18 : decode cX10_lowest 18 = .ok (.lload 7, 2) := by decide +kernel
theorem dX10_lowest_20 : decode cX10_lowest 20 = .ok (.lrem, 1) := by decide +kernel
theorem dX10_lowest_21 : decode cX10_lowest 21 = .ok (.lstore 9, 2) := by decide +kernel
theorem dX10_lowest_23 : decode cX10_lowest 23 = .ok (.lload 7, 2) := by decide +kernel
theorem dX10_lowest_25 : decode cX10_lowest 25 = .ok (.lstore 5, 2) := by decide +kernel
theorem dX10_lowest_27 : decode cX10_lowest 27 = .ok (.lload 9, 2) := by decide +kernel
theorem dX10_lowest_29 : decode cX10_lowest 29 = .ok (.lstore 7, 2) := by decide +kernel
theorem dX10_lowest_31 : decode cX10_lowest 31 = .ok (.goto (-22), 3) := by decide +kernel
theorem dX10_lowest_34 : decode cX10_lowest 34 = .ok (.iload 4, 2) := by decide +kernel
theorem dX10_lowest_36 : decode cX10_lowest 36 = .ok (.ifCond .ne 7, 3) := by decide +kernel
theorem dX10_lowest_39 : decode cX10_lowest 39 = .ok (.lload_n 0, 1) := by decide +kernel
theorem dX10_lowest_40 : decode cX10_lowest 40 = .ok (.goto 4, 3) := by decide +kernel
theorem dX10_lowest_43 : decode cX10_lowest 43 = .ok (.lload_n 2, 1) := by decide +kernel
theorem dX10_lowest_44 : decode cX10_lowest 44 = .ok (.lload 5, 2) := by decide +kernel
theorem dX10_lowest_46 : decode cX10_lowest 46 = .ok (.ldiv, 1) := by decide +kernel
theorem dX10_lowest_47 : decode cX10_lowest 47 = .ok (.lreturn, 1) := by decide +kernel
set_option maxRecDepth 20000 in
theorem ggX10_odds_X10_in : GoodIn wsX10_odds wsX10_in := goodIn_r _ [6] (by decide +kernel) (by decide +kernel)
set_option maxRecDepth 20000 in
theorem gX10_odds_X10_in : GoodIn wsX10_odds (va_wsS RX10 121 yX10_in wsX10_in) := goodIn_app (goodIn_of _ (by decide +kernel)) ggX10_odds_X10_in
set_option maxRecDepth 20000 in
theorem ggX10_odds_X10_faults : GoodIn wsX10_odds wsX10_faults := goodIn_r _ [10, 1, 11, 12, 20, 21, 22, 23, 24, 25, 26, 27, 28, 29, 30, 31, 32, 33, 34, 35, 36, 37, 38, 39, 40, 41, 42, 43, 44, 45, 46, 47, 48, 49, 50, 51, 52, 53, 54, 55, 56, 57, 58, 59, 60, 61, 62, 63, 64, 65, 66] (by decide +kernel) (by decide +kernel)
set_option maxRecDepth 20000 in
theorem gX10_odds_X10_faults : GoodIn wsX10_odds (wsV RX10 313 RX10 yX10_faults wsX10_faults) := goodIn_app (goodIn_of _ (by decide +kernel)) ggX10_odds_X10_faults
set_option maxRecDepth 20000 in
theorem ggX10_odds_X10_lowest : GoodIn wsX10_odds wsX10_lowest := goodIn_r _ [15, 16, 17, 18, 19] (by decide +kernel) (by decide +kernel)
set_option maxRecDepth 20000 in
theorem gX10_odds_X10_lowest : GoodIn wsX10_odds (va_wsS RX10 375 yX10_lowest wsX10_lowest) := goodIn_app (goodIn_of _ (by decide +kernel)) ggX10_odds_X10_lowest
theorem dX10_odds_0 : decode cX10_odds 0 = .ok (.iload_n 1, 1) := by decide +kernel
theorem dX10_odds_1 : decode cX10_odds 1 = .ok (.i2l, 1) := by decide +kernel
theorem dX10_odds_2 : decode cX10_odds 2 = .ok (.lconst 0, 1) := by decide +kernel
theorem dX10_odds_3 : decode cX10_odds 3 = .ok (.lconst 1, 1) := by decide +kernel
theorem dX10_odds_4 : decode cX10_odds 4 = .ok (.invokestatic 121, 3) := by decide +kernel
theorem dX10_odds_7 : decode cX10_odds 7 = .ok (.ifCond .eq 28, 3) := by decide +kernel
theorem dX10_odds_10 : decode cX10_odds 10 = .ok (.aload_n 0, 1) := by decide +kernel
theorem dX10_odds_11 : decode cX10_odds 11 = .ok (.getfield 142, 3) := by decide +kernel
theorem dX10_odds_14 : decode cX10_odds 14 = .ok (.ifCond .le 21, 3) := by decide +kernel
theorem dX10_odds_17 : decode cX10_odds 17 = .ok (.aload_n 0, 1) := by decide +kernel
theorem dX10_odds_18 : decode cX10_odds 18 = .ok (.iconst 0, 1) := by decide +kernel
theorem dX10_odds_19 : decode cX10_odds 19 = .ok (.invokevirtual 313, 3) := by decide +kernel
theorem dX10_odds_22 : decode cX10_odds 22 = .ok (.i2l, 1) := by decide +kernel
theorem dX10_odds_23 : decode cX10_odds 23 = .ok (.aload_n 0, 1) := by decide +kernel
theorem dX10_odds_24 : decode cX10_odds 24 = .ok (.getfield 142, 3) := by decide +kernel
theorem dX10_odds_27 : decode cX10_odds 27 = .ok (.i2l, 1) := by decide +kernel
theorem dX10_odds_28 : decode cX10_odds 28 = .ok (.iload_n 1, 1) := by decide +kernel
theorem dX10_odds_29 : decode cX10_odds 29 = .ok (.invokestatic 375, 3) := by decide +kernel
theorem dX10_odds_32 : decode cX10_odds 32 = .ok (.goto 6, 3) := by decide +kernel
theorem dX10_odds_35 : decode cX10_odds 35 = .ok (.ldc2_w 245, 3) := by decide +kernel
theorem dX10_odds_38 : decode cX10_odds 38 = .ok (.lreturn, 1) := by decide +kernel
set_option maxRecDepth 20000 in
theorem ggX10_mean_X10_isColumn : GoodIn wsX10_mean wsX10_isColumn := goodIn_r _ [7, 8, 9, 10, 6, 11, 69, 70, 71, 72, 73, 74, 75, 76, 77, 78, 79, 80, 81, 82, 83, 84, 85, 86, 87, 88, 89, 90, 91, 92, 93, 94, 95, 96, 97, 98, 99, 100, 101, 102, 103, 104, 105, 106, 107, 108, 109, 110, 111, 112, 113, 114, 115] (by decide +kernel) (by decide +kernel)
set_option maxRecDepth 20000 in
theorem gX10_mean_X10_isColumn : GoodIn wsX10_mean (wsV RX10 279 RX10 yX10_isColumn wsX10_isColumn) := goodIn_app (goodIn_of _ (by decide +kernel)) ggX10_mean_X10_isColumn
set_option maxRecDepth 20000 in
theorem ggX10_mean_X10_in : GoodIn wsX10_mean wsX10_in := goodIn_r _ [11] (by decide +kernel) (by decide +kernel)
set_option maxRecDepth 20000 in
theorem gX10_mean_X10_in : GoodIn wsX10_mean (va_wsS RX10 121 yX10_in wsX10_in) := goodIn_app (goodIn_of _ (by decide +kernel)) ggX10_mean_X10_in
set_option maxRecDepth 20000 in
theorem ggX10_mean_X10_type : GoodIn wsX10_mean wsX10_type := goodIn_r _ [15, 16, 17, 18, 19, 20, 21, 6, 22, 23, 24, 25, 26, 27, 28, 29, 30, 31, 32, 33, 34, 35, 36, 37, 69, 70, 71, 72, 73, 74, 75, 76, 77, 78, 79, 80, 81, 82, 83, 84, 85, 86, 87, 88, 89, 90, 91, 92, 93, 94, 95, 96, 97, 98, 99, 100, 101, 102, 103, 104, 105, 106, 107, 108, 109, 110, 111, 112, 113, 114, 115] (by decide +kernel) (by decide +kernel)
set_option maxRecDepth 20000 in
theorem gX10_mean_X10_type : GoodIn wsX10_mean (wsV RX10 284 RX10 yX10_type wsX10_type) := goodIn_app (goodIn_of _ (by decide +kernel)) ggX10_mean_X10_type
set_option maxRecDepth 20000 in
theorem ggX10_mean_X10_havers : GoodIn wsX10_mean wsX10_havers := goodIn_r _ [41, 2, 42, 43, 44, 6, 45, 46, 47, 48, 49, 50, 9, 10, 11, 3, 4, 5, 7, 8, 33, 34, 35, 36, 37, 69, 70, 71, 72, 73, 74, 75, 76, 77, 78, 79, 80, 81, 82, 83, 84, 85, 86, 87, 88, 89, 90, 91, 92, 93, 94, 95, 96, 97, 98, 99, 100, 101, 102, 103, 104, 105, 106, 107, 108, 109, 110, 111, 112, 113, 114, 115] (by decide +kernel) (by decide +kernel)
set_option maxRecDepth 20000 in
theorem gX10_mean_X10_havers : GoodIn wsX10_mean (wsV RX10 355 RX10 yX10_havers wsX10_havers) := goodIn_app (goodIn_of _ (by decide +kernel)) ggX10_mean_X10_havers
set_option maxRecDepth 20000 in
theorem ggX10_mean_X10_hasValue : GoodIn wsX10_mean wsX10_hasValue := goodIn_r _ [45, 46, 47, 48, 49, 6, 50, 2, 9, 10, 11, 3, 4, 5, 7, 8, 33, 34, 35, 36, 37, 69, 70, 71, 72, 73, 74, 75, 76, 77, 78, 79, 80, 81, 82, 83, 84, 85, 86, 87, 88, 89, 90, 91, 92, 93, 94, 95, 96, 97, 98, 99, 100, 101, 102, 103, 104, 105, 106, 107, 108, 109, 110, 111, 112, 113, 114, 115] (by decide +kernel) (by decide +kernel)
set_option maxRecDepth 20000 in
theorem gX10_mean_X10_hasValue : GoodIn wsX10_mean (wsV RX10 319 RX10 yX10_hasValue wsX10_hasValue) := goodIn_app (goodIn_of _ (by decide +kernel)) ggX10_mean_X10_hasValue
set_option maxRecDepth 20000 in
theorem ggX10_mean_X10_its : GoodIn wsX10_mean wsX10_its := goodIn_r _ [54, 46, 16, 55, 56, 57, 6, 58, 59, 60, 61, 69, 70, 71, 72, 73, 74, 75, 76, 77, 78, 79, 80, 81, 82, 83, 84, 85, 86, 87, 88, 89, 90, 91, 92, 93, 94, 95, 96, 97, 98, 99, 100, 101, 102, 103, 104, 105, 106, 107, 108, 109, 110, 111, 112, 113, 114, 115] (by decide +kernel) (by decide +kernel)
set_option maxRecDepth 20000 in
theorem gX10_mean_X10_its : GoodIn wsX10_mean (wsV RX10 322 RX10 yX10_its wsX10_its) := goodIn_app (goodIn_of _ (by decide +kernel)) ggX10_mean_X10_its
set_option maxRecDepth 20000 in
theorem ggX10_mean_X10_lowest : GoodIn wsX10_mean wsX10_lowest := goodIn_r _ [64, 65, 66, 67, 68] (by decide +kernel) (by decide +kernel)
set_option maxRecDepth 20000 in
theorem gX10_mean_X10_lowest : GoodIn wsX10_mean (va_wsS RX10 375 yX10_lowest wsX10_lowest) := goodIn_app (goodIn_of _ (by decide +kernel)) ggX10_mean_X10_lowest
theorem dX10_mean_0 : decode cX10_mean 0 = .ok (.aload_n 0, 1) := by decide +kernel
theorem dX10_mean_1 : decode cX10_mean 1 = .ok (.iload_n 1, 1) := by decide +kernel
theorem dX10_mean_2 : decode cX10_mean 2 = .ok (.invokevirtual 279, 3) := by decide +kernel
theorem dX10_mean_5 : decode cX10_mean 5 = .ok (.ifCond .eq 30, 3) := by decide +kernel
theorem dX10_mean_8 : decode cX10_mean 8 = .ok (.iload_n 2, 1) := by decide +kernel
theorem dX10_mean_9 : decode cX10_mean 9 = .ok (.i2l, 1) := by decide +kernel
theorem dX10_mean_10 : decode cX10_mean 10 = .ok (.lconst 0, 1) := by decide +kernel
theorem dX10_mean_11 : decode cX10_mean 11 = .ok (.lconst 1, 1) := by decide +kernel
theorem dX10_mean_12 : decode cX10_mean 12 = .ok (.invokestatic 121, 3) := by decide +kernel
theorem dX10_mean_15 : decode cX10_mean 15 = .ok (.ifCond .eq 20, 3) := by decide +kernel
theorem dX10_mean_18 : decode cX10_mean 18 = .ok (.aload_n 0, 1) := by decide +kernel
theorem dX10_mean_19 : decode cX10_mean 19 = .ok (.iload_n 1, 1) := by decide +kernel
theorem dX10_mean_20 : decode cX10_mean 20 = .ok (.invokevirtual 284, 3) := by decide +kernel
theorem dX10_mean_23 : decode cX10_mean 23 = .ok (.iconst 4, 1) := by decide +kernel
theorem dX10_mean_24 : decode cX10_mean 24 = .ok (.if_icmp .eq 11, 3) := by decide +kernel
theorem dX10_mean_27 : decode cX10_mean 27 = .ok (.aload_n 0, 1) := by decide +kernel
theorem dX10_mean_28 : decode cX10_mean 28 = .ok (.iload_n 1, 1) := by decide +kernel
theorem dX10_mean_29 : decode cX10_mean 29 = .ok (.invokevirtual 355, 3) := by decide +kernel
theorem dX10_mean_32 : decode cX10_mean 32 = .ok (.ifCond .ne 7, 3) := by decide +kernel
theorem dX10_mean_35 : decode cX10_mean 35 = .ok (.ldc2_w 245, 3) := by decide +kernel
theorem dX10_mean_38 : decode cX10_mean 38 = .ok (.lreturn, 1) := by decide +kernel
theorem dX10_mean_39 : decode cX10_mean 39 = .ok (.lconst 0, 1) := by decide +kernel
theorem dX10_mean_40 : decode cX10_mean 40 = .ok (.lstore_n 3, 1) := by decide +kernel
theorem dX10_mean_41 : decode cX10_mean 41 = .ok (.iconst 0, 1) := by decide +kernel
theorem dX10_mean_42 : decode cX10_mean 42 = .ok (.istore 5, 2) := by decide +kernel
theorem dX10_mean_44 : decode cX10_mean 44 = .ok (.iload 5, 2) := by decide +kernel
theorem dX10_mean_46 : decode cX10_mean 46 = .ok (.aload_n 0, 1) := by decide +kernel
theorem dX10_mean_47 : decode cX10_mean 47 = .ok (.getfield 128, 3) := by decide +kernel
theorem dX10_mean_50 : decode cX10_mean 50 = .ok (.if_icmp .ge 33, 3) := by decide +kernel
theorem dX10_mean_53 : decode cX10_mean 53 = .ok (.lload_n 3, 1) := by decide +kernel
theorem dX10_mean_54 : decode cX10_mean 54 = .ok (.aload_n 0, 1) := by decide +kernel
theorem dX10_mean_55 : decode cX10_mean 55 = .ok (.iload 5, 2) := by decide +kernel
theorem dX10_mean_57 : decode cX10_mean 57 = .ok (.iload_n 1, 1) := by decide +kernel
theorem dX10_mean_58 : decode cX10_mean 58 = .ok (.invokevirtual 319, 3) := by decide +kernel
theorem dX10_mean_61 : decode cX10_mean 61 = .ok (.ifCond .eq 13, 3) := by decide +kernel
theorem dX10_mean_64 : decode cX10_mean 64 = .ok (.aload_n 0, 1) := by decide +kernel
theorem dX10_mean_65 : decode cX10_mean 65 = .ok (.iload 5, 2) := by decide +kernel
theorem dX10_mean_67 : decode cX10_mean 67 = .ok (.iload_n 1, 1) := by decide +kernel
theorem dX10_mean_68 : decode cX10_mean 68 = .ok (.invokevirtual 322, 3) := by decide +kernel
theorem dX10_mean_71 : decode cX10_mean 71 = .ok (.goto 4, 3) := by decide +kernel
theorem dX10_mean_74 : decode cX10_mean 74 = .ok (.lconst 0, 1) := by decide +kernel
theorem dX10_mean_75 : decode cX10_mean 75 = .ok (.ladd, 1) := by decide +kernel
theorem dX10_mean_76 : decode cX10_mean 76 = .ok (.lstore_n 3, 1) := by decide +kernel
theorem dX10_mean_77 : decode cX10_mean 77 = .ok (.iinc 5 1, 3) := by decide +kernel
theorem dX10_mean_80 : decode cX10_mean 80 = .ok (.goto (-36), 3) := by decide +kernel
theorem dX10_mean_83 : decode cX10_mean 83 = .ok (.lload_n 3, 1) := by decide +kernel
theorem dX10_mean_84 : decode cX10_mean 84 = .ok (.aload_n 0, 1) := by decide +kernel
theorem dX10_mean_85 : decode cX10_mean 85 = .ok (.iload_n 1, 1) := by decide +kernel
theorem dX10_mean_86 : decode cX10_mean 86 = .ok (.invokevirtual 355, 3) := by decide +kernel
theorem dX10_mean_89 : decode cX10_mean 89 = .ok (.i2l, 1) := by decide +kernel
theorem dX10_mean_90 : decode cX10_mean 90 = .ok (.iload_n 2, 1) := by decide +kernel
theorem dX10_mean_91 : decode cX10_mean 91 = .ok (.invokestatic 375, 3) := by decide +kernel
theorem dX10_mean_94 : decode cX10_mean 94 = .ok (.lreturn, 1) := by decide +kernel
set_option maxRecDepth 20000 in
theorem ggX10_plan_X10_in : GoodIn wsX10_plan wsX10_in := goodIn_r _ [9] (by decide +kernel) (by decide +kernel)
set_option maxRecDepth 20000 in
theorem gX10_plan_X10_in : GoodIn wsX10_plan (va_wsS RX10 121 yX10_in wsX10_in) := goodIn_app (goodIn_of _ (by decide +kernel)) ggX10_plan_X10_in
set_option maxRecDepth 20000 in
theorem ggX10_plan_X10_isColumn : GoodIn wsX10_plan wsX10_isColumn := goodIn_r _ [13, 14, 6, 7, 8, 9, 15, 16, 17, 18, 19, 20, 21, 22, 23, 24, 25, 26, 27, 28, 29, 30, 31, 32, 33, 34, 35, 36, 37, 38, 39, 40, 41, 42, 43, 44, 45, 46, 47, 48, 49, 50, 51, 52, 53, 54, 55, 56, 57, 58, 59, 60, 61] (by decide +kernel) (by decide +kernel)
set_option maxRecDepth 20000 in
theorem gX10_plan_X10_isColumn : GoodIn wsX10_plan (wsV RX10 279 RX10 yX10_isColumn wsX10_isColumn) := goodIn_app (goodIn_of _ (by decide +kernel)) ggX10_plan_X10_isColumn
theorem dX10_plan_0 : decode cX10_plan 0 = .ok (.iload_n 1, 1) := by decide +kernel
theorem dX10_plan_1 : decode cX10_plan 1 = .ok (.iconst (-1), 1) := by decide +kernel
theorem dX10_plan_2 : decode cX10_plan 2 = .ok (.if_icmp .ne 10, 3) := by decide +kernel
theorem dX10_plan_5 : decode cX10_plan 5 = .ok (.aload_n 0, 1) := by decide +kernel
theorem dX10_plan_6 : decode cX10_plan 6 = .ok (.iconst 0, 1) := by decide +kernel
theorem dX10_plan_7 : decode cX10_plan 7 = .ok (.putfield 148, 3) := by decide +kernel
theorem dX10_plan_10 : decode cX10_plan 10 = .ok (.iconst 0, 1) := by decide +kernel
theorem dX10_plan_11 : decode cX10_plan 11 = .ok (.ireturn, 1) := by decide +kernel
theorem dX10_plan_12 : decode cX10_plan 12 = .ok (.iload_n 1, 1) := by decide +kernel
theorem dX10_plan_13 : decode cX10_plan 13 = .ok (.i2l, 1) := by decide +kernel
theorem dX10_plan_14 : decode cX10_plan 14 = .ok (.lconst 0, 1) := by decide +kernel
theorem dX10_plan_15 : decode cX10_plan 15 = .ok (.ldc2_w 379, 3) := by decide +kernel
theorem dX10_plan_18 : decode cX10_plan 18 = .ok (.invokestatic 121, 3) := by decide +kernel
theorem dX10_plan_21 : decode cX10_plan 21 = .ok (.ifCond .eq 21, 3) := by decide +kernel
theorem dX10_plan_24 : decode cX10_plan 24 = .ok (.iload_n 1, 1) := by decide +kernel
theorem dX10_plan_25 : decode cX10_plan 25 = .ok (.iconst 1, 1) := by decide +kernel
theorem dX10_plan_26 : decode cX10_plan 26 = .ok (.if_icmp .ne 18, 3) := by decide +kernel
theorem dX10_plan_29 : decode cX10_plan 29 = .ok (.iload_n 2, 1) := by decide +kernel
theorem dX10_plan_30 : decode cX10_plan 30 = .ok (.iconst (-1), 1) := by decide +kernel
theorem dX10_plan_31 : decode cX10_plan 31 = .ok (.if_icmp .eq 13, 3) := by decide +kernel
theorem dX10_plan_34 : decode cX10_plan 34 = .ok (.aload_n 0, 1) := by decide +kernel
theorem dX10_plan_35 : decode cX10_plan 35 = .ok (.iload_n 2, 1) := by decide +kernel
theorem dX10_plan_36 : decode cX10_plan 36 = .ok (.invokevirtual 279, 3) := by decide +kernel
theorem dX10_plan_39 : decode cX10_plan 39 = .ok (.ifCond .ne 5, 3) := by decide +kernel
theorem dX10_plan_42 : decode cX10_plan 42 = .ok (.iconst (-1), 1) := by decide +kernel
theorem dX10_plan_43 : decode cX10_plan 43 = .ok (.ireturn, 1) := by decide +kernel
theorem dX10_plan_44 : decode cX10_plan 44 = .ok (.iload_n 1, 1) := by decide +kernel
theorem dX10_plan_45 : decode cX10_plan 45 = .ok (.ifCond .ne 18, 3) := by decide +kernel
theorem dX10_plan_48 : decode cX10_plan 48 = .ok (.iload_n 2, 1) := by decide +kernel
theorem dX10_plan_49 : decode cX10_plan 49 = .ok (.i2l, 1) := by decide +kernel
theorem dX10_plan_50 : decode cX10_plan 50 = .ok (.lconst 0, 1) := by decide +kernel
theorem dX10_plan_51 : decode cX10_plan 51 = .ok (.ldc2_w 277, 3) := by decide +kernel
theorem dX10_plan_54 : decode cX10_plan 54 = .ok (.invokestatic 121, 3) := by decide +kernel
theorem dX10_plan_57 : decode cX10_plan 57 = .ok (.ifCond .ne 6, 3) := by decide +kernel
theorem dX10_plan_60 : decode cX10_plan 60 = .ok (.bipush (-2), 2) := by decide +kernel
theorem dX10_plan_62 : decode cX10_plan 62 = .ok (.ireturn, 1) := by decide +kernel
theorem dX10_plan_63 : decode cX10_plan 63 = .ok (.aload_n 0, 1) := by decide +kernel
theorem dX10_plan_64 : decode cX10_plan 64 = .ok (.getfield 148, 3) := by decide +kernel
theorem dX10_plan_67 : decode cX10_plan 67 = .ok (.bipush 8, 2) := by decide +kernel
theorem dX10_plan_69 : decode cX10_plan 69 = .ok (.if_icmp .ne 6, 3) := by decide +kernel
theorem dX10_plan_72 : decode cX10_plan 72 = .ok (.bipush (-4), 2) := by decide +kernel
theorem dX10_plan_74 : decode cX10_plan 74 = .ok (.ireturn, 1) := by decide +kernel
theorem dX10_plan_75 : decode cX10_plan 75 = .ok (.aload_n 0, 1) := by decide +kernel
theorem dX10_plan_76 : decode cX10_plan 76 = .ok (.getfield 71, 3) := by decide +kernel
theorem dX10_plan_79 : decode cX10_plan 79 = .ok (.aload_n 0, 1) := by decide +kernel
theorem dX10_plan_80 : decode cX10_plan 80 = .ok (.getfield 148, 3) := by decide +kernel
theorem dX10_plan_83 : decode cX10_plan 83 = .ok (.iload_n 1, 1) := by decide +kernel
theorem dX10_plan_84 : decode cX10_plan 84 = .ok (.iastore, 1) := by decide +kernel
theorem dX10_plan_85 : decode cX10_plan 85 = .ok (.aload_n 0, 1) := by decide +kernel
theorem dX10_plan_86 : decode cX10_plan 86 = .ok (.getfield 74, 3) := by decide +kernel
theorem dX10_plan_89 : decode cX10_plan 89 = .ok (.aload_n 0, 1) := by decide +kernel
theorem dX10_plan_90 : decode cX10_plan 90 = .ok (.getfield 148, 3) := by decide +kernel
theorem dX10_plan_93 : decode cX10_plan 93 = .ok (.iload_n 2, 1) := by decide +kernel
theorem dX10_plan_94 : decode cX10_plan 94 = .ok (.iastore, 1) := by decide +kernel
theorem dX10_plan_95 : decode cX10_plan 95 = .ok (.aload_n 0, 1) := by decide +kernel
theorem dX10_plan_96 : decode cX10_plan 96 = .ok (.dup, 1) := by decide +kernel
theorem dX10_plan_97 : decode cX10_plan 97 = .ok (.getfield 148, 3) := by decide +kernel
theorem dX10_plan_100 : decode cX10_plan 100 = .ok (.iconst 1, 1) := by decide +kernel
theorem dX10_plan_101 : decode cX10_plan 101 = .ok (.iadd, 1) := by decide +kernel
theorem dX10_plan_102 : decode cX10_plan 102 = .ok (.putfield 148, 3) := by decide +kernel
theorem dX10_plan_105 : decode cX10_plan 105 = .ok (.aload_n 0, 1) := by decide +kernel
theorem dX10_plan_106 : decode cX10_plan 106 = .ok (.getfield 148, 3) := by decide +kernel
theorem dX10_plan_109 : decode cX10_plan 109 = .ok (.ireturn, 1) := by decide +kernel
set_option maxRecDepth 20000 in
theorem ggX10_ends__X10_in : GoodIn wsX10_ends_ wsX10_in := goodIn_r _ [9] (by decide +kernel) (by decide +kernel)
set_option maxRecDepth 20000 in
theorem gX10_ends__X10_in : GoodIn wsX10_ends_ (va_wsS RX10 121 yX10_in wsX10_in) := goodIn_app (goodIn_of _ (by decide +kernel)) ggX10_ends__X10_in
set_option maxRecDepth 20000 in
theorem ggX10_ends__X10_minds : GoodIn wsX10_ends_ wsX10_minds := goodIn_r _ [13, 14, 15, 5, 4, 16, 17, 18, 19, 20, 21, 22, 23, 24, 25, 26, 27, 8, 28, 95, 96, 97, 98, 99, 100, 101, 102, 103, 104, 105, 106, 107, 108, 109, 110, 111, 112, 113, 114, 115, 116, 117, 118, 119, 120, 121, 122, 123, 124, 125, 126, 127, 128, 129, 130, 131, 132, 133, 134, 135, 136, 137, 138, 139, 140, 141] (by decide +kernel) (by decide +kernel)
set_option maxRecDepth 20000 in
theorem gX10_ends__X10_minds : GoodIn wsX10_ends_ (wsV RX10 365 RX10 yX10_minds wsX10_minds) := goodIn_app (goodIn_of _ (by decide +kernel)) ggX10_ends__X10_minds
set_option maxRecDepth 20000 in
theorem ggX10_ends__X10_goesOn : GoodIn wsX10_ends_ wsX10_goesOn := goodIn_r _ [32, 15, 33, 34, 35, 36, 8, 37, 38, 19, 39, 4, 5, 20, 21, 40, 41, 42, 43, 18, 16, 44, 45, 46, 47, 48, 49, 50, 51, 52, 53, 54, 55, 56, 57, 58, 59, 60, 61, 62, 63, 64, 22, 23, 24, 65, 66, 67, 68, 69, 70, 71, 72, 73, 74, 75, 76, 77, 78, 95, 96, 97, 98, 99, 100, 101, 102, 103, 104, 105, 106, 107, 108, 109, 110, 111, 112, 113, 114, 115, 116, 117, 118, 119, 120, 121, 122, 123, 124, 125, 126, 127, 128, 129, 130, 131, 132, 133, 134, 135, 136, 137, 138, 139, 140, 141] (by decide +kernel) (by decide +kernel)
set_option maxRecDepth 20000 in
theorem gX10_ends__X10_goesOn : GoodIn wsX10_ends_ (wsV RX10 310 RX10 yX10_goesOn wsX10_goesOn) := goodIn_app (goodIn_of _ (by decide +kernel)) ggX10_ends__X10_goesOn
set_option maxRecDepth 20000 in
theorem ggX10_ends__X10_afresh : GoodIn wsX10_ends_ wsX10_afresh := goodIn_r _ [82, 15, 5, 21, 22, 23, 24, 19, 95, 96, 97, 98, 99, 100, 101, 102, 103, 104, 105, 106, 107, 108, 109, 110, 111, 112, 113, 114, 115, 116, 117, 118, 119, 120, 121, 122, 123, 124, 125, 126, 127, 128, 129, 130, 131, 132, 133, 134, 135, 136, 137, 138, 139, 140, 141] (by decide +kernel) (by decide +kernel)
set_option maxRecDepth 20000 in
theorem gX10_ends__X10_afresh : GoodIn wsX10_ends_ (wsV RX10 115 RX10 yX10_afresh wsX10_afresh) := goodIn_app (goodIn_of _ (by decide +kernel)) ggX10_ends__X10_afresh
set_option maxRecDepth 20000 in
theorem ggX10_ends__X10_faults : GoodIn wsX10_ends_ wsX10_faults := goodIn_r _ [86, 15, 21, 22, 95, 96, 97, 98, 99, 100, 101, 102, 103, 104, 105, 106, 107, 108, 109, 110, 111, 112, 113, 114, 115, 116, 117, 118, 119, 120, 121, 122, 123, 124, 125, 126, 127, 128, 129, 130, 131, 132, 133, 134, 135, 136, 137, 138, 139, 140, 141] (by decide +kernel) (by decide +kernel)
set_option maxRecDepth 20000 in
theorem gX10_ends__X10_faults : GoodIn wsX10_ends_ (wsV RX10 313 RX10 yX10_faults wsX10_faults) := goodIn_app (goodIn_of _ (by decide +kernel)) ggX10_ends__X10_faults
set_option maxRecDepth 20000 in
theorem ggX10_ends__X10_forgets : GoodIn wsX10_ends_ wsX10_forgets := goodIn_r _ [90, 14, 15, 5, 4, 16, 17, 18, 19, 20, 21, 22, 23, 24, 91, 92, 93, 8, 94, 95, 96, 97, 98, 99, 100, 101, 102, 103, 104, 105, 106, 107, 108, 109, 110, 111, 112, 113, 114, 115, 116, 117, 118, 119, 120, 121, 122, 123, 124, 125, 126, 127, 128, 129, 130, 131, 132, 133, 134, 135, 136, 137, 138, 139, 140, 141] (by decide +kernel) (by decide +kernel)
set_option maxRecDepth 20000 in
theorem gX10_ends__X10_forgets : GoodIn wsX10_ends_ (wsV RX10 368 RX10 yX10_forgets wsX10_forgets) := goodIn_app (goodIn_of _ (by decide +kernel)) ggX10_ends__X10_forgets
theorem dX10_ends__0 : decode cX10_ends_ 0 = .ok (.iload_n 1, 1) := by decide +kernel
theorem dX10_ends__1 : decode cX10_ends_ 1 = .ok (.i2l, 1) := by decide +kernel
theorem dX10_ends__2 : decode cX10_ends_ 2 = .ok (.lconst 0, 1) := by decide +kernel
theorem dX10_ends__3 : decode cX10_ends_ 3 = .ok (.lconst 1, 1) := by decide +kernel
theorem dX10_ends__4 : decode cX10_ends_ 4 = .ok (.invokestatic 121, 3) := by decide +kernel
theorem dX10_ends__7 : decode cX10_ends_ 7 = .ok (.ifCond .ne 5, 3) := by decide +kernel
theorem dX10_ends__10 : decode cX10_ends_ 10 = .ok (.iconst (-1), 1) := by decide +kernel
theorem dX10_ends__11 : decode cX10_ends_ 11 = .ok (.ireturn, 1) := by decide +kernel
theorem dX10_ends__12 : decode cX10_ends_ 12 = .ok (.aload_n 0, 1) := by decide +kernel
theorem dX10_ends__13 : decode cX10_ends_ 13 = .ok (.invokevirtual 365, 3) := by decide +kernel
theorem dX10_ends__16 : decode cX10_ends_ 16 = .ok (.iconst 0, 1) := by decide +kernel
theorem dX10_ends__17 : decode cX10_ends_ 17 = .ok (.istore_n 2, 1) := by decide +kernel
theorem dX10_ends__18 : decode cX10_ends_ 18 = .ok (.iload_n 2, 1) := by decide +kernel
theorem dX10_ends__19 : decode cX10_ends_ 19 = .ok (.aload_n 0, 1) := by decide +kernel
theorem dX10_ends__20 : decode cX10_ends_ 20 = .ok (.getfield 148, 3) := by decide +kernel
theorem dX10_ends__23 : decode cX10_ends_ 23 = .ok (.if_icmp .ge 59, 3) := by decide +kernel
theorem dX10_ends__26 : decode cX10_ends_ 26 = .ok (.aload_n 0, 1) := by decide +kernel
theorem dX10_ends__27 : decode cX10_ends_ 27 = .ok (.getfield 71, 3) := by decide +kernel
theorem dX10_ends__30 : decode cX10_ends_ 30 = .ok (.iload_n 2, 1) := by decide +kernel
theorem dX10_ends__31 : decode cX10_ends_ 31 = .ok (.iaload, 1) := by decide +kernel
theorem dX10_ends__32 : decode cX10_ends_ 32 = .ok (.ifCond .ne 17, 3) := by decide +kernel
theorem dX10_ends__35 : decode cX10_ends_ 35 = .ok (.aload_n 0, 1) := by decide +kernel
theorem dX10_ends__36 : decode cX10_ends_ 36 = .ok (.aload_n 0, 1) := by decide +kernel
theorem dX10_ends__37 : decode cX10_ends_ 37 = .ok (.getfield 74, 3) := by decide +kernel
theorem dX10_ends__40 : decode cX10_ends_ 40 = .ok (.iload_n 2, 1) := by decide +kernel
theorem dX10_ends__41 : decode cX10_ends_ 41 = .ok (.iaload, 1) := by decide +kernel
theorem dX10_ends__42 : decode cX10_ends_ 42 = .ok (.invokevirtual 310, 3) := by decide +kernel
theorem dX10_ends__45 : decode cX10_ends_ 45 = .ok (.pop, 1) := by decide +kernel
theorem dX10_ends__46 : decode cX10_ends_ 46 = .ok (.goto 30, 3) := by decide +kernel
theorem dX10_ends__49 : decode cX10_ends_ 49 = .ok (.aload_n 0, 1) := by decide +kernel
theorem dX10_ends__50 : decode cX10_ends_ 50 = .ok (.getfield 71, 3) := by decide +kernel
theorem dX10_ends__53 : decode cX10_ends_ 53 = .ok (.iload_n 2, 1) := by decide +kernel
theorem dX10_ends__54 : decode cX10_ends_ 54 = .ok (.iaload, 1) := by decide +kernel
theorem dX10_ends__55 : decode cX10_ends_ 55 = .ok (.iconst 1, 1) := by decide +kernel
theorem dX10_ends__56 : decode cX10_ends_ 56 = .ok (.if_icmp .ne 16, 3) := by decide +kernel
theorem dX10_ends__59 : decode cX10_ends_ 59 = .ok (.aload_n 0, 1) := by decide +kernel
theorem dX10_ends__60 : decode cX10_ends_ 60 = .ok (.aload_n 0, 1) := by decide +kernel
theorem dX10_ends__61 : decode cX10_ends_ 61 = .ok (.getfield 74, 3) := by decide +kernel
theorem dX10_ends__64 : decode cX10_ends_ 64 = .ok (.iload_n 2, 1) := by decide +kernel
theorem dX10_ends__65 : decode cX10_ends_ 65 = .ok (.iaload, 1) := by decide +kernel
theorem dX10_ends__66 : decode cX10_ends_ 66 = .ok (.putfield 15, 3) := by decide +kernel
theorem dX10_ends__69 : decode cX10_ends_ 69 = .ok (.goto 7, 3) := by decide +kernel
theorem dX10_ends__72 : decode cX10_ends_ 72 = .ok (.aload_n 0, 1) := by decide +kernel
theorem dX10_ends__73 : decode cX10_ends_ 73 = .ok (.invokevirtual 115, 3) := by decide +kernel
theorem dX10_ends__76 : decode cX10_ends_ 76 = .ok (.iinc 2 1, 3) := by decide +kernel
theorem dX10_ends__79 : decode cX10_ends_ 79 = .ok (.goto (-61), 3) := by decide +kernel
theorem dX10_ends__82 : decode cX10_ends_ 82 = .ok (.iload_n 1, 1) := by decide +kernel
theorem dX10_ends__83 : decode cX10_ends_ 83 = .ok (.ifCond .ne 10, 3) := by decide +kernel
theorem dX10_ends__86 : decode cX10_ends_ 86 = .ok (.aload_n 0, 1) := by decide +kernel
theorem dX10_ends__87 : decode cX10_ends_ 87 = .ok (.getfield 128, 3) := by decide +kernel
theorem dX10_ends__90 : decode cX10_ends_ 90 = .ok (.goto 8, 3) := by decide +kernel
theorem dX10_ends__93 : decode cX10_ends_ 93 = .ok (.aload_n 0, 1) := by decide +kernel
theorem dX10_ends__94 : decode cX10_ends_ 94 = .ok (.iconst 0, 1) := by decide +kernel
theorem dX10_ends__95 : decode cX10_ends_ 95 = .ok (.invokevirtual 313, 3) := by decide +kernel
theorem dX10_ends__98 : decode cX10_ends_ 98 = .ok (.istore_n 2, 1) := by decide +kernel
theorem dX10_ends__99 : decode cX10_ends_ 99 = .ok (.aload_n 0, 1) := by decide +kernel
theorem dX10_ends__100 : decode cX10_ends_ 100 = .ok (.invokevirtual 368, 3) := by decide +kernel
theorem dX10_ends__103 : decode cX10_ends_ 103 = .ok (.iload_n 2, 1) := by decide +kernel
theorem dX10_ends__104 : decode cX10_ends_ 104 = .ok (.ireturn, 1) := by decide +kernel
set_option maxRecDepth 20000 in
theorem ggX10_book_X10_isColumn : GoodIn wsX10_book wsX10_isColumn := goodIn_r _ [9, 10, 11, 12, 8, 13, 14, 15, 16, 17, 18, 19, 20, 21, 22, 23, 24, 25, 26, 27, 28, 29, 30, 31, 32, 33, 34, 35, 36, 37, 38, 39, 40, 41, 42, 43, 44, 45, 46, 47, 48, 49, 50, 51, 52, 53, 54, 55, 56, 57, 58, 59, 60] (by decide +kernel) (by decide +kernel)
set_option maxRecDepth 20000 in
theorem gX10_book_X10_isColumn : GoodIn wsX10_book (wsV RX10 279 RX10 yX10_isColumn wsX10_isColumn) := goodIn_app (goodIn_of _ (by decide +kernel)) ggX10_book_X10_isColumn
set_option maxRecDepth 20000 in
theorem ggX10_book_X10_in : GoodIn wsX10_book wsX10_in := goodIn_r _ [13] (by decide +kernel) (by decide +kernel)
set_option maxRecDepth 20000 in
theorem gX10_book_X10_in : GoodIn wsX10_book (va_wsS RX10 121 yX10_in wsX10_in) := goodIn_app (goodIn_of _ (by decide +kernel)) ggX10_book_X10_in
theorem dX10_book_0 : decode cX10_book 0 = .ok (.iload_n 1, 1) := by decide +kernel
theorem dX10_book_1 : decode cX10_book 1 = .ok (.iconst (-1), 1) := by decide +kernel
theorem dX10_book_2 : decode cX10_book 2 = .ok (.if_icmp .ne 10, 3) := by decide +kernel
theorem dX10_book_5 : decode cX10_book 5 = .ok (.aload_n 0, 1) := by decide +kernel
theorem dX10_book_6 : decode cX10_book 6 = .ok (.iconst 0, 1) := by decide +kernel
theorem dX10_book_7 : decode cX10_book 7 = .ok (.putfield 151, 3) := by decide +kernel
theorem dX10_book_10 : decode cX10_book 10 = .ok (.iconst 0, 1) := by decide +kernel
theorem dX10_book_11 : decode cX10_book 11 = .ok (.ireturn, 1) := by decide +kernel
theorem dX10_book_12 : decode cX10_book 12 = .ok (.aload_n 0, 1) := by decide +kernel
theorem dX10_book_13 : decode cX10_book 13 = .ok (.iload_n 1, 1) := by decide +kernel
theorem dX10_book_14 : decode cX10_book 14 = .ok (.invokevirtual 279, 3) := by decide +kernel
theorem dX10_book_17 : decode cX10_book 17 = .ok (.ifCond .ne 5, 3) := by decide +kernel
theorem dX10_book_20 : decode cX10_book 20 = .ok (.iconst (-1), 1) := by decide +kernel
theorem dX10_book_21 : decode cX10_book 21 = .ok (.ireturn, 1) := by decide +kernel
theorem dX10_book_22 : decode cX10_book 22 = .ok (.iload_n 2, 1) := by decide +kernel
theorem dX10_book_23 : decode cX10_book 23 = .ok (.i2l, 1) := by decide +kernel
theorem dX10_book_24 : decode cX10_book 24 = .ok (.lconst 1, 1) := by decide +kernel
theorem dX10_book_25 : decode cX10_book 25 = .ok (.ldc2_w 282, 3) := by decide +kernel
theorem dX10_book_28 : decode cX10_book 28 = .ok (.invokestatic 121, 3) := by decide +kernel
theorem dX10_book_31 : decode cX10_book 31 = .ok (.ifCond .ne 6, 3) := by decide +kernel
theorem dX10_book_34 : decode cX10_book 34 = .ok (.bipush (-2), 2) := by decide +kernel
theorem dX10_book_36 : decode cX10_book 36 = .ok (.ireturn, 1) := by decide +kernel
theorem dX10_book_37 : decode cX10_book 37 = .ok (.aload_n 0, 1) := by decide +kernel
theorem dX10_book_38 : decode cX10_book 38 = .ok (.getfield 151, 3) := by decide +kernel
theorem dX10_book_41 : decode cX10_book 41 = .ok (.bipush 8, 2) := by decide +kernel
theorem dX10_book_43 : decode cX10_book 43 = .ok (.if_icmp .ne 6, 3) := by decide +kernel
theorem dX10_book_46 : decode cX10_book 46 = .ok (.bipush (-4), 2) := by decide +kernel
theorem dX10_book_48 : decode cX10_book 48 = .ok (.ireturn, 1) := by decide +kernel
theorem dX10_book_49 : decode cX10_book 49 = .ok (.aload_n 0, 1) := by decide +kernel
theorem dX10_book_50 : decode cX10_book 50 = .ok (.getfield 77, 3) := by decide +kernel
theorem dX10_book_53 : decode cX10_book 53 = .ok (.aload_n 0, 1) := by decide +kernel
theorem dX10_book_54 : decode cX10_book 54 = .ok (.getfield 151, 3) := by decide +kernel
theorem dX10_book_57 : decode cX10_book 57 = .ok (.iload_n 1, 1) := by decide +kernel
theorem dX10_book_58 : decode cX10_book 58 = .ok (.iastore, 1) := by decide +kernel
theorem dX10_book_59 : decode cX10_book 59 = .ok (.aload_n 0, 1) := by decide +kernel
theorem dX10_book_60 : decode cX10_book 60 = .ok (.getfield 80, 3) := by decide +kernel
theorem dX10_book_63 : decode cX10_book 63 = .ok (.aload_n 0, 1) := by decide +kernel
theorem dX10_book_64 : decode cX10_book 64 = .ok (.getfield 151, 3) := by decide +kernel
theorem dX10_book_67 : decode cX10_book 67 = .ok (.iload_n 2, 1) := by decide +kernel
theorem dX10_book_68 : decode cX10_book 68 = .ok (.iastore, 1) := by decide +kernel
theorem dX10_book_69 : decode cX10_book 69 = .ok (.aload_n 0, 1) := by decide +kernel
theorem dX10_book_70 : decode cX10_book 70 = .ok (.dup, 1) := by decide +kernel
theorem dX10_book_71 : decode cX10_book 71 = .ok (.getfield 151, 3) := by decide +kernel
theorem dX10_book_74 : decode cX10_book 74 = .ok (.iconst 1, 1) := by decide +kernel
theorem dX10_book_75 : decode cX10_book 75 = .ok (.iadd, 1) := by decide +kernel
theorem dX10_book_76 : decode cX10_book 76 = .ok (.putfield 151, 3) := by decide +kernel
theorem dX10_book_79 : decode cX10_book 79 = .ok (.aload_n 0, 1) := by decide +kernel
theorem dX10_book_80 : decode cX10_book 80 = .ok (.getfield 151, 3) := by decide +kernel
theorem dX10_book_83 : decode cX10_book 83 = .ok (.ireturn, 1) := by decide +kernel
set_option maxRecDepth 20000 in
theorem ggX10_looked_X10_type : GoodIn wsX10_looked wsX10_type := goodIn_r _ [8, 9, 10, 11, 12, 13, 14, 7, 15, 16, 17, 18, 19, 20, 21, 22, 23, 24, 25, 26, 27, 28, 29, 30, 31, 32, 33, 34, 35, 36, 37, 38, 39, 40, 41, 42, 43, 44, 45, 46, 47, 48, 49, 50, 51, 52, 53, 54, 55, 56, 57, 58, 59, 60, 61, 62, 63, 64, 65, 66, 67, 68, 69, 70, 71, 72, 73, 74, 75, 76, 77] (by decide +kernel) (by decide +kernel)
set_option maxRecDepth 20000 in
theorem gX10_looked_X10_type : GoodIn wsX10_looked (wsV RX10 284 RX10 yX10_type wsX10_type) := goodIn_app (goodIn_of _ (by decide +kernel)) ggX10_looked_X10_type
theorem dX10_looked_0 : decode cX10_looked 0 = .ok (.iconst 0, 1) := by decide +kernel
theorem dX10_looked_1 : decode cX10_looked 1 = .ok (.istore_n 1, 1) := by decide +kernel
theorem dX10_looked_2 : decode cX10_looked 2 = .ok (.iload_n 1, 1) := by decide +kernel
theorem dX10_looked_3 : decode cX10_looked 3 = .ok (.aload_n 0, 1) := by decide +kernel
theorem dX10_looked_4 : decode cX10_looked 4 = .ok (.getfield 151, 3) := by decide +kernel
theorem dX10_looked_7 : decode cX10_looked 7 = .ok (.if_icmp .ge 30, 3) := by decide +kernel
theorem dX10_looked_10 : decode cX10_looked 10 = .ok (.aload_n 0, 1) := by decide +kernel
theorem dX10_looked_11 : decode cX10_looked 11 = .ok (.aload_n 0, 1) := by decide +kernel
theorem dX10_looked_12 : decode cX10_looked 12 = .ok (.getfield 77, 3) := by decide +kernel
theorem dX10_looked_15 : decode cX10_looked 15 = .ok (.iload_n 1, 1) := by decide +kernel
theorem dX10_looked_16 : decode cX10_looked 16 = .ok (.iaload, 1) := by decide +kernel
theorem dX10_looked_17 : decode cX10_looked 17 = .ok (.invokevirtual 284, 3) := by decide +kernel
theorem dX10_looked_20 : decode cX10_looked 20 = .ok (.aload_n 0, 1) := by decide +kernel
theorem dX10_looked_21 : decode cX10_looked 21 = .ok (.getfield 80, 3) := by decide +kernel
theorem dX10_looked_24 : decode cX10_looked 24 = .ok (.iload_n 1, 1) := by decide +kernel
theorem dX10_looked_25 : decode cX10_looked 25 = .ok (.iaload, 1) := by decide +kernel
theorem dX10_looked_26 : decode cX10_looked 26 = .ok (.if_icmp .eq 5, 3) := by decide +kernel
theorem dX10_looked_29 : decode cX10_looked 29 = .ok (.iload_n 1, 1) := by decide +kernel
theorem dX10_looked_30 : decode cX10_looked 30 = .ok (.ireturn, 1) := by decide +kernel
theorem dX10_looked_31 : decode cX10_looked 31 = .ok (.iinc 1 1, 3) := by decide +kernel
theorem dX10_looked_34 : decode cX10_looked 34 = .ok (.goto (-32), 3) := by decide +kernel
theorem dX10_looked_37 : decode cX10_looked 37 = .ok (.bipush (-5), 2) := by decide +kernel
theorem dX10_looked_39 : decode cX10_looked 39 = .ok (.ireturn, 1) := by decide +kernel
set_option maxRecDepth 20000 in
theorem ggX10_isTape_X10_in : GoodIn wsX10_isTape wsX10_in := goodIn_r _ [5] (by decide +kernel) (by decide +kernel)
set_option maxRecDepth 20000 in
theorem gX10_isTape_X10_in : GoodIn wsX10_isTape (va_wsS RX10 121 yX10_in wsX10_in) := goodIn_app (goodIn_of _ (by decide +kernel)) ggX10_isTape_X10_in
theorem dX10_isTape_0 : decode cX10_isTape 0 = .ok (.iload_n 0, 1) := by decide +kernel
theorem dX10_isTape_1 : decode cX10_isTape 1 = .ok (.i2l, 1) := by decide +kernel
theorem dX10_isTape_2 : decode cX10_isTape 2 = .ok (.lconst 0, 1) := by decide +kernel
theorem dX10_isTape_3 : decode cX10_isTape 3 = .ok (.ldc2_w 381, 3) := by decide +kernel
theorem dX10_isTape_6 : decode cX10_isTape 6 = .ok (.invokestatic 121, 3) := by decide +kernel
theorem dX10_isTape_9 : decode cX10_isTape 9 = .ok (.ireturn, 1) := by decide +kernel
set_option maxRecDepth 20000 in
theorem ggX10_judge_X10_isColumn : GoodIn wsX10_judge wsX10_isColumn := goodIn_r _ [9, 10, 11, 12, 8, 13, 44, 45, 46, 47, 48, 49, 50, 51, 52, 53, 54, 55, 56, 57, 58, 59, 60, 61, 62, 63, 64, 65, 66, 67, 68, 69, 70, 71, 72, 73, 74, 75, 76, 77, 78, 79, 80, 81, 82, 83, 84, 85, 86, 87, 88, 89, 90] (by decide +kernel) (by decide +kernel)
set_option maxRecDepth 20000 in
theorem gX10_judge_X10_isColumn : GoodIn wsX10_judge (wsV RX10 279 RX10 yX10_isColumn wsX10_isColumn) := goodIn_app (goodIn_of _ (by decide +kernel)) ggX10_judge_X10_isColumn
set_option maxRecDepth 20000 in
theorem ggX10_judge_X10_isTape : GoodIn wsX10_judge wsX10_isTape := goodIn_r _ [16, 17, 11, 12, 8, 13] (by decide +kernel) (by decide +kernel)
set_option maxRecDepth 20000 in
theorem gX10_judge_X10_isTape : GoodIn wsX10_judge (va_wsS RX10 383 yX10_isTape wsX10_isTape) := goodIn_app (goodIn_of _ (by decide +kernel)) ggX10_judge_X10_isTape
set_option maxRecDepth 20000 in
theorem ggX10_judge_X10_hasValue : GoodIn wsX10_judge wsX10_hasValue := goodIn_r _ [21, 22, 23, 24, 25, 8, 26, 2, 11, 12, 13, 5, 6, 7, 9, 10, 27, 28, 29, 30, 31, 44, 45, 46, 47, 48, 49, 50, 51, 52, 53, 54, 55, 56, 57, 58, 59, 60, 61, 62, 63, 64, 65, 66, 67, 68, 69, 70, 71, 72, 73, 74, 75, 76, 77, 78, 79, 80, 81, 82, 83, 84, 85, 86, 87, 88, 89, 90] (by decide +kernel) (by decide +kernel)
set_option maxRecDepth 20000 in
theorem gX10_judge_X10_hasValue : GoodIn wsX10_judge (wsV RX10 319 RX10 yX10_hasValue wsX10_hasValue) := goodIn_app (goodIn_of _ (by decide +kernel)) ggX10_judge_X10_hasValue
set_option maxRecDepth 20000 in
theorem ggX10_judge_X10_its : GoodIn wsX10_judge wsX10_its := goodIn_r _ [35, 22, 36, 37, 38, 39, 8, 40, 41, 42, 43, 44, 45, 46, 47, 48, 49, 50, 51, 52, 53, 54, 55, 56, 57, 58, 59, 60, 61, 62, 63, 64, 65, 66, 67, 68, 69, 70, 71, 72, 73, 74, 75, 76, 77, 78, 79, 80, 81, 82, 83, 84, 85, 86, 87, 88, 89, 90] (by decide +kernel) (by decide +kernel)
set_option maxRecDepth 20000 in
theorem gX10_judge_X10_its : GoodIn wsX10_judge (wsV RX10 322 RX10 yX10_its wsX10_its) := goodIn_app (goodIn_of _ (by decide +kernel)) ggX10_judge_X10_its
theorem dX10_judge_0 : decode cX10_judge 0 = .ok (.aload_n 0, 1) := by decide +kernel
theorem dX10_judge_1 : decode cX10_judge 1 = .ok (.iload_n 1, 1) := by decide +kernel
theorem dX10_judge_2 : decode cX10_judge 2 = .ok (.invokevirtual 279, 3) := by decide +kernel
theorem dX10_judge_5 : decode cX10_judge 5 = .ok (.ifCond .eq 10, 3) := by decide +kernel
theorem dX10_judge_8 : decode cX10_judge 8 = .ok (.iload_n 2, 1) := by decide +kernel
theorem dX10_judge_9 : decode cX10_judge 9 = .ok (.invokestatic 383, 3) := by decide +kernel
theorem dX10_judge_12 : decode cX10_judge 12 = .ok (.ifCond .ne 5, 3) := by decide +kernel
theorem dX10_judge_15 : decode cX10_judge 15 = .ok (.iconst (-1), 1) := by decide +kernel
theorem dX10_judge_16 : decode cX10_judge 16 = .ok (.ireturn, 1) := by decide +kernel
theorem dX10_judge_17 : decode cX10_judge 17 = .ok (.aload_n 0, 1) := by decide +kernel
theorem dX10_judge_18 : decode cX10_judge 18 = .ok (.getfield 106, 3) := by decide +kernel
theorem dX10_judge_21 : decode cX10_judge 21 = .ok (.iload_n 2, 1) := by decide +kernel
theorem dX10_judge_22 : decode cX10_judge 22 = .ok (.iaload, 1) := by decide +kernel
theorem dX10_judge_23 : decode cX10_judge 23 = .ok (.ifCond .lt 16, 3) := by decide +kernel
theorem dX10_judge_26 : decode cX10_judge 26 = .ok (.aload_n 0, 1) := by decide +kernel
theorem dX10_judge_27 : decode cX10_judge 27 = .ok (.getfield 106, 3) := by decide +kernel
theorem dX10_judge_30 : decode cX10_judge 30 = .ok (.iload_n 2, 1) := by decide +kernel
theorem dX10_judge_31 : decode cX10_judge 31 = .ok (.iaload, 1) := by decide +kernel
theorem dX10_judge_32 : decode cX10_judge 32 = .ok (.iconst 3, 1) := by decide +kernel
theorem dX10_judge_33 : decode cX10_judge 33 = .ok (.if_icmp .eq 6, 3) := by decide +kernel
theorem dX10_judge_36 : decode cX10_judge 36 = .ok (.bipush (-12), 2) := by decide +kernel
theorem dX10_judge_38 : decode cX10_judge 38 = .ok (.ireturn, 1) := by decide +kernel
theorem dX10_judge_39 : decode cX10_judge 39 = .ok (.iconst 0, 1) := by decide +kernel
theorem dX10_judge_40 : decode cX10_judge 40 = .ok (.istore 4, 2) := by decide +kernel
theorem dX10_judge_42 : decode cX10_judge 42 = .ok (.iconst 0, 1) := by decide +kernel
theorem dX10_judge_43 : decode cX10_judge 43 = .ok (.istore 5, 2) := by decide +kernel
theorem dX10_judge_45 : decode cX10_judge 45 = .ok (.iload 5, 2) := by decide +kernel
theorem dX10_judge_47 : decode cX10_judge 47 = .ok (.aload_n 0, 1) := by decide +kernel
theorem dX10_judge_48 : decode cX10_judge 48 = .ok (.getfield 128, 3) := by decide +kernel
theorem dX10_judge_51 : decode cX10_judge 51 = .ok (.if_icmp .ge 70, 3) := by decide +kernel
theorem dX10_judge_54 : decode cX10_judge 54 = .ok (.aload_n 0, 1) := by decide +kernel
theorem dX10_judge_55 : decode cX10_judge 55 = .ok (.iload 5, 2) := by decide +kernel
theorem dX10_judge_57 : decode cX10_judge 57 = .ok (.iload_n 1, 1) := by decide +kernel
theorem dX10_judge_58 : decode cX10_judge 58 = .ok (.invokevirtual 319, 3) := by decide +kernel
theorem dX10_judge_61 : decode cX10_judge 61 = .ok (.ifCond .eq 54, 3) := by decide +kernel
theorem dX10_judge_64 : decode cX10_judge 64 = .ok (.iload_n 3, 1) := by decide +kernel
theorem dX10_judge_65 : decode cX10_judge 65 = .ok (.ifCond .lt 16, 3) := by decide +kernel
theorem dX10_judge_68 : decode cX10_judge 68 = .ok (.iload_n 3, 1) := by decide +kernel
theorem dX10_judge_69 : decode cX10_judge 69 = .ok (.aload_n 0, 1) := by decide +kernel
theorem dX10_judge_70 : decode cX10_judge 70 = .ok (.getfield 109, 3) := by decide +kernel
theorem dX10_judge_73 : decode cX10_judge 73 = .ok (.iload_n 2, 1) := by decide +kernel
theorem dX10_judge_74 : decode cX10_judge 74 = .ok (.iaload, 1) := by decide +kernel
theorem dX10_judge_75 : decode cX10_judge 75 = .ok (.iload 4, 2) := by decide +kernel
theorem dX10_judge_77 : decode cX10_judge 77 = .ok (.isub, 1) := by decide +kernel
theorem dX10_judge_78 : decode cX10_judge 78 = .ok (.if_icmp .lt 9, 3) := by decide +kernel
theorem dX10_judge_81 : decode cX10_judge 81 = .ok (.bipush 100, 2) := by decide +kernel
theorem dX10_judge_83 : decode cX10_judge 83 = .ok (.iload 4, 2) := by decide +kernel
theorem dX10_judge_85 : decode cX10_judge 85 = .ok (.iadd, 1) := by decide +kernel
theorem dX10_judge_86 : decode cX10_judge 86 = .ok (.ireturn, 1) := by decide +kernel
theorem dX10_judge_87 : decode cX10_judge 87 = .ok (.aload_n 0, 1) := by decide +kernel
theorem dX10_judge_88 : decode cX10_judge 88 = .ok (.getfield 103, 3) := by decide +kernel
theorem dX10_judge_91 : decode cX10_judge 91 = .ok (.iload_n 2, 1) := by decide +kernel
theorem dX10_judge_92 : decode cX10_judge 92 = .ok (.aaload, 1) := by decide +kernel
theorem dX10_judge_93 : decode cX10_judge 93 = .ok (.iload_n 3, 1) := by decide +kernel
theorem dX10_judge_94 : decode cX10_judge 94 = .ok (.iload 4, 2) := by decide +kernel
theorem dX10_judge_96 : decode cX10_judge 96 = .ok (.iadd, 1) := by decide +kernel
theorem dX10_judge_97 : decode cX10_judge 97 = .ok (.laload, 1) := by decide +kernel
theorem dX10_judge_98 : decode cX10_judge 98 = .ok (.aload_n 0, 1) := by decide +kernel
theorem dX10_judge_99 : decode cX10_judge 99 = .ok (.iload 5, 2) := by decide +kernel
theorem dX10_judge_101 : decode cX10_judge 101 = .ok (.iload_n 1, 1) := by decide +kernel
theorem dX10_judge_102 : decode cX10_judge 102 = .ok (.invokevirtual 322, 3) := by decide +kernel
theorem dX10_judge_105 : decode cX10_judge 105 = .ok (.lcmp, 1) := by decide +kernel
theorem dX10_judge_106 : decode cX10_judge 106 = .ok (.ifCond .eq 6, 3) := by decide +kernel
theorem dX10_judge_109 : decode cX10_judge 109 = .ok (.iload 4, 2) := by decide +kernel
theorem dX10_judge_111 : decode cX10_judge 111 = .ok (.ireturn, 1) := by decide +kernel
theorem dX10_judge_112 : decode cX10_judge 112 = .ok (.iinc 4 1, 3) := by decide +kernel
theorem dX10_judge_115 : decode cX10_judge 115 = .ok (.iinc 5 1, 3) := by decide +kernel
theorem dX10_judge_118 : decode cX10_judge 118 = .ok (.goto (-73), 3) := by decide +kernel
theorem dX10_judge_121 : decode cX10_judge 121 = .ok (.bipush (-5), 2) := by decide +kernel
theorem dX10_judge_123 : decode cX10_judge 123 = .ok (.ireturn, 1) := by decide +kernel
set_option maxRecDepth 20000 in
theorem ggX10_taken_X10_in : GoodIn wsX10_taken wsX10_in := goodIn_r _ [6] (by decide +kernel) (by decide +kernel)
set_option maxRecDepth 20000 in
theorem gX10_taken_X10_in : GoodIn wsX10_taken (va_wsS RX10 121 yX10_in wsX10_in) := goodIn_app (goodIn_of _ (by decide +kernel)) ggX10_taken_X10_in
set_option maxRecDepth 20000 in
theorem ggX10_taken_X10_hasValue : GoodIn wsX10_taken wsX10_hasValue := goodIn_r _ [10, 11, 12, 13, 14, 5, 15, 16, 3, 4, 6, 17, 18, 19, 20, 21, 22, 23, 24, 25, 26, 27, 28, 29, 30, 31, 32, 33, 34, 35, 36, 37, 38, 39, 40, 41, 42, 43, 44, 45, 46, 47, 48, 49, 50, 51, 52, 53, 54, 55, 56, 57, 58, 59, 60, 61, 62, 63, 64, 65, 66, 67, 68, 69, 70, 71, 72, 73] (by decide +kernel) (by decide +kernel)
set_option maxRecDepth 20000 in
theorem gX10_taken_X10_hasValue : GoodIn wsX10_taken (wsV RX10 319 RX10 yX10_hasValue wsX10_hasValue) := goodIn_app (goodIn_of _ (by decide +kernel)) ggX10_taken_X10_hasValue
theorem dX10_taken_0 : decode cX10_taken 0 = .ok (.iload_n 3, 1) := by decide +kernel
theorem dX10_taken_1 : decode cX10_taken 1 = .ok (.i2l, 1) := by decide +kernel
theorem dX10_taken_2 : decode cX10_taken 2 = .ok (.lconst 0, 1) := by decide +kernel
theorem dX10_taken_3 : decode cX10_taken 3 = .ok (.ldc2_w 282, 3) := by decide +kernel
theorem dX10_taken_6 : decode cX10_taken 6 = .ok (.invokestatic 121, 3) := by decide +kernel
theorem dX10_taken_9 : decode cX10_taken 9 = .ok (.ifCond .ne 6, 3) := by decide +kernel
theorem dX10_taken_12 : decode cX10_taken 12 = .ok (.bipush (-2), 2) := by decide +kernel
theorem dX10_taken_14 : decode cX10_taken 14 = .ok (.ireturn, 1) := by decide +kernel
theorem dX10_taken_15 : decode cX10_taken 15 = .ok (.aload_n 0, 1) := by decide +kernel
theorem dX10_taken_16 : decode cX10_taken 16 = .ok (.iload_n 1, 1) := by decide +kernel
theorem dX10_taken_17 : decode cX10_taken 17 = .ok (.iload_n 2, 1) := by decide +kernel
theorem dX10_taken_18 : decode cX10_taken 18 = .ok (.invokevirtual 319, 3) := by decide +kernel
theorem dX10_taken_21 : decode cX10_taken 21 = .ok (.ifCond .ne 6, 3) := by decide +kernel
theorem dX10_taken_24 : decode cX10_taken 24 = .ok (.bipush (-11), 2) := by decide +kernel
theorem dX10_taken_26 : decode cX10_taken 26 = .ok (.ireturn, 1) := by decide +kernel
theorem dX10_taken_27 : decode cX10_taken 27 = .ok (.aload_n 0, 1) := by decide +kernel
theorem dX10_taken_28 : decode cX10_taken 28 = .ok (.getfield 28, 3) := by decide +kernel
theorem dX10_taken_31 : decode cX10_taken 31 = .ok (.iload_n 2, 1) := by decide +kernel
theorem dX10_taken_32 : decode cX10_taken 32 = .ok (.iaload, 1) := by decide +kernel
theorem dX10_taken_33 : decode cX10_taken 33 = .ok (.istore 4, 2) := by decide +kernel
theorem dX10_taken_35 : decode cX10_taken 35 = .ok (.iload 4, 2) := by decide +kernel
theorem dX10_taken_37 : decode cX10_taken 37 = .ok (.iload_n 3, 1) := by decide +kernel
theorem dX10_taken_38 : decode cX10_taken 38 = .ok (.if_icmp .eq 13, 3) := by decide +kernel
theorem dX10_taken_41 : decode cX10_taken 41 = .ok (.iload_n 3, 1) := by decide +kernel
theorem dX10_taken_42 : decode cX10_taken 42 = .ok (.ifCond .ne 14, 3) := by decide +kernel
theorem dX10_taken_45 : decode cX10_taken 45 = .ok (.iload 4, 2) := by decide +kernel
theorem dX10_taken_47 : decode cX10_taken 47 = .ok (.iconst 4, 1) := by decide +kernel
theorem dX10_taken_48 : decode cX10_taken 48 = .ok (.if_icmp .eq 8, 3) := by decide +kernel
theorem dX10_taken_51 : decode cX10_taken 51 = .ok (.iload 4, 2) := by decide +kernel
theorem dX10_taken_53 : decode cX10_taken 53 = .ok (.goto 5, 3) := by decide +kernel
theorem dX10_taken_56 : decode cX10_taken 56 = .ok (.bipush (-12), 2) := by decide +kernel
theorem dX10_taken_58 : decode cX10_taken 58 = .ok (.ireturn, 1) := by decide +kernel
theorem dX10_count_0 : decode cX10_count 0 = .ok (.iload_n 1, 1) := by decide +kernel
theorem dX10_count_1 : decode cX10_count 1 = .ok (.tableswitch 60 0 4 #[35, 40, 45, 50, 55], 35) := by decide +kernel
theorem dX10_count_36 : decode cX10_count 36 = .ok (.aload_n 0, 1) := by decide +kernel
theorem dX10_count_37 : decode cX10_count 37 = .ok (.getfield 125, 3) := by decide +kernel
theorem dX10_count_40 : decode cX10_count 40 = .ok (.ireturn, 1) := by decide +kernel
theorem dX10_count_41 : decode cX10_count 41 = .ok (.aload_n 0, 1) := by decide +kernel
theorem dX10_count_42 : decode cX10_count 42 = .ok (.getfield 145, 3) := by decide +kernel
theorem dX10_count_45 : decode cX10_count 45 = .ok (.ireturn, 1) := by decide +kernel
theorem dX10_count_46 : decode cX10_count 46 = .ok (.aload_n 0, 1) := by decide +kernel
theorem dX10_count_47 : decode cX10_count 47 = .ok (.getfield 148, 3) := by decide +kernel
theorem dX10_count_50 : decode cX10_count 50 = .ok (.ireturn, 1) := by decide +kernel
theorem dX10_count_51 : decode cX10_count 51 = .ok (.aload_n 0, 1) := by decide +kernel
theorem dX10_count_52 : decode cX10_count 52 = .ok (.getfield 151, 3) := by decide +kernel
theorem dX10_count_55 : decode cX10_count 55 = .ok (.ireturn, 1) := by decide +kernel
theorem dX10_count_56 : decode cX10_count 56 = .ok (.aload_n 0, 1) := by decide +kernel
theorem dX10_count_57 : decode cX10_count 57 = .ok (.getfield 178, 3) := by decide +kernel
theorem dX10_count_60 : decode cX10_count 60 = .ok (.ireturn, 1) := by decide +kernel
theorem dX10_count_61 : decode cX10_count 61 = .ok (.bipush (-2), 2) := by decide +kernel
theorem dX10_count_63 : decode cX10_count 63 = .ok (.ireturn, 1) := by decide +kernel
set_option maxRecDepth 20000 in
theorem ggX10_tape_X10_isTape : GoodIn wsX10_tape wsX10_isTape := goodIn_r _ [9, 10, 11, 12, 8, 13] (by decide +kernel) (by decide +kernel)
set_option maxRecDepth 20000 in
theorem gX10_tape_X10_isTape : GoodIn wsX10_tape (va_wsS RX10 383 yX10_isTape wsX10_isTape) := goodIn_app (goodIn_of _ (by decide +kernel)) ggX10_tape_X10_isTape
set_option maxRecDepth 20000 in
theorem ggX10_tape_X10_in : GoodIn wsX10_tape wsX10_in := goodIn_r _ [13] (by decide +kernel) (by decide +kernel)
set_option maxRecDepth 20000 in
theorem gX10_tape_X10_in : GoodIn wsX10_tape (va_wsS RX10 121 yX10_in wsX10_in) := goodIn_app (goodIn_of _ (by decide +kernel)) ggX10_tape_X10_in
theorem dX10_tape_0 : decode cX10_tape 0 = .ok (.iload_n 1, 1) := by decide +kernel
theorem dX10_tape_1 : decode cX10_tape 1 = .ok (.invokestatic 383, 3) := by decide +kernel
theorem dX10_tape_4 : decode cX10_tape 4 = .ok (.ifCond .ne 5, 3) := by decide +kernel
theorem dX10_tape_7 : decode cX10_tape 7 = .ok (.iconst (-1), 1) := by decide +kernel
theorem dX10_tape_8 : decode cX10_tape 8 = .ok (.ireturn, 1) := by decide +kernel
theorem dX10_tape_9 : decode cX10_tape 9 = .ok (.iload_n 2, 1) := by decide +kernel
theorem dX10_tape_10 : decode cX10_tape 10 = .ok (.i2l, 1) := by decide +kernel
theorem dX10_tape_11 : decode cX10_tape 11 = .ok (.ldc2_w 386, 3) := by decide +kernel
theorem dX10_tape_14 : decode cX10_tape 14 = .ok (.ldc2_w 282, 3) := by decide +kernel
theorem dX10_tape_17 : decode cX10_tape 17 = .ok (.invokestatic 121, 3) := by decide +kernel
theorem dX10_tape_20 : decode cX10_tape 20 = .ok (.ifCond .eq 13, 3) := by decide +kernel
theorem dX10_tape_23 : decode cX10_tape 23 = .ok (.iload_n 2, 1) := by decide +kernel
theorem dX10_tape_24 : decode cX10_tape 24 = .ok (.ifCond .lt 12, 3) := by decide +kernel
theorem dX10_tape_27 : decode cX10_tape 27 = .ok (.iload_n 3, 1) := by decide +kernel
theorem dX10_tape_28 : decode cX10_tape 28 = .ok (.bipush 60, 2) := by decide +kernel
theorem dX10_tape_30 : decode cX10_tape 30 = .ok (.if_icmp .le 6, 3) := by decide +kernel
theorem dX10_tape_33 : decode cX10_tape 33 = .ok (.bipush (-2), 2) := by decide +kernel
theorem dX10_tape_35 : decode cX10_tape 35 = .ok (.ireturn, 1) := by decide +kernel
theorem dX10_tape_36 : decode cX10_tape 36 = .ok (.iload_n 2, 1) := by decide +kernel
theorem dX10_tape_37 : decode cX10_tape 37 = .ok (.ifCond .lt 10, 3) := by decide +kernel
theorem dX10_tape_40 : decode cX10_tape 40 = .ok (.iload_n 3, 1) := by decide +kernel
theorem dX10_tape_41 : decode cX10_tape 41 = .ok (.ifCond .ge 6, 3) := by decide +kernel
theorem dX10_tape_44 : decode cX10_tape 44 = .ok (.bipush (-14), 2) := by decide +kernel
theorem dX10_tape_46 : decode cX10_tape 46 = .ok (.ireturn, 1) := by decide +kernel
theorem dX10_tape_47 : decode cX10_tape 47 = .ok (.aload_n 0, 1) := by decide +kernel
theorem dX10_tape_48 : decode cX10_tape 48 = .ok (.getfield 106, 3) := by decide +kernel
theorem dX10_tape_51 : decode cX10_tape 51 = .ok (.iload_n 1, 1) := by decide +kernel
theorem dX10_tape_52 : decode cX10_tape 52 = .ok (.iload_n 2, 1) := by decide +kernel
theorem dX10_tape_53 : decode cX10_tape 53 = .ok (.iastore, 1) := by decide +kernel
theorem dX10_tape_54 : decode cX10_tape 54 = .ok (.aload_n 0, 1) := by decide +kernel
theorem dX10_tape_55 : decode cX10_tape 55 = .ok (.getfield 109, 3) := by decide +kernel
theorem dX10_tape_58 : decode cX10_tape 58 = .ok (.iload_n 1, 1) := by decide +kernel
theorem dX10_tape_59 : decode cX10_tape 59 = .ok (.iload_n 2, 1) := by decide +kernel
theorem dX10_tape_60 : decode cX10_tape 60 = .ok (.ifCond .ge 7, 3) := by decide +kernel
theorem dX10_tape_63 : decode cX10_tape 63 = .ok (.iconst 0, 1) := by decide +kernel
theorem dX10_tape_64 : decode cX10_tape 64 = .ok (.goto 4, 3) := by decide +kernel
theorem dX10_tape_67 : decode cX10_tape 67 = .ok (.iload_n 3, 1) := by decide +kernel
theorem dX10_tape_68 : decode cX10_tape 68 = .ok (.iastore, 1) := by decide +kernel
theorem dX10_tape_69 : decode cX10_tape 69 = .ok (.iconst 0, 1) := by decide +kernel
theorem dX10_tape_70 : decode cX10_tape 70 = .ok (.istore 4, 2) := by decide +kernel
theorem dX10_tape_72 : decode cX10_tape 72 = .ok (.iload 4, 2) := by decide +kernel
theorem dX10_tape_74 : decode cX10_tape 74 = .ok (.bipush 60, 2) := by decide +kernel
theorem dX10_tape_76 : decode cX10_tape 76 = .ok (.if_icmp .ge 19, 3) := by decide +kernel
theorem dX10_tape_79 : decode cX10_tape 79 = .ok (.aload_n 0, 1) := by decide +kernel
theorem dX10_tape_80 : decode cX10_tape 80 = .ok (.getfield 103, 3) := by decide +kernel
theorem dX10_tape_83 : decode cX10_tape 83 = .ok (.iload_n 1, 1) := by decide +kernel
theorem dX10_tape_84 : decode cX10_tape 84 = .ok (.aaload, 1) := by decide +kernel
theorem dX10_tape_85 : decode cX10_tape 85 = .ok (.iload 4, 2) := by decide +kernel
theorem dX10_tape_87 : decode cX10_tape 87 = .ok (.lconst 0, 1) := by decide +kernel
theorem dX10_tape_88 : decode cX10_tape 88 = .ok (.lastore, 1) := by decide +kernel
theorem dX10_tape_89 : decode cX10_tape 89 = .ok (.iinc 4 1, 3) := by decide +kernel
theorem dX10_tape_92 : decode cX10_tape 92 = .ok (.goto (-20), 3) := by decide +kernel
theorem dX10_tape_95 : decode cX10_tape 95 = .ok (.iconst 1, 1) := by decide +kernel
theorem dX10_tape_96 : decode cX10_tape 96 = .ok (.ireturn, 1) := by decide +kernel
theorem dX10_fit_0 : decode cX10_fit 0 = .ok (.iload_n 0, 1) := by decide +kernel
theorem dX10_fit_1 : decode cX10_fit 1 = .ok (.tableswitch 47 0 3 #[31, 36, 41, 45], 31) := by decide +kernel
theorem dX10_fit_32 : decode cX10_fit 32 = .ok (.lload_n 1, 1) := by decide +kernel
theorem dX10_fit_33 : decode cX10_fit 33 = .ok (.l2i, 1) := by decide +kernel
theorem dX10_fit_34 : decode cX10_fit 34 = .ok (.i2b, 1) := by decide +kernel
theorem dX10_fit_35 : decode cX10_fit 35 = .ok (.i2l, 1) := by decide +kernel
theorem dX10_fit_36 : decode cX10_fit 36 = .ok (.lreturn, 1) := by decide +kernel
theorem dX10_fit_37 : decode cX10_fit 37 = .ok (.lload_n 1, 1) := by decide +kernel
theorem dX10_fit_38 : decode cX10_fit 38 = .ok (.l2i, 1) := by decide +kernel
theorem dX10_fit_39 : decode cX10_fit 39 = .ok (.i2s, 1) := by decide +kernel
theorem dX10_fit_40 : decode cX10_fit 40 = .ok (.i2l, 1) := by decide +kernel
theorem dX10_fit_41 : decode cX10_fit 41 = .ok (.lreturn, 1) := by decide +kernel
theorem dX10_fit_42 : decode cX10_fit 42 = .ok (.lload_n 1, 1) := by decide +kernel
theorem dX10_fit_43 : decode cX10_fit 43 = .ok (.l2i, 1) := by decide +kernel
theorem dX10_fit_44 : decode cX10_fit 44 = .ok (.i2l, 1) := by decide +kernel
theorem dX10_fit_45 : decode cX10_fit 45 = .ok (.lreturn, 1) := by decide +kernel
theorem dX10_fit_46 : decode cX10_fit 46 = .ok (.lload_n 1, 1) := by decide +kernel
theorem dX10_fit_47 : decode cX10_fit 47 = .ok (.lreturn, 1) := by decide +kernel
theorem dX10_fit_48 : decode cX10_fit 48 = .ok (.lload_n 1, 1) := by decide +kernel
theorem dX10_fit_49 : decode cX10_fit 49 = .ok (.lconst 0, 1) := by decide +kernel
theorem dX10_fit_50 : decode cX10_fit 50 = .ok (.lcmp, 1) := by decide +kernel
theorem dX10_fit_51 : decode cX10_fit 51 = .ok (.ifCond .eq 7, 3) := by decide +kernel
theorem dX10_fit_54 : decode cX10_fit 54 = .ok (.lconst 1, 1) := by decide +kernel
theorem dX10_fit_55 : decode cX10_fit 55 = .ok (.goto 4, 3) := by decide +kernel
theorem dX10_fit_58 : decode cX10_fit 58 = .ok (.lconst 0, 1) := by decide +kernel
theorem dX10_fit_59 : decode cX10_fit 59 = .ok (.lreturn, 1) := by decide +kernel
set_option maxRecDepth 20000 in
theorem ggX10_item_X10_isTape : GoodIn wsX10_item wsX10_isTape := goodIn_r _ [7, 8, 9, 10, 6, 11] (by decide +kernel) (by decide +kernel)
set_option maxRecDepth 20000 in
theorem gX10_item_X10_isTape : GoodIn wsX10_item (va_wsS RX10 383 yX10_isTape wsX10_isTape) := goodIn_app (goodIn_of _ (by decide +kernel)) ggX10_item_X10_isTape
set_option maxRecDepth 20000 in
theorem ggX10_item_X10_in : GoodIn wsX10_item wsX10_in := goodIn_r _ [11] (by decide +kernel) (by decide +kernel)
set_option maxRecDepth 20000 in
theorem gX10_item_X10_in : GoodIn wsX10_item (va_wsS RX10 121 yX10_in wsX10_in) := goodIn_app (goodIn_of _ (by decide +kernel)) ggX10_item_X10_in
set_option maxRecDepth 20000 in
theorem ggX10_item_X10_fit : GoodIn wsX10_item wsX10_fit := goodIn_r _ [14] (by decide +kernel) (by decide +kernel)
set_option maxRecDepth 20000 in
theorem gX10_item_X10_fit : GoodIn wsX10_item (va_wsS RX10 388 yX10_fit wsX10_fit) := goodIn_app (goodIn_of _ (by decide +kernel)) ggX10_item_X10_fit
theorem dX10_item_0 : decode cX10_item 0 = .ok (.iload_n 1, 1) := by decide +kernel
theorem dX10_item_1 : decode cX10_item 1 = .ok (.invokestatic 383, 3) := by decide +kernel
theorem dX10_item_4 : decode cX10_item 4 = .ok (.ifCond .ne 5, 3) := by decide +kernel
theorem dX10_item_7 : decode cX10_item 7 = .ok (.iconst (-1), 1) := by decide +kernel
theorem dX10_item_8 : decode cX10_item 8 = .ok (.ireturn, 1) := by decide +kernel
theorem dX10_item_9 : decode cX10_item 9 = .ok (.aload_n 0, 1) := by decide +kernel
theorem dX10_item_10 : decode cX10_item 10 = .ok (.getfield 106, 3) := by decide +kernel
theorem dX10_item_13 : decode cX10_item 13 = .ok (.iload_n 1, 1) := by decide +kernel
theorem dX10_item_14 : decode cX10_item 14 = .ok (.iaload, 1) := by decide +kernel
theorem dX10_item_15 : decode cX10_item 15 = .ok (.ifCond .ge 6, 3) := by decide +kernel
theorem dX10_item_18 : decode cX10_item 18 = .ok (.bipush (-11), 2) := by decide +kernel
theorem dX10_item_20 : decode cX10_item 20 = .ok (.ireturn, 1) := by decide +kernel
theorem dX10_item_21 : decode cX10_item 21 = .ok (.iload_n 2, 1) := by decide +kernel
theorem dX10_item_22 : decode cX10_item 22 = .ok (.i2l, 1) := by decide +kernel
theorem dX10_item_23 : decode cX10_item 23 = .ok (.lconst 0, 1) := by decide +kernel
theorem dX10_item_24 : decode cX10_item 24 = .ok (.aload_n 0, 1) := by decide +kernel
theorem dX10_item_25 : decode cX10_item 25 = .ok (.getfield 109, 3) := by decide +kernel
theorem dX10_item_28 : decode cX10_item 28 = .ok (.iload_n 1, 1) := by decide +kernel
theorem dX10_item_29 : decode cX10_item 29 = .ok (.iaload, 1) := by decide +kernel
theorem dX10_item_30 : decode cX10_item 30 = .ok (.iconst 1, 1) := by decide +kernel
theorem dX10_item_31 : decode cX10_item 31 = .ok (.isub, 1) := by decide +kernel
theorem dX10_item_32 : decode cX10_item 32 = .ok (.i2l, 1) := by decide +kernel
theorem dX10_item_33 : decode cX10_item 33 = .ok (.invokestatic 121, 3) := by decide +kernel
theorem dX10_item_36 : decode cX10_item 36 = .ok (.ifCond .ne 6, 3) := by decide +kernel
theorem dX10_item_39 : decode cX10_item 39 = .ok (.bipush (-13), 2) := by decide +kernel
theorem dX10_item_41 : decode cX10_item 41 = .ok (.ireturn, 1) := by decide +kernel
theorem dX10_item_42 : decode cX10_item 42 = .ok (.aload_n 0, 1) := by decide +kernel
theorem dX10_item_43 : decode cX10_item 43 = .ok (.getfield 103, 3) := by decide +kernel
theorem dX10_item_46 : decode cX10_item 46 = .ok (.iload_n 1, 1) := by decide +kernel
theorem dX10_item_47 : decode cX10_item 47 = .ok (.aaload, 1) := by decide +kernel
theorem dX10_item_48 : decode cX10_item 48 = .ok (.iload_n 2, 1) := by decide +kernel
theorem dX10_item_49 : decode cX10_item 49 = .ok (.aload_n 0, 1) := by decide +kernel
theorem dX10_item_50 : decode cX10_item 50 = .ok (.getfield 106, 3) := by decide +kernel
theorem dX10_item_53 : decode cX10_item 53 = .ok (.iload_n 1, 1) := by decide +kernel
theorem dX10_item_54 : decode cX10_item 54 = .ok (.iaload, 1) := by decide +kernel
theorem dX10_item_55 : decode cX10_item 55 = .ok (.lload_n 3, 1) := by decide +kernel
theorem dX10_item_56 : decode cX10_item 56 = .ok (.invokestatic 388, 3) := by decide +kernel
theorem dX10_item_59 : decode cX10_item 59 = .ok (.lastore, 1) := by decide +kernel
theorem dX10_item_60 : decode cX10_item 60 = .ok (.iconst 1, 1) := by decide +kernel
theorem dX10_item_61 : decode cX10_item 61 = .ok (.ireturn, 1) := by decide +kernel
set_option maxRecDepth 20000 in
theorem ggX10_read_X10_isTape : GoodIn wsX10_read wsX10_isTape := goodIn_r _ [8, 9, 10, 11, 7, 12] (by decide +kernel) (by decide +kernel)
set_option maxRecDepth 20000 in
theorem gX10_read_X10_isTape : GoodIn wsX10_read (va_wsS RX10 383 yX10_isTape wsX10_isTape) := goodIn_app (goodIn_of _ (by decide +kernel)) ggX10_read_X10_isTape
set_option maxRecDepth 20000 in
theorem ggX10_read_X10_in : GoodIn wsX10_read wsX10_in := goodIn_r _ [12] (by decide +kernel) (by decide +kernel)
set_option maxRecDepth 20000 in
theorem gX10_read_X10_in : GoodIn wsX10_read (va_wsS RX10 121 yX10_in wsX10_in) := goodIn_app (goodIn_of _ (by decide +kernel)) ggX10_read_X10_in
theorem dX10_read_0 : decode cX10_read 0 = .ok (.iload_n 1, 1) := by decide +kernel
theorem dX10_read_1 : decode cX10_read 1 = .ok (.invokestatic 383, 3) := by decide +kernel
theorem dX10_read_4 : decode cX10_read 4 = .ok (.ifCond .eq 41, 3) := by decide +kernel
theorem dX10_read_7 : decode cX10_read 7 = .ok (.aload_n 0, 1) := by decide +kernel
theorem dX10_read_8 : decode cX10_read 8 = .ok (.getfield 106, 3) := by decide +kernel
theorem dX10_read_11 : decode cX10_read 11 = .ok (.iload_n 1, 1) := by decide +kernel
theorem dX10_read_12 : decode cX10_read 12 = .ok (.iaload, 1) := by decide +kernel
theorem dX10_read_13 : decode cX10_read 13 = .ok (.ifCond .lt 32, 3) := by decide +kernel
theorem dX10_read_16 : decode cX10_read 16 = .ok (.iload_n 2, 1) := by decide +kernel
theorem dX10_read_17 : decode cX10_read 17 = .ok (.i2l, 1) := by decide +kernel
theorem dX10_read_18 : decode cX10_read 18 = .ok (.lconst 0, 1) := by decide +kernel
theorem dX10_read_19 : decode cX10_read 19 = .ok (.aload_n 0, 1) := by decide +kernel
theorem dX10_read_20 : decode cX10_read 20 = .ok (.getfield 109, 3) := by decide +kernel
theorem dX10_read_23 : decode cX10_read 23 = .ok (.iload_n 1, 1) := by decide +kernel
theorem dX10_read_24 : decode cX10_read 24 = .ok (.iaload, 1) := by decide +kernel
theorem dX10_read_25 : decode cX10_read 25 = .ok (.iconst 1, 1) := by decide +kernel
theorem dX10_read_26 : decode cX10_read 26 = .ok (.isub, 1) := by decide +kernel
theorem dX10_read_27 : decode cX10_read 27 = .ok (.i2l, 1) := by decide +kernel
theorem dX10_read_28 : decode cX10_read 28 = .ok (.invokestatic 121, 3) := by decide +kernel
theorem dX10_read_31 : decode cX10_read 31 = .ok (.ifCond .eq 14, 3) := by decide +kernel
theorem dX10_read_34 : decode cX10_read 34 = .ok (.aload_n 0, 1) := by decide +kernel
theorem dX10_read_35 : decode cX10_read 35 = .ok (.getfield 103, 3) := by decide +kernel
theorem dX10_read_38 : decode cX10_read 38 = .ok (.iload_n 1, 1) := by decide +kernel
theorem dX10_read_39 : decode cX10_read 39 = .ok (.aaload, 1) := by decide +kernel
theorem dX10_read_40 : decode cX10_read 40 = .ok (.iload_n 2, 1) := by decide +kernel
theorem dX10_read_41 : decode cX10_read 41 = .ok (.laload, 1) := by decide +kernel
theorem dX10_read_42 : decode cX10_read 42 = .ok (.goto 6, 3) := by decide +kernel
theorem dX10_read_45 : decode cX10_read 45 = .ok (.ldc2_w 245, 3) := by decide +kernel
theorem dX10_read_48 : decode cX10_read 48 = .ok (.lreturn, 1) := by decide +kernel
set_option maxRecDepth 20000 in
theorem ggX10_shift_X10_isTape : GoodIn wsX10_shift wsX10_isTape := goodIn_r _ [8, 9, 10, 11, 7, 12] (by decide +kernel) (by decide +kernel)
set_option maxRecDepth 20000 in
theorem gX10_shift_X10_isTape : GoodIn wsX10_shift (va_wsS RX10 383 yX10_isTape wsX10_isTape) := goodIn_app (goodIn_of _ (by decide +kernel)) ggX10_shift_X10_isTape
theorem dX10_shift_0 : decode cX10_shift 0 = .ok (.iload_n 1, 1) := by decide +kernel
theorem dX10_shift_1 : decode cX10_shift 1 = .ok (.invokestatic 383, 3) := by decide +kernel
theorem dX10_shift_4 : decode cX10_shift 4 = .ok (.ifCond .eq 10, 3) := by decide +kernel
theorem dX10_shift_7 : decode cX10_shift 7 = .ok (.iload_n 3, 1) := by decide +kernel
theorem dX10_shift_8 : decode cX10_shift 8 = .ok (.invokestatic 383, 3) := by decide +kernel
theorem dX10_shift_11 : decode cX10_shift 11 = .ok (.ifCond .ne 5, 3) := by decide +kernel
theorem dX10_shift_14 : decode cX10_shift 14 = .ok (.iconst (-1), 1) := by decide +kernel
theorem dX10_shift_15 : decode cX10_shift 15 = .ok (.ireturn, 1) := by decide +kernel
theorem dX10_shift_16 : decode cX10_shift 16 = .ok (.aload_n 0, 1) := by decide +kernel
theorem dX10_shift_17 : decode cX10_shift 17 = .ok (.getfield 106, 3) := by decide +kernel
theorem dX10_shift_20 : decode cX10_shift 20 = .ok (.iload_n 1, 1) := by decide +kernel
theorem dX10_shift_21 : decode cX10_shift 21 = .ok (.iaload, 1) := by decide +kernel
theorem dX10_shift_22 : decode cX10_shift 22 = .ok (.ifCond .lt 12, 3) := by decide +kernel
theorem dX10_shift_25 : decode cX10_shift 25 = .ok (.aload_n 0, 1) := by decide +kernel
theorem dX10_shift_26 : decode cX10_shift 26 = .ok (.getfield 106, 3) := by decide +kernel
theorem dX10_shift_29 : decode cX10_shift 29 = .ok (.iload_n 3, 1) := by decide +kernel
theorem dX10_shift_30 : decode cX10_shift 30 = .ok (.iaload, 1) := by decide +kernel
theorem dX10_shift_31 : decode cX10_shift 31 = .ok (.ifCond .ge 6, 3) := by decide +kernel
theorem dX10_shift_34 : decode cX10_shift 34 = .ok (.bipush (-11), 2) := by decide +kernel
theorem dX10_shift_36 : decode cX10_shift 36 = .ok (.ireturn, 1) := by decide +kernel
theorem dX10_shift_37 : decode cX10_shift 37 = .ok (.aload_n 0, 1) := by decide +kernel
theorem dX10_shift_38 : decode cX10_shift 38 = .ok (.getfield 106, 3) := by decide +kernel
theorem dX10_shift_41 : decode cX10_shift 41 = .ok (.iload_n 1, 1) := by decide +kernel
theorem dX10_shift_42 : decode cX10_shift 42 = .ok (.iaload, 1) := by decide +kernel
theorem dX10_shift_43 : decode cX10_shift 43 = .ok (.aload_n 0, 1) := by decide +kernel
theorem dX10_shift_44 : decode cX10_shift 44 = .ok (.getfield 106, 3) := by decide +kernel
theorem dX10_shift_47 : decode cX10_shift 47 = .ok (.iload_n 3, 1) := by decide +kernel
theorem dX10_shift_48 : decode cX10_shift 48 = .ok (.iaload, 1) := by decide +kernel
theorem dX10_shift_49 : decode cX10_shift 49 = .ok (.if_icmp .eq 6, 3) := by decide +kernel
theorem dX10_shift_52 : decode cX10_shift 52 = .ok (.bipush (-12), 2) := by decide +kernel
theorem dX10_shift_54 : decode cX10_shift 54 = .ok (.ireturn, 1) := by decide +kernel
theorem dX10_shift_55 : decode cX10_shift 55 = .ok (.iload 5, 2) := by decide +kernel
theorem dX10_shift_57 : decode cX10_shift 57 = .ok (.ifCond .lt 61, 3) := by decide +kernel
theorem dX10_shift_60 : decode cX10_shift 60 = .ok (.iload_n 2, 1) := by decide +kernel
theorem dX10_shift_61 : decode cX10_shift 61 = .ok (.ifCond .lt 57, 3) := by decide +kernel
theorem dX10_shift_64 : decode cX10_shift 64 = .ok (.iload 4, 2) := by decide +kernel
theorem dX10_shift_66 : decode cX10_shift 66 = .ok (.ifCond .lt 52, 3) := by decide +kernel
theorem dX10_shift_69 : decode cX10_shift 69 = .ok (.iload 5, 2) := by decide +kernel
theorem dX10_shift_71 : decode cX10_shift 71 = .ok (.aload_n 0, 1) := by decide +kernel
theorem dX10_shift_72 : decode cX10_shift 72 = .ok (.getfield 109, 3) := by decide +kernel
theorem dX10_shift_75 : decode cX10_shift 75 = .ok (.iload_n 1, 1) := by decide +kernel
theorem dX10_shift_76 : decode cX10_shift 76 = .ok (.iaload, 1) := by decide +kernel
theorem dX10_shift_77 : decode cX10_shift 77 = .ok (.if_icmp .gt 41, 3) := by decide +kernel
theorem dX10_shift_80 : decode cX10_shift 80 = .ok (.iload 5, 2) := by decide +kernel
theorem dX10_shift_82 : decode cX10_shift 82 = .ok (.aload_n 0, 1) := by decide +kernel
theorem dX10_shift_83 : decode cX10_shift 83 = .ok (.getfield 109, 3) := by decide +kernel
theorem dX10_shift_86 : decode cX10_shift 86 = .ok (.iload_n 3, 1) := by decide +kernel
theorem dX10_shift_87 : decode cX10_shift 87 = .ok (.iaload, 1) := by decide +kernel
theorem dX10_shift_88 : decode cX10_shift 88 = .ok (.if_icmp .gt 30, 3) := by decide +kernel
theorem dX10_shift_91 : decode cX10_shift 91 = .ok (.iload_n 2, 1) := by decide +kernel
theorem dX10_shift_92 : decode cX10_shift 92 = .ok (.aload_n 0, 1) := by decide +kernel
theorem dX10_shift_93 : decode cX10_shift 93 = .ok (.getfield 109, 3) := by decide +kernel
theorem dX10_shift_96 : decode cX10_shift 96 = .ok (.iload_n 1, 1) := by decide +kernel
theorem dX10_shift_97 : decode cX10_shift 97 = .ok (.iaload, 1) := by decide +kernel
theorem dX10_shift_98 : decode cX10_shift 98 = .ok (.iload 5, 2) := by decide +kernel
theorem dX10_shift_100 : decode cX10_shift 100 = .ok (.isub, 1) := by decide +kernel
theorem dX10_shift_101 : decode cX10_shift 101 = .ok (.if_icmp .gt 17, 3) := by decide +kernel
theorem dX10_shift_104 : decode cX10_shift 104 = .ok (.iload 4, 2) := by decide +kernel
theorem dX10_shift_106 : decode cX10_shift 106 = .ok (.aload_n 0, 1) := by decide +kernel
theorem dX10_shift_107 : decode cX10_shift 107 = .ok (.getfield 109, 3) := by decide +kernel
theorem dX10_shift_110 : decode cX10_shift 110 = .ok (.iload_n 3, 1) := by decide +kernel
theorem dX10_shift_111 : decode cX10_shift 111 = .ok (.iaload, 1) := by decide +kernel
theorem dX10_shift_112 : decode cX10_shift 112 = .ok (.iload 5, 2) := by decide +kernel
theorem dX10_shift_114 : decode cX10_shift 114 = .ok (.isub, 1) := by decide +kernel
theorem dX10_shift_115 : decode cX10_shift 115 = .ok (.if_icmp .le 6, 3) := by decide +kernel
theorem dX10_shift_118 : decode cX10_shift 118 = .ok (.bipush (-13), 2) := by decide +kernel
theorem dX10_shift_120 : decode cX10_shift 120 = .ok (.ireturn, 1) := by decide +kernel
theorem dX10_shift_121 : decode cX10_shift 121 = .ok (.iconst 0, 1) := by decide +kernel
theorem dX10_shift_122 : decode cX10_shift 122 = .ok (.istore 6, 2) := by decide +kernel
theorem dX10_shift_124 : decode cX10_shift 124 = .ok (.iload 6, 2) := by decide +kernel
theorem dX10_shift_126 : decode cX10_shift 126 = .ok (.iload 5, 2) := by decide +kernel
theorem dX10_shift_128 : decode cX10_shift 128 = .ok (.if_icmp .ge 27, 3) := by decide +kernel
theorem dX10_shift_131 : decode cX10_shift 131 = .ok (.aload_n 0, 1) := by decide +kernel
theorem dX10_shift_132 : decode cX10_shift 132 = .ok (.getfield 112, 3) := by decide +kernel
theorem dX10_shift_135 : decode cX10_shift 135 = .ok (.iload 6, 2) := by decide +kernel
theorem dX10_shift_137 : decode cX10_shift 137 = .ok (.aload_n 0, 1) := by decide +kernel
theorem dX10_shift_138 : decode cX10_shift 138 = .ok (.getfield 103, 3) := by decide +kernel
theorem dX10_shift_141 : decode cX10_shift 141 = .ok (.iload_n 1, 1) := by decide +kernel
theorem dX10_shift_142 : decode cX10_shift 142 = .ok (.aaload, 1) := by decide +kernel
theorem dX10_shift_143 : decode cX10_shift 143 = .ok (.iload_n 2, 1) := by decide +kernel
theorem dX10_shift_144 : decode cX10_shift 144 = .ok (.iload 6, 2) := by decide +kernel
theorem dX10_shift_146 : decode cX10_shift 146 = .ok (.iadd, 1) := by decide +kernel
theorem dX10_shift_147 : decode cX10_shift 147 = .ok (.laload, 1) := by decide +kernel
theorem dX10_shift_148 : decode cX10_shift 148 = .ok (.lastore, 1) := by decide +kernel
theorem dX10_shift_149 : decode cX10_shift 149 = .ok (.iinc 6 1, 3) := by decide +kernel
theorem dX10_shift_152 : decode cX10_shift 152 = .ok (.goto (-28), 3) := by decide +kernel
theorem dX10_shift_155 : decode cX10_shift 155 = .ok (.iconst 0, 1) := by decide +kernel
theorem dX10_shift_156 : decode cX10_shift 156 = .ok (.istore 6, 2) := by decide +kernel
theorem dX10_shift_158 : decode cX10_shift 158 = .ok (.iload 6, 2) := by decide +kernel
theorem dX10_shift_160 : decode cX10_shift 160 = .ok (.iload 5, 2) := by decide +kernel
theorem dX10_shift_162 : decode cX10_shift 162 = .ok (.if_icmp .ge 28, 3) := by decide +kernel
theorem dX10_shift_165 : decode cX10_shift 165 = .ok (.aload_n 0, 1) := by decide +kernel
theorem dX10_shift_166 : decode cX10_shift 166 = .ok (.getfield 103, 3) := by decide +kernel
theorem dX10_shift_169 : decode cX10_shift 169 = .ok (.iload_n 3, 1) := by decide +kernel
theorem dX10_shift_170 : decode cX10_shift 170 = .ok (.aaload, 1) := by decide +kernel
theorem dX10_shift_171 : decode cX10_shift 171 = .ok (.iload 4, 2) := by decide +kernel
theorem dX10_shift_173 : decode cX10_shift 173 = .ok (.iload 6, 2) := by decide +kernel
theorem dX10_shift_175 : decode cX10_shift 175 = .ok (.iadd, 1) := by decide +kernel
theorem dX10_shift_176 : decode cX10_shift 176 = .ok (.aload_n 0, 1) := by decide +kernel
theorem dX10_shift_177 : decode cX10_shift 177 = .ok (.getfield 112, 3) := by decide +kernel
theorem dX10_shift_180 : decode cX10_shift 180 = .ok (.iload 6, 2) := by decide +kernel
theorem dX10_shift_182 : decode cX10_shift 182 = .ok (.laload, 1) := by decide +kernel
theorem dX10_shift_183 : decode cX10_shift 183 = .ok (.lastore, 1) := by decide +kernel
theorem dX10_shift_184 : decode cX10_shift 184 = .ok (.iinc 6 1, 3) := by decide +kernel
theorem dX10_shift_187 : decode cX10_shift 187 = .ok (.goto (-29), 3) := by decide +kernel
theorem dX10_shift_190 : decode cX10_shift 190 = .ok (.iload 5, 2) := by decide +kernel
theorem dX10_shift_192 : decode cX10_shift 192 = .ok (.ireturn, 1) := by decide +kernel
theorem dJ9_abs_067f4_0 : decode cJ9_abs_067f4 0 = .ok (.lload_n 0, 1) := by decide +kernel
theorem dJ9_abs_067f4_1 : decode cJ9_abs_067f4 1 = .ok (.lconst 0, 1) := by decide +kernel
theorem dJ9_abs_067f4_2 : decode cJ9_abs_067f4 2 = .ok (.lcmp, 1) := by decide +kernel
theorem dJ9_abs_067f4_3 : decode cJ9_abs_067f4 3 = .ok (.ifCond .ge 8, 3) := by decide +kernel
theorem dJ9_abs_067f4_6 : decode cJ9_abs_067f4 6 = .ok (.lload_n 0, 1) := by decide +kernel
theorem dJ9_abs_067f4_7 : decode cJ9_abs_067f4 7 = .ok (.lneg, 1) := by decide +kernel
theorem dJ9_abs_067f4_8 : decode cJ9_abs_067f4 8 = .ok (.goto 4, 3) := by decide +kernel
theorem dJ9_abs_067f4_11 : decode cJ9_abs_067f4 11 = .ok (.lload_n 0, 1) := by decide +kernel
theorem dJ9_abs_067f4_12 : decode cJ9_abs_067f4 12 = .ok (.lreturn, 1) := by decide +kernel
theorem dJ9_max_7cf53_0 : decode cJ9_max_7cf53 0 = .ok (.iload_n 0, 1) := by decide +kernel
theorem dJ9_max_7cf53_1 : decode cJ9_max_7cf53 1 = .ok (.iload_n 1, 1) := by decide +kernel
theorem dJ9_max_7cf53_2 : decode cJ9_max_7cf53 2 = .ok (.if_icmp .lt 7, 3) := by decide +kernel
theorem dJ9_max_7cf53_5 : decode cJ9_max_7cf53 5 = .ok (.iload_n 0, 1) := by decide +kernel
theorem dJ9_max_7cf53_6 : decode cJ9_max_7cf53 6 = .ok (.goto 4, 3) := by decide +kernel
theorem dJ9_max_7cf53_9 : decode cJ9_max_7cf53 9 = .ok (.iload_n 1, 1) := by decide +kernel
theorem dJ9_max_7cf53_10 : decode cJ9_max_7cf53 10 = .ok (.ireturn, 1) := by decide +kernel
theorem dJ9_max_f86c9_0 : decode cJ9_max_f86c9 0 = .ok (.lload_n 0, 1) := by decide +kernel
theorem dJ9_max_f86c9_1 : decode cJ9_max_f86c9 1 = .ok (.lload_n 2, 1) := by decide +kernel
theorem dJ9_max_f86c9_2 : decode cJ9_max_f86c9 2 = .ok (.lcmp, 1) := by decide +kernel
theorem dJ9_max_f86c9_3 : decode cJ9_max_f86c9 3 = .ok (.ifCond .lt 7, 3) := by decide +kernel
theorem dJ9_max_f86c9_6 : decode cJ9_max_f86c9 6 = .ok (.lload_n 0, 1) := by decide +kernel
theorem dJ9_max_f86c9_7 : decode cJ9_max_f86c9 7 = .ok (.goto 4, 3) := by decide +kernel
theorem dJ9_max_f86c9_10 : decode cJ9_max_f86c9 10 = .ok (.lload_n 2, 1) := by decide +kernel
theorem dJ9_max_f86c9_11 : decode cJ9_max_f86c9 11 = .ok (.lreturn, 1) := by decide +kernel
theorem dJ9_min_7cf53_0 : decode cJ9_min_7cf53 0 = .ok (.iload_n 0, 1) := by decide +kernel
theorem dJ9_min_7cf53_1 : decode cJ9_min_7cf53 1 = .ok (.iload_n 1, 1) := by decide +kernel
theorem dJ9_min_7cf53_2 : decode cJ9_min_7cf53 2 = .ok (.if_icmp .gt 7, 3) := by decide +kernel
theorem dJ9_min_7cf53_5 : decode cJ9_min_7cf53 5 = .ok (.iload_n 0, 1) := by decide +kernel
theorem dJ9_min_7cf53_6 : decode cJ9_min_7cf53 6 = .ok (.goto 4, 3) := by decide +kernel
theorem dJ9_min_7cf53_9 : decode cJ9_min_7cf53 9 = .ok (.iload_n 1, 1) := by decide +kernel
theorem dJ9_min_7cf53_10 : decode cJ9_min_7cf53 10 = .ok (.ireturn, 1) := by decide +kernel
theorem dJ9_min_f86c9_0 : decode cJ9_min_f86c9 0 = .ok (.lload_n 0, 1) := by decide +kernel
theorem dJ9_min_f86c9_1 : decode cJ9_min_f86c9 1 = .ok (.lload_n 2, 1) := by decide +kernel
theorem dJ9_min_f86c9_2 : decode cJ9_min_f86c9 2 = .ok (.lcmp, 1) := by decide +kernel
theorem dJ9_min_f86c9_3 : decode cJ9_min_f86c9 3 = .ok (.ifCond .gt 7, 3) := by decide +kernel
theorem dJ9_min_f86c9_6 : decode cJ9_min_f86c9 6 = .ok (.lload_n 0, 1) := by decide +kernel
theorem dJ9_min_f86c9_7 : decode cJ9_min_f86c9 7 = .ok (.goto 4, 3) := by decide +kernel
theorem dJ9_min_f86c9_10 : decode cJ9_min_f86c9 10 = .ok (.lload_n 2, 1) := by decide +kernel
theorem dJ9_min_f86c9_11 : decode cJ9_min_f86c9 11 = .ok (.lreturn, 1) := by decide +kernel
set_option maxRecDepth 20000 in
theorem ggJ0_length_8abf5_J0_coder_7d493 : GoodIn wsJ0_length_8abf5 wsJ0_coder_7d493 := goodIn_r _ [6, 7, 8] (by decide +kernel) (by decide +kernel)
set_option maxRecDepth 20000 in
theorem gJ0_length_8abf5_J0_coder_7d493 : GoodIn wsJ0_length_8abf5 (wsV RJ0 335 RJ0 yJ0_coder_7d493 wsJ0_coder_7d493) := goodIn_app (goodIn_of _ (by decide +kernel)) ggJ0_length_8abf5_J0_coder_7d493
theorem dJ0_length_8abf5_0 : decode cJ0_length_8abf5 0 = .ok (.aload_n 0, 1) := by decide +kernel
theorem dJ0_length_8abf5_1 : decode cJ0_length_8abf5 1 = .ok (.getfield 9, 3) := by decide +kernel
theorem dJ0_length_8abf5_4 : decode cJ0_length_8abf5 4 = .ok (.arraylength, 1) := by decide +kernel
theorem dJ0_length_8abf5_5 : decode cJ0_length_8abf5 5 = .ok (.aload_n 0, 1) := by decide +kernel
theorem dJ0_length_8abf5_6 : decode cJ0_length_8abf5 6 = .ok (.invokevirtual 335, 3) := by decide +kernel
theorem dJ0_length_8abf5_9 : decode cJ0_length_8abf5 9 = .ok (.ishr, 1) := by decide +kernel
theorem dJ0_length_8abf5_10 : decode cJ0_length_8abf5 10 = .ok (.ireturn, 1) := by decide +kernel
set_option maxRecDepth 20000 in
theorem ggJ0_charAt_5068e_J0_isLatin1_aae02 : GoodIn wsJ0_charAt_5068e wsJ0_isLatin1_aae02 := goodIn_r _ [6, 7, 8] (by decide +kernel) (by decide +kernel)
set_option maxRecDepth 20000 in
theorem gJ0_charAt_5068e_J0_isLatin1_aae02 : GoodIn wsJ0_charAt_5068e (wsV RJ0 492 RJ0 yJ0_isLatin1_aae02 wsJ0_isLatin1_aae02) := goodIn_app (goodIn_of _ (by decide +kernel)) ggJ0_charAt_5068e_J0_isLatin1_aae02
set_option maxRecDepth 20000 in
theorem ggJ0_charAt_5068e_J1_charAt_3b067 : GoodIn wsJ0_charAt_5068e wsJ1_charAt_3b067 := goodIn_r _ [12, 13, 14, 5, 15, 16, 17, 18, 19, 20] (by decide +kernel) (by decide +kernel)
set_option maxRecDepth 20000 in
theorem gJ0_charAt_5068e_J1_charAt_3b067 : GoodIn wsJ0_charAt_5068e (va_wsS RJ0 495 yJ1_charAt_3b067 wsJ1_charAt_3b067) := goodIn_app (goodIn_of _ (by decide +kernel)) ggJ0_charAt_5068e_J1_charAt_3b067
set_option maxRecDepth 20000 in
theorem ggJ0_charAt_5068e_J2_charAt_3b067 : GoodIn wsJ0_charAt_5068e wsJ2_charAt_3b067 := goodIn_r _ [24, 25, 26, 23, 27, 28, 29, 30, 31, 14, 5, 15, 16, 17, 18, 19, 20, 32, 33, 34, 35, 36, 37] (by decide +kernel) (by decide +kernel)
set_option maxRecDepth 20000 in
theorem gJ0_charAt_5068e_J2_charAt_3b067 : GoodIn wsJ0_charAt_5068e (va_wsS RJ0 498 yJ2_charAt_3b067 wsJ2_charAt_3b067) := goodIn_app (goodIn_of _ (by decide +kernel)) ggJ0_charAt_5068e_J2_charAt_3b067
theorem dJ0_charAt_5068e_0 : decode cJ0_charAt_5068e 0 = .ok (.aload_n 0, 1) := by decide +kernel
theorem dJ0_charAt_5068e_1 : decode cJ0_charAt_5068e 1 = .ok (.invokevirtual 492, 3) := by decide +kernel
theorem dJ0_charAt_5068e_4 : decode cJ0_charAt_5068e 4 = .ok (.ifCond .eq 12, 3) := by decide +kernel
theorem dJ0_charAt_5068e_7 : decode cJ0_charAt_5068e 7 = .ok (.aload_n 0, 1) := by decide +kernel
theorem dJ0_charAt_5068e_8 : decode cJ0_charAt_5068e 8 = .ok (.getfield 9, 3) := by decide +kernel
theorem dJ0_charAt_5068e_11 : decode cJ0_charAt_5068e 11 = .ok (.iload_n 1, 1) := by decide +kernel
theorem dJ0_charAt_5068e_12 : decode cJ0_charAt_5068e 12 = .ok (.invokestatic 495, 3) := by decide +kernel
theorem dJ0_charAt_5068e_15 : decode cJ0_charAt_5068e 15 = .ok (.ireturn, 1) := by decide +kernel
theorem dJ0_charAt_5068e_16 : decode cJ0_charAt_5068e 16 = .ok (.aload_n 0, 1) := by decide +kernel
theorem dJ0_charAt_5068e_17 : decode cJ0_charAt_5068e 17 = .ok (.getfield 9, 3) := by decide +kernel
theorem dJ0_charAt_5068e_20 : decode cJ0_charAt_5068e 20 = .ok (.iload_n 1, 1) := by decide +kernel
theorem dJ0_charAt_5068e_21 : decode cJ0_charAt_5068e 21 = .ok (.invokestatic 498, 3) := by decide +kernel
theorem dJ0_charAt_5068e_24 : decode cJ0_charAt_5068e 24 = .ok (.ireturn, 1) := by decide +kernel
theorem dJ0_coder_7d493_0 : decode cJ0_coder_7d493 0 = .ok (.getstatic 38, 3) := by decide +kernel
theorem dJ0_coder_7d493_3 : decode cJ0_coder_7d493 3 = .ok (.ifCond .eq 10, 3) := by decide +kernel
theorem dJ0_coder_7d493_6 : decode cJ0_coder_7d493 6 = .ok (.aload_n 0, 1) := by decide +kernel
theorem dJ0_coder_7d493_7 : decode cJ0_coder_7d493 7 = .ok (.getfield 15, 3) := by decide +kernel
theorem dJ0_coder_7d493_10 : decode cJ0_coder_7d493 10 = .ok (.goto 4, 3) := by decide +kernel
theorem dJ0_coder_7d493_13 : decode cJ0_coder_7d493 13 = .ok (.iconst 1, 1) := by decide +kernel
theorem dJ0_coder_7d493_14 : decode cJ0_coder_7d493 14 = .ok (.ireturn, 1) := by decide +kernel
theorem dJ0_isLatin1_aae02_0 : decode cJ0_isLatin1_aae02 0 = .ok (.getstatic 38, 3) := by decide +kernel
theorem dJ0_isLatin1_aae02_3 : decode cJ0_isLatin1_aae02 3 = .ok (.ifCond .eq 14, 3) := by decide +kernel
theorem dJ0_isLatin1_aae02_6 : decode cJ0_isLatin1_aae02 6 = .ok (.aload_n 0, 1) := by decide +kernel
theorem dJ0_isLatin1_aae02_7 : decode cJ0_isLatin1_aae02 7 = .ok (.getfield 15, 3) := by decide +kernel
theorem dJ0_isLatin1_aae02_10 : decode cJ0_isLatin1_aae02 10 = .ok (.ifCond .ne 7, 3) := by decide +kernel
theorem dJ0_isLatin1_aae02_13 : decode cJ0_isLatin1_aae02 13 = .ok (.iconst 1, 1) := by decide +kernel
theorem dJ0_isLatin1_aae02_14 : decode cJ0_isLatin1_aae02 14 = .ok (.goto 4, 3) := by decide +kernel
theorem dJ0_isLatin1_aae02_17 : decode cJ0_isLatin1_aae02 17 = .ok (.iconst 0, 1) := by decide +kernel
theorem dJ0_isLatin1_aae02_18 : decode cJ0_isLatin1_aae02 18 = .ok (.ireturn, 1) := by decide +kernel
set_option maxRecDepth 20000 in
theorem ggJ0_checkIndex_df160_J3_checkIndex_8e157 : GoodIn wsJ0_checkIndex_df160 wsJ3_checkIndex_8e157 := goodIn_r _ [5] (by decide +kernel) (by decide +kernel)
set_option maxRecDepth 20000 in
theorem gJ0_checkIndex_df160_J3_checkIndex_8e157 : GoodIn wsJ0_checkIndex_df160 (va_wsS RJ0 1059 yJ3_checkIndex_8e157 wsJ3_checkIndex_8e157) := goodIn_app (goodIn_of _ (by decide +kernel)) ggJ0_checkIndex_df160_J3_checkIndex_8e157
theorem dJ0_checkIndex_df160_0 : decode cJ0_checkIndex_df160 0 = .ok (.iload_n 0, 1) := by decide +kernel
theorem dJ0_checkIndex_df160_1 : decode cJ0_checkIndex_df160 1 = .ok (.iload_n 1, 1) := by decide +kernel
theorem dJ0_checkIndex_df160_2 : decode cJ0_checkIndex_df160 2 = .ok (.getstatic 1053, 3) := by decide +kernel
theorem dJ0_checkIndex_df160_5 : decode cJ0_checkIndex_df160 5 = .ok (.invokestatic 1059, 3) := by decide +kernel
theorem dJ0_checkIndex_df160_8 : decode cJ0_checkIndex_df160 8 = .ok (.pop, 1) := by decide +kernel
theorem dJ0_checkIndex_df160_9 : decode cJ0_checkIndex_df160 9 = .ok (.return_, 1) := by decide +kernel
set_option maxRecDepth 20000 in
theorem ggJ1_charAt_3b067_J0_checkIndex_df160 : GoodIn wsJ1_charAt_3b067 wsJ0_checkIndex_df160 := goodIn_r _ [4, 5, 6, 7, 8, 9] (by decide +kernel) (by decide +kernel)
set_option maxRecDepth 20000 in
theorem gJ1_charAt_3b067_J0_checkIndex_df160 : GoodIn wsJ1_charAt_3b067 (va_wsS RJ1 9 yJ0_checkIndex_df160 wsJ0_checkIndex_df160) := goodIn_app (goodIn_of _ (by decide +kernel)) ggJ1_charAt_3b067_J0_checkIndex_df160
theorem dJ1_charAt_3b067_0 : decode cJ1_charAt_3b067 0 = .ok (.iload_n 1, 1) := by decide +kernel
theorem dJ1_charAt_3b067_1 : decode cJ1_charAt_3b067 1 = .ok (.aload_n 0, 1) := by decide +kernel
theorem dJ1_charAt_3b067_2 : decode cJ1_charAt_3b067 2 = .ok (.arraylength, 1) := by decide +kernel
theorem dJ1_charAt_3b067_3 : decode cJ1_charAt_3b067 3 = .ok (.invokestatic 9, 3) := by decide +kernel
theorem dJ1_charAt_3b067_6 : decode cJ1_charAt_3b067 6 = .ok (.aload_n 0, 1) := by decide +kernel
theorem dJ1_charAt_3b067_7 : decode cJ1_charAt_3b067 7 = .ok (.iload_n 1, 1) := by decide +kernel
theorem dJ1_charAt_3b067_8 : decode cJ1_charAt_3b067 8 = .ok (.baload, 1) := by decide +kernel
theorem dJ1_charAt_3b067_9 : decode cJ1_charAt_3b067 9 = .ok (.sipush 255, 3) := by decide +kernel
theorem dJ1_charAt_3b067_12 : decode cJ1_charAt_3b067 12 = .ok (.iand, 1) := by decide +kernel
theorem dJ1_charAt_3b067_13 : decode cJ1_charAt_3b067 13 = .ok (.i2c, 1) := by decide +kernel
theorem dJ1_charAt_3b067_14 : decode cJ1_charAt_3b067 14 = .ok (.ireturn, 1) := by decide +kernel
set_option maxRecDepth 20000 in
theorem ggJ2_getChar_3b067_J2_length_9d52b : GoodIn wsJ2_getChar_3b067 wsJ2_length_9d52b := goodIn_r _ [7] (by decide +kernel) (by decide +kernel)
set_option maxRecDepth 20000 in
theorem gJ2_getChar_3b067_J2_length_9d52b : GoodIn wsJ2_getChar_3b067 (va_wsS RJ2 48 yJ2_length_9d52b wsJ2_length_9d52b) := goodIn_app (goodIn_of _ (by decide +kernel)) ggJ2_getChar_3b067_J2_length_9d52b
theorem dJ2_getChar_3b067_0 : decode cJ2_getChar_3b067 0 = .ok (.getstatic 44, 3) := by decide +kernel
theorem dJ2_getChar_3b067_3 : decode cJ2_getChar_3b067 3 = .ok (.ifCond .ne 25, 3) := by decide +kernel
theorem dJ2_getChar_3b067_6 : decode cJ2_getChar_3b067 6 = .ok (.iload_n 1, 1) := by decide +kernel
theorem dJ2_getChar_3b067_7 : decode cJ2_getChar_3b067 7 = .ok (.ifCond .lt 11, 3) := by decide +kernel
theorem dJ2_getChar_3b067_10 : decode cJ2_getChar_3b067 10 = .ok (.iload_n 1, 1) := by decide +kernel
theorem dJ2_getChar_3b067_11 : decode cJ2_getChar_3b067 11 = .ok (.aload_n 0, 1) := by decide +kernel
theorem dJ2_getChar_3b067_12 : decode cJ2_getChar_3b067 12 = .ok (.invokestatic 48, 3) := by decide +kernel
theorem dJ2_getChar_3b067_15 : decode cJ2_getChar_3b067 15 = .ok (.if_icmp .lt 13, 3) := by decide +kernel
theorem dJ2_getChar_3b067_18 : decode cJ2_getChar_3b067 18 = .ok (.new 52, 3) := by decide +kernel
theorem dJ2_getChar_3b067_21 : decode cJ2_getChar_3b067 21 = .ok (.dup, 1) := by decide +kernel
theorem dJ2_getChar_3b067_22 : decode cJ2_getChar_3b067 22 = .ok (.ldc 54, 2) := by decide +kernel
theorem dJ2_getChar_3b067_24 : decode cJ2_getChar_3b067 24 = .ok (.invokespecial 56, 3) := by decide +kernel
theorem dJ2_getChar_3b067_27 : decode cJ2_getChar_3b067 27 = .ok (.athrow, 1) := by decide +kernel
theorem dJ2_getChar_3b067_28 : decode cJ2_getChar_3b067 28 = .ok (.iload_n 1, 1) := by decide +kernel
theorem dJ2_getChar_3b067_29 : decode cJ2_getChar_3b067 29 = .ok (.iconst 1, 1) := by decide +kernel
theorem dJ2_getChar_3b067_30 : decode cJ2_getChar_3b067 30 = .ok (.ishl, 1) := by decide +kernel
theorem dJ2_getChar_3b067_31 : decode cJ2_getChar_3b067 31 = .ok (.istore_n 1, 1) := by decide +kernel
theorem dJ2_getChar_3b067_32 : decode cJ2_getChar_3b067 32 = .ok (.aload_n 0, 1) := by decide +kernel
theorem dJ2_getChar_3b067_33 : decode cJ2_getChar_3b067 33 = .ok (.iload_n 1, 1) := by decide +kernel
theorem dJ2_getChar_3b067_34 : decode cJ2_getChar_3b067 34 = .ok (.iinc 1 1, 3) := by decide +kernel
theorem dJ2_getChar_3b067_37 : decode cJ2_getChar_3b067 37 = .ok (.baload, 1) := by decide +kernel
theorem dJ2_getChar_3b067_38 : decode cJ2_getChar_3b067 38 = .ok (.sipush 255, 3) := by decide +kernel
theorem dJ2_getChar_3b067_41 : decode cJ2_getChar_3b067 41 = .ok (.iand, 1) := by decide +kernel
theorem dJ2_getChar_3b067_42 : decode cJ2_getChar_3b067 42 = .ok (.getstatic 59, 3) := by decide +kernel
theorem dJ2_getChar_3b067_45 : decode cJ2_getChar_3b067 45 = .ok (.ishl, 1) := by decide +kernel
theorem dJ2_getChar_3b067_46 : decode cJ2_getChar_3b067 46 = .ok (.aload_n 0, 1) := by decide +kernel
theorem dJ2_getChar_3b067_47 : decode cJ2_getChar_3b067 47 = .ok (.iload_n 1, 1) := by decide +kernel
theorem dJ2_getChar_3b067_48 : decode cJ2_getChar_3b067 48 = .ok (.baload, 1) := by decide +kernel
theorem dJ2_getChar_3b067_49 : decode cJ2_getChar_3b067 49 = .ok (.sipush 255, 3) := by decide +kernel
theorem dJ2_getChar_3b067_52 : decode cJ2_getChar_3b067 52 = .ok (.iand, 1) := by decide +kernel
theorem dJ2_getChar_3b067_53 : decode cJ2_getChar_3b067 53 = .ok (.getstatic 63, 3) := by decide +kernel
theorem dJ2_getChar_3b067_56 : decode cJ2_getChar_3b067 56 = .ok (.ishl, 1) := by decide +kernel
theorem dJ2_getChar_3b067_57 : decode cJ2_getChar_3b067 57 = .ok (.ior, 1) := by decide +kernel
theorem dJ2_getChar_3b067_58 : decode cJ2_getChar_3b067 58 = .ok (.i2c, 1) := by decide +kernel
theorem dJ2_getChar_3b067_59 : decode cJ2_getChar_3b067 59 = .ok (.ireturn, 1) := by decide +kernel
theorem dJ2_length_9d52b_0 : decode cJ2_length_9d52b 0 = .ok (.aload_n 0, 1) := by decide +kernel
theorem dJ2_length_9d52b_1 : decode cJ2_length_9d52b 1 = .ok (.arraylength, 1) := by decide +kernel
theorem dJ2_length_9d52b_2 : decode cJ2_length_9d52b 2 = .ok (.iconst 1, 1) := by decide +kernel
theorem dJ2_length_9d52b_3 : decode cJ2_length_9d52b 3 = .ok (.ishr, 1) := by decide +kernel
theorem dJ2_length_9d52b_4 : decode cJ2_length_9d52b 4 = .ok (.ireturn, 1) := by decide +kernel
set_option maxRecDepth 20000 in
theorem ggJ2_charAt_3b067_J2_checkIndex_2214a : GoodIn wsJ2_charAt_3b067 wsJ2_checkIndex_2214a := goodIn_r _ [4, 5, 6, 3, 7, 8, 9, 10, 11, 12, 13, 14, 15, 16] (by decide +kernel) (by decide +kernel)
set_option maxRecDepth 20000 in
theorem gJ2_charAt_3b067_J2_checkIndex_2214a : GoodIn wsJ2_charAt_3b067 (va_wsS RJ2 67 yJ2_checkIndex_2214a wsJ2_checkIndex_2214a) := goodIn_app (goodIn_of _ (by decide +kernel)) ggJ2_charAt_3b067_J2_checkIndex_2214a
set_option maxRecDepth 20000 in
theorem ggJ2_charAt_3b067_J2_getChar_3b067 : GoodIn wsJ2_charAt_3b067 wsJ2_getChar_3b067 := goodIn_r _ [19, 20, 21, 22, 5, 6, 3, 7] (by decide +kernel) (by decide +kernel)
