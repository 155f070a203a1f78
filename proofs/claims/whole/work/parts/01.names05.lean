theorem dX10_minds_85 : decode cX10_minds 85 = .ok (.aload_n 0, 1) := by decide +kernel
theorem dX10_minds_86 : decode cX10_minds 86 = .ok (.aload_n 0, 1) := by decide +kernel
theorem dX10_minds_87 : decode cX10_minds 87 = .ok (.getfield 59, 3) := by decide +kernel
theorem dX10_minds_90 : decode cX10_minds 90 = .ok (.invokevirtual 172, 3) := by decide +kernel
theorem dX10_minds_93 : decode cX10_minds 93 = .ok (.aload_n 0, 1) := by decide +kernel
theorem dX10_minds_94 : decode cX10_minds 94 = .ok (.aload_n 0, 1) := by decide +kernel
theorem dX10_minds_95 : decode cX10_minds 95 = .ok (.getfield 62, 3) := by decide +kernel
theorem dX10_minds_98 : decode cX10_minds 98 = .ok (.invokevirtual 172, 3) := by decide +kernel
theorem dX10_minds_101 : decode cX10_minds 101 = .ok (.return_, 1) := by decide +kernel
set_option maxRecDepth 20000 in
theorem ggX10_forgets_X10_takesBack : GoodIn wsX10_forgets wsX10_takesBack := goodIn_r _ [18, 1, 6, 19, 20, 21, 22, 23, 24, 25, 26, 27, 28, 29, 30, 31, 32, 33, 34, 35, 36, 37, 38, 39, 40, 41, 42, 43, 44, 45, 46, 47, 48, 49, 50, 51, 52, 53, 54, 55, 56, 57, 58, 59, 60, 61, 62, 63, 64, 65] (by decide +kernel) (by decide +kernel)
set_option maxRecDepth 20000 in
theorem gX10_forgets_X10_takesBack : GoodIn wsX10_forgets (wsV RX10 175 RX10 yX10_takesBack wsX10_takesBack) := goodIn_app (goodIn_of _ (by decide +kernel)) ggX10_forgets_X10_takesBack
theorem dX10_forgets_0 : decode cX10_forgets 0 = .ok (.aload_n 0, 1) := by decide +kernel
theorem dX10_forgets_1 : decode cX10_forgets 1 = .ok (.aload_n 0, 1) := by decide +kernel
theorem dX10_forgets_2 : decode cX10_forgets 2 = .ok (.getfield 89, 3) := by decide +kernel
theorem dX10_forgets_5 : decode cX10_forgets 5 = .ok (.iconst 0, 1) := by decide +kernel
theorem dX10_forgets_6 : decode cX10_forgets 6 = .ok (.iaload, 1) := by decide +kernel
theorem dX10_forgets_7 : decode cX10_forgets 7 = .ok (.putfield 142, 3) := by decide +kernel
theorem dX10_forgets_10 : decode cX10_forgets 10 = .ok (.aload_n 0, 1) := by decide +kernel
theorem dX10_forgets_11 : decode cX10_forgets 11 = .ok (.aload_n 0, 1) := by decide +kernel
theorem dX10_forgets_12 : decode cX10_forgets 12 = .ok (.getfield 89, 3) := by decide +kernel
theorem dX10_forgets_15 : decode cX10_forgets 15 = .ok (.iconst 1, 1) := by decide +kernel
theorem dX10_forgets_16 : decode cX10_forgets 16 = .ok (.iaload, 1) := by decide +kernel
theorem dX10_forgets_17 : decode cX10_forgets 17 = .ok (.putfield 128, 3) := by decide +kernel
theorem dX10_forgets_20 : decode cX10_forgets 20 = .ok (.aload_n 0, 1) := by decide +kernel
theorem dX10_forgets_21 : decode cX10_forgets 21 = .ok (.aload_n 0, 1) := by decide +kernel
theorem dX10_forgets_22 : decode cX10_forgets 22 = .ok (.getfield 89, 3) := by decide +kernel
theorem dX10_forgets_25 : decode cX10_forgets 25 = .ok (.iconst 2, 1) := by decide +kernel
theorem dX10_forgets_26 : decode cX10_forgets 26 = .ok (.iaload, 1) := by decide +kernel
theorem dX10_forgets_27 : decode cX10_forgets 27 = .ok (.putfield 15, 3) := by decide +kernel
theorem dX10_forgets_30 : decode cX10_forgets 30 = .ok (.aload_n 0, 1) := by decide +kernel
theorem dX10_forgets_31 : decode cX10_forgets 31 = .ok (.aload_n 0, 1) := by decide +kernel
theorem dX10_forgets_32 : decode cX10_forgets 32 = .ok (.getfield 89, 3) := by decide +kernel
theorem dX10_forgets_35 : decode cX10_forgets 35 = .ok (.iconst 3, 1) := by decide +kernel
theorem dX10_forgets_36 : decode cX10_forgets 36 = .ok (.iaload, 1) := by decide +kernel
theorem dX10_forgets_37 : decode cX10_forgets 37 = .ok (.putfield 9, 3) := by decide +kernel
theorem dX10_forgets_40 : decode cX10_forgets 40 = .ok (.aload_n 0, 1) := by decide +kernel
theorem dX10_forgets_41 : decode cX10_forgets 41 = .ok (.iconst 4, 1) := by decide +kernel
theorem dX10_forgets_42 : decode cX10_forgets 42 = .ok (.putfield 169, 3) := by decide +kernel
theorem dX10_forgets_45 : decode cX10_forgets 45 = .ok (.aload_n 0, 1) := by decide +kernel
theorem dX10_forgets_46 : decode cX10_forgets 46 = .ok (.aload_n 0, 1) := by decide +kernel
theorem dX10_forgets_47 : decode cX10_forgets 47 = .ok (.getfield 25, 3) := by decide +kernel
theorem dX10_forgets_50 : decode cX10_forgets 50 = .ok (.invokevirtual 175, 3) := by decide +kernel
theorem dX10_forgets_53 : decode cX10_forgets 53 = .ok (.aload_n 0, 1) := by decide +kernel
theorem dX10_forgets_54 : decode cX10_forgets 54 = .ok (.aload_n 0, 1) := by decide +kernel
theorem dX10_forgets_55 : decode cX10_forgets 55 = .ok (.getfield 28, 3) := by decide +kernel
theorem dX10_forgets_58 : decode cX10_forgets 58 = .ok (.invokevirtual 175, 3) := by decide +kernel
theorem dX10_forgets_61 : decode cX10_forgets 61 = .ok (.aload_n 0, 1) := by decide +kernel
theorem dX10_forgets_62 : decode cX10_forgets 62 = .ok (.aload_n 0, 1) := by decide +kernel
theorem dX10_forgets_63 : decode cX10_forgets 63 = .ok (.getfield 50, 3) := by decide +kernel
theorem dX10_forgets_66 : decode cX10_forgets 66 = .ok (.invokevirtual 175, 3) := by decide +kernel
theorem dX10_forgets_69 : decode cX10_forgets 69 = .ok (.aload_n 0, 1) := by decide +kernel
theorem dX10_forgets_70 : decode cX10_forgets 70 = .ok (.aload_n 0, 1) := by decide +kernel
theorem dX10_forgets_71 : decode cX10_forgets 71 = .ok (.getfield 53, 3) := by decide +kernel
theorem dX10_forgets_74 : decode cX10_forgets 74 = .ok (.invokevirtual 175, 3) := by decide +kernel
theorem dX10_forgets_77 : decode cX10_forgets 77 = .ok (.aload_n 0, 1) := by decide +kernel
theorem dX10_forgets_78 : decode cX10_forgets 78 = .ok (.aload_n 0, 1) := by decide +kernel
theorem dX10_forgets_79 : decode cX10_forgets 79 = .ok (.getfield 56, 3) := by decide +kernel
theorem dX10_forgets_82 : decode cX10_forgets 82 = .ok (.invokevirtual 175, 3) := by decide +kernel
theorem dX10_forgets_85 : decode cX10_forgets 85 = .ok (.aload_n 0, 1) := by decide +kernel
theorem dX10_forgets_86 : decode cX10_forgets 86 = .ok (.aload_n 0, 1) := by decide +kernel
theorem dX10_forgets_87 : decode cX10_forgets 87 = .ok (.getfield 59, 3) := by decide +kernel
theorem dX10_forgets_90 : decode cX10_forgets 90 = .ok (.invokevirtual 175, 3) := by decide +kernel
theorem dX10_forgets_93 : decode cX10_forgets 93 = .ok (.aload_n 0, 1) := by decide +kernel
theorem dX10_forgets_94 : decode cX10_forgets 94 = .ok (.aload_n 0, 1) := by decide +kernel
theorem dX10_forgets_95 : decode cX10_forgets 95 = .ok (.getfield 62, 3) := by decide +kernel
theorem dX10_forgets_98 : decode cX10_forgets 98 = .ok (.invokevirtual 175, 3) := by decide +kernel
theorem dX10_forgets_101 : decode cX10_forgets 101 = .ok (.return_, 1) := by decide +kernel
set_option maxRecDepth 20000 in
theorem ggX10_isLetter_X10_in : GoodIn wsX10_isLetter wsX10_in := goodIn_r _ [8] (by decide +kernel) (by decide +kernel)
set_option maxRecDepth 20000 in
theorem gX10_isLetter_X10_in : GoodIn wsX10_isLetter (va_wsS RX10 121 yX10_in wsX10_in) := goodIn_app (goodIn_of _ (by decide +kernel)) ggX10_isLetter_X10_in
theorem dX10_isLetter_0 : decode cX10_isLetter 0 = .ok (.iload_n 1, 1) := by decide +kernel
theorem dX10_isLetter_1 : decode cX10_isLetter 1 = .ok (.aload_n 0, 1) := by decide +kernel
theorem dX10_isLetter_2 : decode cX10_isLetter 2 = .ok (.getfield 178, 3) := by decide +kernel
theorem dX10_isLetter_5 : decode cX10_isLetter 5 = .ok (.if_icmp .ge 26, 3) := by decide +kernel
theorem dX10_isLetter_8 : decode cX10_isLetter 8 = .ok (.aload_n 0, 1) := by decide +kernel
theorem dX10_isLetter_9 : decode cX10_isLetter 9 = .ok (.getfield 83, 3) := by decide +kernel
theorem dX10_isLetter_12 : decode cX10_isLetter 12 = .ok (.iload_n 1, 1) := by decide +kernel
theorem dX10_isLetter_13 : decode cX10_isLetter 13 = .ok (.iaload, 1) := by decide +kernel
theorem dX10_isLetter_14 : decode cX10_isLetter 14 = .ok (.i2l, 1) := by decide +kernel
theorem dX10_isLetter_15 : decode cX10_isLetter 15 = .ok (.ldc2_w 181, 3) := by decide +kernel
theorem dX10_isLetter_18 : decode cX10_isLetter 18 = .ok (.ldc2_w 183, 3) := by decide +kernel
theorem dX10_isLetter_21 : decode cX10_isLetter 21 = .ok (.invokestatic 121, 3) := by decide +kernel
theorem dX10_isLetter_24 : decode cX10_isLetter 24 = .ok (.ifCond .eq 7, 3) := by decide +kernel
theorem dX10_isLetter_27 : decode cX10_isLetter 27 = .ok (.iconst 1, 1) := by decide +kernel
theorem dX10_isLetter_28 : decode cX10_isLetter 28 = .ok (.goto 4, 3) := by decide +kernel
theorem dX10_isLetter_31 : decode cX10_isLetter 31 = .ok (.iconst 0, 1) := by decide +kernel
theorem dX10_isLetter_32 : decode cX10_isLetter 32 = .ok (.ireturn, 1) := by decide +kernel
theorem dX10_isTwice_0 : decode cX10_isTwice 0 = .ok (.iconst 0, 1) := by decide +kernel
theorem dX10_isTwice_1 : decode cX10_isTwice 1 = .ok (.istore 6, 2) := by decide +kernel
theorem dX10_isTwice_3 : decode cX10_isTwice 3 = .ok (.iload 6, 2) := by decide +kernel
theorem dX10_isTwice_5 : decode cX10_isTwice 5 = .ok (.iload_n 3, 1) := by decide +kernel
theorem dX10_isTwice_6 : decode cX10_isTwice 6 = .ok (.if_icmp .ge 74, 3) := by decide +kernel
theorem dX10_isTwice_9 : decode cX10_isTwice 9 = .ok (.iconst 0, 1) := by decide +kernel
theorem dX10_isTwice_10 : decode cX10_isTwice 10 = .ok (.istore 7, 2) := by decide +kernel
theorem dX10_isTwice_12 : decode cX10_isTwice 12 = .ok (.iload 7, 2) := by decide +kernel
theorem dX10_isTwice_14 : decode cX10_isTwice 14 = .ok (.iload 5, 2) := by decide +kernel
theorem dX10_isTwice_16 : decode cX10_isTwice 16 = .ok (.if_icmp .ge 40, 3) := by decide +kernel
theorem dX10_isTwice_19 : decode cX10_isTwice 19 = .ok (.aload_n 2, 1) := by decide +kernel
theorem dX10_isTwice_20 : decode cX10_isTwice 20 = .ok (.iload 6, 2) := by decide +kernel
theorem dX10_isTwice_22 : decode cX10_isTwice 22 = .ok (.iaload, 1) := by decide +kernel
theorem dX10_isTwice_23 : decode cX10_isTwice 23 = .ok (.iload 5, 2) := by decide +kernel
theorem dX10_isTwice_25 : decode cX10_isTwice 25 = .ok (.if_icmp .ne 31, 3) := by decide +kernel
theorem dX10_isTwice_28 : decode cX10_isTwice 28 = .ok (.aload_n 1, 1) := by decide +kernel
theorem dX10_isTwice_29 : decode cX10_isTwice 29 = .ok (.iconst 4, 1) := by decide +kernel
theorem dX10_isTwice_30 : decode cX10_isTwice 30 = .ok (.iload 6, 2) := by decide +kernel
theorem dX10_isTwice_32 : decode cX10_isTwice 32 = .ok (.imul, 1) := by decide +kernel
theorem dX10_isTwice_33 : decode cX10_isTwice 33 = .ok (.iload 7, 2) := by decide +kernel
theorem dX10_isTwice_35 : decode cX10_isTwice 35 = .ok (.iadd, 1) := by decide +kernel
theorem dX10_isTwice_36 : decode cX10_isTwice 36 = .ok (.iaload, 1) := by decide +kernel
theorem dX10_isTwice_37 : decode cX10_isTwice 37 = .ok (.aload_n 0, 1) := by decide +kernel
theorem dX10_isTwice_38 : decode cX10_isTwice 38 = .ok (.getfield 83, 3) := by decide +kernel
theorem dX10_isTwice_41 : decode cX10_isTwice 41 = .ok (.iload 4, 2) := by decide +kernel
theorem dX10_isTwice_43 : decode cX10_isTwice 43 = .ok (.iload 7, 2) := by decide +kernel
theorem dX10_isTwice_45 : decode cX10_isTwice 45 = .ok (.iadd, 1) := by decide +kernel
theorem dX10_isTwice_46 : decode cX10_isTwice 46 = .ok (.iaload, 1) := by decide +kernel
theorem dX10_isTwice_47 : decode cX10_isTwice 47 = .ok (.if_icmp .ne 9, 3) := by decide +kernel
theorem dX10_isTwice_50 : decode cX10_isTwice 50 = .ok (.iinc 7 1, 3) := by decide +kernel
theorem dX10_isTwice_53 : decode cX10_isTwice 53 = .ok (.goto (-41), 3) := by decide +kernel
theorem dX10_isTwice_56 : decode cX10_isTwice 56 = .ok (.aload_n 2, 1) := by decide +kernel
theorem dX10_isTwice_57 : decode cX10_isTwice 57 = .ok (.iload 6, 2) := by decide +kernel
theorem dX10_isTwice_59 : decode cX10_isTwice 59 = .ok (.iaload, 1) := by decide +kernel
theorem dX10_isTwice_60 : decode cX10_isTwice 60 = .ok (.iload 5, 2) := by decide +kernel
theorem dX10_isTwice_62 : decode cX10_isTwice 62 = .ok (.if_icmp .ne 12, 3) := by decide +kernel
theorem dX10_isTwice_65 : decode cX10_isTwice 65 = .ok (.iload 7, 2) := by decide +kernel
theorem dX10_isTwice_67 : decode cX10_isTwice 67 = .ok (.iload 5, 2) := by decide +kernel
theorem dX10_isTwice_69 : decode cX10_isTwice 69 = .ok (.if_icmp .ne 5, 3) := by decide +kernel
theorem dX10_isTwice_72 : decode cX10_isTwice 72 = .ok (.iconst 1, 1) := by decide +kernel
theorem dX10_isTwice_73 : decode cX10_isTwice 73 = .ok (.ireturn, 1) := by decide +kernel
theorem dX10_isTwice_74 : decode cX10_isTwice 74 = .ok (.iinc 6 1, 3) := by decide +kernel
theorem dX10_isTwice_77 : decode cX10_isTwice 77 = .ok (.goto (-74), 3) := by decide +kernel
theorem dX10_isTwice_80 : decode cX10_isTwice 80 = .ok (.iconst 0, 1) := by decide +kernel
theorem dX10_isTwice_81 : decode cX10_isTwice 81 = .ok (.ireturn, 1) := by decide +kernel
set_option maxRecDepth 20000 in
theorem ggX10_goesThrough_X10_isLetter : GoodIn wsX10_goesThrough wsX10_isLetter := goodIn_r _ [10, 5, 4, 11, 12, 13, 14, 9, 15, 20, 21, 22, 23, 24, 25, 26, 27, 28, 29, 30, 31, 32, 33, 34, 35, 36, 37, 38, 39, 40, 41, 42, 43, 44, 45, 46, 47, 48, 49, 50, 51, 52, 53, 54, 55, 56, 57, 58, 59, 60, 61, 62, 63, 64, 65, 66] (by decide +kernel) (by decide +kernel)
set_option maxRecDepth 20000 in
theorem gX10_goesThrough_X10_isLetter : GoodIn wsX10_goesThrough (wsV RX10 188 RX10 yX10_isLetter wsX10_isLetter) := goodIn_app (goodIn_of _ (by decide +kernel)) ggX10_goesThrough_X10_isLetter
set_option maxRecDepth 20000 in
theorem ggX10_goesThrough_X10_isTwice : GoodIn wsX10_goesThrough wsX10_isTwice := goodIn_r _ [19, 4, 20, 21, 22, 23, 24, 25, 26, 27, 28, 29, 30, 31, 32, 33, 34, 35, 36, 37, 38, 39, 40, 41, 42, 43, 44, 45, 46, 47, 48, 49, 50, 51, 52, 53, 54, 55, 56, 57, 58, 59, 60, 61, 62, 63, 64, 65, 66] (by decide +kernel) (by decide +kernel)
set_option maxRecDepth 20000 in
theorem gX10_goesThrough_X10_isTwice : GoodIn wsX10_goesThrough (wsV RX10 192 RX10 yX10_isTwice wsX10_isTwice) := goodIn_app (goodIn_of _ (by decide +kernel)) ggX10_goesThrough_X10_isTwice
theorem dX10_goesThrough_0 : decode cX10_goesThrough 0 = .ok (.aload_n 0, 1) := by decide +kernel
theorem dX10_goesThrough_1 : decode cX10_goesThrough 1 = .ok (.iconst 0, 1) := by decide +kernel
theorem dX10_goesThrough_2 : decode cX10_goesThrough 2 = .ok (.putfield 185, 3) := by decide +kernel
theorem dX10_goesThrough_5 : decode cX10_goesThrough 5 = .ok (.iconst 0, 1) := by decide +kernel
theorem dX10_goesThrough_6 : decode cX10_goesThrough 6 = .ok (.istore_n 1, 1) := by decide +kernel
theorem dX10_goesThrough_7 : decode cX10_goesThrough 7 = .ok (.iconst 0, 1) := by decide +kernel
theorem dX10_goesThrough_8 : decode cX10_goesThrough 8 = .ok (.istore_n 2, 1) := by decide +kernel
theorem dX10_goesThrough_9 : decode cX10_goesThrough 9 = .ok (.iload_n 2, 1) := by decide +kernel
theorem dX10_goesThrough_10 : decode cX10_goesThrough 10 = .ok (.iconst 4, 1) := by decide +kernel
theorem dX10_goesThrough_11 : decode cX10_goesThrough 11 = .ok (.if_icmp .ge 19, 3) := by decide +kernel
theorem dX10_goesThrough_14 : decode cX10_goesThrough 14 = .ok (.aload_n 0, 1) := by decide +kernel
theorem dX10_goesThrough_15 : decode cX10_goesThrough 15 = .ok (.iload_n 1, 1) := by decide +kernel
theorem dX10_goesThrough_16 : decode cX10_goesThrough 16 = .ok (.iload_n 2, 1) := by decide +kernel
theorem dX10_goesThrough_17 : decode cX10_goesThrough 17 = .ok (.iadd, 1) := by decide +kernel
theorem dX10_goesThrough_18 : decode cX10_goesThrough 18 = .ok (.invokevirtual 188, 3) := by decide +kernel
theorem dX10_goesThrough_21 : decode cX10_goesThrough 21 = .ok (.ifCond .eq 9, 3) := by decide +kernel
theorem dX10_goesThrough_24 : decode cX10_goesThrough 24 = .ok (.iinc 2 1, 3) := by decide +kernel
theorem dX10_goesThrough_27 : decode cX10_goesThrough 27 = .ok (.goto (-18), 3) := by decide +kernel
theorem dX10_goesThrough_30 : decode cX10_goesThrough 30 = .ok (.iload_n 2, 1) := by decide +kernel
theorem dX10_goesThrough_31 : decode cX10_goesThrough 31 = .ok (.ifCond .eq 24, 3) := by decide +kernel
theorem dX10_goesThrough_34 : decode cX10_goesThrough 34 = .ok (.aload_n 0, 1) := by decide +kernel
theorem dX10_goesThrough_35 : decode cX10_goesThrough 35 = .ok (.aload_n 0, 1) := by decide +kernel
theorem dX10_goesThrough_36 : decode cX10_goesThrough 36 = .ok (.getfield 92, 3) := by decide +kernel
theorem dX10_goesThrough_39 : decode cX10_goesThrough 39 = .ok (.aload_n 0, 1) := by decide +kernel
theorem dX10_goesThrough_40 : decode cX10_goesThrough 40 = .ok (.getfield 95, 3) := by decide +kernel
theorem dX10_goesThrough_43 : decode cX10_goesThrough 43 = .ok (.aload_n 0, 1) := by decide +kernel
theorem dX10_goesThrough_44 : decode cX10_goesThrough 44 = .ok (.getfield 185, 3) := by decide +kernel
theorem dX10_goesThrough_47 : decode cX10_goesThrough 47 = .ok (.iload_n 1, 1) := by decide +kernel
theorem dX10_goesThrough_48 : decode cX10_goesThrough 48 = .ok (.iload_n 2, 1) := by decide +kernel
theorem dX10_goesThrough_49 : decode cX10_goesThrough 49 = .ok (.invokevirtual 192, 3) := by decide +kernel
theorem dX10_goesThrough_52 : decode cX10_goesThrough 52 = .ok (.ifCond .eq 5, 3) := by decide +kernel
theorem dX10_goesThrough_55 : decode cX10_goesThrough 55 = .ok (.iload_n 1, 1) := by decide +kernel
theorem dX10_goesThrough_56 : decode cX10_goesThrough 56 = .ok (.ireturn, 1) := by decide +kernel
theorem dX10_goesThrough_57 : decode cX10_goesThrough 57 = .ok (.aload_n 0, 1) := by decide +kernel
theorem dX10_goesThrough_58 : decode cX10_goesThrough 58 = .ok (.getfield 95, 3) := by decide +kernel
theorem dX10_goesThrough_61 : decode cX10_goesThrough 61 = .ok (.aload_n 0, 1) := by decide +kernel
theorem dX10_goesThrough_62 : decode cX10_goesThrough 62 = .ok (.getfield 185, 3) := by decide +kernel
theorem dX10_goesThrough_65 : decode cX10_goesThrough 65 = .ok (.iload_n 2, 1) := by decide +kernel
theorem dX10_goesThrough_66 : decode cX10_goesThrough 66 = .ok (.iastore, 1) := by decide +kernel
theorem dX10_goesThrough_67 : decode cX10_goesThrough 67 = .ok (.iconst 0, 1) := by decide +kernel
theorem dX10_goesThrough_68 : decode cX10_goesThrough 68 = .ok (.istore_n 3, 1) := by decide +kernel
theorem dX10_goesThrough_69 : decode cX10_goesThrough 69 = .ok (.iload_n 3, 1) := by decide +kernel
theorem dX10_goesThrough_70 : decode cX10_goesThrough 70 = .ok (.iload_n 2, 1) := by decide +kernel
theorem dX10_goesThrough_71 : decode cX10_goesThrough 71 = .ok (.if_icmp .ge 30, 3) := by decide +kernel
theorem dX10_goesThrough_74 : decode cX10_goesThrough 74 = .ok (.aload_n 0, 1) := by decide +kernel
theorem dX10_goesThrough_75 : decode cX10_goesThrough 75 = .ok (.getfield 92, 3) := by decide +kernel
theorem dX10_goesThrough_78 : decode cX10_goesThrough 78 = .ok (.iconst 4, 1) := by decide +kernel
theorem dX10_goesThrough_79 : decode cX10_goesThrough 79 = .ok (.aload_n 0, 1) := by decide +kernel
theorem dX10_goesThrough_80 : decode cX10_goesThrough 80 = .ok (.getfield 185, 3) := by decide +kernel
theorem dX10_goesThrough_83 : decode cX10_goesThrough 83 = .ok (.imul, 1) := by decide +kernel
theorem dX10_goesThrough_84 : decode cX10_goesThrough 84 = .ok (.iload_n 3, 1) := by decide +kernel
theorem dX10_goesThrough_85 : decode cX10_goesThrough 85 = .ok (.iadd, 1) := by decide +kernel
theorem dX10_goesThrough_86 : decode cX10_goesThrough 86 = .ok (.aload_n 0, 1) := by decide +kernel
theorem dX10_goesThrough_87 : decode cX10_goesThrough 87 = .ok (.getfield 83, 3) := by decide +kernel
theorem dX10_goesThrough_90 : decode cX10_goesThrough 90 = .ok (.iload_n 1, 1) := by decide +kernel
theorem dX10_goesThrough_91 : decode cX10_goesThrough 91 = .ok (.iload_n 3, 1) := by decide +kernel
theorem dX10_goesThrough_92 : decode cX10_goesThrough 92 = .ok (.iadd, 1) := by decide +kernel
theorem dX10_goesThrough_93 : decode cX10_goesThrough 93 = .ok (.iaload, 1) := by decide +kernel
theorem dX10_goesThrough_94 : decode cX10_goesThrough 94 = .ok (.iastore, 1) := by decide +kernel
theorem dX10_goesThrough_95 : decode cX10_goesThrough 95 = .ok (.iinc 3 1, 3) := by decide +kernel
theorem dX10_goesThrough_98 : decode cX10_goesThrough 98 = .ok (.goto (-29), 3) := by decide +kernel
theorem dX10_goesThrough_101 : decode cX10_goesThrough 101 = .ok (.aload_n 0, 1) := by decide +kernel
theorem dX10_goesThrough_102 : decode cX10_goesThrough 102 = .ok (.dup, 1) := by decide +kernel
theorem dX10_goesThrough_103 : decode cX10_goesThrough 103 = .ok (.getfield 185, 3) := by decide +kernel
theorem dX10_goesThrough_106 : decode cX10_goesThrough 106 = .ok (.iconst 1, 1) := by decide +kernel
theorem dX10_goesThrough_107 : decode cX10_goesThrough 107 = .ok (.iadd, 1) := by decide +kernel
theorem dX10_goesThrough_108 : decode cX10_goesThrough 108 = .ok (.putfield 185, 3) := by decide +kernel
theorem dX10_goesThrough_111 : decode cX10_goesThrough 111 = .ok (.iload_n 1, 1) := by decide +kernel
theorem dX10_goesThrough_112 : decode cX10_goesThrough 112 = .ok (.iload_n 2, 1) := by decide +kernel
theorem dX10_goesThrough_113 : decode cX10_goesThrough 113 = .ok (.iadd, 1) := by decide +kernel
theorem dX10_goesThrough_114 : decode cX10_goesThrough 114 = .ok (.istore_n 1, 1) := by decide +kernel
theorem dX10_goesThrough_115 : decode cX10_goesThrough 115 = .ok (.iload_n 1, 1) := by decide +kernel
theorem dX10_goesThrough_116 : decode cX10_goesThrough 116 = .ok (.aload_n 0, 1) := by decide +kernel
theorem dX10_goesThrough_117 : decode cX10_goesThrough 117 = .ok (.getfield 178, 3) := by decide +kernel
theorem dX10_goesThrough_120 : decode cX10_goesThrough 120 = .ok (.if_icmp .ne 5, 3) := by decide +kernel
theorem dX10_goesThrough_123 : decode cX10_goesThrough 123 = .ok (.iconst (-1), 1) := by decide +kernel
theorem dX10_goesThrough_124 : decode cX10_goesThrough 124 = .ok (.ireturn, 1) := by decide +kernel
theorem dX10_goesThrough_125 : decode cX10_goesThrough 125 = .ok (.aload_n 0, 1) := by decide +kernel
theorem dX10_goesThrough_126 : decode cX10_goesThrough 126 = .ok (.getfield 83, 3) := by decide +kernel
theorem dX10_goesThrough_129 : decode cX10_goesThrough 129 = .ok (.iload_n 1, 1) := by decide +kernel
theorem dX10_goesThrough_130 : decode cX10_goesThrough 130 = .ok (.iaload, 1) := by decide +kernel
theorem dX10_goesThrough_131 : decode cX10_goesThrough 131 = .ok (.bipush 44, 2) := by decide +kernel
theorem dX10_goesThrough_133 : decode cX10_goesThrough 133 = .ok (.if_icmp .ne 11, 3) := by decide +kernel
theorem dX10_goesThrough_136 : decode cX10_goesThrough 136 = .ok (.aload_n 0, 1) := by decide +kernel
theorem dX10_goesThrough_137 : decode cX10_goesThrough 137 = .ok (.getfield 185, 3) := by decide +kernel
theorem dX10_goesThrough_140 : decode cX10_goesThrough 140 = .ok (.iconst 5, 1) := by decide +kernel
theorem dX10_goesThrough_141 : decode cX10_goesThrough 141 = .ok (.if_icmp .ne 5, 3) := by decide +kernel
theorem dX10_goesThrough_144 : decode cX10_goesThrough 144 = .ok (.iload_n 1, 1) := by decide +kernel
theorem dX10_goesThrough_145 : decode cX10_goesThrough 145 = .ok (.ireturn, 1) := by decide +kernel
theorem dX10_goesThrough_146 : decode cX10_goesThrough 146 = .ok (.iinc 1 1, 3) := by decide +kernel
theorem dX10_goesThrough_149 : decode cX10_goesThrough 149 = .ok (.goto (-142), 3) := by decide +kernel
theorem dX10_afresh_0 : decode cX10_afresh 0 = .ok (.aload_n 0, 1) := by decide +kernel
theorem dX10_afresh_1 : decode cX10_afresh 1 = .ok (.iconst 0, 1) := by decide +kernel
theorem dX10_afresh_2 : decode cX10_afresh 2 = .ok (.putfield 142, 3) := by decide +kernel
theorem dX10_afresh_5 : decode cX10_afresh 5 = .ok (.aload_n 0, 1) := by decide +kernel
theorem dX10_afresh_6 : decode cX10_afresh 6 = .ok (.iconst 0, 1) := by decide +kernel
theorem dX10_afresh_7 : decode cX10_afresh 7 = .ok (.putfield 128, 3) := by decide +kernel
theorem dX10_afresh_10 : decode cX10_afresh 10 = .ok (.iconst 0, 1) := by decide +kernel
theorem dX10_afresh_11 : decode cX10_afresh 11 = .ok (.istore_n 1, 1) := by decide +kernel
theorem dX10_afresh_12 : decode cX10_afresh 12 = .ok (.iload_n 1, 1) := by decide +kernel
theorem dX10_afresh_13 : decode cX10_afresh 13 = .ok (.bipush 24, 2) := by decide +kernel
theorem dX10_afresh_15 : decode cX10_afresh 15 = .ok (.if_icmp .ge 41, 3) := by decide +kernel
theorem dX10_afresh_18 : decode cX10_afresh 18 = .ok (.aload_n 0, 1) := by decide +kernel
theorem dX10_afresh_19 : decode cX10_afresh 19 = .ok (.getfield 53, 3) := by decide +kernel
theorem dX10_afresh_22 : decode cX10_afresh 22 = .ok (.iload_n 1, 1) := by decide +kernel
theorem dX10_afresh_23 : decode cX10_afresh 23 = .ok (.bipush (-5), 2) := by decide +kernel
theorem dX10_afresh_25 : decode cX10_afresh 25 = .ok (.iastore, 1) := by decide +kernel
theorem dX10_afresh_26 : decode cX10_afresh 26 = .ok (.aload_n 0, 1) := by decide +kernel
theorem dX10_afresh_27 : decode cX10_afresh 27 = .ok (.getfield 56, 3) := by decide +kernel
theorem dX10_afresh_30 : decode cX10_afresh 30 = .ok (.iload_n 1, 1) := by decide +kernel
theorem dX10_afresh_31 : decode cX10_afresh 31 = .ok (.bipush (-5), 2) := by decide +kernel
theorem dX10_afresh_33 : decode cX10_afresh 33 = .ok (.iastore, 1) := by decide +kernel
theorem dX10_afresh_34 : decode cX10_afresh 34 = .ok (.aload_n 0, 1) := by decide +kernel
theorem dX10_afresh_35 : decode cX10_afresh 35 = .ok (.getfield 59, 3) := by decide +kernel
theorem dX10_afresh_38 : decode cX10_afresh 38 = .ok (.iload_n 1, 1) := by decide +kernel
theorem dX10_afresh_39 : decode cX10_afresh 39 = .ok (.bipush (-5), 2) := by decide +kernel
theorem dX10_afresh_41 : decode cX10_afresh 41 = .ok (.iastore, 1) := by decide +kernel
theorem dX10_afresh_42 : decode cX10_afresh 42 = .ok (.aload_n 0, 1) := by decide +kernel
theorem dX10_afresh_43 : decode cX10_afresh 43 = .ok (.getfield 62, 3) := by decide +kernel
theorem dX10_afresh_46 : decode cX10_afresh 46 = .ok (.iload_n 1, 1) := by decide +kernel
theorem dX10_afresh_47 : decode cX10_afresh 47 = .ok (.bipush (-5), 2) := by decide +kernel
theorem dX10_afresh_49 : decode cX10_afresh 49 = .ok (.iastore, 1) := by decide +kernel
theorem dX10_afresh_50 : decode cX10_afresh 50 = .ok (.iinc 1 1, 3) := by decide +kernel
theorem dX10_afresh_53 : decode cX10_afresh 53 = .ok (.goto (-41), 3) := by decide +kernel
theorem dX10_afresh_56 : decode cX10_afresh 56 = .ok (.iconst 0, 1) := by decide +kernel
theorem dX10_afresh_57 : decode cX10_afresh 57 = .ok (.istore_n 1, 1) := by decide +kernel
theorem dX10_afresh_58 : decode cX10_afresh 58 = .ok (.iload_n 1, 1) := by decide +kernel
theorem dX10_afresh_59 : decode cX10_afresh 59 = .ok (.iconst 5, 1) := by decide +kernel
theorem dX10_afresh_60 : decode cX10_afresh 60 = .ok (.if_icmp .ge 16, 3) := by decide +kernel
theorem dX10_afresh_63 : decode cX10_afresh 63 = .ok (.aload_n 0, 1) := by decide +kernel
theorem dX10_afresh_64 : decode cX10_afresh 64 = .ok (.getfield 28, 3) := by decide +kernel
theorem dX10_afresh_67 : decode cX10_afresh 67 = .ok (.iload_n 1, 1) := by decide +kernel
theorem dX10_afresh_68 : decode cX10_afresh 68 = .ok (.iconst 0, 1) := by decide +kernel
theorem dX10_afresh_69 : decode cX10_afresh 69 = .ok (.iastore, 1) := by decide +kernel
theorem dX10_afresh_70 : decode cX10_afresh 70 = .ok (.iinc 1 1, 3) := by decide +kernel
theorem dX10_afresh_73 : decode cX10_afresh 73 = .ok (.goto (-15), 3) := by decide +kernel
theorem dX10_afresh_76 : decode cX10_afresh 76 = .ok (.return_, 1) := by decide +kernel
set_option maxRecDepth 20000 in
theorem ggX10_feed_X10_in : GoodIn wsX10_feed wsX10_in := goodIn_r _ [7] (by decide +kernel) (by decide +kernel)
set_option maxRecDepth 20000 in
theorem gX10_feed_X10_in : GoodIn wsX10_feed (va_wsS RX10 121 yX10_in wsX10_in) := goodIn_app (goodIn_of _ (by decide +kernel)) ggX10_feed_X10_in
theorem dX10_feed_0 : decode cX10_feed 0 = .ok (.iload_n 1, 1) := by decide +kernel
theorem dX10_feed_1 : decode cX10_feed 1 = .ok (.i2l, 1) := by decide +kernel
theorem dX10_feed_2 : decode cX10_feed 2 = .ok (.lconst 0, 1) := by decide +kernel
theorem dX10_feed_3 : decode cX10_feed 3 = .ok (.ldc2_w 196, 3) := by decide +kernel
theorem dX10_feed_6 : decode cX10_feed 6 = .ok (.invokestatic 121, 3) := by decide +kernel
theorem dX10_feed_9 : decode cX10_feed 9 = .ok (.ifCond .ne 6, 3) := by decide +kernel
theorem dX10_feed_12 : decode cX10_feed 12 = .ok (.bipush (-2), 2) := by decide +kernel
theorem dX10_feed_14 : decode cX10_feed 14 = .ok (.ireturn, 1) := by decide +kernel
theorem dX10_feed_15 : decode cX10_feed 15 = .ok (.aload_n 0, 1) := by decide +kernel
theorem dX10_feed_16 : decode cX10_feed 16 = .ok (.getfield 178, 3) := by decide +kernel
theorem dX10_feed_19 : decode cX10_feed 19 = .ok (.bipush 60, 2) := by decide +kernel
theorem dX10_feed_21 : decode cX10_feed 21 = .ok (.if_icmp .ne 6, 3) := by decide +kernel
theorem dX10_feed_24 : decode cX10_feed 24 = .ok (.bipush (-4), 2) := by decide +kernel
theorem dX10_feed_26 : decode cX10_feed 26 = .ok (.ireturn, 1) := by decide +kernel
theorem dX10_feed_27 : decode cX10_feed 27 = .ok (.aload_n 0, 1) := by decide +kernel
theorem dX10_feed_28 : decode cX10_feed 28 = .ok (.getfield 83, 3) := by decide +kernel
theorem dX10_feed_31 : decode cX10_feed 31 = .ok (.aload_n 0, 1) := by decide +kernel
theorem dX10_feed_32 : decode cX10_feed 32 = .ok (.getfield 178, 3) := by decide +kernel
theorem dX10_feed_35 : decode cX10_feed 35 = .ok (.iload_n 1, 1) := by decide +kernel
theorem dX10_feed_36 : decode cX10_feed 36 = .ok (.iastore, 1) := by decide +kernel
theorem dX10_feed_37 : decode cX10_feed 37 = .ok (.aload_n 0, 1) := by decide +kernel
theorem dX10_feed_38 : decode cX10_feed 38 = .ok (.dup, 1) := by decide +kernel
theorem dX10_feed_39 : decode cX10_feed 39 = .ok (.getfield 178, 3) := by decide +kernel
theorem dX10_feed_42 : decode cX10_feed 42 = .ok (.iconst 1, 1) := by decide +kernel
theorem dX10_feed_43 : decode cX10_feed 43 = .ok (.iadd, 1) := by decide +kernel
theorem dX10_feed_44 : decode cX10_feed 44 = .ok (.putfield 178, 3) := by decide +kernel
theorem dX10_feed_47 : decode cX10_feed 47 = .ok (.aload_n 0, 1) := by decide +kernel
theorem dX10_feed_48 : decode cX10_feed 48 = .ok (.getfield 178, 3) := by decide +kernel
theorem dX10_feed_51 : decode cX10_feed 51 = .ok (.ireturn, 1) := by decide +kernel
set_option maxRecDepth 20000 in
theorem ggX10_head_X10_goesThrough : GoodIn wsX10_head wsX10_goesThrough := goodIn_r _ [18, 2, 5, 7, 19, 1, 20, 21, 22, 17, 23, 24, 25, 26, 27, 28, 29, 30, 31, 32, 44, 45, 46, 47, 48, 49, 50, 51, 52, 53, 54, 55, 56, 57, 58, 59, 60, 61, 62, 63, 64, 65, 66, 67, 68, 69, 70, 71, 72, 73, 74, 75, 76, 77, 78, 79, 80, 81, 82, 83, 84, 85, 86, 87, 88, 89, 90] (by decide +kernel) (by decide +kernel)
set_option maxRecDepth 20000 in
theorem gX10_head_X10_goesThrough : GoodIn wsX10_head (wsV RX10 198 RX10 yX10_goesThrough wsX10_goesThrough) := goodIn_app (goodIn_of _ (by decide +kernel)) ggX10_head_X10_goesThrough
set_option maxRecDepth 20000 in
theorem ggX10_head_X10_afresh : GoodIn wsX10_head wsX10_afresh := goodIn_r _ [36, 37, 38, 39, 40, 41, 42, 43, 44, 45, 46, 47, 48, 49, 50, 51, 52, 53, 54, 55, 56, 57, 58, 59, 60, 61, 62, 63, 64, 65, 66, 67, 68, 69, 70, 71, 72, 73, 74, 75, 76, 77, 78, 79, 80, 81, 82, 83, 84, 85, 86, 87, 88, 89, 90] (by decide +kernel) (by decide +kernel)
set_option maxRecDepth 20000 in
theorem gX10_head_X10_afresh : GoodIn wsX10_head (wsV RX10 115 RX10 yX10_afresh wsX10_afresh) := goodIn_app (goodIn_of _ (by decide +kernel)) ggX10_head_X10_afresh
theorem dX10_head_0 : decode cX10_head 0 = .ok (.aload_n 0, 1) := by decide +kernel
theorem dX10_head_1 : decode cX10_head 1 = .ok (.invokevirtual 198, 3) := by decide +kernel
theorem dX10_head_4 : decode cX10_head 4 = .ok (.istore_n 1, 1) := by decide +kernel
theorem dX10_head_5 : decode cX10_head 5 = .ok (.aload_n 0, 1) := by decide +kernel
theorem dX10_head_6 : decode cX10_head 6 = .ok (.iconst 0, 1) := by decide +kernel
theorem dX10_head_7 : decode cX10_head 7 = .ok (.putfield 178, 3) := by decide +kernel
theorem dX10_head_10 : decode cX10_head 10 = .ok (.iload_n 1, 1) := by decide +kernel
theorem dX10_head_11 : decode cX10_head 11 = .ok (.ifCond .lt 8, 3) := by decide +kernel
theorem dX10_head_14 : decode cX10_head 14 = .ok (.bipush (-10), 2) := by decide +kernel
theorem dX10_head_16 : decode cX10_head 16 = .ok (.iload_n 1, 1) := by decide +kernel
theorem dX10_head_17 : decode cX10_head 17 = .ok (.isub, 1) := by decide +kernel
theorem dX10_head_18 : decode cX10_head 18 = .ok (.ireturn, 1) := by decide +kernel
theorem dX10_head_19 : decode cX10_head 19 = .ok (.aload_n 0, 1) := by decide +kernel
theorem dX10_head_20 : decode cX10_head 20 = .ok (.aload_n 0, 1) := by decide +kernel
theorem dX10_head_21 : decode cX10_head 21 = .ok (.getfield 185, 3) := by decide +kernel
theorem dX10_head_24 : decode cX10_head 24 = .ok (.putfield 118, 3) := by decide +kernel
theorem dX10_head_27 : decode cX10_head 27 = .ok (.iconst 0, 1) := by decide +kernel
theorem dX10_head_28 : decode cX10_head 28 = .ok (.istore_n 2, 1) := by decide +kernel
theorem dX10_head_29 : decode cX10_head 29 = .ok (.iload_n 2, 1) := by decide +kernel
theorem dX10_head_30 : decode cX10_head 30 = .ok (.aload_n 0, 1) := by decide +kernel
theorem dX10_head_31 : decode cX10_head 31 = .ok (.getfield 18, 3) := by decide +kernel
theorem dX10_head_34 : decode cX10_head 34 = .ok (.arraylength, 1) := by decide +kernel
theorem dX10_head_35 : decode cX10_head 35 = .ok (.if_icmp .ge 21, 3) := by decide +kernel
theorem dX10_head_38 : decode cX10_head 38 = .ok (.aload_n 0, 1) := by decide +kernel
theorem dX10_head_39 : decode cX10_head 39 = .ok (.getfield 18, 3) := by decide +kernel
theorem dX10_head_42 : decode cX10_head 42 = .ok (.iload_n 2, 1) := by decide +kernel
theorem dX10_head_43 : decode cX10_head 43 = .ok (.aload_n 0, 1) := by decide +kernel
theorem dX10_head_44 : decode cX10_head 44 = .ok (.getfield 92, 3) := by decide +kernel
theorem dX10_head_47 : decode cX10_head 47 = .ok (.iload_n 2, 1) := by decide +kernel
theorem dX10_head_48 : decode cX10_head 48 = .ok (.iaload, 1) := by decide +kernel
theorem dX10_head_49 : decode cX10_head 49 = .ok (.iastore, 1) := by decide +kernel
theorem dX10_head_50 : decode cX10_head 50 = .ok (.iinc 2 1, 3) := by decide +kernel
theorem dX10_head_53 : decode cX10_head 53 = .ok (.goto (-24), 3) := by decide +kernel
theorem dX10_head_56 : decode cX10_head 56 = .ok (.iconst 0, 1) := by decide +kernel
theorem dX10_head_57 : decode cX10_head 57 = .ok (.istore_n 2, 1) := by decide +kernel
theorem dX10_head_58 : decode cX10_head 58 = .ok (.iload_n 2, 1) := by decide +kernel
theorem dX10_head_59 : decode cX10_head 59 = .ok (.iconst 5, 1) := by decide +kernel
theorem dX10_head_60 : decode cX10_head 60 = .ok (.if_icmp .ge 28, 3) := by decide +kernel
theorem dX10_head_63 : decode cX10_head 63 = .ok (.aload_n 0, 1) := by decide +kernel
theorem dX10_head_64 : decode cX10_head 64 = .ok (.getfield 22, 3) := by decide +kernel
theorem dX10_head_67 : decode cX10_head 67 = .ok (.iload_n 2, 1) := by decide +kernel
theorem dX10_head_68 : decode cX10_head 68 = .ok (.aload_n 0, 1) := by decide +kernel
theorem dX10_head_69 : decode cX10_head 69 = .ok (.getfield 95, 3) := by decide +kernel
theorem dX10_head_72 : decode cX10_head 72 = .ok (.iload_n 2, 1) := by decide +kernel
theorem dX10_head_73 : decode cX10_head 73 = .ok (.iaload, 1) := by decide +kernel
theorem dX10_head_74 : decode cX10_head 74 = .ok (.iastore, 1) := by decide +kernel
theorem dX10_head_75 : decode cX10_head 75 = .ok (.aload_n 0, 1) := by decide +kernel
theorem dX10_head_76 : decode cX10_head 76 = .ok (.getfield 25, 3) := by decide +kernel
theorem dX10_head_79 : decode cX10_head 79 = .ok (.iload_n 2, 1) := by decide +kernel
theorem dX10_head_80 : decode cX10_head 80 = .ok (.iconst 0, 1) := by decide +kernel
theorem dX10_head_81 : decode cX10_head 81 = .ok (.iastore, 1) := by decide +kernel
theorem dX10_head_82 : decode cX10_head 82 = .ok (.iinc 2 1, 3) := by decide +kernel
theorem dX10_head_85 : decode cX10_head 85 = .ok (.goto (-27), 3) := by decide +kernel
theorem dX10_head_88 : decode cX10_head 88 = .ok (.aload_n 0, 1) := by decide +kernel
theorem dX10_head_89 : decode cX10_head 89 = .ok (.iconst 0, 1) := by decide +kernel
theorem dX10_head_90 : decode cX10_head 90 = .ok (.putfield 125, 3) := by decide +kernel
theorem dX10_head_93 : decode cX10_head 93 = .ok (.aload_n 0, 1) := by decide +kernel
theorem dX10_head_94 : decode cX10_head 94 = .ok (.iconst 0, 1) := by decide +kernel
theorem dX10_head_95 : decode cX10_head 95 = .ok (.putfield 145, 3) := by decide +kernel
theorem dX10_head_98 : decode cX10_head 98 = .ok (.aload_n 0, 1) := by decide +kernel
theorem dX10_head_99 : decode cX10_head 99 = .ok (.iconst 0, 1) := by decide +kernel
theorem dX10_head_100 : decode cX10_head 100 = .ok (.putfield 148, 3) := by decide +kernel
theorem dX10_head_103 : decode cX10_head 103 = .ok (.aload_n 0, 1) := by decide +kernel
theorem dX10_head_104 : decode cX10_head 104 = .ok (.iconst 0, 1) := by decide +kernel
theorem dX10_head_105 : decode cX10_head 105 = .ok (.putfield 151, 3) := by decide +kernel
theorem dX10_head_108 : decode cX10_head 108 = .ok (.aload_n 0, 1) := by decide +kernel
theorem dX10_head_109 : decode cX10_head 109 = .ok (.iconst (-1), 1) := by decide +kernel
theorem dX10_head_110 : decode cX10_head 110 = .ok (.putfield 15, 3) := by decide +kernel
theorem dX10_head_113 : decode cX10_head 113 = .ok (.aload_n 0, 1) := by decide +kernel
theorem dX10_head_114 : decode cX10_head 114 = .ok (.invokevirtual 115, 3) := by decide +kernel
theorem dX10_head_117 : decode cX10_head 117 = .ok (.aload_n 0, 1) := by decide +kernel
theorem dX10_head_118 : decode cX10_head 118 = .ok (.getfield 118, 3) := by decide +kernel
theorem dX10_head_121 : decode cX10_head 121 = .ok (.ireturn, 1) := by decide +kernel
set_option maxRecDepth 20000 in
theorem ggX10_wrongOfLine_X10_in : GoodIn wsX10_wrongOfLine wsX10_in := goodIn_r _ [8] (by decide +kernel) (by decide +kernel)
set_option maxRecDepth 20000 in
theorem gX10_wrongOfLine_X10_in : GoodIn wsX10_wrongOfLine (va_wsS RX10 121 yX10_in wsX10_in) := goodIn_app (goodIn_of _ (by decide +kernel)) ggX10_wrongOfLine_X10_in
theorem dX10_wrongOfLine_0 : decode cX10_wrongOfLine 0 = .ok (.iconst 0, 1) := by decide +kernel
theorem dX10_wrongOfLine_1 : decode cX10_wrongOfLine 1 = .ok (.istore_n 1, 1) := by decide +kernel
theorem dX10_wrongOfLine_2 : decode cX10_wrongOfLine 2 = .ok (.iconst 0, 1) := by decide +kernel
theorem dX10_wrongOfLine_3 : decode cX10_wrongOfLine 3 = .ok (.istore_n 2, 1) := by decide +kernel
theorem dX10_wrongOfLine_4 : decode cX10_wrongOfLine 4 = .ok (.iload_n 2, 1) := by decide +kernel
theorem dX10_wrongOfLine_5 : decode cX10_wrongOfLine 5 = .ok (.aload_n 0, 1) := by decide +kernel
theorem dX10_wrongOfLine_6 : decode cX10_wrongOfLine 6 = .ok (.getfield 178, 3) := by decide +kernel
theorem dX10_wrongOfLine_9 : decode cX10_wrongOfLine 9 = .ok (.if_icmp .ge 58, 3) := by decide +kernel
theorem dX10_wrongOfLine_12 : decode cX10_wrongOfLine 12 = .ok (.aload_n 0, 1) := by decide +kernel
theorem dX10_wrongOfLine_13 : decode cX10_wrongOfLine 13 = .ok (.getfield 83, 3) := by decide +kernel
theorem dX10_wrongOfLine_16 : decode cX10_wrongOfLine 16 = .ok (.iload_n 2, 1) := by decide +kernel
theorem dX10_wrongOfLine_17 : decode cX10_wrongOfLine 17 = .ok (.iaload, 1) := by decide +kernel
theorem dX10_wrongOfLine_18 : decode cX10_wrongOfLine 18 = .ok (.bipush 44, 2) := by decide +kernel
theorem dX10_wrongOfLine_20 : decode cX10_wrongOfLine 20 = .ok (.if_icmp .ne 8, 3) := by decide +kernel
theorem dX10_wrongOfLine_23 : decode cX10_wrongOfLine 23 = .ok (.iconst 0, 1) := by decide +kernel
theorem dX10_wrongOfLine_24 : decode cX10_wrongOfLine 24 = .ok (.istore_n 1, 1) := by decide +kernel
theorem dX10_wrongOfLine_25 : decode cX10_wrongOfLine 25 = .ok (.goto 36, 3) := by decide +kernel
theorem dX10_wrongOfLine_28 : decode cX10_wrongOfLine 28 = .ok (.aload_n 0, 1) := by decide +kernel
theorem dX10_wrongOfLine_29 : decode cX10_wrongOfLine 29 = .ok (.getfield 83, 3) := by decide +kernel
theorem dX10_wrongOfLine_32 : decode cX10_wrongOfLine 32 = .ok (.iload_n 2, 1) := by decide +kernel
theorem dX10_wrongOfLine_33 : decode cX10_wrongOfLine 33 = .ok (.iaload, 1) := by decide +kernel
theorem dX10_wrongOfLine_34 : decode cX10_wrongOfLine 34 = .ok (.i2l, 1) := by decide +kernel
theorem dX10_wrongOfLine_35 : decode cX10_wrongOfLine 35 = .ok (.ldc2_w 202, 3) := by decide +kernel
theorem dX10_wrongOfLine_38 : decode cX10_wrongOfLine 38 = .ok (.ldc2_w 204, 3) := by decide +kernel
theorem dX10_wrongOfLine_41 : decode cX10_wrongOfLine 41 = .ok (.invokestatic 121, 3) := by decide +kernel
theorem dX10_wrongOfLine_44 : decode cX10_wrongOfLine 44 = .ok (.ifCond .eq 15, 3) := by decide +kernel
theorem dX10_wrongOfLine_47 : decode cX10_wrongOfLine 47 = .ok (.iload_n 1, 1) := by decide +kernel
theorem dX10_wrongOfLine_48 : decode cX10_wrongOfLine 48 = .ok (.bipush 12, 2) := by decide +kernel
theorem dX10_wrongOfLine_50 : decode cX10_wrongOfLine 50 = .ok (.if_icmp .ge 9, 3) := by decide +kernel
theorem dX10_wrongOfLine_53 : decode cX10_wrongOfLine 53 = .ok (.iinc 1 1, 3) := by decide +kernel
theorem dX10_wrongOfLine_56 : decode cX10_wrongOfLine 56 = .ok (.goto 5, 3) := by decide +kernel
theorem dX10_wrongOfLine_59 : decode cX10_wrongOfLine 59 = .ok (.iload_n 2, 1) := by decide +kernel
theorem dX10_wrongOfLine_60 : decode cX10_wrongOfLine 60 = .ok (.ireturn, 1) := by decide +kernel
theorem dX10_wrongOfLine_61 : decode cX10_wrongOfLine 61 = .ok (.iinc 2 1, 3) := by decide +kernel
theorem dX10_wrongOfLine_64 : decode cX10_wrongOfLine 64 = .ok (.goto (-60), 3) := by decide +kernel
theorem dX10_wrongOfLine_67 : decode cX10_wrongOfLine 67 = .ok (.iconst (-1), 1) := by decide +kernel
theorem dX10_wrongOfLine_68 : decode cX10_wrongOfLine 68 = .ok (.ireturn, 1) := by decide +kernel
set_option maxRecDepth 20000 in
theorem ggX10_line_X10_wrongOfLine : GoodIn wsX10_line wsX10_wrongOfLine := goodIn_r _ [11, 3, 5, 12, 13, 14, 15, 10, 16, 70, 71, 72, 73, 74, 75, 76, 77, 78, 79, 80, 81, 82, 83, 84, 85, 86, 87, 88, 89, 90, 91, 92, 93, 94, 95, 96, 97, 98, 99, 100, 101, 102, 103, 104, 105, 106, 107, 108, 109, 110, 111, 112, 113, 114, 115, 116] (by decide +kernel) (by decide +kernel)
set_option maxRecDepth 20000 in
theorem gX10_line_X10_wrongOfLine : GoodIn wsX10_line (wsV RX10 206 RX10 yX10_wrongOfLine wsX10_wrongOfLine) := goodIn_app (goodIn_of _ (by decide +kernel)) ggX10_line_X10_wrongOfLine
set_option maxRecDepth 20000 in
theorem ggX10_line_X10_worksOut : GoodIn wsX10_line wsX10_worksOut := goodIn_r _ [20, 6, 4, 21, 22, 23, 24, 25, 26, 27, 10, 28, 29, 30, 31, 32, 33, 34, 35, 36, 37, 38, 39, 40, 41, 42, 43, 44, 45, 14, 15, 16, 46, 47, 48, 49, 50, 51, 52, 53, 54, 55, 56, 57, 58, 59, 60, 61, 62, 63, 64, 65, 66, 67, 68, 69, 70, 71, 72, 73, 74, 75, 76, 77, 78, 79, 80, 81, 82, 83, 84, 85, 86, 87, 88, 89, 90, 91, 92, 93, 94, 95, 96, 97, 98, 99, 100, 101, 102, 103, 104, 105, 106, 107, 108, 109, 110, 111, 112, 113, 114, 115, 116] (by decide +kernel) (by decide +kernel)
set_option maxRecDepth 20000 in
theorem gX10_line_X10_worksOut : GoodIn wsX10_line (wsV RX10 209 RX10 yX10_worksOut wsX10_worksOut) := goodIn_app (goodIn_of _ (by decide +kernel)) ggX10_line_X10_worksOut
theorem dX10_line_0 : decode cX10_line 0 = .ok (.aload_n 0, 1) := by decide +kernel
theorem dX10_line_1 : decode cX10_line 1 = .ok (.getfield 118, 3) := by decide +kernel
theorem dX10_line_4 : decode cX10_line 4 = .ok (.ifCond .ne 6, 3) := by decide +kernel
theorem dX10_line_7 : decode cX10_line 7 = .ok (.bipush (-3), 2) := by decide +kernel
theorem dX10_line_9 : decode cX10_line 9 = .ok (.ireturn, 1) := by decide +kernel
theorem dX10_line_10 : decode cX10_line 10 = .ok (.aload_n 0, 1) := by decide +kernel
theorem dX10_line_11 : decode cX10_line 11 = .ok (.getfield 125, 3) := by decide +kernel
theorem dX10_line_14 : decode cX10_line 14 = .ok (.bipush 24, 2) := by decide +kernel
theorem dX10_line_16 : decode cX10_line 16 = .ok (.if_icmp .ne 6, 3) := by decide +kernel
theorem dX10_line_19 : decode cX10_line 19 = .ok (.bipush (-4), 2) := by decide +kernel
theorem dX10_line_21 : decode cX10_line 21 = .ok (.ireturn, 1) := by decide +kernel
theorem dX10_line_22 : decode cX10_line 22 = .ok (.aload_n 0, 1) := by decide +kernel
theorem dX10_line_23 : decode cX10_line 23 = .ok (.invokevirtual 206, 3) := by decide +kernel
theorem dX10_line_26 : decode cX10_line 26 = .ok (.istore_n 1, 1) := by decide +kernel
theorem dX10_line_27 : decode cX10_line 27 = .ok (.iload_n 1, 1) := by decide +kernel
theorem dX10_line_28 : decode cX10_line 28 = .ok (.ifCond .lt 13, 3) := by decide +kernel
theorem dX10_line_31 : decode cX10_line 31 = .ok (.aload_n 0, 1) := by decide +kernel
theorem dX10_line_32 : decode cX10_line 32 = .ok (.iconst 0, 1) := by decide +kernel
theorem dX10_line_33 : decode cX10_line 33 = .ok (.putfield 178, 3) := by decide +kernel
theorem dX10_line_36 : decode cX10_line 36 = .ok (.bipush (-10), 2) := by decide +kernel
theorem dX10_line_38 : decode cX10_line 38 = .ok (.iload_n 1, 1) := by decide +kernel
theorem dX10_line_39 : decode cX10_line 39 = .ok (.isub, 1) := by decide +kernel
theorem dX10_line_40 : decode cX10_line 40 = .ok (.ireturn, 1) := by decide +kernel
theorem dX10_line_41 : decode cX10_line 41 = .ok (.iconst 0, 1) := by decide +kernel
theorem dX10_line_42 : decode cX10_line 42 = .ok (.istore_n 2, 1) := by decide +kernel
theorem dX10_line_43 : decode cX10_line 43 = .ok (.iload_n 2, 1) := by decide +kernel
theorem dX10_line_44 : decode cX10_line 44 = .ok (.aload_n 0, 1) := by decide +kernel
theorem dX10_line_45 : decode cX10_line 45 = .ok (.getfield 178, 3) := by decide +kernel
theorem dX10_line_48 : decode cX10_line 48 = .ok (.if_icmp .ge 29, 3) := by decide +kernel
theorem dX10_line_51 : decode cX10_line 51 = .ok (.aload_n 0, 1) := by decide +kernel
theorem dX10_line_52 : decode cX10_line 52 = .ok (.getfield 31, 3) := by decide +kernel
theorem dX10_line_55 : decode cX10_line 55 = .ok (.bipush 60, 2) := by decide +kernel
theorem dX10_line_57 : decode cX10_line 57 = .ok (.aload_n 0, 1) := by decide +kernel
theorem dX10_line_58 : decode cX10_line 58 = .ok (.getfield 125, 3) := by decide +kernel
theorem dX10_line_61 : decode cX10_line 61 = .ok (.imul, 1) := by decide +kernel
theorem dX10_line_62 : decode cX10_line 62 = .ok (.iload_n 2, 1) := by decide +kernel
theorem dX10_line_63 : decode cX10_line 63 = .ok (.iadd, 1) := by decide +kernel
theorem dX10_line_64 : decode cX10_line 64 = .ok (.aload_n 0, 1) := by decide +kernel
theorem dX10_line_65 : decode cX10_line 65 = .ok (.getfield 83, 3) := by decide +kernel
theorem dX10_line_68 : decode cX10_line 68 = .ok (.iload_n 2, 1) := by decide +kernel
theorem dX10_line_69 : decode cX10_line 69 = .ok (.iaload, 1) := by decide +kernel
theorem dX10_line_70 : decode cX10_line 70 = .ok (.iastore, 1) := by decide +kernel
theorem dX10_line_71 : decode cX10_line 71 = .ok (.iinc 2 1, 3) := by decide +kernel
theorem dX10_line_74 : decode cX10_line 74 = .ok (.goto (-31), 3) := by decide +kernel
theorem dX10_line_77 : decode cX10_line 77 = .ok (.aload_n 0, 1) := by decide +kernel
theorem dX10_line_78 : decode cX10_line 78 = .ok (.getfield 34, 3) := by decide +kernel
theorem dX10_line_81 : decode cX10_line 81 = .ok (.aload_n 0, 1) := by decide +kernel
theorem dX10_line_82 : decode cX10_line 82 = .ok (.getfield 125, 3) := by decide +kernel
theorem dX10_line_85 : decode cX10_line 85 = .ok (.aload_n 0, 1) := by decide +kernel
theorem dX10_line_86 : decode cX10_line 86 = .ok (.getfield 178, 3) := by decide +kernel
theorem dX10_line_89 : decode cX10_line 89 = .ok (.iastore, 1) := by decide +kernel
theorem dX10_line_90 : decode cX10_line 90 = .ok (.aload_n 0, 1) := by decide +kernel
theorem dX10_line_91 : decode cX10_line 91 = .ok (.iconst 0, 1) := by decide +kernel
theorem dX10_line_92 : decode cX10_line 92 = .ok (.putfield 178, 3) := by decide +kernel
theorem dX10_line_95 : decode cX10_line 95 = .ok (.aload_n 0, 1) := by decide +kernel
theorem dX10_line_96 : decode cX10_line 96 = .ok (.dup, 1) := by decide +kernel
theorem dX10_line_97 : decode cX10_line 97 = .ok (.getfield 125, 3) := by decide +kernel
theorem dX10_line_100 : decode cX10_line 100 = .ok (.iconst 1, 1) := by decide +kernel
theorem dX10_line_101 : decode cX10_line 101 = .ok (.iadd, 1) := by decide +kernel
theorem dX10_line_102 : decode cX10_line 102 = .ok (.putfield 125, 3) := by decide +kernel
theorem dX10_line_105 : decode cX10_line 105 = .ok (.aload_n 0, 1) := by decide +kernel
theorem dX10_line_106 : decode cX10_line 106 = .ok (.aload_n 0, 1) := by decide +kernel
theorem dX10_line_107 : decode cX10_line 107 = .ok (.getfield 125, 3) := by decide +kernel
theorem dX10_line_110 : decode cX10_line 110 = .ok (.iconst 1, 1) := by decide +kernel
theorem dX10_line_111 : decode cX10_line 111 = .ok (.isub, 1) := by decide +kernel
theorem dX10_line_112 : decode cX10_line 112 = .ok (.invokevirtual 209, 3) := by decide +kernel
theorem dX10_line_115 : decode cX10_line 115 = .ok (.aload_n 0, 1) := by decide +kernel
theorem dX10_line_116 : decode cX10_line 116 = .ok (.getfield 125, 3) := by decide +kernel
theorem dX10_line_119 : decode cX10_line 119 = .ok (.iconst 1, 1) := by decide +kernel
theorem dX10_line_120 : decode cX10_line 120 = .ok (.isub, 1) := by decide +kernel
theorem dX10_line_121 : decode cX10_line 121 = .ok (.ireturn, 1) := by decide +kernel
set_option maxRecDepth 20000 in
theorem ggX10_worksOut_X10_begins : GoodIn wsX10_worksOut wsX10_begins := goodIn_r _ [11, 2, 56, 57, 58, 59, 60, 61, 62, 63, 64, 65, 66, 67, 68, 69, 70, 71, 72, 73, 74, 75, 76, 77, 78, 79, 80, 81, 82, 83, 84, 85, 86, 87, 88, 89, 90, 91, 92, 93, 94, 95, 96, 97, 98, 99, 100, 101, 102] (by decide +kernel) (by decide +kernel)
set_option maxRecDepth 20000 in
theorem gX10_worksOut_X10_begins : GoodIn wsX10_worksOut (wsV RX10 213 RX10 yX10_begins wsX10_begins) := goodIn_app (goodIn_of _ (by decide +kernel)) ggX10_worksOut_X10_begins
set_option maxRecDepth 20000 in
theorem ggX10_worksOut_X10_ends : GoodIn wsX10_worksOut wsX10_ends := goodIn_r _ [15, 1, 2, 56, 57, 58, 59, 60, 61, 62, 63, 64, 65, 66, 67, 68, 69, 70, 71, 72, 73, 74, 75, 76, 77, 78, 79, 80, 81, 82, 83, 84, 85, 86, 87, 88, 89, 90, 91, 92, 93, 94, 95, 96, 97, 98, 99, 100, 101, 102] (by decide +kernel) (by decide +kernel)
set_option maxRecDepth 20000 in
theorem gX10_worksOut_X10_ends : GoodIn wsX10_worksOut (wsV RX10 217 RX10 yX10_ends wsX10_ends) := goodIn_app (goodIn_of _ (by decide +kernel)) ggX10_worksOut_X10_ends
set_option maxRecDepth 20000 in
theorem ggX10_worksOut_X10_form : GoodIn wsX10_worksOut wsX10_form := goodIn_r _ [19, 2, 20, 21, 22, 23, 24, 25, 10, 26, 27, 28, 29, 30, 31, 32, 33, 34, 35, 36, 37, 38, 39, 40, 41, 42, 43, 44, 45, 56, 57, 58, 59, 60, 61, 62, 63, 64, 65, 66, 67, 68, 69, 70, 71, 72, 73, 74, 75, 76, 77, 78, 79, 80, 81, 82, 83, 84, 85, 86, 87, 88, 89, 90, 91, 92, 93, 94, 95, 96, 97, 98, 99, 100, 101, 102] (by decide +kernel) (by decide +kernel)
set_option maxRecDepth 20000 in
theorem gX10_worksOut_X10_form : GoodIn wsX10_worksOut (wsV RX10 220 RX10 yX10_form wsX10_form) := goodIn_app (goodIn_of _ (by decide +kernel)) ggX10_worksOut_X10_form
set_option maxRecDepth 20000 in
theorem ggX10_worksOut_X10_number : GoodIn wsX10_worksOut wsX10_number := goodIn_r _ [49, 2, 50, 27, 56, 57, 58, 59, 60, 61, 62, 63, 64, 65, 66, 67, 68, 69, 70, 71, 72, 73, 74, 75, 76, 77, 78, 79, 80, 81, 82, 83, 84, 85, 86, 87, 88, 89, 90, 91, 92, 93, 94, 95, 96, 97, 98, 99, 100, 101, 102] (by decide +kernel) (by decide +kernel)
set_option maxRecDepth 20000 in
theorem gX10_worksOut_X10_number : GoodIn wsX10_worksOut (wsV RX10 223 RX10 yX10_number wsX10_number) := goodIn_app (goodIn_of _ (by decide +kernel)) ggX10_worksOut_X10_number
set_option maxRecDepth 20000 in
theorem ggX10_worksOut_X10_day : GoodIn wsX10_worksOut wsX10_day := goodIn_r _ [35, 2, 27, 28, 22, 36, 37, 38, 29, 30, 10, 31, 39, 40, 41, 42, 43, 44, 45, 56, 57, 58, 59, 60, 61, 62, 63, 64, 65, 66, 67, 68, 69, 70, 71, 72, 73, 74, 75, 76, 77, 78, 79, 80, 81, 82, 83, 84, 85, 86, 87, 88, 89, 90, 91, 92, 93, 94, 95, 96, 97, 98, 99, 100, 101, 102] (by decide +kernel) (by decide +kernel)
set_option maxRecDepth 20000 in
theorem gX10_worksOut_X10_day : GoodIn wsX10_worksOut (wsV RX10 227 RX10 yX10_day wsX10_day) := goodIn_app (goodIn_of _ (by decide +kernel)) ggX10_worksOut_X10_day
set_option maxRecDepth 20000 in
theorem ggX10_worksOut_X10_asOne : GoodIn wsX10_worksOut wsX10_asOne := goodIn_r _ [54, 55, 2, 56, 57, 58, 59, 60, 61, 62, 63, 64, 65, 66, 67, 68, 69, 70, 71, 72, 73, 74, 75, 76, 77, 78, 79, 80, 81, 82, 83, 84, 85, 86, 87, 88, 89, 90, 91, 92, 93, 94, 95, 96, 97, 98, 99, 100, 101, 102] (by decide +kernel) (by decide +kernel)
set_option maxRecDepth 20000 in
theorem gX10_worksOut_X10_asOne : GoodIn wsX10_worksOut (wsV RX10 231 RX10 yX10_asOne wsX10_asOne) := goodIn_app (goodIn_of _ (by decide +kernel)) ggX10_worksOut_X10_asOne
theorem dX10_worksOut_0 : decode cX10_worksOut 0 = .ok (.iconst 1, 1) := by decide +kernel
theorem dX10_worksOut_1 : decode cX10_worksOut 1 = .ok (.istore_n 2, 1) := by decide +kernel
theorem dX10_worksOut_2 : decode cX10_worksOut 2 = .ok (.iconst 0, 1) := by decide +kernel
theorem dX10_worksOut_3 : decode cX10_worksOut 3 = .ok (.istore_n 3, 1) := by decide +kernel
theorem dX10_worksOut_4 : decode cX10_worksOut 4 = .ok (.iload_n 3, 1) := by decide +kernel
theorem dX10_worksOut_5 : decode cX10_worksOut 5 = .ok (.aload_n 0, 1) := by decide +kernel
theorem dX10_worksOut_6 : decode cX10_worksOut 6 = .ok (.getfield 34, 3) := by decide +kernel
theorem dX10_worksOut_9 : decode cX10_worksOut 9 = .ok (.iload_n 1, 1) := by decide +kernel
theorem dX10_worksOut_10 : decode cX10_worksOut 10 = .ok (.iaload, 1) := by decide +kernel
theorem dX10_worksOut_11 : decode cX10_worksOut 11 = .ok (.if_icmp .ge 33, 3) := by decide +kernel
theorem dX10_worksOut_14 : decode cX10_worksOut 14 = .ok (.iload_n 2, 1) := by decide +kernel
theorem dX10_worksOut_15 : decode cX10_worksOut 15 = .ok (.aload_n 0, 1) := by decide +kernel
theorem dX10_worksOut_16 : decode cX10_worksOut 16 = .ok (.getfield 31, 3) := by decide +kernel
theorem dX10_worksOut_19 : decode cX10_worksOut 19 = .ok (.bipush 60, 2) := by decide +kernel
theorem dX10_worksOut_21 : decode cX10_worksOut 21 = .ok (.iload_n 1, 1) := by decide +kernel
theorem dX10_worksOut_22 : decode cX10_worksOut 22 = .ok (.imul, 1) := by decide +kernel
theorem dX10_worksOut_23 : decode cX10_worksOut 23 = .ok (.iload_n 3, 1) := by decide +kernel
theorem dX10_worksOut_24 : decode cX10_worksOut 24 = .ok (.iadd, 1) := by decide +kernel
theorem dX10_worksOut_25 : decode cX10_worksOut 25 = .ok (.iaload, 1) := by decide +kernel
theorem dX10_worksOut_26 : decode cX10_worksOut 26 = .ok (.bipush 44, 2) := by decide +kernel
theorem dX10_worksOut_28 : decode cX10_worksOut 28 = .ok (.if_icmp .ne 7, 3) := by decide +kernel
theorem dX10_worksOut_31 : decode cX10_worksOut 31 = .ok (.iconst 1, 1) := by decide +kernel
theorem dX10_worksOut_32 : decode cX10_worksOut 32 = .ok (.goto 4, 3) := by decide +kernel
theorem dX10_worksOut_35 : decode cX10_worksOut 35 = .ok (.iconst 0, 1) := by decide +kernel
theorem dX10_worksOut_36 : decode cX10_worksOut 36 = .ok (.iadd, 1) := by decide +kernel
theorem dX10_worksOut_37 : decode cX10_worksOut 37 = .ok (.istore_n 2, 1) := by decide +kernel
theorem dX10_worksOut_38 : decode cX10_worksOut 38 = .ok (.iinc 3 1, 3) := by decide +kernel
theorem dX10_worksOut_41 : decode cX10_worksOut 41 = .ok (.goto (-37), 3) := by decide +kernel
theorem dX10_worksOut_44 : decode cX10_worksOut 44 = .ok (.aload_n 0, 1) := by decide +kernel
theorem dX10_worksOut_45 : decode cX10_worksOut 45 = .ok (.getfield 37, 3) := by decide +kernel
theorem dX10_worksOut_48 : decode cX10_worksOut 48 = .ok (.iload_n 1, 1) := by decide +kernel
theorem dX10_worksOut_49 : decode cX10_worksOut 49 = .ok (.iload_n 2, 1) := by decide +kernel
theorem dX10_worksOut_50 : decode cX10_worksOut 50 = .ok (.iastore, 1) := by decide +kernel
theorem dX10_worksOut_51 : decode cX10_worksOut 51 = .ok (.iconst 0, 1) := by decide +kernel
theorem dX10_worksOut_52 : decode cX10_worksOut 52 = .ok (.istore_n 3, 1) := by decide +kernel
theorem dX10_worksOut_53 : decode cX10_worksOut 53 = .ok (.iload_n 3, 1) := by decide +kernel
theorem dX10_worksOut_54 : decode cX10_worksOut 54 = .ok (.iload_n 2, 1) := by decide +kernel
theorem dX10_worksOut_55 : decode cX10_worksOut 55 = .ok (.if_icmp .ge 120, 3) := by decide +kernel
theorem dX10_worksOut_58 : decode cX10_worksOut 58 = .ok (.iload_n 3, 1) := by decide +kernel
theorem dX10_worksOut_59 : decode cX10_worksOut 59 = .ok (.iconst 5, 1) := by decide +kernel
theorem dX10_worksOut_60 : decode cX10_worksOut 60 = .ok (.if_icmp .ge 115, 3) := by decide +kernel
theorem dX10_worksOut_63 : decode cX10_worksOut 63 = .ok (.aload_n 0, 1) := by decide +kernel
theorem dX10_worksOut_64 : decode cX10_worksOut 64 = .ok (.iload_n 1, 1) := by decide +kernel
theorem dX10_worksOut_65 : decode cX10_worksOut 65 = .ok (.iload_n 3, 1) := by decide +kernel
theorem dX10_worksOut_66 : decode cX10_worksOut 66 = .ok (.invokevirtual 213, 3) := by decide +kernel
theorem dX10_worksOut_69 : decode cX10_worksOut 69 = .ok (.istore 4, 2) := by decide +kernel
theorem dX10_worksOut_71 : decode cX10_worksOut 71 = .ok (.aload_n 0, 1) := by decide +kernel
theorem dX10_worksOut_72 : decode cX10_worksOut 72 = .ok (.iload_n 1, 1) := by decide +kernel
theorem dX10_worksOut_73 : decode cX10_worksOut 73 = .ok (.iload 4, 2) := by decide +kernel
theorem dX10_worksOut_75 : decode cX10_worksOut 75 = .ok (.invokevirtual 217, 3) := by decide +kernel
theorem dX10_worksOut_78 : decode cX10_worksOut 78 = .ok (.istore 5, 2) := by decide +kernel
theorem dX10_worksOut_80 : decode cX10_worksOut 80 = .ok (.aload_n 0, 1) := by decide +kernel
theorem dX10_worksOut_81 : decode cX10_worksOut 81 = .ok (.iload 4, 2) := by decide +kernel
theorem dX10_worksOut_83 : decode cX10_worksOut 83 = .ok (.iload 5, 2) := by decide +kernel
theorem dX10_worksOut_85 : decode cX10_worksOut 85 = .ok (.invokevirtual 220, 3) := by decide +kernel
theorem dX10_worksOut_88 : decode cX10_worksOut 88 = .ok (.istore 6, 2) := by decide +kernel
theorem dX10_worksOut_90 : decode cX10_worksOut 90 = .ok (.aload_n 0, 1) := by decide +kernel
theorem dX10_worksOut_91 : decode cX10_worksOut 91 = .ok (.getfield 40, 3) := by decide +kernel
theorem dX10_worksOut_94 : decode cX10_worksOut 94 = .ok (.iconst 5, 1) := by decide +kernel
theorem dX10_worksOut_95 : decode cX10_worksOut 95 = .ok (.iload_n 1, 1) := by decide +kernel
theorem dX10_worksOut_96 : decode cX10_worksOut 96 = .ok (.imul, 1) := by decide +kernel
theorem dX10_worksOut_97 : decode cX10_worksOut 97 = .ok (.iload_n 3, 1) := by decide +kernel
theorem dX10_worksOut_98 : decode cX10_worksOut 98 = .ok (.iadd, 1) := by decide +kernel
theorem dX10_worksOut_99 : decode cX10_worksOut 99 = .ok (.iload 6, 2) := by decide +kernel
theorem dX10_worksOut_101 : decode cX10_worksOut 101 = .ok (.iastore, 1) := by decide +kernel
theorem dX10_worksOut_102 : decode cX10_worksOut 102 = .ok (.aload_n 0, 1) := by decide +kernel
theorem dX10_worksOut_103 : decode cX10_worksOut 103 = .ok (.getfield 43, 3) := by decide +kernel
theorem dX10_worksOut_106 : decode cX10_worksOut 106 = .ok (.iconst 5, 1) := by decide +kernel
theorem dX10_worksOut_107 : decode cX10_worksOut 107 = .ok (.iload_n 1, 1) := by decide +kernel
theorem dX10_worksOut_108 : decode cX10_worksOut 108 = .ok (.imul, 1) := by decide +kernel
theorem dX10_worksOut_109 : decode cX10_worksOut 109 = .ok (.iload_n 3, 1) := by decide +kernel
theorem dX10_worksOut_110 : decode cX10_worksOut 110 = .ok (.iadd, 1) := by decide +kernel
theorem dX10_worksOut_111 : decode cX10_worksOut 111 = .ok (.iload 6, 2) := by decide +kernel
theorem dX10_worksOut_113 : decode cX10_worksOut 113 = .ok (.iconst 1, 1) := by decide +kernel
theorem dX10_worksOut_114 : decode cX10_worksOut 114 = .ok (.if_icmp .eq 9, 3) := by decide +kernel
theorem dX10_worksOut_117 : decode cX10_worksOut 117 = .ok (.iload 6, 2) := by decide +kernel
theorem dX10_worksOut_119 : decode cX10_worksOut 119 = .ok (.iconst 2, 1) := by decide +kernel
theorem dX10_worksOut_120 : decode cX10_worksOut 120 = .ok (.if_icmp .ne 14, 3) := by decide +kernel
theorem dX10_worksOut_123 : decode cX10_worksOut 123 = .ok (.aload_n 0, 1) := by decide +kernel
theorem dX10_worksOut_124 : decode cX10_worksOut 124 = .ok (.iload 4, 2) := by decide +kernel
theorem dX10_worksOut_126 : decode cX10_worksOut 126 = .ok (.iload 5, 2) := by decide +kernel
theorem dX10_worksOut_128 : decode cX10_worksOut 128 = .ok (.invokevirtual 223, 3) := by decide +kernel
theorem dX10_worksOut_131 : decode cX10_worksOut 131 = .ok (.goto 19, 3) := by decide +kernel
theorem dX10_worksOut_134 : decode cX10_worksOut 134 = .ok (.iload 6, 2) := by decide +kernel
theorem dX10_worksOut_136 : decode cX10_worksOut 136 = .ok (.iconst 3, 1) := by decide +kernel
theorem dX10_worksOut_137 : decode cX10_worksOut 137 = .ok (.if_icmp .ne 12, 3) := by decide +kernel
theorem dX10_worksOut_140 : decode cX10_worksOut 140 = .ok (.aload_n 0, 1) := by decide +kernel
theorem dX10_worksOut_141 : decode cX10_worksOut 141 = .ok (.iload 4, 2) := by decide +kernel
theorem dX10_worksOut_143 : decode cX10_worksOut 143 = .ok (.invokevirtual 227, 3) := by decide +kernel
theorem dX10_worksOut_146 : decode cX10_worksOut 146 = .ok (.goto 4, 3) := by decide +kernel
theorem dX10_worksOut_149 : decode cX10_worksOut 149 = .ok (.lconst 0, 1) := by decide +kernel
theorem dX10_worksOut_150 : decode cX10_worksOut 150 = .ok (.lastore, 1) := by decide +kernel
theorem dX10_worksOut_151 : decode cX10_worksOut 151 = .ok (.aload_n 0, 1) := by decide +kernel
theorem dX10_worksOut_152 : decode cX10_worksOut 152 = .ok (.getfield 47, 3) := by decide +kernel
theorem dX10_worksOut_155 : decode cX10_worksOut 155 = .ok (.iconst 5, 1) := by decide +kernel
theorem dX10_worksOut_156 : decode cX10_worksOut 156 = .ok (.iload_n 1, 1) := by decide +kernel
theorem dX10_worksOut_157 : decode cX10_worksOut 157 = .ok (.imul, 1) := by decide +kernel
theorem dX10_worksOut_158 : decode cX10_worksOut 158 = .ok (.iload_n 3, 1) := by decide +kernel
theorem dX10_worksOut_159 : decode cX10_worksOut 159 = .ok (.iadd, 1) := by decide +kernel
theorem dX10_worksOut_160 : decode cX10_worksOut 160 = .ok (.aload_n 0, 1) := by decide +kernel
theorem dX10_worksOut_161 : decode cX10_worksOut 161 = .ok (.iload 4, 2) := by decide +kernel
theorem dX10_worksOut_163 : decode cX10_worksOut 163 = .ok (.iload 5, 2) := by decide +kernel
theorem dX10_worksOut_165 : decode cX10_worksOut 165 = .ok (.invokevirtual 231, 3) := by decide +kernel
theorem dX10_worksOut_168 : decode cX10_worksOut 168 = .ok (.lastore, 1) := by decide +kernel
theorem dX10_worksOut_169 : decode cX10_worksOut 169 = .ok (.iinc 3 1, 3) := by decide +kernel
theorem dX10_worksOut_172 : decode cX10_worksOut 172 = .ok (.goto (-119), 3) := by decide +kernel
theorem dX10_worksOut_175 : decode cX10_worksOut 175 = .ok (.return_, 1) := by decide +kernel
theorem dX10_begins_0 : decode cX10_begins 0 = .ok (.bipush 60, 2) := by decide +kernel
theorem dX10_begins_2 : decode cX10_begins 2 = .ok (.iload_n 1, 1) := by decide +kernel
theorem dX10_begins_3 : decode cX10_begins 3 = .ok (.imul, 1) := by decide +kernel
theorem dX10_begins_4 : decode cX10_begins 4 = .ok (.istore_n 3, 1) := by decide +kernel
theorem dX10_begins_5 : decode cX10_begins 5 = .ok (.iconst 0, 1) := by decide +kernel
theorem dX10_begins_6 : decode cX10_begins 6 = .ok (.istore 4, 2) := by decide +kernel
theorem dX10_begins_8 : decode cX10_begins 8 = .ok (.iload 4, 2) := by decide +kernel
theorem dX10_begins_10 : decode cX10_begins 10 = .ok (.iload_n 2, 1) := by decide +kernel
theorem dX10_begins_11 : decode cX10_begins 11 = .ok (.if_icmp .ge 30, 3) := by decide +kernel
theorem dX10_begins_14 : decode cX10_begins 14 = .ok (.iload 4, 2) := by decide +kernel
theorem dX10_begins_16 : decode cX10_begins 16 = .ok (.aload_n 0, 1) := by decide +kernel
theorem dX10_begins_17 : decode cX10_begins 17 = .ok (.getfield 31, 3) := by decide +kernel
theorem dX10_begins_20 : decode cX10_begins 20 = .ok (.iload_n 3, 1) := by decide +kernel
theorem dX10_begins_21 : decode cX10_begins 21 = .ok (.iaload, 1) := by decide +kernel
theorem dX10_begins_22 : decode cX10_begins 22 = .ok (.bipush 44, 2) := by decide +kernel
theorem dX10_begins_24 : decode cX10_begins 24 = .ok (.if_icmp .ne 7, 3) := by decide +kernel
theorem dX10_begins_27 : decode cX10_begins 27 = .ok (.iconst 1, 1) := by decide +kernel
theorem dX10_begins_28 : decode cX10_begins 28 = .ok (.goto 4, 3) := by decide +kernel
theorem dX10_begins_31 : decode cX10_begins 31 = .ok (.iconst 0, 1) := by decide +kernel
theorem dX10_begins_32 : decode cX10_begins 32 = .ok (.iadd, 1) := by decide +kernel
theorem dX10_begins_33 : decode cX10_begins 33 = .ok (.istore 4, 2) := by decide +kernel
theorem dX10_begins_35 : decode cX10_begins 35 = .ok (.iinc 3 1, 3) := by decide +kernel
theorem dX10_begins_38 : decode cX10_begins 38 = .ok (.goto (-30), 3) := by decide +kernel
theorem dX10_begins_41 : decode cX10_begins 41 = .ok (.iload_n 3, 1) := by decide +kernel
theorem dX10_begins_42 : decode cX10_begins 42 = .ok (.ireturn, 1) := by decide +kernel
theorem dX10_ends_0 : decode cX10_ends 0 = .ok (.iload_n 2, 1) := by decide +kernel
theorem dX10_ends_1 : decode cX10_ends 1 = .ok (.istore_n 3, 1) := by decide +kernel
theorem dX10_ends_2 : decode cX10_ends 2 = .ok (.iload_n 3, 1) := by decide +kernel
theorem dX10_ends_3 : decode cX10_ends 3 = .ok (.bipush 60, 2) := by decide +kernel
theorem dX10_ends_5 : decode cX10_ends 5 = .ok (.iload_n 1, 1) := by decide +kernel
theorem dX10_ends_6 : decode cX10_ends 6 = .ok (.imul, 1) := by decide +kernel
theorem dX10_ends_7 : decode cX10_ends 7 = .ok (.aload_n 0, 1) := by decide +kernel
theorem dX10_ends_8 : decode cX10_ends 8 = .ok (.getfield 34, 3) := by decide +kernel
theorem dX10_ends_11 : decode cX10_ends 11 = .ok (.iload_n 1, 1) := by decide +kernel
theorem dX10_ends_12 : decode cX10_ends 12 = .ok (.iaload, 1) := by decide +kernel
theorem dX10_ends_13 : decode cX10_ends 13 = .ok (.iadd, 1) := by decide +kernel
theorem dX10_ends_14 : decode cX10_ends 14 = .ok (.if_icmp .ge 20, 3) := by decide +kernel
theorem dX10_ends_17 : decode cX10_ends 17 = .ok (.aload_n 0, 1) := by decide +kernel
theorem dX10_ends_18 : decode cX10_ends 18 = .ok (.getfield 31, 3) := by decide +kernel
theorem dX10_ends_21 : decode cX10_ends 21 = .ok (.iload_n 3, 1) := by decide +kernel
theorem dX10_ends_22 : decode cX10_ends 22 = .ok (.iaload, 1) := by decide +kernel
theorem dX10_ends_23 : decode cX10_ends 23 = .ok (.bipush 44, 2) := by decide +kernel
theorem dX10_ends_25 : decode cX10_ends 25 = .ok (.if_icmp .eq 9, 3) := by decide +kernel
theorem dX10_ends_28 : decode cX10_ends 28 = .ok (.iinc 3 1, 3) := by decide +kernel
theorem dX10_ends_31 : decode cX10_ends 31 = .ok (.goto (-29), 3) := by decide +kernel
theorem dX10_ends_34 : decode cX10_ends 34 = .ok (.iload_n 3, 1) := by decide +kernel
theorem dX10_ends_35 : decode cX10_ends 35 = .ok (.ireturn, 1) := by decide +kernel
set_option maxRecDepth 20000 in
theorem ggX10_digits_X10_in : GoodIn wsX10_digits wsX10_in := goodIn_r _ [7] (by decide +kernel) (by decide +kernel)
set_option maxRecDepth 20000 in
theorem gX10_digits_X10_in : GoodIn wsX10_digits (va_wsS RX10 121 yX10_in wsX10_in) := goodIn_app (goodIn_of _ (by decide +kernel)) ggX10_digits_X10_in
theorem dX10_digits_0 : decode cX10_digits 0 = .ok (.iload_n 1, 1) := by decide +kernel
theorem dX10_digits_1 : decode cX10_digits 1 = .ok (.istore_n 3, 1) := by decide +kernel
theorem dX10_digits_2 : decode cX10_digits 2 = .ok (.iload_n 3, 1) := by decide +kernel
theorem dX10_digits_3 : decode cX10_digits 3 = .ok (.iload_n 2, 1) := by decide +kernel
theorem dX10_digits_4 : decode cX10_digits 4 = .ok (.if_icmp .ge 28, 3) := by decide +kernel
theorem dX10_digits_7 : decode cX10_digits 7 = .ok (.aload_n 0, 1) := by decide +kernel
theorem dX10_digits_8 : decode cX10_digits 8 = .ok (.getfield 31, 3) := by decide +kernel
theorem dX10_digits_11 : decode cX10_digits 11 = .ok (.iload_n 3, 1) := by decide +kernel
theorem dX10_digits_12 : decode cX10_digits 12 = .ok (.iaload, 1) := by decide +kernel
theorem dX10_digits_13 : decode cX10_digits 13 = .ok (.i2l, 1) := by decide +kernel
theorem dX10_digits_14 : decode cX10_digits 14 = .ok (.ldc2_w 234, 3) := by decide +kernel
theorem dX10_digits_17 : decode cX10_digits 17 = .ok (.ldc2_w 236, 3) := by decide +kernel
theorem dX10_digits_20 : decode cX10_digits 20 = .ok (.invokestatic 121, 3) := by decide +kernel
theorem dX10_digits_23 : decode cX10_digits 23 = .ok (.ifCond .eq 9, 3) := by decide +kernel
theorem dX10_digits_26 : decode cX10_digits 26 = .ok (.iinc 3 1, 3) := by decide +kernel
theorem dX10_digits_29 : decode cX10_digits 29 = .ok (.goto (-27), 3) := by decide +kernel
theorem dX10_digits_32 : decode cX10_digits 32 = .ok (.iload_n 3, 1) := by decide +kernel
theorem dX10_digits_33 : decode cX10_digits 33 = .ok (.iload_n 1, 1) := by decide +kernel
theorem dX10_digits_34 : decode cX10_digits 34 = .ok (.isub, 1) := by decide +kernel
theorem dX10_digits_35 : decode cX10_digits 35 = .ok (.ireturn, 1) := by decide +kernel
set_option maxRecDepth 20000 in
theorem ggX10_form_X10_digits : GoodIn wsX10_form wsX10_digits := goodIn_r _ [9, 1, 10, 11, 12, 13, 8, 14, 29, 30, 31, 32, 33, 34, 35, 36, 37, 38, 39, 40, 41, 42, 43, 44, 45, 46, 47, 48, 49, 50, 51, 52, 53, 54, 55, 56, 57, 58, 59, 60, 61, 62, 63, 64, 65, 66, 67, 68, 69, 70, 71, 72, 73, 74, 75] (by decide +kernel) (by decide +kernel)
set_option maxRecDepth 20000 in
theorem gX10_form_X10_digits : GoodIn wsX10_form (wsV RX10 238 RX10 yX10_digits wsX10_digits) := goodIn_app (goodIn_of _ (by decide +kernel)) ggX10_form_X10_digits
set_option maxRecDepth 20000 in
theorem ggX10_form_X10_in : GoodIn wsX10_form wsX10_in := goodIn_r _ [14] (by decide +kernel) (by decide +kernel)
set_option maxRecDepth 20000 in
theorem gX10_form_X10_in : GoodIn wsX10_form (va_wsS RX10 121 yX10_in wsX10_in) := goodIn_app (goodIn_of _ (by decide +kernel)) ggX10_form_X10_in
set_option maxRecDepth 20000 in
theorem ggX10_form_X10_day : GoodIn wsX10_form wsX10_day := goodIn_r _ [18, 1, 10, 11, 4, 19, 20, 21, 12, 13, 8, 14, 22, 23, 24, 25, 26, 27, 28, 29, 30, 31, 32, 33, 34, 35, 36, 37, 38, 39, 40, 41, 42, 43, 44, 45, 46, 47, 48, 49, 50, 51, 52, 53, 54, 55, 56, 57, 58, 59, 60, 61, 62, 63, 64, 65, 66, 67, 68, 69, 70, 71, 72, 73, 74, 75] (by decide +kernel) (by decide +kernel)
set_option maxRecDepth 20000 in
theorem gX10_form_X10_day : GoodIn wsX10_form (wsV RX10 227 RX10 yX10_day wsX10_day) := goodIn_app (goodIn_of _ (by decide +kernel)) ggX10_form_X10_day
theorem dX10_form_0 : decode cX10_form 0 = .ok (.iload_n 1, 1) := by decide +kernel
theorem dX10_form_1 : decode cX10_form 1 = .ok (.iload_n 2, 1) := by decide +kernel
theorem dX10_form_2 : decode cX10_form 2 = .ok (.if_icmp .ne 5, 3) := by decide +kernel
theorem dX10_form_5 : decode cX10_form 5 = .ok (.iconst 0, 1) := by decide +kernel
theorem dX10_form_6 : decode cX10_form 6 = .ok (.ireturn, 1) := by decide +kernel
theorem dX10_form_7 : decode cX10_form 7 = .ok (.aload_n 0, 1) := by decide +kernel
theorem dX10_form_8 : decode cX10_form 8 = .ok (.getfield 31, 3) := by decide +kernel
theorem dX10_form_11 : decode cX10_form 11 = .ok (.iload_n 1, 1) := by decide +kernel
theorem dX10_form_12 : decode cX10_form 12 = .ok (.iaload, 1) := by decide +kernel
theorem dX10_form_13 : decode cX10_form 13 = .ok (.bipush 45, 2) := by decide +kernel
theorem dX10_form_15 : decode cX10_form 15 = .ok (.if_icmp .ne 9, 3) := by decide +kernel
theorem dX10_form_18 : decode cX10_form 18 = .ok (.iload_n 1, 1) := by decide +kernel
theorem dX10_form_19 : decode cX10_form 19 = .ok (.iconst 1, 1) := by decide +kernel
theorem dX10_form_20 : decode cX10_form 20 = .ok (.iadd, 1) := by decide +kernel
theorem dX10_form_21 : decode cX10_form 21 = .ok (.goto 4, 3) := by decide +kernel
theorem dX10_form_24 : decode cX10_form 24 = .ok (.iload_n 1, 1) := by decide +kernel
theorem dX10_form_25 : decode cX10_form 25 = .ok (.istore_n 3, 1) := by decide +kernel
theorem dX10_form_26 : decode cX10_form 26 = .ok (.aload_n 0, 1) := by decide +kernel
theorem dX10_form_27 : decode cX10_form 27 = .ok (.iload_n 3, 1) := by decide +kernel
theorem dX10_form_28 : decode cX10_form 28 = .ok (.iload_n 2, 1) := by decide +kernel
theorem dX10_form_29 : decode cX10_form 29 = .ok (.invokevirtual 238, 3) := by decide +kernel
theorem dX10_form_32 : decode cX10_form 32 = .ok (.istore 4, 2) := by decide +kernel
theorem dX10_form_34 : decode cX10_form 34 = .ok (.iload 4, 2) := by decide +kernel
theorem dX10_form_36 : decode cX10_form 36 = .ok (.i2l, 1) := by decide +kernel
theorem dX10_form_37 : decode cX10_form 37 = .ok (.lconst 1, 1) := by decide +kernel
theorem dX10_form_38 : decode cX10_form 38 = .ok (.ldc2_w 241, 3) := by decide +kernel
theorem dX10_form_41 : decode cX10_form 41 = .ok (.invokestatic 121, 3) := by decide +kernel
theorem dX10_form_44 : decode cX10_form 44 = .ok (.ifCond .eq 70, 3) := by decide +kernel
theorem dX10_form_47 : decode cX10_form 47 = .ok (.iload_n 3, 1) := by decide +kernel
theorem dX10_form_48 : decode cX10_form 48 = .ok (.iload 4, 2) := by decide +kernel
theorem dX10_form_50 : decode cX10_form 50 = .ok (.iadd, 1) := by decide +kernel
theorem dX10_form_51 : decode cX10_form 51 = .ok (.istore 5, 2) := by decide +kernel
theorem dX10_form_53 : decode cX10_form 53 = .ok (.iload 5, 2) := by decide +kernel
theorem dX10_form_55 : decode cX10_form 55 = .ok (.iload_n 2, 1) := by decide +kernel
theorem dX10_form_56 : decode cX10_form 56 = .ok (.if_icmp .ne 5, 3) := by decide +kernel
theorem dX10_form_59 : decode cX10_form 59 = .ok (.iconst 1, 1) := by decide +kernel
theorem dX10_form_60 : decode cX10_form 60 = .ok (.ireturn, 1) := by decide +kernel
theorem dX10_form_61 : decode cX10_form 61 = .ok (.aload_n 0, 1) := by decide +kernel
theorem dX10_form_62 : decode cX10_form 62 = .ok (.getfield 31, 3) := by decide +kernel
theorem dX10_form_65 : decode cX10_form 65 = .ok (.iload 5, 2) := by decide +kernel
theorem dX10_form_67 : decode cX10_form 67 = .ok (.iaload, 1) := by decide +kernel
theorem dX10_form_68 : decode cX10_form 68 = .ok (.bipush 46, 2) := by decide +kernel
theorem dX10_form_70 : decode cX10_form 70 = .ok (.if_icmp .ne 15, 3) := by decide +kernel
theorem dX10_form_73 : decode cX10_form 73 = .ok (.aload_n 0, 1) := by decide +kernel
theorem dX10_form_74 : decode cX10_form 74 = .ok (.iload 5, 2) := by decide +kernel
theorem dX10_form_76 : decode cX10_form 76 = .ok (.iconst 1, 1) := by decide +kernel
theorem dX10_form_77 : decode cX10_form 77 = .ok (.iadd, 1) := by decide +kernel
theorem dX10_form_78 : decode cX10_form 78 = .ok (.iload_n 2, 1) := by decide +kernel
theorem dX10_form_79 : decode cX10_form 79 = .ok (.invokevirtual 238, 3) := by decide +kernel
theorem dX10_form_82 : decode cX10_form 82 = .ok (.goto 4, 3) := by decide +kernel
theorem dX10_form_85 : decode cX10_form 85 = .ok (.iconst 0, 1) := by decide +kernel
theorem dX10_form_86 : decode cX10_form 86 = .ok (.istore 6, 2) := by decide +kernel
theorem dX10_form_88 : decode cX10_form 88 = .ok (.iload 6, 2) := by decide +kernel
theorem dX10_form_90 : decode cX10_form 90 = .ok (.i2l, 1) := by decide +kernel
theorem dX10_form_91 : decode cX10_form 91 = .ok (.lconst 1, 1) := by decide +kernel
theorem dX10_form_92 : decode cX10_form 92 = .ok (.ldc2_w 243, 3) := by decide +kernel
theorem dX10_form_95 : decode cX10_form 95 = .ok (.invokestatic 121, 3) := by decide +kernel
theorem dX10_form_98 : decode cX10_form 98 = .ok (.ifCond .eq 16, 3) := by decide +kernel
theorem dX10_form_101 : decode cX10_form 101 = .ok (.iload 5, 2) := by decide +kernel
theorem dX10_form_103 : decode cX10_form 103 = .ok (.iconst 1, 1) := by decide +kernel
theorem dX10_form_104 : decode cX10_form 104 = .ok (.iadd, 1) := by decide +kernel
theorem dX10_form_105 : decode cX10_form 105 = .ok (.iload 6, 2) := by decide +kernel
theorem dX10_form_107 : decode cX10_form 107 = .ok (.iadd, 1) := by decide +kernel
theorem dX10_form_108 : decode cX10_form 108 = .ok (.iload_n 2, 1) := by decide +kernel
theorem dX10_form_109 : decode cX10_form 109 = .ok (.if_icmp .ne 5, 3) := by decide +kernel
theorem dX10_form_112 : decode cX10_form 112 = .ok (.iconst 2, 1) := by decide +kernel
theorem dX10_form_113 : decode cX10_form 113 = .ok (.ireturn, 1) := by decide +kernel
theorem dX10_form_114 : decode cX10_form 114 = .ok (.iload_n 2, 1) := by decide +kernel
theorem dX10_form_115 : decode cX10_form 115 = .ok (.iload_n 1, 1) := by decide +kernel
theorem dX10_form_116 : decode cX10_form 116 = .ok (.isub, 1) := by decide +kernel
theorem dX10_form_117 : decode cX10_form 117 = .ok (.bipush 10, 2) := by decide +kernel
theorem dX10_form_119 : decode cX10_form 119 = .ok (.if_icmp .ne 19, 3) := by decide +kernel
theorem dX10_form_122 : decode cX10_form 122 = .ok (.aload_n 0, 1) := by decide +kernel
theorem dX10_form_123 : decode cX10_form 123 = .ok (.iload_n 1, 1) := by decide +kernel
theorem dX10_form_124 : decode cX10_form 124 = .ok (.invokevirtual 227, 3) := by decide +kernel
theorem dX10_form_127 : decode cX10_form 127 = .ok (.ldc2_w 245, 3) := by decide +kernel
theorem dX10_form_130 : decode cX10_form 130 = .ok (.lcmp, 1) := by decide +kernel
theorem dX10_form_131 : decode cX10_form 131 = .ok (.ifCond .eq 7, 3) := by decide +kernel
theorem dX10_form_134 : decode cX10_form 134 = .ok (.iconst 3, 1) := by decide +kernel
theorem dX10_form_135 : decode cX10_form 135 = .ok (.goto 4, 3) := by decide +kernel
theorem dX10_form_138 : decode cX10_form 138 = .ok (.iconst 4, 1) := by decide +kernel
theorem dX10_form_139 : decode cX10_form 139 = .ok (.ireturn, 1) := by decide +kernel
theorem dX10_number_0 : decode cX10_number 0 = .ok (.lconst 0, 1) := by decide +kernel
theorem dX10_number_1 : decode cX10_number 1 = .ok (.lstore_n 3, 1) := by decide +kernel
theorem dX10_number_2 : decode cX10_number 2 = .ok (.iconst (-1), 1) := by decide +kernel
theorem dX10_number_3 : decode cX10_number 3 = .ok (.istore 5, 2) := by decide +kernel
theorem dX10_number_5 : decode cX10_number 5 = .ok (.iload_n 1, 1) := by decide +kernel
theorem dX10_number_6 : decode cX10_number 6 = .ok (.istore 6, 2) := by decide +kernel
theorem dX10_number_8 : decode cX10_number 8 = .ok (.iload 6, 2) := by decide +kernel
theorem dX10_number_10 : decode cX10_number 10 = .ok (.iload_n 2, 1) := by decide +kernel
theorem dX10_number_11 : decode cX10_number 11 = .ok (.if_icmp .ge 73, 3) := by decide +kernel
theorem dX10_number_14 : decode cX10_number 14 = .ok (.aload_n 0, 1) := by decide +kernel
theorem dX10_number_15 : decode cX10_number 15 = .ok (.getfield 31, 3) := by decide +kernel
theorem dX10_number_18 : decode cX10_number 18 = .ok (.iload 6, 2) := by decide +kernel
theorem dX10_number_20 : decode cX10_number 20 = .ok (.iaload, 1) := by decide +kernel
theorem dX10_number_21 : decode cX10_number 21 = .ok (.bipush 46, 2) := by decide +kernel
theorem dX10_number_23 : decode cX10_number 23 = .ok (.if_icmp .ne 9, 3) := by decide +kernel
theorem dX10_number_26 : decode cX10_number 26 = .ok (.iconst 0, 1) := by decide +kernel
theorem dX10_number_27 : decode cX10_number 27 = .ok (.istore 5, 2) := by decide +kernel
theorem dX10_number_29 : decode cX10_number 29 = .ok (.goto 49, 3) := by decide +kernel
theorem dX10_number_32 : decode cX10_number 32 = .ok (.aload_n 0, 1) := by decide +kernel
theorem dX10_number_33 : decode cX10_number 33 = .ok (.getfield 31, 3) := by decide +kernel
theorem dX10_number_36 : decode cX10_number 36 = .ok (.iload 6, 2) := by decide +kernel
theorem dX10_number_38 : decode cX10_number 38 = .ok (.iaload, 1) := by decide +kernel
theorem dX10_number_39 : decode cX10_number 39 = .ok (.bipush 45, 2) := by decide +kernel
theorem dX10_number_41 : decode cX10_number 41 = .ok (.if_icmp .eq 37, 3) := by decide +kernel
theorem dX10_number_44 : decode cX10_number 44 = .ok (.ldc2_w 247, 3) := by decide +kernel
theorem dX10_number_47 : decode cX10_number 47 = .ok (.lload_n 3, 1) := by decide +kernel
theorem dX10_number_48 : decode cX10_number 48 = .ok (.lmul, 1) := by decide +kernel
theorem dX10_number_49 : decode cX10_number 49 = .ok (.aload_n 0, 1) := by decide +kernel
theorem dX10_number_50 : decode cX10_number 50 = .ok (.getfield 31, 3) := by decide +kernel
theorem dX10_number_53 : decode cX10_number 53 = .ok (.iload 6, 2) := by decide +kernel
theorem dX10_number_55 : decode cX10_number 55 = .ok (.iaload, 1) := by decide +kernel
theorem dX10_number_56 : decode cX10_number 56 = .ok (.i2l, 1) := by decide +kernel
theorem dX10_number_57 : decode cX10_number 57 = .ok (.ladd, 1) := by decide +kernel
theorem dX10_number_58 : decode cX10_number 58 = .ok (.ldc2_w 234, 3) := by decide +kernel
theorem dX10_number_61 : decode cX10_number 61 = .ok (.lsub, 1) := by decide +kernel
theorem dX10_number_62 : decode cX10_number 62 = .ok (.lstore_n 3, 1) := by decide +kernel
theorem dX10_number_63 : decode cX10_number 63 = .ok (.iload 5, 2) := by decide +kernel
theorem dX10_number_65 : decode cX10_number 65 = .ok (.iload 5, 2) := by decide +kernel
theorem dX10_number_67 : decode cX10_number 67 = .ok (.ifCond .ge 7, 3) := by decide +kernel
theorem dX10_number_70 : decode cX10_number 70 = .ok (.iconst 0, 1) := by decide +kernel
theorem dX10_number_71 : decode cX10_number 71 = .ok (.goto 4, 3) := by decide +kernel
theorem dX10_number_74 : decode cX10_number 74 = .ok (.iconst 1, 1) := by decide +kernel
theorem dX10_number_75 : decode cX10_number 75 = .ok (.iadd, 1) := by decide +kernel
theorem dX10_number_76 : decode cX10_number 76 = .ok (.istore 5, 2) := by decide +kernel
theorem dX10_number_78 : decode cX10_number 78 = .ok (.iinc 6 1, 3) := by decide +kernel
theorem dX10_number_81 : decode cX10_number 81 = .ok (.goto (-73), 3) := by decide +kernel
theorem dX10_number_84 : decode cX10_number 84 = .ok (.iload 5, 2) := by decide +kernel
theorem dX10_number_86 : decode cX10_number 86 = .ok (.ifCond .ge 7, 3) := by decide +kernel
theorem dX10_number_89 : decode cX10_number 89 = .ok (.iconst 0, 1) := by decide +kernel
theorem dX10_number_90 : decode cX10_number 90 = .ok (.goto 5, 3) := by decide +kernel
theorem dX10_number_93 : decode cX10_number 93 = .ok (.iload 5, 2) := by decide +kernel
theorem dX10_number_95 : decode cX10_number 95 = .ok (.istore 6, 2) := by decide +kernel
theorem dX10_number_97 : decode cX10_number 97 = .ok (.iload 6, 2) := by decide +kernel
theorem dX10_number_99 : decode cX10_number 99 = .ok (.iconst 3, 1) := by decide +kernel
theorem dX10_number_100 : decode cX10_number 100 = .ok (.if_icmp .ge 15, 3) := by decide +kernel
theorem dX10_number_103 : decode cX10_number 103 = .ok (.lload_n 3, 1) := by decide +kernel
theorem dX10_number_104 : decode cX10_number 104 = .ok (.ldc2_w 247, 3) := by decide +kernel
theorem dX10_number_107 : decode cX10_number 107 = .ok (.lmul, 1) := by decide +kernel
theorem dX10_number_108 : decode cX10_number 108 = .ok (.lstore_n 3, 1) := by decide +kernel
theorem dX10_number_109 : decode cX10_number 109 = .ok (.iinc 6 1, 3) := by decide +kernel
theorem dX10_number_112 : decode cX10_number 112 = .ok (.goto (-15), 3) := by decide +kernel
theorem dX10_number_115 : decode cX10_number 115 = .ok (.aload_n 0, 1) := by decide +kernel
theorem dX10_number_116 : decode cX10_number 116 = .ok (.getfield 31, 3) := by decide +kernel
theorem dX10_number_119 : decode cX10_number 119 = .ok (.iload_n 1, 1) := by decide +kernel
theorem dX10_number_120 : decode cX10_number 120 = .ok (.iaload, 1) := by decide +kernel
theorem dX10_number_121 : decode cX10_number 121 = .ok (.bipush 45, 2) := by decide +kernel
theorem dX10_number_123 : decode cX10_number 123 = .ok (.if_icmp .ne 8, 3) := by decide +kernel
theorem dX10_number_126 : decode cX10_number 126 = .ok (.lload_n 3, 1) := by decide +kernel
theorem dX10_number_127 : decode cX10_number 127 = .ok (.lneg, 1) := by decide +kernel
theorem dX10_number_128 : decode cX10_number 128 = .ok (.goto 4, 3) := by decide +kernel
theorem dX10_number_131 : decode cX10_number 131 = .ok (.lload_n 3, 1) := by decide +kernel
theorem dX10_number_132 : decode cX10_number 132 = .ok (.lreturn, 1) := by decide +kernel
theorem dX10_days_0 : decode cX10_days 0 = .ok (.iload_n 1, 1) := by decide +kernel
theorem dX10_days_1 : decode cX10_days 1 = .ok (.iconst 2, 1) := by decide +kernel
theorem dX10_days_2 : decode cX10_days 2 = .ok (.if_icmp .ne 32, 3) := by decide +kernel
theorem dX10_days_5 : decode cX10_days 5 = .ok (.iload_n 0, 1) := by decide +kernel
theorem dX10_days_6 : decode cX10_days 6 = .ok (.iconst 4, 1) := by decide +kernel
theorem dX10_days_7 : decode cX10_days 7 = .ok (.irem, 1) := by decide +kernel
theorem dX10_days_8 : decode cX10_days 8 = .ok (.ifCond .ne 23, 3) := by decide +kernel
theorem dX10_days_11 : decode cX10_days 11 = .ok (.iload_n 0, 1) := by decide +kernel
theorem dX10_days_12 : decode cX10_days 12 = .ok (.bipush 100, 2) := by decide +kernel
theorem dX10_days_14 : decode cX10_days 14 = .ok (.irem, 1) := by decide +kernel
theorem dX10_days_15 : decode cX10_days 15 = .ok (.ifCond .ne 11, 3) := by decide +kernel
theorem dX10_days_18 : decode cX10_days 18 = .ok (.iload_n 0, 1) := by decide +kernel
theorem dX10_days_19 : decode cX10_days 19 = .ok (.sipush 400, 3) := by decide +kernel
theorem dX10_days_22 : decode cX10_days 22 = .ok (.irem, 1) := by decide +kernel
theorem dX10_days_23 : decode cX10_days 23 = .ok (.ifCond .ne 8, 3) := by decide +kernel
theorem dX10_days_26 : decode cX10_days 26 = .ok (.bipush 29, 2) := by decide +kernel
theorem dX10_days_28 : decode cX10_days 28 = .ok (.goto 5, 3) := by decide +kernel
theorem dX10_days_31 : decode cX10_days 31 = .ok (.bipush 28, 2) := by decide +kernel
theorem dX10_days_33 : decode cX10_days 33 = .ok (.ireturn, 1) := by decide +kernel
theorem dX10_days_34 : decode cX10_days 34 = .ok (.iload_n 1, 1) := by decide +kernel
theorem dX10_days_35 : decode cX10_days 35 = .ok (.iconst 4, 1) := by decide +kernel
theorem dX10_days_36 : decode cX10_days 36 = .ok (.if_icmp .eq 21, 3) := by decide +kernel
theorem dX10_days_39 : decode cX10_days 39 = .ok (.iload_n 1, 1) := by decide +kernel
theorem dX10_days_40 : decode cX10_days 40 = .ok (.bipush 6, 2) := by decide +kernel
theorem dX10_days_42 : decode cX10_days 42 = .ok (.if_icmp .eq 15, 3) := by decide +kernel
theorem dX10_days_45 : decode cX10_days 45 = .ok (.iload_n 1, 1) := by decide +kernel
theorem dX10_days_46 : decode cX10_days 46 = .ok (.bipush 9, 2) := by decide +kernel
theorem dX10_days_48 : decode cX10_days 48 = .ok (.if_icmp .eq 9, 3) := by decide +kernel
theorem dX10_days_51 : decode cX10_days 51 = .ok (.iload_n 1, 1) := by decide +kernel
theorem dX10_days_52 : decode cX10_days 52 = .ok (.bipush 11, 2) := by decide +kernel
theorem dX10_days_54 : decode cX10_days 54 = .ok (.if_icmp .ne 8, 3) := by decide +kernel
theorem dX10_days_57 : decode cX10_days 57 = .ok (.bipush 30, 2) := by decide +kernel
theorem dX10_days_59 : decode cX10_days 59 = .ok (.goto 5, 3) := by decide +kernel
theorem dX10_days_62 : decode cX10_days 62 = .ok (.bipush 31, 2) := by decide +kernel
theorem dX10_days_64 : decode cX10_days 64 = .ok (.ireturn, 1) := by decide +kernel
theorem dX10_digitsOf_0 : decode cX10_digitsOf 0 = .ok (.iconst 0, 1) := by decide +kernel
theorem dX10_digitsOf_1 : decode cX10_digitsOf 1 = .ok (.istore_n 3, 1) := by decide +kernel
theorem dX10_digitsOf_2 : decode cX10_digitsOf 2 = .ok (.iload_n 1, 1) := by decide +kernel
theorem dX10_digitsOf_3 : decode cX10_digitsOf 3 = .ok (.istore 4, 2) := by decide +kernel
theorem dX10_digitsOf_5 : decode cX10_digitsOf 5 = .ok (.iload 4, 2) := by decide +kernel
theorem dX10_digitsOf_7 : decode cX10_digitsOf 7 = .ok (.iload_n 1, 1) := by decide +kernel
theorem dX10_digitsOf_8 : decode cX10_digitsOf 8 = .ok (.iload_n 2, 1) := by decide +kernel
theorem dX10_digitsOf_9 : decode cX10_digitsOf 9 = .ok (.iadd, 1) := by decide +kernel
theorem dX10_digitsOf_10 : decode cX10_digitsOf 10 = .ok (.if_icmp .ge 25, 3) := by decide +kernel
theorem dX10_digitsOf_13 : decode cX10_digitsOf 13 = .ok (.bipush 10, 2) := by decide +kernel
theorem dX10_digitsOf_15 : decode cX10_digitsOf 15 = .ok (.iload_n 3, 1) := by decide +kernel
theorem dX10_digitsOf_16 : decode cX10_digitsOf 16 = .ok (.imul, 1) := by decide +kernel
theorem dX10_digitsOf_17 : decode cX10_digitsOf 17 = .ok (.aload_n 0, 1) := by decide +kernel
theorem dX10_digitsOf_18 : decode cX10_digitsOf 18 = .ok (.getfield 31, 3) := by decide +kernel
theorem dX10_digitsOf_21 : decode cX10_digitsOf 21 = .ok (.iload 4, 2) := by decide +kernel
theorem dX10_digitsOf_23 : decode cX10_digitsOf 23 = .ok (.iaload, 1) := by decide +kernel
theorem dX10_digitsOf_24 : decode cX10_digitsOf 24 = .ok (.iadd, 1) := by decide +kernel
theorem dX10_digitsOf_25 : decode cX10_digitsOf 25 = .ok (.bipush 48, 2) := by decide +kernel
theorem dX10_digitsOf_27 : decode cX10_digitsOf 27 = .ok (.isub, 1) := by decide +kernel
theorem dX10_digitsOf_28 : decode cX10_digitsOf 28 = .ok (.istore_n 3, 1) := by decide +kernel
theorem dX10_digitsOf_29 : decode cX10_digitsOf 29 = .ok (.iinc 4 1, 3) := by decide +kernel
theorem dX10_digitsOf_32 : decode cX10_digitsOf 32 = .ok (.goto (-27), 3) := by decide +kernel
theorem dX10_digitsOf_35 : decode cX10_digitsOf 35 = .ok (.iload_n 3, 1) := by decide +kernel
theorem dX10_digitsOf_36 : decode cX10_digitsOf 36 = .ok (.ireturn, 1) := by decide +kernel
set_option maxRecDepth 20000 in
theorem ggX10_day_X10_in : GoodIn wsX10_day wsX10_in := goodIn_r _ [11] (by decide +kernel) (by decide +kernel)
set_option maxRecDepth 20000 in
theorem gX10_day_X10_in : GoodIn wsX10_day (va_wsS RX10 121 yX10_in wsX10_in) := goodIn_app (goodIn_of _ (by decide +kernel)) ggX10_day_X10_in
set_option maxRecDepth 20000 in
theorem ggX10_day_X10_digitsOf : GoodIn wsX10_day wsX10_digitsOf := goodIn_r _ [15, 1, 19, 20, 21, 22, 23, 24, 25, 26, 27, 28, 29, 30, 31, 32, 33, 34, 35, 36, 37, 38, 39, 40, 41, 42, 43, 44, 45, 46, 47, 48, 49, 50, 51, 52, 53, 54, 55, 56, 57, 58, 59, 60, 61, 62, 63, 64, 65] (by decide +kernel) (by decide +kernel)
set_option maxRecDepth 20000 in
theorem gX10_day_X10_digitsOf : GoodIn wsX10_day (wsV RX10 249 RX10 yX10_digitsOf wsX10_digitsOf) := goodIn_app (goodIn_of _ (by decide +kernel)) ggX10_day_X10_digitsOf
set_option maxRecDepth 20000 in
theorem ggX10_day_X10_days : GoodIn wsX10_day wsX10_days := goodIn_r _ [18] (by decide +kernel) (by decide +kernel)
set_option maxRecDepth 20000 in
theorem gX10_day_X10_days : GoodIn wsX10_day (va_wsS RX10 258 yX10_days wsX10_days) := goodIn_app (goodIn_of _ (by decide +kernel)) ggX10_day_X10_days
theorem dX10_day_0 : decode cX10_day 0 = .ok (.aload_n 0, 1) := by decide +kernel
theorem dX10_day_1 : decode cX10_day 1 = .ok (.getfield 31, 3) := by decide +kernel
theorem dX10_day_4 : decode cX10_day 4 = .ok (.iload_n 1, 1) := by decide +kernel
theorem dX10_day_5 : decode cX10_day 5 = .ok (.iconst 4, 1) := by decide +kernel
theorem dX10_day_6 : decode cX10_day 6 = .ok (.iadd, 1) := by decide +kernel
theorem dX10_day_7 : decode cX10_day 7 = .ok (.iaload, 1) := by decide +kernel
theorem dX10_day_8 : decode cX10_day 8 = .ok (.bipush 45, 2) := by decide +kernel
theorem dX10_day_10 : decode cX10_day 10 = .ok (.if_icmp .ne 7, 3) := by decide +kernel
theorem dX10_day_13 : decode cX10_day 13 = .ok (.iconst 1, 1) := by decide +kernel
theorem dX10_day_14 : decode cX10_day 14 = .ok (.goto 4, 3) := by decide +kernel
theorem dX10_day_17 : decode cX10_day 17 = .ok (.iconst 0, 1) := by decide +kernel
theorem dX10_day_18 : decode cX10_day 18 = .ok (.istore_n 2, 1) := by decide +kernel
theorem dX10_day_19 : decode cX10_day 19 = .ok (.iload_n 2, 1) := by decide +kernel
theorem dX10_day_20 : decode cX10_day 20 = .ok (.ifCond .eq 7, 3) := by decide +kernel
theorem dX10_day_23 : decode cX10_day 23 = .ok (.iconst 4, 1) := by decide +kernel
theorem dX10_day_24 : decode cX10_day 24 = .ok (.goto 4, 3) := by decide +kernel
theorem dX10_day_27 : decode cX10_day 27 = .ok (.iconst 2, 1) := by decide +kernel
theorem dX10_day_28 : decode cX10_day 28 = .ok (.istore_n 3, 1) := by decide +kernel
theorem dX10_day_29 : decode cX10_day 29 = .ok (.iload_n 2, 1) := by decide +kernel
theorem dX10_day_30 : decode cX10_day 30 = .ok (.ifCond .eq 8, 3) := by decide +kernel
theorem dX10_day_33 : decode cX10_day 33 = .ok (.bipush 7, 2) := by decide +kernel
theorem dX10_day_35 : decode cX10_day 35 = .ok (.goto 4, 3) := by decide +kernel
theorem dX10_day_38 : decode cX10_day 38 = .ok (.iconst 5, 1) := by decide +kernel
theorem dX10_day_39 : decode cX10_day 39 = .ok (.istore 4, 2) := by decide +kernel
theorem dX10_day_41 : decode cX10_day 41 = .ok (.iload_n 2, 1) := by decide +kernel
theorem dX10_day_42 : decode cX10_day 42 = .ok (.ifCond .eq 8, 3) := by decide +kernel
theorem dX10_day_45 : decode cX10_day 45 = .ok (.bipush 45, 2) := by decide +kernel
theorem dX10_day_47 : decode cX10_day 47 = .ok (.goto 5, 3) := by decide +kernel
theorem dX10_day_50 : decode cX10_day 50 = .ok (.bipush 47, 2) := by decide +kernel
theorem dX10_day_52 : decode cX10_day 52 = .ok (.istore 5, 2) := by decide +kernel
theorem dX10_day_54 : decode cX10_day 54 = .ok (.iconst 0, 1) := by decide +kernel
theorem dX10_day_55 : decode cX10_day 55 = .ok (.istore 6, 2) := by decide +kernel
theorem dX10_day_57 : decode cX10_day 57 = .ok (.iload 6, 2) := by decide +kernel
theorem dX10_day_59 : decode cX10_day 59 = .ok (.bipush 10, 2) := by decide +kernel
theorem dX10_day_61 : decode cX10_day 61 = .ok (.if_icmp .ge 65, 3) := by decide +kernel
theorem dX10_day_64 : decode cX10_day 64 = .ok (.iload 6, 2) := by decide +kernel
theorem dX10_day_66 : decode cX10_day 66 = .ok (.iload_n 3, 1) := by decide +kernel
theorem dX10_day_67 : decode cX10_day 67 = .ok (.if_icmp .eq 10, 3) := by decide +kernel
theorem dX10_day_70 : decode cX10_day 70 = .ok (.iload 6, 2) := by decide +kernel
theorem dX10_day_72 : decode cX10_day 72 = .ok (.iload 4, 2) := by decide +kernel
theorem dX10_day_74 : decode cX10_day 74 = .ok (.if_icmp .ne 20, 3) := by decide +kernel
theorem dX10_day_77 : decode cX10_day 77 = .ok (.aload_n 0, 1) := by decide +kernel
theorem dX10_day_78 : decode cX10_day 78 = .ok (.getfield 31, 3) := by decide +kernel
theorem dX10_day_81 : decode cX10_day 81 = .ok (.iload_n 1, 1) := by decide +kernel
theorem dX10_day_82 : decode cX10_day 82 = .ok (.iload 6, 2) := by decide +kernel
theorem dX10_day_84 : decode cX10_day 84 = .ok (.iadd, 1) := by decide +kernel
theorem dX10_day_85 : decode cX10_day 85 = .ok (.iaload, 1) := by decide +kernel
theorem dX10_day_86 : decode cX10_day 86 = .ok (.iload 5, 2) := by decide +kernel
theorem dX10_day_88 : decode cX10_day 88 = .ok (.if_icmp .eq 32, 3) := by decide +kernel
theorem dX10_day_91 : decode cX10_day 91 = .ok (.goto 25, 3) := by decide +kernel
theorem dX10_day_94 : decode cX10_day 94 = .ok (.aload_n 0, 1) := by decide +kernel
theorem dX10_day_95 : decode cX10_day 95 = .ok (.getfield 31, 3) := by decide +kernel
theorem dX10_day_98 : decode cX10_day 98 = .ok (.iload_n 1, 1) := by decide +kernel
theorem dX10_day_99 : decode cX10_day 99 = .ok (.iload 6, 2) := by decide +kernel
theorem dX10_day_101 : decode cX10_day 101 = .ok (.iadd, 1) := by decide +kernel
theorem dX10_day_102 : decode cX10_day 102 = .ok (.iaload, 1) := by decide +kernel
theorem dX10_day_103 : decode cX10_day 103 = .ok (.i2l, 1) := by decide +kernel
theorem dX10_day_104 : decode cX10_day 104 = .ok (.ldc2_w 234, 3) := by decide +kernel
theorem dX10_day_107 : decode cX10_day 107 = .ok (.ldc2_w 236, 3) := by decide +kernel
theorem dX10_day_110 : decode cX10_day 110 = .ok (.invokestatic 121, 3) := by decide +kernel
theorem dX10_day_113 : decode cX10_day 113 = .ok (.ifCond .ne 7, 3) := by decide +kernel
theorem dX10_day_116 : decode cX10_day 116 = .ok (.ldc2_w 245, 3) := by decide +kernel
theorem dX10_day_119 : decode cX10_day 119 = .ok (.lreturn, 1) := by decide +kernel
theorem dX10_day_120 : decode cX10_day 120 = .ok (.iinc 6 1, 3) := by decide +kernel
theorem dX10_day_123 : decode cX10_day 123 = .ok (.goto (-66), 3) := by decide +kernel
theorem dX10_day_126 : decode cX10_day 126 = .ok (.aload_n 0, 1) := by decide +kernel
theorem dX10_day_127 : decode cX10_day 127 = .ok (.iload_n 2, 1) := by decide +kernel
theorem dX10_day_128 : decode cX10_day 128 = .ok (.ifCond .eq 7, 3) := by decide +kernel
theorem dX10_day_131 : decode cX10_day 131 = .ok (.iload_n 1, 1) := by decide +kernel
theorem dX10_day_132 : decode cX10_day 132 = .ok (.goto 7, 3) := by decide +kernel
theorem dX10_day_135 : decode cX10_day 135 = .ok (.iload_n 1, 1) := by decide +kernel
theorem dX10_day_136 : decode cX10_day 136 = .ok (.bipush 6, 2) := by decide +kernel
theorem dX10_day_138 : decode cX10_day 138 = .ok (.iadd, 1) := by decide +kernel
theorem dX10_day_139 : decode cX10_day 139 = .ok (.iconst 4, 1) := by decide +kernel
theorem dX10_day_140 : decode cX10_day 140 = .ok (.invokevirtual 249, 3) := by decide +kernel
theorem dX10_day_143 : decode cX10_day 143 = .ok (.istore 6, 2) := by decide +kernel
theorem dX10_day_145 : decode cX10_day 145 = .ok (.aload_n 0, 1) := by decide +kernel
theorem dX10_day_146 : decode cX10_day 146 = .ok (.iload_n 2, 1) := by decide +kernel
theorem dX10_day_147 : decode cX10_day 147 = .ok (.ifCond .eq 9, 3) := by decide +kernel
theorem dX10_day_150 : decode cX10_day 150 = .ok (.iload_n 1, 1) := by decide +kernel
theorem dX10_day_151 : decode cX10_day 151 = .ok (.iconst 5, 1) := by decide +kernel
theorem dX10_day_152 : decode cX10_day 152 = .ok (.iadd, 1) := by decide +kernel
theorem dX10_day_153 : decode cX10_day 153 = .ok (.goto 6, 3) := by decide +kernel
theorem dX10_day_156 : decode cX10_day 156 = .ok (.iload_n 1, 1) := by decide +kernel
theorem dX10_day_157 : decode cX10_day 157 = .ok (.iconst 3, 1) := by decide +kernel
theorem dX10_day_158 : decode cX10_day 158 = .ok (.iadd, 1) := by decide +kernel
theorem dX10_day_159 : decode cX10_day 159 = .ok (.iconst 2, 1) := by decide +kernel
theorem dX10_day_160 : decode cX10_day 160 = .ok (.invokevirtual 249, 3) := by decide +kernel
theorem dX10_day_163 : decode cX10_day 163 = .ok (.istore 7, 2) := by decide +kernel
theorem dX10_day_165 : decode cX10_day 165 = .ok (.aload_n 0, 1) := by decide +kernel
theorem dX10_day_166 : decode cX10_day 166 = .ok (.iload_n 2, 1) := by decide +kernel
theorem dX10_day_167 : decode cX10_day 167 = .ok (.ifCond .eq 10, 3) := by decide +kernel
theorem dX10_day_170 : decode cX10_day 170 = .ok (.iload_n 1, 1) := by decide +kernel
theorem dX10_day_171 : decode cX10_day 171 = .ok (.bipush 8, 2) := by decide +kernel
theorem dX10_day_173 : decode cX10_day 173 = .ok (.iadd, 1) := by decide +kernel
theorem dX10_day_174 : decode cX10_day 174 = .ok (.goto 4, 3) := by decide +kernel
theorem dX10_day_177 : decode cX10_day 177 = .ok (.iload_n 1, 1) := by decide +kernel
theorem dX10_day_178 : decode cX10_day 178 = .ok (.iconst 2, 1) := by decide +kernel
theorem dX10_day_179 : decode cX10_day 179 = .ok (.invokevirtual 249, 3) := by decide +kernel
theorem dX10_day_182 : decode cX10_day 182 = .ok (.istore 8, 2) := by decide +kernel
theorem dX10_day_184 : decode cX10_day 184 = .ok (.iload 6, 2) := by decide +kernel
theorem dX10_day_186 : decode cX10_day 186 = .ok (.i2l, 1) := by decide +kernel
theorem dX10_day_187 : decode cX10_day 187 = .ok (.ldc2_w 252, 3) := by decide +kernel
theorem dX10_day_190 : decode cX10_day 190 = .ok (.ldc2_w 254, 3) := by decide +kernel
theorem dX10_day_193 : decode cX10_day 193 = .ok (.invokestatic 121, 3) := by decide +kernel
theorem dX10_day_196 : decode cX10_day 196 = .ok (.ifCond .eq 34, 3) := by decide +kernel
theorem dX10_day_199 : decode cX10_day 199 = .ok (.iload 7, 2) := by decide +kernel
theorem dX10_day_201 : decode cX10_day 201 = .ok (.i2l, 1) := by decide +kernel
theorem dX10_day_202 : decode cX10_day 202 = .ok (.lconst 1, 1) := by decide +kernel
theorem dX10_day_203 : decode cX10_day 203 = .ok (.ldc2_w 256, 3) := by decide +kernel
theorem dX10_day_206 : decode cX10_day 206 = .ok (.invokestatic 121, 3) := by decide +kernel
theorem dX10_day_209 : decode cX10_day 209 = .ok (.ifCond .eq 21, 3) := by decide +kernel
theorem dX10_day_212 : decode cX10_day 212 = .ok (.iload 8, 2) := by decide +kernel
theorem dX10_day_214 : decode cX10_day 214 = .ok (.i2l, 1) := by decide +kernel
theorem dX10_day_215 : decode cX10_day 215 = .ok (.lconst 1, 1) := by decide +kernel
theorem dX10_day_216 : decode cX10_day 216 = .ok (.iload 6, 2) := by decide +kernel
theorem dX10_day_218 : decode cX10_day 218 = .ok (.iload 7, 2) := by decide +kernel
theorem dX10_day_220 : decode cX10_day 220 = .ok (.invokestatic 258, 3) := by decide +kernel
theorem dX10_day_223 : decode cX10_day 223 = .ok (.i2l, 1) := by decide +kernel
theorem dX10_day_224 : decode cX10_day 224 = .ok (.invokestatic 121, 3) := by decide +kernel
theorem dX10_day_227 : decode cX10_day 227 = .ok (.ifCond .ne 7, 3) := by decide +kernel
theorem dX10_day_230 : decode cX10_day 230 = .ok (.ldc2_w 245, 3) := by decide +kernel
theorem dX10_day_233 : decode cX10_day 233 = .ok (.lreturn, 1) := by decide +kernel
theorem dX10_day_234 : decode cX10_day 234 = .ok (.iload 8, 2) := by decide +kernel
theorem dX10_day_236 : decode cX10_day 236 = .ok (.iconst 1, 1) := by decide +kernel
theorem dX10_day_237 : decode cX10_day 237 = .ok (.isub, 1) := by decide +kernel
theorem dX10_day_238 : decode cX10_day 238 = .ok (.i2l, 1) := by decide +kernel
theorem dX10_day_239 : decode cX10_day 239 = .ok (.lstore 9, 2) := by decide +kernel
theorem dX10_day_241 : decode cX10_day 241 = .ok (.iconst 1, 1) := by decide +kernel
theorem dX10_day_242 : decode cX10_day 242 = .ok (.istore 11, 2) := by decide +kernel
theorem dX10_day_244 : decode cX10_day 244 = .ok (.iload 11, 2) := by decide +kernel
theorem dX10_day_246 : decode cX10_day 246 = .ok (.iload 7, 2) := by decide +kernel
theorem dX10_day_248 : decode cX10_day 248 = .ok (.if_icmp .ge 22, 3) := by decide +kernel
theorem dX10_day_251 : decode cX10_day 251 = .ok (.lload 9, 2) := by decide +kernel
theorem dX10_day_253 : decode cX10_day 253 = .ok (.iload 6, 2) := by decide +kernel
theorem dX10_day_255 : decode cX10_day 255 = .ok (.iload 11, 2) := by decide +kernel
theorem dX10_day_257 : decode cX10_day 257 = .ok (.invokestatic 258, 3) := by decide +kernel
theorem dX10_day_260 : decode cX10_day 260 = .ok (.i2l, 1) := by decide +kernel
theorem dX10_day_261 : decode cX10_day 261 = .ok (.ladd, 1) := by decide +kernel
theorem dX10_day_262 : decode cX10_day 262 = .ok (.lstore 9, 2) := by decide +kernel
theorem dX10_day_264 : decode cX10_day 264 = .ok (.iinc 11 1, 3) := by decide +kernel
theorem dX10_day_267 : decode cX10_day 267 = .ok (.goto (-23), 3) := by decide +kernel
theorem dX10_day_270 : decode cX10_day 270 = .ok (.sipush 2000, 3) := by decide +kernel
theorem dX10_day_273 : decode cX10_day 273 = .ok (.istore 11, 2) := by decide +kernel
theorem dX10_day_275 : decode cX10_day 275 = .ok (.iload 11, 2) := by decide +kernel
theorem dX10_day_277 : decode cX10_day 277 = .ok (.iload 6, 2) := by decide +kernel
theorem dX10_day_279 : decode cX10_day 279 = .ok (.if_icmp .ge 25, 3) := by decide +kernel
theorem dX10_day_282 : decode cX10_day 282 = .ok (.lload 9, 2) := by decide +kernel
theorem dX10_day_284 : decode cX10_day 284 = .ok (.sipush 337, 3) := by decide +kernel
theorem dX10_day_287 : decode cX10_day 287 = .ok (.iload 11, 2) := by decide +kernel
theorem dX10_day_289 : decode cX10_day 289 = .ok (.iconst 2, 1) := by decide +kernel
theorem dX10_day_290 : decode cX10_day 290 = .ok (.invokestatic 258, 3) := by decide +kernel
theorem dX10_day_293 : decode cX10_day 293 = .ok (.iadd, 1) := by decide +kernel
theorem dX10_day_294 : decode cX10_day 294 = .ok (.i2l, 1) := by decide +kernel
theorem dX10_day_295 : decode cX10_day 295 = .ok (.ladd, 1) := by decide +kernel
theorem dX10_day_296 : decode cX10_day 296 = .ok (.lstore 9, 2) := by decide +kernel
theorem dX10_day_298 : decode cX10_day 298 = .ok (.iinc 11 1, 3) := by decide +kernel
theorem dX10_day_301 : decode cX10_day 301 = .ok (.goto (-26), 3) := by decide +kernel
theorem dX10_day_304 : decode cX10_day 304 = .ok (.iload 6, 2) := by decide +kernel
theorem dX10_day_306 : decode cX10_day 306 = .ok (.istore 11, 2) := by decide +kernel
theorem dX10_day_308 : decode cX10_day 308 = .ok (.iload 11, 2) := by decide +kernel
theorem dX10_day_310 : decode cX10_day 310 = .ok (.sipush 2000, 3) := by decide +kernel
theorem dX10_day_313 : decode cX10_day 313 = .ok (.if_icmp .ge 25, 3) := by decide +kernel
theorem dX10_day_316 : decode cX10_day 316 = .ok (.lload 9, 2) := by decide +kernel
theorem dX10_day_318 : decode cX10_day 318 = .ok (.sipush 337, 3) := by decide +kernel
theorem dX10_day_321 : decode cX10_day 321 = .ok (.iload 11, 2) := by decide +kernel
theorem dX10_day_323 : decode cX10_day 323 = .ok (.iconst 2, 1) := by decide +kernel
theorem dX10_day_324 : decode cX10_day 324 = .ok (.invokestatic 258, 3) := by decide +kernel
theorem dX10_day_327 : decode cX10_day 327 = .ok (.iadd, 1) := by decide +kernel
theorem dX10_day_328 : decode cX10_day 328 = .ok (.i2l, 1) := by decide +kernel
theorem dX10_day_329 : decode cX10_day 329 = .ok (.lsub, 1) := by decide +kernel
theorem dX10_day_330 : decode cX10_day 330 = .ok (.lstore 9, 2) := by decide +kernel
theorem dX10_day_332 : decode cX10_day 332 = .ok (.iinc 11 1, 3) := by decide +kernel
theorem dX10_day_335 : decode cX10_day 335 = .ok (.goto (-27), 3) := by decide +kernel
theorem dX10_day_338 : decode cX10_day 338 = .ok (.lload 9, 2) := by decide +kernel
theorem dX10_day_340 : decode cX10_day 340 = .ok (.lreturn, 1) := by decide +kernel
theorem dX10_asOne_0 : decode cX10_asOne 0 = .ok (.lconst 0, 1) := by decide +kernel
theorem dX10_asOne_1 : decode cX10_asOne 1 = .ok (.lstore_n 3, 1) := by decide +kernel
theorem dX10_asOne_2 : decode cX10_asOne 2 = .ok (.iload_n 1, 1) := by decide +kernel
theorem dX10_asOne_3 : decode cX10_asOne 3 = .ok (.istore 5, 2) := by decide +kernel
theorem dX10_asOne_5 : decode cX10_asOne 5 = .ok (.iload 5, 2) := by decide +kernel
theorem dX10_asOne_7 : decode cX10_asOne 7 = .ok (.iload_n 2, 1) := by decide +kernel
theorem dX10_asOne_8 : decode cX10_asOne 8 = .ok (.if_icmp .ge 24, 3) := by decide +kernel
theorem dX10_asOne_11 : decode cX10_asOne 11 = .ok (.ldc2_w 261, 3) := by decide +kernel
theorem dX10_asOne_14 : decode cX10_asOne 14 = .ok (.lload_n 3, 1) := by decide +kernel
theorem dX10_asOne_15 : decode cX10_asOne 15 = .ok (.lmul, 1) := by decide +kernel
theorem dX10_asOne_16 : decode cX10_asOne 16 = .ok (.aload_n 0, 1) := by decide +kernel
theorem dX10_asOne_17 : decode cX10_asOne 17 = .ok (.getfield 31, 3) := by decide +kernel
theorem dX10_asOne_20 : decode cX10_asOne 20 = .ok (.iload 5, 2) := by decide +kernel
theorem dX10_asOne_22 : decode cX10_asOne 22 = .ok (.iaload, 1) := by decide +kernel
theorem dX10_asOne_23 : decode cX10_asOne 23 = .ok (.i2l, 1) := by decide +kernel
theorem dX10_asOne_24 : decode cX10_asOne 24 = .ok (.ladd, 1) := by decide +kernel
theorem dX10_asOne_25 : decode cX10_asOne 25 = .ok (.lstore_n 3, 1) := by decide +kernel
theorem dX10_asOne_26 : decode cX10_asOne 26 = .ok (.iinc 5 1, 3) := by decide +kernel
theorem dX10_asOne_29 : decode cX10_asOne 29 = .ok (.goto (-24), 3) := by decide +kernel
theorem dX10_asOne_32 : decode cX10_asOne 32 = .ok (.lload_n 3, 1) := by decide +kernel
theorem dX10_asOne_33 : decode cX10_asOne 33 = .ok (.lreturn, 1) := by decide +kernel
theorem dX10_has_0 : decode cX10_has 0 = .ok (.aload_n 0, 1) := by decide +kernel
theorem dX10_has_1 : decode cX10_has 1 = .ok (.getfield 37, 3) := by decide +kernel
theorem dX10_has_4 : decode cX10_has 4 = .ok (.iload_n 1, 1) := by decide +kernel
theorem dX10_has_5 : decode cX10_has 5 = .ok (.iaload, 1) := by decide +kernel
theorem dX10_has_6 : decode cX10_has 6 = .ok (.iload_n 2, 1) := by decide +kernel
theorem dX10_has_7 : decode cX10_has 7 = .ok (.if_icmp .le 7, 3) := by decide +kernel
theorem dX10_has_10 : decode cX10_has 10 = .ok (.iconst 1, 1) := by decide +kernel
theorem dX10_has_11 : decode cX10_has 11 = .ok (.goto 4, 3) := by decide +kernel
theorem dX10_has_14 : decode cX10_has 14 = .ok (.iconst 0, 1) := by decide +kernel
theorem dX10_has_15 : decode cX10_has 15 = .ok (.ireturn, 1) := by decide +kernel
theorem dX10_formOf_0 : decode cX10_formOf 0 = .ok (.aload_n 0, 1) := by decide +kernel
theorem dX10_formOf_1 : decode cX10_formOf 1 = .ok (.getfield 40, 3) := by decide +kernel
theorem dX10_formOf_4 : decode cX10_formOf 4 = .ok (.iconst 5, 1) := by decide +kernel
theorem dX10_formOf_5 : decode cX10_formOf 5 = .ok (.iload_n 1, 1) := by decide +kernel
theorem dX10_formOf_6 : decode cX10_formOf 6 = .ok (.imul, 1) := by decide +kernel
theorem dX10_formOf_7 : decode cX10_formOf 7 = .ok (.iload_n 2, 1) := by decide +kernel
theorem dX10_formOf_8 : decode cX10_formOf 8 = .ok (.iadd, 1) := by decide +kernel
theorem dX10_formOf_9 : decode cX10_formOf 9 = .ok (.iaload, 1) := by decide +kernel
theorem dX10_formOf_10 : decode cX10_formOf 10 = .ok (.ireturn, 1) := by decide +kernel
set_option maxRecDepth 20000 in
theorem ggX10_voters_X10_has : GoodIn wsX10_voters wsX10_has := goodIn_r _ [6, 7, 13, 14, 15, 16, 17, 18, 19, 20, 21, 22, 23, 24, 25, 26, 27, 28, 29, 30, 31, 32, 33, 34, 35, 36, 37, 38, 39, 40, 41, 42, 43, 44, 45, 46, 47, 48, 49, 50, 51, 52, 53, 54, 55, 56, 57, 58, 59] (by decide +kernel) (by decide +kernel)
set_option maxRecDepth 20000 in
theorem gX10_voters_X10_has : GoodIn wsX10_voters (wsV RX10 263 RX10 yX10_has wsX10_has) := goodIn_app (goodIn_of _ (by decide +kernel)) ggX10_voters_X10_has
set_option maxRecDepth 20000 in
theorem ggX10_voters_X10_formOf : GoodIn wsX10_voters wsX10_formOf := goodIn_r _ [11, 12, 13, 14, 15, 16, 17, 18, 19, 20, 21, 22, 23, 24, 25, 26, 27, 28, 29, 30, 31, 32, 33, 34, 35, 36, 37, 38, 39, 40, 41, 42, 43, 44, 45, 46, 47, 48, 49, 50, 51, 52, 53, 54, 55, 56, 57, 58, 59] (by decide +kernel) (by decide +kernel)
set_option maxRecDepth 20000 in
theorem gX10_voters_X10_formOf : GoodIn wsX10_voters (wsV RX10 267 RX10 yX10_formOf wsX10_formOf) := goodIn_app (goodIn_of _ (by decide +kernel)) ggX10_voters_X10_formOf
theorem dX10_voters_0 : decode cX10_voters 0 = .ok (.iconst 0, 1) := by decide +kernel
theorem dX10_voters_1 : decode cX10_voters 1 = .ok (.istore 4, 2) := by decide +kernel
theorem dX10_voters_3 : decode cX10_voters 3 = .ok (.iconst 0, 1) := by decide +kernel
theorem dX10_voters_4 : decode cX10_voters 4 = .ok (.istore 5, 2) := by decide +kernel
theorem dX10_voters_6 : decode cX10_voters 6 = .ok (.iload 5, 2) := by decide +kernel
theorem dX10_voters_8 : decode cX10_voters 8 = .ok (.aload_n 0, 1) := by decide +kernel
theorem dX10_voters_9 : decode cX10_voters 9 = .ok (.getfield 125, 3) := by decide +kernel
theorem dX10_voters_12 : decode cX10_voters 12 = .ok (.if_icmp .ge 46, 3) := by decide +kernel
theorem dX10_voters_15 : decode cX10_voters 15 = .ok (.iload 5, 2) := by decide +kernel
theorem dX10_voters_17 : decode cX10_voters 17 = .ok (.iload_n 3, 1) := by decide +kernel
theorem dX10_voters_18 : decode cX10_voters 18 = .ok (.if_icmp .ge 40, 3) := by decide +kernel
theorem dX10_voters_21 : decode cX10_voters 21 = .ok (.iload 4, 2) := by decide +kernel
theorem dX10_voters_23 : decode cX10_voters 23 = .ok (.aload_n 0, 1) := by decide +kernel
theorem dX10_voters_24 : decode cX10_voters 24 = .ok (.iload 5, 2) := by decide +kernel
theorem dX10_voters_26 : decode cX10_voters 26 = .ok (.iload_n 1, 1) := by decide +kernel
theorem dX10_voters_27 : decode cX10_voters 27 = .ok (.invokevirtual 263, 3) := by decide +kernel
theorem dX10_voters_30 : decode cX10_voters 30 = .ok (.ifCond .eq 18, 3) := by decide +kernel
theorem dX10_voters_33 : decode cX10_voters 33 = .ok (.aload_n 0, 1) := by decide +kernel
theorem dX10_voters_34 : decode cX10_voters 34 = .ok (.iload 5, 2) := by decide +kernel
theorem dX10_voters_36 : decode cX10_voters 36 = .ok (.iload_n 1, 1) := by decide +kernel
theorem dX10_voters_37 : decode cX10_voters 37 = .ok (.invokevirtual 267, 3) := by decide +kernel
theorem dX10_voters_40 : decode cX10_voters 40 = .ok (.iload_n 2, 1) := by decide +kernel
theorem dX10_voters_41 : decode cX10_voters 41 = .ok (.if_icmp .ne 7, 3) := by decide +kernel
theorem dX10_voters_44 : decode cX10_voters 44 = .ok (.iconst 1, 1) := by decide +kernel
theorem dX10_voters_45 : decode cX10_voters 45 = .ok (.goto 4, 3) := by decide +kernel
theorem dX10_voters_48 : decode cX10_voters 48 = .ok (.iconst 0, 1) := by decide +kernel
theorem dX10_voters_49 : decode cX10_voters 49 = .ok (.iadd, 1) := by decide +kernel
theorem dX10_voters_50 : decode cX10_voters 50 = .ok (.istore 4, 2) := by decide +kernel
theorem dX10_voters_52 : decode cX10_voters 52 = .ok (.iinc 5 1, 3) := by decide +kernel
theorem dX10_voters_55 : decode cX10_voters 55 = .ok (.goto (-49), 3) := by decide +kernel
theorem dX10_voters_58 : decode cX10_voters 58 = .ok (.iload 4, 2) := by decide +kernel
theorem dX10_voters_60 : decode cX10_voters 60 = .ok (.ireturn, 1) := by decide +kernel
set_option maxRecDepth 20000 in
theorem ggX10_guess_X10_voters : GoodIn wsX10_guess wsX10_voters := goodIn_r _ [5, 6, 7, 8, 9, 4, 10, 11, 12, 13, 14, 15, 16, 17, 18, 19, 20, 21, 22, 23, 24, 25, 26, 27, 28, 29, 30, 31, 32, 33, 34, 35, 36, 37, 38, 39, 40, 41, 42, 43, 44, 45, 46, 47, 48, 49, 50, 51, 52, 53, 54, 55, 56, 57, 58, 59, 60, 61, 62, 63] (by decide +kernel) (by decide +kernel)
set_option maxRecDepth 20000 in
theorem gX10_guess_X10_voters : GoodIn wsX10_guess (wsV RX10 270 RX10 yX10_voters wsX10_voters) := goodIn_app (goodIn_of _ (by decide +kernel)) ggX10_guess_X10_voters
theorem dX10_guess_0 : decode cX10_guess 0 = .ok (.iconst 4, 1) := by decide +kernel
theorem dX10_guess_1 : decode cX10_guess 1 = .ok (.istore_n 3, 1) := by decide +kernel
theorem dX10_guess_2 : decode cX10_guess 2 = .ok (.iconst 3, 1) := by decide +kernel
theorem dX10_guess_3 : decode cX10_guess 3 = .ok (.istore 4, 2) := by decide +kernel
theorem dX10_guess_5 : decode cX10_guess 5 = .ok (.iload 4, 2) := by decide +kernel
theorem dX10_guess_7 : decode cX10_guess 7 = .ok (.ifCond .le 34, 3) := by decide +kernel
theorem dX10_guess_10 : decode cX10_guess 10 = .ok (.aload_n 0, 1) := by decide +kernel
theorem dX10_guess_11 : decode cX10_guess 11 = .ok (.iload_n 1, 1) := by decide +kernel
theorem dX10_guess_12 : decode cX10_guess 12 = .ok (.iload 4, 2) := by decide +kernel
theorem dX10_guess_14 : decode cX10_guess 14 = .ok (.iload_n 2, 1) := by decide +kernel
theorem dX10_guess_15 : decode cX10_guess 15 = .ok (.invokevirtual 270, 3) := by decide +kernel
theorem dX10_guess_18 : decode cX10_guess 18 = .ok (.aload_n 0, 1) := by decide +kernel
theorem dX10_guess_19 : decode cX10_guess 19 = .ok (.iload_n 1, 1) := by decide +kernel
theorem dX10_guess_20 : decode cX10_guess 20 = .ok (.iload_n 3, 1) := by decide +kernel
theorem dX10_guess_21 : decode cX10_guess 21 = .ok (.iload_n 2, 1) := by decide +kernel
theorem dX10_guess_22 : decode cX10_guess 22 = .ok (.invokevirtual 270, 3) := by decide +kernel
theorem dX10_guess_25 : decode cX10_guess 25 = .ok (.if_icmp .le 8, 3) := by decide +kernel
theorem dX10_guess_28 : decode cX10_guess 28 = .ok (.iload 4, 2) := by decide +kernel
theorem dX10_guess_30 : decode cX10_guess 30 = .ok (.goto 4, 3) := by decide +kernel
theorem dX10_guess_33 : decode cX10_guess 33 = .ok (.iload_n 3, 1) := by decide +kernel
theorem dX10_guess_34 : decode cX10_guess 34 = .ok (.istore_n 3, 1) := by decide +kernel
theorem dX10_guess_35 : decode cX10_guess 35 = .ok (.iinc 4 (-1), 3) := by decide +kernel
theorem dX10_guess_38 : decode cX10_guess 38 = .ok (.goto (-33), 3) := by decide +kernel
theorem dX10_guess_41 : decode cX10_guess 41 = .ok (.iload_n 3, 1) := by decide +kernel
theorem dX10_guess_42 : decode cX10_guess 42 = .ok (.ireturn, 1) := by decide +kernel
set_option maxRecDepth 20000 in
theorem ggX10_type_X10_guess : GoodIn wsX10_type wsX10_guess := goodIn_r _ [8, 9, 10, 11, 7, 12, 13, 14, 15, 16, 17, 18, 19, 20, 21, 22, 23, 24, 25, 26, 27, 28, 29, 30, 31, 32, 33, 34, 35, 36, 37, 38, 39, 40, 41, 42, 43, 44, 45, 46, 47, 48, 49, 50, 51, 52, 53, 54, 55, 56, 57, 58, 59, 60, 61, 62, 63, 64, 65, 66, 67, 68, 69, 70] (by decide +kernel) (by decide +kernel)
set_option maxRecDepth 20000 in
theorem gX10_type_X10_guess : GoodIn wsX10_type (wsV RX10 274 RX10 yX10_guess wsX10_guess) := goodIn_app (goodIn_of _ (by decide +kernel)) ggX10_type_X10_guess
theorem dX10_type_0 : decode cX10_type 0 = .ok (.aload_n 0, 1) := by decide +kernel
theorem dX10_type_1 : decode cX10_type 1 = .ok (.getfield 28, 3) := by decide +kernel
theorem dX10_type_4 : decode cX10_type 4 = .ok (.iload_n 1, 1) := by decide +kernel
theorem dX10_type_5 : decode cX10_type 5 = .ok (.iaload, 1) := by decide +kernel
theorem dX10_type_6 : decode cX10_type 6 = .ok (.ifCond .eq 12, 3) := by decide +kernel
theorem dX10_type_9 : decode cX10_type 9 = .ok (.aload_n 0, 1) := by decide +kernel
theorem dX10_type_10 : decode cX10_type 10 = .ok (.getfield 28, 3) := by decide +kernel
theorem dX10_type_13 : decode cX10_type 13 = .ok (.iload_n 1, 1) := by decide +kernel
