theorem dX0_isDate_0 : decode cX0_isDate 0 = .ok (.aload_n 0, 1) := by decide +kernel
theorem dX0_isDate_1 : decode cX0_isDate 1 = .ok (.ldc 9, 2) := by decide +kernel
theorem dX0_isDate_3 : decode cX0_isDate 3 = .ok (.invokestatic 11, 3) := by decide +kernel
theorem dX0_isDate_6 : decode cX0_isDate 6 = .ok (.ifCond .ne 14, 3) := by decide +kernel
theorem dX0_isDate_9 : decode cX0_isDate 9 = .ok (.aload_n 0, 1) := by decide +kernel
theorem dX0_isDate_10 : decode cX0_isDate 10 = .ok (.ldc 15, 2) := by decide +kernel
theorem dX0_isDate_12 : decode cX0_isDate 12 = .ok (.invokestatic 11, 3) := by decide +kernel
theorem dX0_isDate_15 : decode cX0_isDate 15 = .ok (.ifCond .ne 5, 3) := by decide +kernel
theorem dX0_isDate_18 : decode cX0_isDate 18 = .ok (.iconst 0, 1) := by decide +kernel
theorem dX0_isDate_19 : decode cX0_isDate 19 = .ok (.ireturn, 1) := by decide +kernel
theorem dX0_isDate_20 : decode cX0_isDate 20 = .ok (.aload_n 0, 1) := by decide +kernel
theorem dX0_isDate_21 : decode cX0_isDate 21 = .ok (.invokestatic 17, 3) := by decide +kernel
theorem dX0_isDate_24 : decode cX0_isDate 24 = .ok (.istore_n 1, 1) := by decide +kernel
theorem dX0_isDate_25 : decode cX0_isDate 25 = .ok (.aload_n 0, 1) := by decide +kernel
theorem dX0_isDate_26 : decode cX0_isDate 26 = .ok (.invokestatic 21, 3) := by decide +kernel
theorem dX0_isDate_29 : decode cX0_isDate 29 = .ok (.istore_n 2, 1) := by decide +kernel
theorem dX0_isDate_30 : decode cX0_isDate 30 = .ok (.aload_n 0, 1) := by decide +kernel
theorem dX0_isDate_31 : decode cX0_isDate 31 = .ok (.invokestatic 24, 3) := by decide +kernel
theorem dX0_isDate_34 : decode cX0_isDate 34 = .ok (.istore_n 3, 1) := by decide +kernel
theorem dX0_isDate_35 : decode cX0_isDate 35 = .ok (.iload_n 1, 1) := by decide +kernel
theorem dX0_isDate_36 : decode cX0_isDate 36 = .ok (.sipush 1900, 3) := by decide +kernel
theorem dX0_isDate_39 : decode cX0_isDate 39 = .ok (.if_icmp .lt 28, 3) := by decide +kernel
theorem dX0_isDate_42 : decode cX0_isDate 42 = .ok (.iload_n 1, 1) := by decide +kernel
theorem dX0_isDate_43 : decode cX0_isDate 43 = .ok (.sipush 2099, 3) := by decide +kernel
theorem dX0_isDate_46 : decode cX0_isDate 46 = .ok (.if_icmp .gt 21, 3) := by decide +kernel
theorem dX0_isDate_49 : decode cX0_isDate 49 = .ok (.iload_n 3, 1) := by decide +kernel
theorem dX0_isDate_50 : decode cX0_isDate 50 = .ok (.iconst 1, 1) := by decide +kernel
theorem dX0_isDate_51 : decode cX0_isDate 51 = .ok (.if_icmp .lt 16, 3) := by decide +kernel
theorem dX0_isDate_54 : decode cX0_isDate 54 = .ok (.iload_n 3, 1) := by decide +kernel
theorem dX0_isDate_55 : decode cX0_isDate 55 = .ok (.iload_n 1, 1) := by decide +kernel
theorem dX0_isDate_56 : decode cX0_isDate 56 = .ok (.iload_n 2, 1) := by decide +kernel
theorem dX0_isDate_57 : decode cX0_isDate 57 = .ok (.invokestatic 27, 3) := by decide +kernel
theorem dX0_isDate_60 : decode cX0_isDate 60 = .ok (.if_icmp .gt 7, 3) := by decide +kernel
theorem dX0_isDate_63 : decode cX0_isDate 63 = .ok (.iconst 1, 1) := by decide +kernel
theorem dX0_isDate_64 : decode cX0_isDate 64 = .ok (.goto 4, 3) := by decide +kernel
theorem dX0_isDate_67 : decode cX0_isDate 67 = .ok (.iconst 0, 1) := by decide +kernel
theorem dX0_isDate_68 : decode cX0_isDate 68 = .ok (.ireturn, 1) := by decide +kernel
set_option maxRecDepth 20000 in
theorem ggX0_yearIn_X0_isDayFirst : GoodIn wsX0_yearIn wsX0_isDayFirst := goodIn_r _ [4] (by decide +kernel) (by decide +kernel)
set_option maxRecDepth 20000 in
theorem gX0_yearIn_X0_isDayFirst : GoodIn wsX0_yearIn (va_wsS RX0 31 yX0_isDayFirst wsX0_isDayFirst) := goodIn_app (goodIn_of _ (by decide +kernel)) ggX0_yearIn_X0_isDayFirst
set_option maxRecDepth 20000 in
theorem ggX0_yearIn_X0_digits : GoodIn wsX0_yearIn wsX0_digits := goodIn_r _ [7] (by decide +kernel) (by decide +kernel)
set_option maxRecDepth 20000 in
theorem gX0_yearIn_X0_digits : GoodIn wsX0_yearIn (va_wsS RX0 35 yX0_digits wsX0_digits) := goodIn_app (goodIn_of _ (by decide +kernel)) ggX0_yearIn_X0_digits
theorem dX0_yearIn_0 : decode cX0_yearIn 0 = .ok (.aload_n 0, 1) := by decide +kernel
theorem dX0_yearIn_1 : decode cX0_yearIn 1 = .ok (.invokestatic 31, 3) := by decide +kernel
theorem dX0_yearIn_4 : decode cX0_yearIn 4 = .ok (.ifCond .eq 14, 3) := by decide +kernel
theorem dX0_yearIn_7 : decode cX0_yearIn 7 = .ok (.aload_n 0, 1) := by decide +kernel
theorem dX0_yearIn_8 : decode cX0_yearIn 8 = .ok (.bipush 6, 2) := by decide +kernel
theorem dX0_yearIn_10 : decode cX0_yearIn 10 = .ok (.bipush 10, 2) := by decide +kernel
theorem dX0_yearIn_12 : decode cX0_yearIn 12 = .ok (.invokestatic 35, 3) := by decide +kernel
theorem dX0_yearIn_15 : decode cX0_yearIn 15 = .ok (.goto 9, 3) := by decide +kernel
theorem dX0_yearIn_18 : decode cX0_yearIn 18 = .ok (.aload_n 0, 1) := by decide +kernel
theorem dX0_yearIn_19 : decode cX0_yearIn 19 = .ok (.iconst 0, 1) := by decide +kernel
theorem dX0_yearIn_20 : decode cX0_yearIn 20 = .ok (.iconst 4, 1) := by decide +kernel
theorem dX0_yearIn_21 : decode cX0_yearIn 21 = .ok (.invokestatic 35, 3) := by decide +kernel
theorem dX0_yearIn_24 : decode cX0_yearIn 24 = .ok (.ireturn, 1) := by decide +kernel
set_option maxRecDepth 20000 in
theorem ggX0_monthIn_X0_isDayFirst : GoodIn wsX0_monthIn wsX0_isDayFirst := goodIn_r _ [4] (by decide +kernel) (by decide +kernel)
set_option maxRecDepth 20000 in
theorem gX0_monthIn_X0_isDayFirst : GoodIn wsX0_monthIn (va_wsS RX0 31 yX0_isDayFirst wsX0_isDayFirst) := goodIn_app (goodIn_of _ (by decide +kernel)) ggX0_monthIn_X0_isDayFirst
set_option maxRecDepth 20000 in
theorem ggX0_monthIn_X0_digits : GoodIn wsX0_monthIn wsX0_digits := goodIn_r _ [7] (by decide +kernel) (by decide +kernel)
set_option maxRecDepth 20000 in
theorem gX0_monthIn_X0_digits : GoodIn wsX0_monthIn (va_wsS RX0 35 yX0_digits wsX0_digits) := goodIn_app (goodIn_of _ (by decide +kernel)) ggX0_monthIn_X0_digits
theorem dX0_monthIn_0 : decode cX0_monthIn 0 = .ok (.aload_n 0, 1) := by decide +kernel
theorem dX0_monthIn_1 : decode cX0_monthIn 1 = .ok (.invokestatic 31, 3) := by decide +kernel
theorem dX0_monthIn_4 : decode cX0_monthIn 4 = .ok (.ifCond .eq 12, 3) := by decide +kernel
theorem dX0_monthIn_7 : decode cX0_monthIn 7 = .ok (.aload_n 0, 1) := by decide +kernel
theorem dX0_monthIn_8 : decode cX0_monthIn 8 = .ok (.iconst 3, 1) := by decide +kernel
theorem dX0_monthIn_9 : decode cX0_monthIn 9 = .ok (.iconst 5, 1) := by decide +kernel
theorem dX0_monthIn_10 : decode cX0_monthIn 10 = .ok (.invokestatic 35, 3) := by decide +kernel
theorem dX0_monthIn_13 : decode cX0_monthIn 13 = .ok (.goto 10, 3) := by decide +kernel
theorem dX0_monthIn_16 : decode cX0_monthIn 16 = .ok (.aload_n 0, 1) := by decide +kernel
theorem dX0_monthIn_17 : decode cX0_monthIn 17 = .ok (.iconst 5, 1) := by decide +kernel
theorem dX0_monthIn_18 : decode cX0_monthIn 18 = .ok (.bipush 7, 2) := by decide +kernel
theorem dX0_monthIn_20 : decode cX0_monthIn 20 = .ok (.invokestatic 35, 3) := by decide +kernel
theorem dX0_monthIn_23 : decode cX0_monthIn 23 = .ok (.ireturn, 1) := by decide +kernel
set_option maxRecDepth 20000 in
theorem ggX0_dayIn_X0_isDayFirst : GoodIn wsX0_dayIn wsX0_isDayFirst := goodIn_r _ [4] (by decide +kernel) (by decide +kernel)
set_option maxRecDepth 20000 in
theorem gX0_dayIn_X0_isDayFirst : GoodIn wsX0_dayIn (va_wsS RX0 31 yX0_isDayFirst wsX0_isDayFirst) := goodIn_app (goodIn_of _ (by decide +kernel)) ggX0_dayIn_X0_isDayFirst
set_option maxRecDepth 20000 in
theorem ggX0_dayIn_X0_digits : GoodIn wsX0_dayIn wsX0_digits := goodIn_r _ [7] (by decide +kernel) (by decide +kernel)
set_option maxRecDepth 20000 in
theorem gX0_dayIn_X0_digits : GoodIn wsX0_dayIn (va_wsS RX0 35 yX0_digits wsX0_digits) := goodIn_app (goodIn_of _ (by decide +kernel)) ggX0_dayIn_X0_digits
theorem dX0_dayIn_0 : decode cX0_dayIn 0 = .ok (.aload_n 0, 1) := by decide +kernel
theorem dX0_dayIn_1 : decode cX0_dayIn 1 = .ok (.invokestatic 31, 3) := by decide +kernel
theorem dX0_dayIn_4 : decode cX0_dayIn 4 = .ok (.ifCond .eq 12, 3) := by decide +kernel
theorem dX0_dayIn_7 : decode cX0_dayIn 7 = .ok (.aload_n 0, 1) := by decide +kernel
theorem dX0_dayIn_8 : decode cX0_dayIn 8 = .ok (.iconst 0, 1) := by decide +kernel
theorem dX0_dayIn_9 : decode cX0_dayIn 9 = .ok (.iconst 2, 1) := by decide +kernel
theorem dX0_dayIn_10 : decode cX0_dayIn 10 = .ok (.invokestatic 35, 3) := by decide +kernel
theorem dX0_dayIn_13 : decode cX0_dayIn 13 = .ok (.goto 11, 3) := by decide +kernel
theorem dX0_dayIn_16 : decode cX0_dayIn 16 = .ok (.aload_n 0, 1) := by decide +kernel
theorem dX0_dayIn_17 : decode cX0_dayIn 17 = .ok (.bipush 8, 2) := by decide +kernel
theorem dX0_dayIn_19 : decode cX0_dayIn 19 = .ok (.bipush 10, 2) := by decide +kernel
theorem dX0_dayIn_21 : decode cX0_dayIn 21 = .ok (.invokestatic 35, 3) := by decide +kernel
theorem dX0_dayIn_24 : decode cX0_dayIn 24 = .ok (.ireturn, 1) := by decide +kernel
set_option maxRecDepth 20000 in
theorem ggX0_since2000_X0_yearIn : GoodIn wsX0_since2000 wsX0_yearIn := goodIn_r _ [5, 6, 7, 4, 8, 9, 10, 11] (by decide +kernel) (by decide +kernel)
set_option maxRecDepth 20000 in
theorem gX0_since2000_X0_yearIn : GoodIn wsX0_since2000 (va_wsS RX0 17 yX0_yearIn wsX0_yearIn) := goodIn_app (goodIn_of _ (by decide +kernel)) ggX0_since2000_X0_yearIn
set_option maxRecDepth 20000 in
theorem ggX0_since2000_X0_monthIn : GoodIn wsX0_since2000 wsX0_monthIn := goodIn_r _ [14, 6, 7, 4, 8, 9, 10, 11] (by decide +kernel) (by decide +kernel)
set_option maxRecDepth 20000 in
theorem gX0_since2000_X0_monthIn : GoodIn wsX0_since2000 (va_wsS RX0 21 yX0_monthIn wsX0_monthIn) := goodIn_app (goodIn_of _ (by decide +kernel)) ggX0_since2000_X0_monthIn
set_option maxRecDepth 20000 in
theorem ggX0_since2000_X0_isLeap : GoodIn wsX0_since2000 wsX0_isLeap := goodIn_r _ [17] (by decide +kernel) (by decide +kernel)
set_option maxRecDepth 20000 in
theorem gX0_since2000_X0_isLeap : GoodIn wsX0_since2000 (va_wsS RX0 39 yX0_isLeap wsX0_isLeap) := goodIn_app (goodIn_of _ (by decide +kernel)) ggX0_since2000_X0_isLeap
set_option maxRecDepth 20000 in
theorem ggX0_since2000_X0_dayIn : GoodIn wsX0_since2000 wsX0_dayIn := goodIn_r _ [20, 6, 7, 4, 8, 9, 10, 11] (by decide +kernel) (by decide +kernel)
set_option maxRecDepth 20000 in
theorem gX0_since2000_X0_dayIn : GoodIn wsX0_since2000 (va_wsS RX0 24 yX0_dayIn wsX0_dayIn) := goodIn_app (goodIn_of _ (by decide +kernel)) ggX0_since2000_X0_dayIn
set_option maxRecDepth 20000 in
theorem ggX0_since2000_X0_aheadOfYear : GoodIn wsX0_since2000 wsX0_aheadOfYear := goodIn_r _ [23] (by decide +kernel) (by decide +kernel)
set_option maxRecDepth 20000 in
theorem gX0_since2000_X0_aheadOfYear : GoodIn wsX0_since2000 (va_wsS RX0 47 yX0_aheadOfYear wsX0_aheadOfYear) := goodIn_app (goodIn_of _ (by decide +kernel)) ggX0_since2000_X0_aheadOfYear
theorem dX0_since2000_0 : decode cX0_since2000 0 = .ok (.aload_n 0, 1) := by decide +kernel
theorem dX0_since2000_1 : decode cX0_since2000 1 = .ok (.invokestatic 17, 3) := by decide +kernel
theorem dX0_since2000_4 : decode cX0_since2000 4 = .ok (.istore_n 1, 1) := by decide +kernel
theorem dX0_since2000_5 : decode cX0_since2000 5 = .ok (.aload_n 0, 1) := by decide +kernel
theorem dX0_since2000_6 : decode cX0_since2000 6 = .ok (.invokestatic 21, 3) := by decide +kernel
theorem dX0_since2000_9 : decode cX0_since2000 9 = .ok (.istore_n 2, 1) := by decide +kernel
theorem dX0_since2000_10 : decode cX0_since2000 10 = .ok (.iload_n 2, 1) := by decide +kernel
theorem dX0_since2000_11 : decode cX0_since2000 11 = .ok (.iconst 1, 1) := by decide +kernel
theorem dX0_since2000_12 : decode cX0_since2000 12 = .ok (.if_icmp .lt 9, 3) := by decide +kernel
theorem dX0_since2000_15 : decode cX0_since2000 15 = .ok (.iload_n 2, 1) := by decide +kernel
theorem dX0_since2000_16 : decode cX0_since2000 16 = .ok (.bipush 12, 2) := by decide +kernel
theorem dX0_since2000_18 : decode cX0_since2000 18 = .ok (.if_icmp .le 5, 3) := by decide +kernel
theorem dX0_since2000_21 : decode cX0_since2000 21 = .ok (.lconst 0, 1) := by decide +kernel
theorem dX0_since2000_22 : decode cX0_since2000 22 = .ok (.lreturn, 1) := by decide +kernel
theorem dX0_since2000_23 : decode cX0_since2000 23 = .ok (.iload_n 2, 1) := by decide +kernel
theorem dX0_since2000_24 : decode cX0_since2000 24 = .ok (.iconst 2, 1) := by decide +kernel
theorem dX0_since2000_25 : decode cX0_since2000 25 = .ok (.if_icmp .le 14, 3) := by decide +kernel
theorem dX0_since2000_28 : decode cX0_since2000 28 = .ok (.iload_n 1, 1) := by decide +kernel
theorem dX0_since2000_29 : decode cX0_since2000 29 = .ok (.invokestatic 39, 3) := by decide +kernel
theorem dX0_since2000_32 : decode cX0_since2000 32 = .ok (.ifCond .eq 7, 3) := by decide +kernel
theorem dX0_since2000_35 : decode cX0_since2000 35 = .ok (.iconst 1, 1) := by decide +kernel
theorem dX0_since2000_36 : decode cX0_since2000 36 = .ok (.goto 4, 3) := by decide +kernel
theorem dX0_since2000_39 : decode cX0_since2000 39 = .ok (.iconst 0, 1) := by decide +kernel
theorem dX0_since2000_40 : decode cX0_since2000 40 = .ok (.istore_n 3, 1) := by decide +kernel
theorem dX0_since2000_41 : decode cX0_since2000 41 = .ok (.getstatic 43, 3) := by decide +kernel
theorem dX0_since2000_44 : decode cX0_since2000 44 = .ok (.iload_n 2, 1) := by decide +kernel
theorem dX0_since2000_45 : decode cX0_since2000 45 = .ok (.iconst 1, 1) := by decide +kernel
theorem dX0_since2000_46 : decode cX0_since2000 46 = .ok (.isub, 1) := by decide +kernel
theorem dX0_since2000_47 : decode cX0_since2000 47 = .ok (.iaload, 1) := by decide +kernel
theorem dX0_since2000_48 : decode cX0_since2000 48 = .ok (.iload_n 3, 1) := by decide +kernel
theorem dX0_since2000_49 : decode cX0_since2000 49 = .ok (.iadd, 1) := by decide +kernel
theorem dX0_since2000_50 : decode cX0_since2000 50 = .ok (.aload_n 0, 1) := by decide +kernel
theorem dX0_since2000_51 : decode cX0_since2000 51 = .ok (.invokestatic 24, 3) := by decide +kernel
theorem dX0_since2000_54 : decode cX0_since2000 54 = .ok (.iadd, 1) := by decide +kernel
theorem dX0_since2000_55 : decode cX0_since2000 55 = .ok (.iconst 1, 1) := by decide +kernel
theorem dX0_since2000_56 : decode cX0_since2000 56 = .ok (.isub, 1) := by decide +kernel
theorem dX0_since2000_57 : decode cX0_since2000 57 = .ok (.istore 4, 2) := by decide +kernel
theorem dX0_since2000_59 : decode cX0_since2000 59 = .ok (.iload_n 1, 1) := by decide +kernel
theorem dX0_since2000_60 : decode cX0_since2000 60 = .ok (.invokestatic 47, 3) := by decide +kernel
theorem dX0_since2000_63 : decode cX0_since2000 63 = .ok (.sipush 2000, 3) := by decide +kernel
theorem dX0_since2000_66 : decode cX0_since2000 66 = .ok (.invokestatic 47, 3) := by decide +kernel
theorem dX0_since2000_69 : decode cX0_since2000 69 = .ok (.isub, 1) := by decide +kernel
theorem dX0_since2000_70 : decode cX0_since2000 70 = .ok (.iload 4, 2) := by decide +kernel
theorem dX0_since2000_72 : decode cX0_since2000 72 = .ok (.iadd, 1) := by decide +kernel
theorem dX0_since2000_73 : decode cX0_since2000 73 = .ok (.i2l, 1) := by decide +kernel
theorem dX0_since2000_74 : decode cX0_since2000 74 = .ok (.lreturn, 1) := by decide +kernel
theorem dX0_isDayFirst_0 : decode cX0_isDayFirst 0 = .ok (.aload_n 0, 1) := by decide +kernel
theorem dX0_isDayFirst_1 : decode cX0_isDayFirst 1 = .ok (.arraylength, 1) := by decide +kernel
theorem dX0_isDayFirst_2 : decode cX0_isDayFirst 2 = .ok (.iconst 2, 1) := by decide +kernel
theorem dX0_isDayFirst_3 : decode cX0_isDayFirst 3 = .ok (.if_icmp .le 15, 3) := by decide +kernel
theorem dX0_isDayFirst_6 : decode cX0_isDayFirst 6 = .ok (.aload_n 0, 1) := by decide +kernel
theorem dX0_isDayFirst_7 : decode cX0_isDayFirst 7 = .ok (.iconst 2, 1) := by decide +kernel
theorem dX0_isDayFirst_8 : decode cX0_isDayFirst 8 = .ok (.baload, 1) := by decide +kernel
theorem dX0_isDayFirst_9 : decode cX0_isDayFirst 9 = .ok (.bipush 47, 2) := by decide +kernel
theorem dX0_isDayFirst_11 : decode cX0_isDayFirst 11 = .ok (.if_icmp .ne 7, 3) := by decide +kernel
theorem dX0_isDayFirst_14 : decode cX0_isDayFirst 14 = .ok (.iconst 1, 1) := by decide +kernel
theorem dX0_isDayFirst_15 : decode cX0_isDayFirst 15 = .ok (.goto 4, 3) := by decide +kernel
theorem dX0_isDayFirst_18 : decode cX0_isDayFirst 18 = .ok (.iconst 0, 1) := by decide +kernel
theorem dX0_isDayFirst_19 : decode cX0_isDayFirst 19 = .ok (.ireturn, 1) := by decide +kernel
set_option maxRecDepth 20000 in
theorem ggX0_looksLike_J0_length_8abf5 : GoodIn wsX0_looksLike wsJ0_length_8abf5 := goodIn_r _ [5, 6, 7, 8, 9, 4, 10, 11, 12] (by decide +kernel) (by decide +kernel)
set_option maxRecDepth 20000 in
theorem gX0_looksLike_J0_length_8abf5 : GoodIn wsX0_looksLike (wsV RX0 51 RJ0 yJ0_length_8abf5 wsJ0_length_8abf5) := goodIn_app (goodIn_of _ (by decide +kernel)) ggX0_looksLike_J0_length_8abf5
set_option maxRecDepth 20000 in
theorem ggX0_looksLike_J0_charAt_5068e : GoodIn wsX0_looksLike wsJ0_charAt_5068e := goodIn_r _ [16, 6, 17, 18, 19, 4, 20, 11, 12, 21, 22, 23, 24, 25, 26, 27, 28, 29, 30, 31, 32, 33, 34, 35, 36, 37, 38, 39, 40, 41, 42, 43, 44, 45, 46, 47, 48, 49] (by decide +kernel) (by decide +kernel)
set_option maxRecDepth 20000 in
theorem gX0_looksLike_J0_charAt_5068e : GoodIn wsX0_looksLike (wsV RX0 57 RJ0 yJ0_charAt_5068e wsJ0_charAt_5068e) := goodIn_app (goodIn_of _ (by decide +kernel)) ggX0_looksLike_J0_charAt_5068e
set_option maxRecDepth 20000 in
theorem ggX0_looksLike_X0_isDigit : GoodIn wsX0_looksLike wsX0_isDigit := goodIn_r _ [53] (by decide +kernel) (by decide +kernel)
set_option maxRecDepth 20000 in
theorem gX0_looksLike_X0_isDigit : GoodIn wsX0_looksLike (va_wsS RX0 61 yX0_isDigit wsX0_isDigit) := goodIn_app (goodIn_of _ (by decide +kernel)) ggX0_looksLike_X0_isDigit
theorem dX0_looksLike_0 : decode cX0_looksLike 0 = .ok (.aload_n 0, 1) := by decide +kernel
theorem dX0_looksLike_1 : decode cX0_looksLike 1 = .ok (.arraylength, 1) := by decide +kernel
theorem dX0_looksLike_2 : decode cX0_looksLike 2 = .ok (.aload_n 1, 1) := by decide +kernel
theorem dX0_looksLike_3 : decode cX0_looksLike 3 = .ok (.invokevirtual 51, 3) := by decide +kernel
theorem dX0_looksLike_6 : decode cX0_looksLike 6 = .ok (.if_icmp .eq 5, 3) := by decide +kernel
theorem dX0_looksLike_9 : decode cX0_looksLike 9 = .ok (.iconst 0, 1) := by decide +kernel
theorem dX0_looksLike_10 : decode cX0_looksLike 10 = .ok (.ireturn, 1) := by decide +kernel
theorem dX0_looksLike_11 : decode cX0_looksLike 11 = .ok (.iconst 0, 1) := by decide +kernel
theorem dX0_looksLike_12 : decode cX0_looksLike 12 = .ok (.istore_n 2, 1) := by decide +kernel
theorem dX0_looksLike_13 : decode cX0_looksLike 13 = .ok (.iload_n 2, 1) := by decide +kernel
theorem dX0_looksLike_14 : decode cX0_looksLike 14 = .ok (.aload_n 0, 1) := by decide +kernel
theorem dX0_looksLike_15 : decode cX0_looksLike 15 = .ok (.arraylength, 1) := by decide +kernel
theorem dX0_looksLike_16 : decode cX0_looksLike 16 = .ok (.if_icmp .ge 51, 3) := by decide +kernel
theorem dX0_looksLike_19 : decode cX0_looksLike 19 = .ok (.aload_n 1, 1) := by decide +kernel
theorem dX0_looksLike_20 : decode cX0_looksLike 20 = .ok (.iload_n 2, 1) := by decide +kernel
theorem dX0_looksLike_21 : decode cX0_looksLike 21 = .ok (.invokevirtual 57, 3) := by decide +kernel
theorem dX0_looksLike_24 : decode cX0_looksLike 24 = .ok (.istore_n 3, 1) := by decide +kernel
theorem dX0_looksLike_25 : decode cX0_looksLike 25 = .ok (.iload_n 3, 1) := by decide +kernel
theorem dX0_looksLike_26 : decode cX0_looksLike 26 = .ok (.bipush 48, 2) := by decide +kernel
theorem dX0_looksLike_28 : decode cX0_looksLike 28 = .ok (.if_icmp .ne 12, 3) := by decide +kernel
theorem dX0_looksLike_31 : decode cX0_looksLike 31 = .ok (.aload_n 0, 1) := by decide +kernel
theorem dX0_looksLike_32 : decode cX0_looksLike 32 = .ok (.iload_n 2, 1) := by decide +kernel
theorem dX0_looksLike_33 : decode cX0_looksLike 33 = .ok (.baload, 1) := by decide +kernel
theorem dX0_looksLike_34 : decode cX0_looksLike 34 = .ok (.invokestatic 61, 3) := by decide +kernel
theorem dX0_looksLike_37 : decode cX0_looksLike 37 = .ok (.goto 15, 3) := by decide +kernel
theorem dX0_looksLike_40 : decode cX0_looksLike 40 = .ok (.aload_n 0, 1) := by decide +kernel
theorem dX0_looksLike_41 : decode cX0_looksLike 41 = .ok (.iload_n 2, 1) := by decide +kernel
theorem dX0_looksLike_42 : decode cX0_looksLike 42 = .ok (.baload, 1) := by decide +kernel
theorem dX0_looksLike_43 : decode cX0_looksLike 43 = .ok (.iload_n 3, 1) := by decide +kernel
theorem dX0_looksLike_44 : decode cX0_looksLike 44 = .ok (.if_icmp .ne 7, 3) := by decide +kernel
theorem dX0_looksLike_47 : decode cX0_looksLike 47 = .ok (.iconst 1, 1) := by decide +kernel
theorem dX0_looksLike_48 : decode cX0_looksLike 48 = .ok (.goto 4, 3) := by decide +kernel
theorem dX0_looksLike_51 : decode cX0_looksLike 51 = .ok (.iconst 0, 1) := by decide +kernel
theorem dX0_looksLike_52 : decode cX0_looksLike 52 = .ok (.istore 4, 2) := by decide +kernel
theorem dX0_looksLike_54 : decode cX0_looksLike 54 = .ok (.iload 4, 2) := by decide +kernel
theorem dX0_looksLike_56 : decode cX0_looksLike 56 = .ok (.ifCond .ne 5, 3) := by decide +kernel
theorem dX0_looksLike_59 : decode cX0_looksLike 59 = .ok (.iconst 0, 1) := by decide +kernel
theorem dX0_looksLike_60 : decode cX0_looksLike 60 = .ok (.ireturn, 1) := by decide +kernel
theorem dX0_looksLike_61 : decode cX0_looksLike 61 = .ok (.iinc 2 1, 3) := by decide +kernel
theorem dX0_looksLike_64 : decode cX0_looksLike 64 = .ok (.goto (-51), 3) := by decide +kernel
theorem dX0_looksLike_67 : decode cX0_looksLike 67 = .ok (.iconst 1, 1) := by decide +kernel
theorem dX0_looksLike_68 : decode cX0_looksLike 68 = .ok (.ireturn, 1) := by decide +kernel
theorem dX0_digits_0 : decode cX0_digits 0 = .ok (.iconst 0, 1) := by decide +kernel
theorem dX0_digits_1 : decode cX0_digits 1 = .ok (.istore_n 3, 1) := by decide +kernel
theorem dX0_digits_2 : decode cX0_digits 2 = .ok (.iload_n 1, 1) := by decide +kernel
theorem dX0_digits_3 : decode cX0_digits 3 = .ok (.istore 4, 2) := by decide +kernel
theorem dX0_digits_5 : decode cX0_digits 5 = .ok (.iload 4, 2) := by decide +kernel
theorem dX0_digits_7 : decode cX0_digits 7 = .ok (.iload_n 2, 1) := by decide +kernel
theorem dX0_digits_8 : decode cX0_digits 8 = .ok (.if_icmp .ge 29, 3) := by decide +kernel
theorem dX0_digits_11 : decode cX0_digits 11 = .ok (.iload 4, 2) := by decide +kernel
theorem dX0_digits_13 : decode cX0_digits 13 = .ok (.aload_n 0, 1) := by decide +kernel
theorem dX0_digits_14 : decode cX0_digits 14 = .ok (.arraylength, 1) := by decide +kernel
theorem dX0_digits_15 : decode cX0_digits 15 = .ok (.if_icmp .ge 22, 3) := by decide +kernel
theorem dX0_digits_18 : decode cX0_digits 18 = .ok (.iload_n 3, 1) := by decide +kernel
theorem dX0_digits_19 : decode cX0_digits 19 = .ok (.bipush 10, 2) := by decide +kernel
theorem dX0_digits_21 : decode cX0_digits 21 = .ok (.imul, 1) := by decide +kernel
theorem dX0_digits_22 : decode cX0_digits 22 = .ok (.aload_n 0, 1) := by decide +kernel
theorem dX0_digits_23 : decode cX0_digits 23 = .ok (.iload 4, 2) := by decide +kernel
theorem dX0_digits_25 : decode cX0_digits 25 = .ok (.baload, 1) := by decide +kernel
theorem dX0_digits_26 : decode cX0_digits 26 = .ok (.iadd, 1) := by decide +kernel
theorem dX0_digits_27 : decode cX0_digits 27 = .ok (.bipush 48, 2) := by decide +kernel
theorem dX0_digits_29 : decode cX0_digits 29 = .ok (.isub, 1) := by decide +kernel
theorem dX0_digits_30 : decode cX0_digits 30 = .ok (.istore_n 3, 1) := by decide +kernel
theorem dX0_digits_31 : decode cX0_digits 31 = .ok (.iinc 4 1, 3) := by decide +kernel
theorem dX0_digits_34 : decode cX0_digits 34 = .ok (.goto (-29), 3) := by decide +kernel
theorem dX0_digits_37 : decode cX0_digits 37 = .ok (.iload_n 3, 1) := by decide +kernel
theorem dX0_digits_38 : decode cX0_digits 38 = .ok (.ireturn, 1) := by decide +kernel
theorem dX0_isLeap_0 : decode cX0_isLeap 0 = .ok (.iload_n 0, 1) := by decide +kernel
theorem dX0_isLeap_1 : decode cX0_isLeap 1 = .ok (.iconst 4, 1) := by decide +kernel
theorem dX0_isLeap_2 : decode cX0_isLeap 2 = .ok (.irem, 1) := by decide +kernel
theorem dX0_isLeap_3 : decode cX0_isLeap 3 = .ok (.ifCond .ne 22, 3) := by decide +kernel
theorem dX0_isLeap_6 : decode cX0_isLeap 6 = .ok (.iload_n 0, 1) := by decide +kernel
theorem dX0_isLeap_7 : decode cX0_isLeap 7 = .ok (.bipush 100, 2) := by decide +kernel
theorem dX0_isLeap_9 : decode cX0_isLeap 9 = .ok (.irem, 1) := by decide +kernel
theorem dX0_isLeap_10 : decode cX0_isLeap 10 = .ok (.ifCond .ne 11, 3) := by decide +kernel
theorem dX0_isLeap_13 : decode cX0_isLeap 13 = .ok (.iload_n 0, 1) := by decide +kernel
theorem dX0_isLeap_14 : decode cX0_isLeap 14 = .ok (.sipush 400, 3) := by decide +kernel
theorem dX0_isLeap_17 : decode cX0_isLeap 17 = .ok (.irem, 1) := by decide +kernel
theorem dX0_isLeap_18 : decode cX0_isLeap 18 = .ok (.ifCond .ne 7, 3) := by decide +kernel
theorem dX0_isLeap_21 : decode cX0_isLeap 21 = .ok (.iconst 1, 1) := by decide +kernel
theorem dX0_isLeap_22 : decode cX0_isLeap 22 = .ok (.goto 4, 3) := by decide +kernel
theorem dX0_isLeap_25 : decode cX0_isLeap 25 = .ok (.iconst 0, 1) := by decide +kernel
theorem dX0_isLeap_26 : decode cX0_isLeap 26 = .ok (.ireturn, 1) := by decide +kernel
set_option maxRecDepth 20000 in
theorem ggX0_lengthOf_X0_isLeap : GoodIn wsX0_lengthOf wsX0_isLeap := goodIn_r _ [5] (by decide +kernel) (by decide +kernel)
set_option maxRecDepth 20000 in
theorem gX0_lengthOf_X0_isLeap : GoodIn wsX0_lengthOf (va_wsS RX0 39 yX0_isLeap wsX0_isLeap) := goodIn_app (goodIn_of _ (by decide +kernel)) ggX0_lengthOf_X0_isLeap
theorem dX0_lengthOf_0 : decode cX0_lengthOf 0 = .ok (.iload_n 1, 1) := by decide +kernel
theorem dX0_lengthOf_1 : decode cX0_lengthOf 1 = .ok (.iconst 1, 1) := by decide +kernel
theorem dX0_lengthOf_2 : decode cX0_lengthOf 2 = .ok (.if_icmp .lt 9, 3) := by decide +kernel
theorem dX0_lengthOf_5 : decode cX0_lengthOf 5 = .ok (.iload_n 1, 1) := by decide +kernel
theorem dX0_lengthOf_6 : decode cX0_lengthOf 6 = .ok (.bipush 12, 2) := by decide +kernel
theorem dX0_lengthOf_8 : decode cX0_lengthOf 8 = .ok (.if_icmp .le 5, 3) := by decide +kernel
theorem dX0_lengthOf_11 : decode cX0_lengthOf 11 = .ok (.iconst 0, 1) := by decide +kernel
theorem dX0_lengthOf_12 : decode cX0_lengthOf 12 = .ok (.ireturn, 1) := by decide +kernel
theorem dX0_lengthOf_13 : decode cX0_lengthOf 13 = .ok (.iload_n 1, 1) := by decide +kernel
theorem dX0_lengthOf_14 : decode cX0_lengthOf 14 = .ok (.iconst 2, 1) := by decide +kernel
theorem dX0_lengthOf_15 : decode cX0_lengthOf 15 = .ok (.if_icmp .ne 14, 3) := by decide +kernel
theorem dX0_lengthOf_18 : decode cX0_lengthOf 18 = .ok (.iload_n 0, 1) := by decide +kernel
theorem dX0_lengthOf_19 : decode cX0_lengthOf 19 = .ok (.invokestatic 39, 3) := by decide +kernel
theorem dX0_lengthOf_22 : decode cX0_lengthOf 22 = .ok (.ifCond .eq 7, 3) := by decide +kernel
theorem dX0_lengthOf_25 : decode cX0_lengthOf 25 = .ok (.iconst 1, 1) := by decide +kernel
theorem dX0_lengthOf_26 : decode cX0_lengthOf 26 = .ok (.goto 4, 3) := by decide +kernel
theorem dX0_lengthOf_29 : decode cX0_lengthOf 29 = .ok (.iconst 0, 1) := by decide +kernel
theorem dX0_lengthOf_30 : decode cX0_lengthOf 30 = .ok (.istore_n 2, 1) := by decide +kernel
theorem dX0_lengthOf_31 : decode cX0_lengthOf 31 = .ok (.getstatic 43, 3) := by decide +kernel
theorem dX0_lengthOf_34 : decode cX0_lengthOf 34 = .ok (.iload_n 1, 1) := by decide +kernel
theorem dX0_lengthOf_35 : decode cX0_lengthOf 35 = .ok (.iaload, 1) := by decide +kernel
theorem dX0_lengthOf_36 : decode cX0_lengthOf 36 = .ok (.getstatic 43, 3) := by decide +kernel
theorem dX0_lengthOf_39 : decode cX0_lengthOf 39 = .ok (.iload_n 1, 1) := by decide +kernel
theorem dX0_lengthOf_40 : decode cX0_lengthOf 40 = .ok (.iconst 1, 1) := by decide +kernel
theorem dX0_lengthOf_41 : decode cX0_lengthOf 41 = .ok (.isub, 1) := by decide +kernel
theorem dX0_lengthOf_42 : decode cX0_lengthOf 42 = .ok (.iaload, 1) := by decide +kernel
theorem dX0_lengthOf_43 : decode cX0_lengthOf 43 = .ok (.isub, 1) := by decide +kernel
theorem dX0_lengthOf_44 : decode cX0_lengthOf 44 = .ok (.iload_n 2, 1) := by decide +kernel
theorem dX0_lengthOf_45 : decode cX0_lengthOf 45 = .ok (.iadd, 1) := by decide +kernel
theorem dX0_lengthOf_46 : decode cX0_lengthOf 46 = .ok (.ireturn, 1) := by decide +kernel
theorem dX0_aheadOfYear_0 : decode cX0_aheadOfYear 0 = .ok (.iload_n 0, 1) := by decide +kernel
theorem dX0_aheadOfYear_1 : decode cX0_aheadOfYear 1 = .ok (.iconst 1, 1) := by decide +kernel
theorem dX0_aheadOfYear_2 : decode cX0_aheadOfYear 2 = .ok (.isub, 1) := by decide +kernel
theorem dX0_aheadOfYear_3 : decode cX0_aheadOfYear 3 = .ok (.istore_n 1, 1) := by decide +kernel
theorem dX0_aheadOfYear_4 : decode cX0_aheadOfYear 4 = .ok (.iload_n 1, 1) := by decide +kernel
theorem dX0_aheadOfYear_5 : decode cX0_aheadOfYear 5 = .ok (.sipush 365, 3) := by decide +kernel
theorem dX0_aheadOfYear_8 : decode cX0_aheadOfYear 8 = .ok (.imul, 1) := by decide +kernel
theorem dX0_aheadOfYear_9 : decode cX0_aheadOfYear 9 = .ok (.iload_n 1, 1) := by decide +kernel
theorem dX0_aheadOfYear_10 : decode cX0_aheadOfYear 10 = .ok (.iconst 4, 1) := by decide +kernel
theorem dX0_aheadOfYear_11 : decode cX0_aheadOfYear 11 = .ok (.idiv, 1) := by decide +kernel
theorem dX0_aheadOfYear_12 : decode cX0_aheadOfYear 12 = .ok (.iadd, 1) := by decide +kernel
theorem dX0_aheadOfYear_13 : decode cX0_aheadOfYear 13 = .ok (.iload_n 1, 1) := by decide +kernel
theorem dX0_aheadOfYear_14 : decode cX0_aheadOfYear 14 = .ok (.bipush 100, 2) := by decide +kernel
theorem dX0_aheadOfYear_16 : decode cX0_aheadOfYear 16 = .ok (.idiv, 1) := by decide +kernel
theorem dX0_aheadOfYear_17 : decode cX0_aheadOfYear 17 = .ok (.isub, 1) := by decide +kernel
theorem dX0_aheadOfYear_18 : decode cX0_aheadOfYear 18 = .ok (.iload_n 1, 1) := by decide +kernel
theorem dX0_aheadOfYear_19 : decode cX0_aheadOfYear 19 = .ok (.sipush 400, 3) := by decide +kernel
theorem dX0_aheadOfYear_22 : decode cX0_aheadOfYear 22 = .ok (.idiv, 1) := by decide +kernel
theorem dX0_aheadOfYear_23 : decode cX0_aheadOfYear 23 = .ok (.iadd, 1) := by decide +kernel
theorem dX0_aheadOfYear_24 : decode cX0_aheadOfYear 24 = .ok (.ireturn, 1) := by decide +kernel
theorem dX0_isDigit_0 : decode cX0_isDigit 0 = .ok (.iload_n 0, 1) := by decide +kernel
theorem dX0_isDigit_1 : decode cX0_isDigit 1 = .ok (.bipush 48, 2) := by decide +kernel
theorem dX0_isDigit_3 : decode cX0_isDigit 3 = .ok (.if_icmp .lt 13, 3) := by decide +kernel
theorem dX0_isDigit_6 : decode cX0_isDigit 6 = .ok (.iload_n 0, 1) := by decide +kernel
theorem dX0_isDigit_7 : decode cX0_isDigit 7 = .ok (.bipush 57, 2) := by decide +kernel
theorem dX0_isDigit_9 : decode cX0_isDigit 9 = .ok (.if_icmp .gt 7, 3) := by decide +kernel
theorem dX0_isDigit_12 : decode cX0_isDigit 12 = .ok (.iconst 1, 1) := by decide +kernel
theorem dX0_isDigit_13 : decode cX0_isDigit 13 = .ok (.goto 4, 3) := by decide +kernel
theorem dX0_isDigit_16 : decode cX0_isDigit 16 = .ok (.iconst 0, 1) := by decide +kernel
theorem dX0_isDigit_17 : decode cX0_isDigit 17 = .ok (.ireturn, 1) := by decide +kernel
set_option maxRecDepth 20000 in
theorem ggX1_init_X1_formIn : GoodIn wsX1_init wsX1_formIn := goodIn_r _ [11, 12, 13, 10, 14, 15, 16, 17, 18, 19, 20, 21, 22, 23, 24, 25, 26, 27, 28, 29, 30, 31, 32, 33, 34, 35, 36, 37, 38, 39, 40, 41, 42, 43, 44, 45, 46, 47, 48, 49, 50, 51, 52, 53, 54, 55, 56, 57, 58, 59, 60, 61, 62, 63, 64, 65, 66, 67, 68, 69, 70, 71, 72, 73, 74, 75, 76, 77, 78, 79, 80, 81, 82, 83, 84, 85, 86, 87, 88, 89, 90, 91, 92, 93, 94, 95, 96, 97, 98, 99] (by decide +kernel) (by decide +kernel)
set_option maxRecDepth 20000 in
theorem gX1_init_X1_formIn : GoodIn wsX1_init (va_wsS RX1 15 yX1_formIn wsX1_formIn) := goodIn_app (goodIn_of _ (by decide +kernel)) ggX1_init_X1_formIn
set_option maxRecDepth 20000 in
theorem ggX1_init_X1_numberIn : GoodIn wsX1_init wsX1_numberIn := goodIn_r _ [102, 103, 104, 10, 105, 106, 107, 15, 16, 17, 18, 108, 109, 110, 96, 78, 79, 80, 81, 82, 83, 84, 85, 86, 87, 88, 89, 97, 98, 99, 90, 91, 92, 111, 112, 113] (by decide +kernel) (by decide +kernel)
set_option maxRecDepth 20000 in
theorem gX1_init_X1_numberIn : GoodIn wsX1_init (va_wsS RX1 23 yX1_numberIn wsX1_numberIn) := goodIn_app (goodIn_of _ (by decide +kernel)) ggX1_init_X1_numberIn
set_option maxRecDepth 20000 in
theorem ggX1_init_X1_wordIn : GoodIn wsX1_init wsX1_wordIn := goodIn_r _ [116, 117] (by decide +kernel) (by decide +kernel)
set_option maxRecDepth 20000 in
theorem gX1_init_X1_wordIn : GoodIn wsX1_init (va_wsS RX1 31 yX1_wordIn wsX1_wordIn) := goodIn_app (goodIn_of _ (by decide +kernel)) ggX1_init_X1_wordIn
theorem dX1_init_0 : decode cX1_init 0 = .ok (.aload_n 0, 1) := by decide +kernel
theorem dX1_init_1 : decode cX1_init 1 = .ok (.invokespecial 3, 3) := by decide +kernel
theorem dX1_init_4 : decode cX1_init 4 = .ok (.aload_n 0, 1) := by decide +kernel
theorem dX1_init_5 : decode cX1_init 5 = .ok (.aload_n 1, 1) := by decide +kernel
theorem dX1_init_6 : decode cX1_init 6 = .ok (.putfield 9, 3) := by decide +kernel
theorem dX1_init_9 : decode cX1_init 9 = .ok (.aload_n 0, 1) := by decide +kernel
theorem dX1_init_10 : decode cX1_init 10 = .ok (.aload_n 1, 1) := by decide +kernel
theorem dX1_init_11 : decode cX1_init 11 = .ok (.invokestatic 15, 3) := by decide +kernel
theorem dX1_init_14 : decode cX1_init 14 = .ok (.putfield 19, 3) := by decide +kernel
theorem dX1_init_17 : decode cX1_init 17 = .ok (.aload_n 0, 1) := by decide +kernel
theorem dX1_init_18 : decode cX1_init 18 = .ok (.aload_n 1, 1) := by decide +kernel
theorem dX1_init_19 : decode cX1_init 19 = .ok (.aload_n 0, 1) := by decide +kernel
theorem dX1_init_20 : decode cX1_init 20 = .ok (.getfield 19, 3) := by decide +kernel
theorem dX1_init_23 : decode cX1_init 23 = .ok (.invokestatic 23, 3) := by decide +kernel
theorem dX1_init_26 : decode cX1_init 26 = .ok (.putfield 27, 3) := by decide +kernel
theorem dX1_init_29 : decode cX1_init 29 = .ok (.aload_n 0, 1) := by decide +kernel
theorem dX1_init_30 : decode cX1_init 30 = .ok (.aload_n 1, 1) := by decide +kernel
theorem dX1_init_31 : decode cX1_init 31 = .ok (.invokestatic 31, 3) := by decide +kernel
theorem dX1_init_34 : decode cX1_init 34 = .ok (.putfield 35, 3) := by decide +kernel
theorem dX1_init_37 : decode cX1_init 37 = .ok (.return_, 1) := by decide +kernel
theorem dX1_canBe_0 : decode cX1_canBe 0 = .ok (.aload_n 0, 1) := by decide +kernel
theorem dX1_canBe_1 : decode cX1_canBe 1 = .ok (.getfield 19, 3) := by decide +kernel
theorem dX1_canBe_4 : decode cX1_canBe 4 = .ok (.ifCond .eq 29, 3) := by decide +kernel
theorem dX1_canBe_7 : decode cX1_canBe 7 = .ok (.aload_n 0, 1) := by decide +kernel
theorem dX1_canBe_8 : decode cX1_canBe 8 = .ok (.getfield 19, 3) := by decide +kernel
theorem dX1_canBe_11 : decode cX1_canBe 11 = .ok (.iload_n 1, 1) := by decide +kernel
theorem dX1_canBe_12 : decode cX1_canBe 12 = .ok (.if_icmp .eq 21, 3) := by decide +kernel
theorem dX1_canBe_15 : decode cX1_canBe 15 = .ok (.iload_n 1, 1) := by decide +kernel
theorem dX1_canBe_16 : decode cX1_canBe 16 = .ok (.iconst 4, 1) := by decide +kernel
theorem dX1_canBe_17 : decode cX1_canBe 17 = .ok (.if_icmp .eq 16, 3) := by decide +kernel
theorem dX1_canBe_20 : decode cX1_canBe 20 = .ok (.aload_n 0, 1) := by decide +kernel
theorem dX1_canBe_21 : decode cX1_canBe 21 = .ok (.getfield 19, 3) := by decide +kernel
theorem dX1_canBe_24 : decode cX1_canBe 24 = .ok (.iconst 1, 1) := by decide +kernel
theorem dX1_canBe_25 : decode cX1_canBe 25 = .ok (.if_icmp .ne 12, 3) := by decide +kernel
theorem dX1_canBe_28 : decode cX1_canBe 28 = .ok (.iload_n 1, 1) := by decide +kernel
theorem dX1_canBe_29 : decode cX1_canBe 29 = .ok (.iconst 2, 1) := by decide +kernel
theorem dX1_canBe_30 : decode cX1_canBe 30 = .ok (.if_icmp .ne 7, 3) := by decide +kernel
theorem dX1_canBe_33 : decode cX1_canBe 33 = .ok (.iconst 1, 1) := by decide +kernel
theorem dX1_canBe_34 : decode cX1_canBe 34 = .ok (.goto 4, 3) := by decide +kernel
theorem dX1_canBe_37 : decode cX1_canBe 37 = .ok (.iconst 0, 1) := by decide +kernel
theorem dX1_canBe_38 : decode cX1_canBe 38 = .ok (.ireturn, 1) := by decide +kernel
theorem dX1_valueAs_0 : decode cX1_valueAs 0 = .ok (.iload_n 1, 1) := by decide +kernel
theorem dX1_valueAs_1 : decode cX1_valueAs 1 = .ok (.iconst 4, 1) := by decide +kernel
theorem dX1_valueAs_2 : decode cX1_valueAs 2 = .ok (.if_icmp .ne 8, 3) := by decide +kernel
theorem dX1_valueAs_5 : decode cX1_valueAs 5 = .ok (.aload_n 0, 1) := by decide +kernel
theorem dX1_valueAs_6 : decode cX1_valueAs 6 = .ok (.getfield 35, 3) := by decide +kernel
theorem dX1_valueAs_9 : decode cX1_valueAs 9 = .ok (.lreturn, 1) := by decide +kernel
theorem dX1_valueAs_10 : decode cX1_valueAs 10 = .ok (.aload_n 0, 1) := by decide +kernel
theorem dX1_valueAs_11 : decode cX1_valueAs 11 = .ok (.getfield 19, 3) := by decide +kernel
theorem dX1_valueAs_14 : decode cX1_valueAs 14 = .ok (.iconst 1, 1) := by decide +kernel
theorem dX1_valueAs_15 : decode cX1_valueAs 15 = .ok (.if_icmp .ne 19, 3) := by decide +kernel
theorem dX1_valueAs_18 : decode cX1_valueAs 18 = .ok (.iload_n 1, 1) := by decide +kernel
theorem dX1_valueAs_19 : decode cX1_valueAs 19 = .ok (.iconst 2, 1) := by decide +kernel
theorem dX1_valueAs_20 : decode cX1_valueAs 20 = .ok (.if_icmp .ne 14, 3) := by decide +kernel
theorem dX1_valueAs_23 : decode cX1_valueAs 23 = .ok (.aload_n 0, 1) := by decide +kernel
theorem dX1_valueAs_24 : decode cX1_valueAs 24 = .ok (.getfield 27, 3) := by decide +kernel
theorem dX1_valueAs_27 : decode cX1_valueAs 27 = .ok (.ldc2_w 38, 3) := by decide +kernel
theorem dX1_valueAs_30 : decode cX1_valueAs 30 = .ok (.lmul, 1) := by decide +kernel
theorem dX1_valueAs_31 : decode cX1_valueAs 31 = .ok (.goto 7, 3) := by decide +kernel
theorem dX1_valueAs_34 : decode cX1_valueAs 34 = .ok (.aload_n 0, 1) := by decide +kernel
theorem dX1_valueAs_35 : decode cX1_valueAs 35 = .ok (.getfield 27, 3) := by decide +kernel
theorem dX1_valueAs_38 : decode cX1_valueAs 38 = .ok (.lreturn, 1) := by decide +kernel
set_option maxRecDepth 20000 in
theorem ggX1_formIn_X1_digitsFrom : GoodIn wsX1_formIn wsX1_digitsFrom := goodIn_r _ [4, 5, 6, 7, 8] (by decide +kernel) (by decide +kernel)
set_option maxRecDepth 20000 in
theorem gX1_formIn_X1_digitsFrom : GoodIn wsX1_formIn (va_wsS RX1 40 yX1_digitsFrom wsX1_digitsFrom) := goodIn_app (goodIn_of _ (by decide +kernel)) ggX1_formIn_X1_digitsFrom
set_option maxRecDepth 20000 in
theorem ggX1_formIn_X1_isFraction : GoodIn wsX1_formIn wsX1_isFraction := goodIn_r _ [11, 1, 2, 3, 4, 5, 6, 7, 8] (by decide +kernel) (by decide +kernel)
set_option maxRecDepth 20000 in
theorem gX1_formIn_X1_isFraction : GoodIn wsX1_formIn (va_wsS RX1 44 yX1_isFraction wsX1_isFraction) := goodIn_app (goodIn_of _ (by decide +kernel)) ggX1_formIn_X1_isFraction
set_option maxRecDepth 20000 in
theorem ggX1_formIn_X0_isDate : GoodIn wsX1_formIn wsX0_isDate := goodIn_r _ [14, 15, 16, 7, 17, 18, 19, 20, 21, 22, 23, 24, 25, 26, 27, 28, 29, 30, 31, 32, 33, 34, 35, 36, 37, 38, 39, 40, 41, 42, 43, 44, 45, 46, 47, 48, 49, 50, 51, 52, 53, 54, 55, 56, 57, 58, 59, 60, 61, 62, 63, 64, 65, 66, 67, 6, 8, 68, 69, 70, 71, 72, 73, 74, 75, 76, 77, 78, 79, 80, 81, 82, 83, 84, 85, 86, 87, 88, 89] (by decide +kernel) (by decide +kernel)
set_option maxRecDepth 20000 in
theorem gX1_formIn_X0_isDate : GoodIn wsX1_formIn (va_wsS RX1 48 yX0_isDate wsX0_isDate) := goodIn_app (goodIn_of _ (by decide +kernel)) ggX1_formIn_X0_isDate
theorem dX1_formIn_0 : decode cX1_formIn 0 = .ok (.aload_n 0, 1) := by decide +kernel
theorem dX1_formIn_1 : decode cX1_formIn 1 = .ok (.arraylength, 1) := by decide +kernel
theorem dX1_formIn_2 : decode cX1_formIn 2 = .ok (.ifCond .ne 5, 3) := by decide +kernel
theorem dX1_formIn_5 : decode cX1_formIn 5 = .ok (.iconst 0, 1) := by decide +kernel
theorem dX1_formIn_6 : decode cX1_formIn 6 = .ok (.ireturn, 1) := by decide +kernel
theorem dX1_formIn_7 : decode cX1_formIn 7 = .ok (.aload_n 0, 1) := by decide +kernel
theorem dX1_formIn_8 : decode cX1_formIn 8 = .ok (.iconst 0, 1) := by decide +kernel
theorem dX1_formIn_9 : decode cX1_formIn 9 = .ok (.baload, 1) := by decide +kernel
theorem dX1_formIn_10 : decode cX1_formIn 10 = .ok (.bipush 45, 2) := by decide +kernel
theorem dX1_formIn_12 : decode cX1_formIn 12 = .ok (.if_icmp .ne 7, 3) := by decide +kernel
theorem dX1_formIn_15 : decode cX1_formIn 15 = .ok (.iconst 1, 1) := by decide +kernel
theorem dX1_formIn_16 : decode cX1_formIn 16 = .ok (.goto 4, 3) := by decide +kernel
theorem dX1_formIn_19 : decode cX1_formIn 19 = .ok (.iconst 0, 1) := by decide +kernel
theorem dX1_formIn_20 : decode cX1_formIn 20 = .ok (.istore_n 1, 1) := by decide +kernel
theorem dX1_formIn_21 : decode cX1_formIn 21 = .ok (.aload_n 0, 1) := by decide +kernel
theorem dX1_formIn_22 : decode cX1_formIn 22 = .ok (.iload_n 1, 1) := by decide +kernel
theorem dX1_formIn_23 : decode cX1_formIn 23 = .ok (.invokestatic 40, 3) := by decide +kernel
theorem dX1_formIn_26 : decode cX1_formIn 26 = .ok (.istore_n 2, 1) := by decide +kernel
theorem dX1_formIn_27 : decode cX1_formIn 27 = .ok (.iload_n 1, 1) := by decide +kernel
theorem dX1_formIn_28 : decode cX1_formIn 28 = .ok (.iload_n 2, 1) := by decide +kernel
theorem dX1_formIn_29 : decode cX1_formIn 29 = .ok (.iadd, 1) := by decide +kernel
theorem dX1_formIn_30 : decode cX1_formIn 30 = .ok (.istore_n 3, 1) := by decide +kernel
theorem dX1_formIn_31 : decode cX1_formIn 31 = .ok (.iload_n 2, 1) := by decide +kernel
theorem dX1_formIn_32 : decode cX1_formIn 32 = .ok (.iconst 1, 1) := by decide +kernel
theorem dX1_formIn_33 : decode cX1_formIn 33 = .ok (.if_icmp .lt 37, 3) := by decide +kernel
theorem dX1_formIn_36 : decode cX1_formIn 36 = .ok (.iload_n 2, 1) := by decide +kernel
theorem dX1_formIn_37 : decode cX1_formIn 37 = .ok (.bipush 6, 2) := by decide +kernel
theorem dX1_formIn_39 : decode cX1_formIn 39 = .ok (.if_icmp .gt 31, 3) := by decide +kernel
theorem dX1_formIn_42 : decode cX1_formIn 42 = .ok (.iload_n 3, 1) := by decide +kernel
theorem dX1_formIn_43 : decode cX1_formIn 43 = .ok (.aload_n 0, 1) := by decide +kernel
theorem dX1_formIn_44 : decode cX1_formIn 44 = .ok (.arraylength, 1) := by decide +kernel
theorem dX1_formIn_45 : decode cX1_formIn 45 = .ok (.if_icmp .ne 5, 3) := by decide +kernel
theorem dX1_formIn_48 : decode cX1_formIn 48 = .ok (.iconst 1, 1) := by decide +kernel
theorem dX1_formIn_49 : decode cX1_formIn 49 = .ok (.ireturn, 1) := by decide +kernel
theorem dX1_formIn_50 : decode cX1_formIn 50 = .ok (.aload_n 0, 1) := by decide +kernel
theorem dX1_formIn_51 : decode cX1_formIn 51 = .ok (.iload_n 3, 1) := by decide +kernel
theorem dX1_formIn_52 : decode cX1_formIn 52 = .ok (.baload, 1) := by decide +kernel
theorem dX1_formIn_53 : decode cX1_formIn 53 = .ok (.bipush 46, 2) := by decide +kernel
theorem dX1_formIn_55 : decode cX1_formIn 55 = .ok (.if_icmp .ne 15, 3) := by decide +kernel
theorem dX1_formIn_58 : decode cX1_formIn 58 = .ok (.aload_n 0, 1) := by decide +kernel
theorem dX1_formIn_59 : decode cX1_formIn 59 = .ok (.iload_n 3, 1) := by decide +kernel
theorem dX1_formIn_60 : decode cX1_formIn 60 = .ok (.iconst 1, 1) := by decide +kernel
theorem dX1_formIn_61 : decode cX1_formIn 61 = .ok (.iadd, 1) := by decide +kernel
theorem dX1_formIn_62 : decode cX1_formIn 62 = .ok (.invokestatic 44, 3) := by decide +kernel
theorem dX1_formIn_65 : decode cX1_formIn 65 = .ok (.ifCond .eq 5, 3) := by decide +kernel
theorem dX1_formIn_68 : decode cX1_formIn 68 = .ok (.iconst 2, 1) := by decide +kernel
theorem dX1_formIn_69 : decode cX1_formIn 69 = .ok (.ireturn, 1) := by decide +kernel
theorem dX1_formIn_70 : decode cX1_formIn 70 = .ok (.aload_n 0, 1) := by decide +kernel
theorem dX1_formIn_71 : decode cX1_formIn 71 = .ok (.invokestatic 48, 3) := by decide +kernel
theorem dX1_formIn_74 : decode cX1_formIn 74 = .ok (.ifCond .eq 7, 3) := by decide +kernel
theorem dX1_formIn_77 : decode cX1_formIn 77 = .ok (.iconst 3, 1) := by decide +kernel
theorem dX1_formIn_78 : decode cX1_formIn 78 = .ok (.goto 4, 3) := by decide +kernel
theorem dX1_formIn_81 : decode cX1_formIn 81 = .ok (.iconst 4, 1) := by decide +kernel
theorem dX1_formIn_82 : decode cX1_formIn 82 = .ok (.ireturn, 1) := by decide +kernel
set_option maxRecDepth 20000 in
theorem ggX1_isFraction_X1_digitsFrom : GoodIn wsX1_isFraction wsX1_digitsFrom := goodIn_r _ [4, 5, 6, 7, 8] (by decide +kernel) (by decide +kernel)
set_option maxRecDepth 20000 in
theorem gX1_isFraction_X1_digitsFrom : GoodIn wsX1_isFraction (va_wsS RX1 40 yX1_digitsFrom wsX1_digitsFrom) := goodIn_app (goodIn_of _ (by decide +kernel)) ggX1_isFraction_X1_digitsFrom
theorem dX1_isFraction_0 : decode cX1_isFraction 0 = .ok (.aload_n 0, 1) := by decide +kernel
theorem dX1_isFraction_1 : decode cX1_isFraction 1 = .ok (.iload_n 1, 1) := by decide +kernel
theorem dX1_isFraction_2 : decode cX1_isFraction 2 = .ok (.invokestatic 40, 3) := by decide +kernel
theorem dX1_isFraction_5 : decode cX1_isFraction 5 = .ok (.istore_n 2, 1) := by decide +kernel
theorem dX1_isFraction_6 : decode cX1_isFraction 6 = .ok (.iload_n 2, 1) := by decide +kernel
theorem dX1_isFraction_7 : decode cX1_isFraction 7 = .ok (.iconst 1, 1) := by decide +kernel
theorem dX1_isFraction_8 : decode cX1_isFraction 8 = .ok (.if_icmp .lt 20, 3) := by decide +kernel
theorem dX1_isFraction_11 : decode cX1_isFraction 11 = .ok (.iload_n 2, 1) := by decide +kernel
theorem dX1_isFraction_12 : decode cX1_isFraction 12 = .ok (.iconst 3, 1) := by decide +kernel
theorem dX1_isFraction_13 : decode cX1_isFraction 13 = .ok (.if_icmp .gt 15, 3) := by decide +kernel
theorem dX1_isFraction_16 : decode cX1_isFraction 16 = .ok (.iload_n 1, 1) := by decide +kernel
theorem dX1_isFraction_17 : decode cX1_isFraction 17 = .ok (.iload_n 2, 1) := by decide +kernel
theorem dX1_isFraction_18 : decode cX1_isFraction 18 = .ok (.iadd, 1) := by decide +kernel
theorem dX1_isFraction_19 : decode cX1_isFraction 19 = .ok (.aload_n 0, 1) := by decide +kernel
theorem dX1_isFraction_20 : decode cX1_isFraction 20 = .ok (.arraylength, 1) := by decide +kernel
theorem dX1_isFraction_21 : decode cX1_isFraction 21 = .ok (.if_icmp .ne 7, 3) := by decide +kernel
theorem dX1_isFraction_24 : decode cX1_isFraction 24 = .ok (.iconst 1, 1) := by decide +kernel
theorem dX1_isFraction_25 : decode cX1_isFraction 25 = .ok (.goto 4, 3) := by decide +kernel
theorem dX1_isFraction_28 : decode cX1_isFraction 28 = .ok (.iconst 0, 1) := by decide +kernel
theorem dX1_isFraction_29 : decode cX1_isFraction 29 = .ok (.ireturn, 1) := by decide +kernel
set_option maxRecDepth 20000 in
theorem ggX1_digitsFrom_X0_isDigit : GoodIn wsX1_digitsFrom wsX0_isDigit := goodIn_r _ [4] (by decide +kernel) (by decide +kernel)
set_option maxRecDepth 20000 in
theorem gX1_digitsFrom_X0_isDigit : GoodIn wsX1_digitsFrom (va_wsS RX1 54 yX0_isDigit wsX0_isDigit) := goodIn_app (goodIn_of _ (by decide +kernel)) ggX1_digitsFrom_X0_isDigit
theorem dX1_digitsFrom_0 : decode cX1_digitsFrom 0 = .ok (.iload_n 1, 1) := by decide +kernel
theorem dX1_digitsFrom_1 : decode cX1_digitsFrom 1 = .ok (.istore_n 2, 1) := by decide +kernel
theorem dX1_digitsFrom_2 : decode cX1_digitsFrom 2 = .ok (.iload_n 2, 1) := by decide +kernel
theorem dX1_digitsFrom_3 : decode cX1_digitsFrom 3 = .ok (.ifCond .lt 24, 3) := by decide +kernel
theorem dX1_digitsFrom_6 : decode cX1_digitsFrom 6 = .ok (.iload_n 2, 1) := by decide +kernel
theorem dX1_digitsFrom_7 : decode cX1_digitsFrom 7 = .ok (.aload_n 0, 1) := by decide +kernel
theorem dX1_digitsFrom_8 : decode cX1_digitsFrom 8 = .ok (.arraylength, 1) := by decide +kernel
theorem dX1_digitsFrom_9 : decode cX1_digitsFrom 9 = .ok (.if_icmp .ge 18, 3) := by decide +kernel
theorem dX1_digitsFrom_12 : decode cX1_digitsFrom 12 = .ok (.aload_n 0, 1) := by decide +kernel
theorem dX1_digitsFrom_13 : decode cX1_digitsFrom 13 = .ok (.iload_n 2, 1) := by decide +kernel
theorem dX1_digitsFrom_14 : decode cX1_digitsFrom 14 = .ok (.baload, 1) := by decide +kernel
theorem dX1_digitsFrom_15 : decode cX1_digitsFrom 15 = .ok (.invokestatic 54, 3) := by decide +kernel
theorem dX1_digitsFrom_18 : decode cX1_digitsFrom 18 = .ok (.ifCond .eq 9, 3) := by decide +kernel
theorem dX1_digitsFrom_21 : decode cX1_digitsFrom 21 = .ok (.iinc 2 1, 3) := by decide +kernel
theorem dX1_digitsFrom_24 : decode cX1_digitsFrom 24 = .ok (.goto (-22), 3) := by decide +kernel
theorem dX1_digitsFrom_27 : decode cX1_digitsFrom 27 = .ok (.iload_n 2, 1) := by decide +kernel
theorem dX1_digitsFrom_28 : decode cX1_digitsFrom 28 = .ok (.iload_n 1, 1) := by decide +kernel
theorem dX1_digitsFrom_29 : decode cX1_digitsFrom 29 = .ok (.isub, 1) := by decide +kernel
theorem dX1_digitsFrom_30 : decode cX1_digitsFrom 30 = .ok (.ireturn, 1) := by decide +kernel
set_option maxRecDepth 20000 in
theorem ggX1_numberIn_X1_scaledNumber : GoodIn wsX1_numberIn wsX1_scaledNumber := goodIn_r _ [4, 5, 6, 7, 8, 9, 10] (by decide +kernel) (by decide +kernel)
set_option maxRecDepth 20000 in
theorem gX1_numberIn_X1_scaledNumber : GoodIn wsX1_numberIn (va_wsS RX1 58 yX1_scaledNumber wsX1_scaledNumber) := goodIn_app (goodIn_of _ (by decide +kernel)) ggX1_numberIn_X1_scaledNumber
set_option maxRecDepth 20000 in
theorem ggX1_numberIn_X0_since2000 : GoodIn wsX1_numberIn wsX0_since2000 := goodIn_r _ [13, 14, 15, 16, 9, 17, 18, 19, 20, 21, 22, 23, 24, 25, 26, 27, 28, 29, 30, 31, 32, 33, 34, 35] (by decide +kernel) (by decide +kernel)
set_option maxRecDepth 20000 in
theorem gX1_numberIn_X0_since2000 : GoodIn wsX1_numberIn (va_wsS RX1 61 yX0_since2000 wsX0_since2000) := goodIn_app (goodIn_of _ (by decide +kernel)) ggX1_numberIn_X0_since2000
theorem dX1_numberIn_0 : decode cX1_numberIn 0 = .ok (.iload_n 1, 1) := by decide +kernel
theorem dX1_numberIn_1 : decode cX1_numberIn 1 = .ok (.iconst 1, 1) := by decide +kernel
theorem dX1_numberIn_2 : decode cX1_numberIn 2 = .ok (.if_icmp .ne 9, 3) := by decide +kernel
theorem dX1_numberIn_5 : decode cX1_numberIn 5 = .ok (.aload_n 0, 1) := by decide +kernel
theorem dX1_numberIn_6 : decode cX1_numberIn 6 = .ok (.iconst 0, 1) := by decide +kernel
theorem dX1_numberIn_7 : decode cX1_numberIn 7 = .ok (.invokestatic 58, 3) := by decide +kernel
theorem dX1_numberIn_10 : decode cX1_numberIn 10 = .ok (.lreturn, 1) := by decide +kernel
theorem dX1_numberIn_11 : decode cX1_numberIn 11 = .ok (.iload_n 1, 1) := by decide +kernel
theorem dX1_numberIn_12 : decode cX1_numberIn 12 = .ok (.iconst 2, 1) := by decide +kernel
theorem dX1_numberIn_13 : decode cX1_numberIn 13 = .ok (.if_icmp .ne 9, 3) := by decide +kernel
theorem dX1_numberIn_16 : decode cX1_numberIn 16 = .ok (.aload_n 0, 1) := by decide +kernel
theorem dX1_numberIn_17 : decode cX1_numberIn 17 = .ok (.iconst 3, 1) := by decide +kernel
theorem dX1_numberIn_18 : decode cX1_numberIn 18 = .ok (.invokestatic 58, 3) := by decide +kernel
theorem dX1_numberIn_21 : decode cX1_numberIn 21 = .ok (.lreturn, 1) := by decide +kernel
theorem dX1_numberIn_22 : decode cX1_numberIn 22 = .ok (.iload_n 1, 1) := by decide +kernel
theorem dX1_numberIn_23 : decode cX1_numberIn 23 = .ok (.iconst 3, 1) := by decide +kernel
theorem dX1_numberIn_24 : decode cX1_numberIn 24 = .ok (.if_icmp .ne 10, 3) := by decide +kernel
theorem dX1_numberIn_27 : decode cX1_numberIn 27 = .ok (.aload_n 0, 1) := by decide +kernel
theorem dX1_numberIn_28 : decode cX1_numberIn 28 = .ok (.invokestatic 61, 3) := by decide +kernel
theorem dX1_numberIn_31 : decode cX1_numberIn 31 = .ok (.goto 4, 3) := by decide +kernel
theorem dX1_numberIn_34 : decode cX1_numberIn 34 = .ok (.lconst 0, 1) := by decide +kernel
theorem dX1_numberIn_35 : decode cX1_numberIn 35 = .ok (.lreturn, 1) := by decide +kernel
set_option maxRecDepth 20000 in
theorem ggX1_scaledNumber_X0_isDigit : GoodIn wsX1_scaledNumber wsX0_isDigit := goodIn_r _ [6] (by decide +kernel) (by decide +kernel)
set_option maxRecDepth 20000 in
theorem gX1_scaledNumber_X0_isDigit : GoodIn wsX1_scaledNumber (va_wsS RX1 54 yX0_isDigit wsX0_isDigit) := goodIn_app (goodIn_of _ (by decide +kernel)) ggX1_scaledNumber_X0_isDigit
theorem dX1_scaledNumber_0 : decode cX1_scaledNumber 0 = .ok (.lconst 0, 1) := by decide +kernel
theorem dX1_scaledNumber_1 : decode cX1_scaledNumber 1 = .ok (.lstore_n 2, 1) := by decide +kernel
theorem dX1_scaledNumber_2 : decode cX1_scaledNumber 2 = .ok (.iconst 0, 1) := by decide +kernel
theorem dX1_scaledNumber_3 : decode cX1_scaledNumber 3 = .ok (.istore 4, 2) := by decide +kernel
theorem dX1_scaledNumber_5 : decode cX1_scaledNumber 5 = .ok (.iconst 0, 1) := by decide +kernel
theorem dX1_scaledNumber_6 : decode cX1_scaledNumber 6 = .ok (.istore 5, 2) := by decide +kernel
theorem dX1_scaledNumber_8 : decode cX1_scaledNumber 8 = .ok (.iconst 0, 1) := by decide +kernel
theorem dX1_scaledNumber_9 : decode cX1_scaledNumber 9 = .ok (.istore 6, 2) := by decide +kernel
theorem dX1_scaledNumber_11 : decode cX1_scaledNumber 11 = .ok (.iload 6, 2) := by decide +kernel
theorem dX1_scaledNumber_13 : decode cX1_scaledNumber 13 = .ok (.aload_n 0, 1) := by decide +kernel
theorem dX1_scaledNumber_14 : decode cX1_scaledNumber 14 = .ok (.arraylength, 1) := by decide +kernel
theorem dX1_scaledNumber_15 : decode cX1_scaledNumber 15 = .ok (.if_icmp .ge 55, 3) := by decide +kernel
theorem dX1_scaledNumber_18 : decode cX1_scaledNumber 18 = .ok (.aload_n 0, 1) := by decide +kernel
theorem dX1_scaledNumber_19 : decode cX1_scaledNumber 19 = .ok (.iload 6, 2) := by decide +kernel
theorem dX1_scaledNumber_21 : decode cX1_scaledNumber 21 = .ok (.baload, 1) := by decide +kernel
theorem dX1_scaledNumber_22 : decode cX1_scaledNumber 22 = .ok (.bipush 46, 2) := by decide +kernel
theorem dX1_scaledNumber_24 : decode cX1_scaledNumber 24 = .ok (.if_icmp .ne 6, 3) := by decide +kernel
theorem dX1_scaledNumber_27 : decode cX1_scaledNumber 27 = .ok (.iconst 1, 1) := by decide +kernel
theorem dX1_scaledNumber_28 : decode cX1_scaledNumber 28 = .ok (.istore 5, 2) := by decide +kernel
theorem dX1_scaledNumber_30 : decode cX1_scaledNumber 30 = .ok (.aload_n 0, 1) := by decide +kernel
theorem dX1_scaledNumber_31 : decode cX1_scaledNumber 31 = .ok (.iload 6, 2) := by decide +kernel
theorem dX1_scaledNumber_33 : decode cX1_scaledNumber 33 = .ok (.baload, 1) := by decide +kernel
theorem dX1_scaledNumber_34 : decode cX1_scaledNumber 34 = .ok (.invokestatic 54, 3) := by decide +kernel
theorem dX1_scaledNumber_37 : decode cX1_scaledNumber 37 = .ok (.ifCond .eq 27, 3) := by decide +kernel
theorem dX1_scaledNumber_40 : decode cX1_scaledNumber 40 = .ok (.lload_n 2, 1) := by decide +kernel
theorem dX1_scaledNumber_41 : decode cX1_scaledNumber 41 = .ok (.ldc2_w 64, 3) := by decide +kernel
theorem dX1_scaledNumber_44 : decode cX1_scaledNumber 44 = .ok (.lmul, 1) := by decide +kernel
theorem dX1_scaledNumber_45 : decode cX1_scaledNumber 45 = .ok (.aload_n 0, 1) := by decide +kernel
theorem dX1_scaledNumber_46 : decode cX1_scaledNumber 46 = .ok (.iload 6, 2) := by decide +kernel
theorem dX1_scaledNumber_48 : decode cX1_scaledNumber 48 = .ok (.baload, 1) := by decide +kernel
theorem dX1_scaledNumber_49 : decode cX1_scaledNumber 49 = .ok (.i2l, 1) := by decide +kernel
theorem dX1_scaledNumber_50 : decode cX1_scaledNumber 50 = .ok (.ladd, 1) := by decide +kernel
theorem dX1_scaledNumber_51 : decode cX1_scaledNumber 51 = .ok (.ldc2_w 66, 3) := by decide +kernel
theorem dX1_scaledNumber_54 : decode cX1_scaledNumber 54 = .ok (.lsub, 1) := by decide +kernel
theorem dX1_scaledNumber_55 : decode cX1_scaledNumber 55 = .ok (.lstore_n 2, 1) := by decide +kernel
theorem dX1_scaledNumber_56 : decode cX1_scaledNumber 56 = .ok (.iload 5, 2) := by decide +kernel
theorem dX1_scaledNumber_58 : decode cX1_scaledNumber 58 = .ok (.ifCond .eq 6, 3) := by decide +kernel
theorem dX1_scaledNumber_61 : decode cX1_scaledNumber 61 = .ok (.iinc 4 1, 3) := by decide +kernel
theorem dX1_scaledNumber_64 : decode cX1_scaledNumber 64 = .ok (.iinc 6 1, 3) := by decide +kernel
theorem dX1_scaledNumber_67 : decode cX1_scaledNumber 67 = .ok (.goto (-56), 3) := by decide +kernel
theorem dX1_scaledNumber_70 : decode cX1_scaledNumber 70 = .ok (.iload 4, 2) := by decide +kernel
theorem dX1_scaledNumber_72 : decode cX1_scaledNumber 72 = .ok (.istore 6, 2) := by decide +kernel
theorem dX1_scaledNumber_74 : decode cX1_scaledNumber 74 = .ok (.iload 6, 2) := by decide +kernel
theorem dX1_scaledNumber_76 : decode cX1_scaledNumber 76 = .ok (.iload_n 1, 1) := by decide +kernel
theorem dX1_scaledNumber_77 : decode cX1_scaledNumber 77 = .ok (.if_icmp .ge 15, 3) := by decide +kernel
theorem dX1_scaledNumber_80 : decode cX1_scaledNumber 80 = .ok (.lload_n 2, 1) := by decide +kernel
theorem dX1_scaledNumber_81 : decode cX1_scaledNumber 81 = .ok (.ldc2_w 64, 3) := by decide +kernel
theorem dX1_scaledNumber_84 : decode cX1_scaledNumber 84 = .ok (.lmul, 1) := by decide +kernel
theorem dX1_scaledNumber_85 : decode cX1_scaledNumber 85 = .ok (.lstore_n 2, 1) := by decide +kernel
theorem dX1_scaledNumber_86 : decode cX1_scaledNumber 86 = .ok (.iinc 6 1, 3) := by decide +kernel
theorem dX1_scaledNumber_89 : decode cX1_scaledNumber 89 = .ok (.goto (-15), 3) := by decide +kernel
theorem dX1_scaledNumber_92 : decode cX1_scaledNumber 92 = .ok (.aload_n 0, 1) := by decide +kernel
theorem dX1_scaledNumber_93 : decode cX1_scaledNumber 93 = .ok (.arraylength, 1) := by decide +kernel
theorem dX1_scaledNumber_94 : decode cX1_scaledNumber 94 = .ok (.ifCond .le 16, 3) := by decide +kernel
theorem dX1_scaledNumber_97 : decode cX1_scaledNumber 97 = .ok (.aload_n 0, 1) := by decide +kernel
theorem dX1_scaledNumber_98 : decode cX1_scaledNumber 98 = .ok (.iconst 0, 1) := by decide +kernel
theorem dX1_scaledNumber_99 : decode cX1_scaledNumber 99 = .ok (.baload, 1) := by decide +kernel
theorem dX1_scaledNumber_100 : decode cX1_scaledNumber 100 = .ok (.bipush 45, 2) := by decide +kernel
theorem dX1_scaledNumber_102 : decode cX1_scaledNumber 102 = .ok (.if_icmp .ne 8, 3) := by decide +kernel
theorem dX1_scaledNumber_105 : decode cX1_scaledNumber 105 = .ok (.lload_n 2, 1) := by decide +kernel
theorem dX1_scaledNumber_106 : decode cX1_scaledNumber 106 = .ok (.lneg, 1) := by decide +kernel
theorem dX1_scaledNumber_107 : decode cX1_scaledNumber 107 = .ok (.goto 4, 3) := by decide +kernel
theorem dX1_scaledNumber_110 : decode cX1_scaledNumber 110 = .ok (.lload_n 2, 1) := by decide +kernel
theorem dX1_scaledNumber_111 : decode cX1_scaledNumber 111 = .ok (.lreturn, 1) := by decide +kernel
theorem dX1_wordIn_0 : decode cX1_wordIn 0 = .ok (.lconst 0, 1) := by decide +kernel
theorem dX1_wordIn_1 : decode cX1_wordIn 1 = .ok (.lstore_n 1, 1) := by decide +kernel
theorem dX1_wordIn_2 : decode cX1_wordIn 2 = .ok (.iconst 0, 1) := by decide +kernel
theorem dX1_wordIn_3 : decode cX1_wordIn 3 = .ok (.istore_n 3, 1) := by decide +kernel
theorem dX1_wordIn_4 : decode cX1_wordIn 4 = .ok (.iload_n 3, 1) := by decide +kernel
theorem dX1_wordIn_5 : decode cX1_wordIn 5 = .ok (.aload_n 0, 1) := by decide +kernel
theorem dX1_wordIn_6 : decode cX1_wordIn 6 = .ok (.arraylength, 1) := by decide +kernel
theorem dX1_wordIn_7 : decode cX1_wordIn 7 = .ok (.if_icmp .ge 20, 3) := by decide +kernel
theorem dX1_wordIn_10 : decode cX1_wordIn 10 = .ok (.lload_n 1, 1) := by decide +kernel
theorem dX1_wordIn_11 : decode cX1_wordIn 11 = .ok (.ldc2_w 68, 3) := by decide +kernel
theorem dX1_wordIn_14 : decode cX1_wordIn 14 = .ok (.lmul, 1) := by decide +kernel
theorem dX1_wordIn_15 : decode cX1_wordIn 15 = .ok (.aload_n 0, 1) := by decide +kernel
theorem dX1_wordIn_16 : decode cX1_wordIn 16 = .ok (.iload_n 3, 1) := by decide +kernel
theorem dX1_wordIn_17 : decode cX1_wordIn 17 = .ok (.baload, 1) := by decide +kernel
theorem dX1_wordIn_18 : decode cX1_wordIn 18 = .ok (.i2l, 1) := by decide +kernel
theorem dX1_wordIn_19 : decode cX1_wordIn 19 = .ok (.ladd, 1) := by decide +kernel
theorem dX1_wordIn_20 : decode cX1_wordIn 20 = .ok (.lstore_n 1, 1) := by decide +kernel
theorem dX1_wordIn_21 : decode cX1_wordIn 21 = .ok (.iinc 3 1, 3) := by decide +kernel
theorem dX1_wordIn_24 : decode cX1_wordIn 24 = .ok (.goto (-20), 3) := by decide +kernel
theorem dX1_wordIn_27 : decode cX1_wordIn 27 = .ok (.lload_n 1, 1) := by decide +kernel
theorem dX1_wordIn_28 : decode cX1_wordIn 28 = .ok (.lreturn, 1) := by decide +kernel
theorem dX2_init_0 : decode cX2_init 0 = .ok (.aload_n 0, 1) := by decide +kernel
theorem dX2_init_1 : decode cX2_init 1 = .ok (.invokespecial 3, 3) := by decide +kernel
theorem dX2_init_4 : decode cX2_init 4 = .ok (.aload_n 0, 1) := by decide +kernel
theorem dX2_init_5 : decode cX2_init 5 = .ok (.iconst 0, 1) := by decide +kernel
theorem dX2_init_6 : decode cX2_init 6 = .ok (.putfield 9, 3) := by decide +kernel
theorem dX2_init_9 : decode cX2_init 9 = .ok (.aload_n 0, 1) := by decide +kernel
theorem dX2_init_10 : decode cX2_init 10 = .ok (.iconst 0, 1) := by decide +kernel
theorem dX2_init_11 : decode cX2_init 11 = .ok (.iload_n 1, 1) := by decide +kernel
theorem dX2_init_12 : decode cX2_init 12 = .ok (.invokestatic 15, 3) := by decide +kernel
theorem dX2_init_15 : decode cX2_init 15 = .ok (.newarray .int, 2) := by decide +kernel
theorem dX2_init_17 : decode cX2_init 17 = .ok (.putfield 21, 3) := by decide +kernel
theorem dX2_init_20 : decode cX2_init 20 = .ok (.aload_n 0, 1) := by decide +kernel
theorem dX2_init_21 : decode cX2_init 21 = .ok (.iconst 0, 1) := by decide +kernel
theorem dX2_init_22 : decode cX2_init 22 = .ok (.iload_n 1, 1) := by decide +kernel
theorem dX2_init_23 : decode cX2_init 23 = .ok (.invokestatic 15, 3) := by decide +kernel
theorem dX2_init_26 : decode cX2_init 26 = .ok (.newarray .int, 2) := by decide +kernel
theorem dX2_init_28 : decode cX2_init 28 = .ok (.putfield 25, 3) := by decide +kernel
theorem dX2_init_31 : decode cX2_init 31 = .ok (.return_, 1) := by decide +kernel
theorem dX2_clear_0 : decode cX2_clear 0 = .ok (.aload_n 0, 1) := by decide +kernel
theorem dX2_clear_1 : decode cX2_clear 1 = .ok (.iconst 0, 1) := by decide +kernel
theorem dX2_clear_2 : decode cX2_clear 2 = .ok (.putfield 9, 3) := by decide +kernel
theorem dX2_clear_5 : decode cX2_clear 5 = .ok (.aload_n 0, 1) := by decide +kernel
theorem dX2_clear_6 : decode cX2_clear 6 = .ok (.getfield 9, 3) := by decide +kernel
theorem dX2_clear_9 : decode cX2_clear 9 = .ok (.ireturn, 1) := by decide +kernel
theorem dX2_enter_0 : decode cX2_enter 0 = .ok (.aload_n 0, 1) := by decide +kernel
theorem dX2_enter_1 : decode cX2_enter 1 = .ok (.getfield 9, 3) := by decide +kernel
theorem dX2_enter_4 : decode cX2_enter 4 = .ok (.aload_n 0, 1) := by decide +kernel
theorem dX2_enter_5 : decode cX2_enter 5 = .ok (.getfield 21, 3) := by decide +kernel
theorem dX2_enter_8 : decode cX2_enter 8 = .ok (.arraylength, 1) := by decide +kernel
theorem dX2_enter_9 : decode cX2_enter 9 = .ok (.if_icmp .ge 15, 3) := by decide +kernel
theorem dX2_enter_12 : decode cX2_enter 12 = .ok (.aload_n 0, 1) := by decide +kernel
theorem dX2_enter_13 : decode cX2_enter 13 = .ok (.getfield 9, 3) := by decide +kernel
theorem dX2_enter_16 : decode cX2_enter 16 = .ok (.aload_n 0, 1) := by decide +kernel
theorem dX2_enter_17 : decode cX2_enter 17 = .ok (.getfield 25, 3) := by decide +kernel
theorem dX2_enter_20 : decode cX2_enter 20 = .ok (.arraylength, 1) := by decide +kernel
theorem dX2_enter_21 : decode cX2_enter 21 = .ok (.if_icmp .lt 6, 3) := by decide +kernel
theorem dX2_enter_24 : decode cX2_enter 24 = .ok (.bipush (-4), 2) := by decide +kernel
theorem dX2_enter_26 : decode cX2_enter 26 = .ok (.ireturn, 1) := by decide +kernel
theorem dX2_enter_27 : decode cX2_enter 27 = .ok (.aload_n 0, 1) := by decide +kernel
theorem dX2_enter_28 : decode cX2_enter 28 = .ok (.getfield 21, 3) := by decide +kernel
theorem dX2_enter_31 : decode cX2_enter 31 = .ok (.aload_n 0, 1) := by decide +kernel
theorem dX2_enter_32 : decode cX2_enter 32 = .ok (.getfield 9, 3) := by decide +kernel
theorem dX2_enter_35 : decode cX2_enter 35 = .ok (.iload_n 1, 1) := by decide +kernel
theorem dX2_enter_36 : decode cX2_enter 36 = .ok (.iastore, 1) := by decide +kernel
theorem dX2_enter_37 : decode cX2_enter 37 = .ok (.aload_n 0, 1) := by decide +kernel
theorem dX2_enter_38 : decode cX2_enter 38 = .ok (.getfield 25, 3) := by decide +kernel
theorem dX2_enter_41 : decode cX2_enter 41 = .ok (.aload_n 0, 1) := by decide +kernel
theorem dX2_enter_42 : decode cX2_enter 42 = .ok (.getfield 9, 3) := by decide +kernel
theorem dX2_enter_45 : decode cX2_enter 45 = .ok (.iload_n 2, 1) := by decide +kernel
theorem dX2_enter_46 : decode cX2_enter 46 = .ok (.iastore, 1) := by decide +kernel
theorem dX2_enter_47 : decode cX2_enter 47 = .ok (.aload_n 0, 1) := by decide +kernel
theorem dX2_enter_48 : decode cX2_enter 48 = .ok (.dup, 1) := by decide +kernel
theorem dX2_enter_49 : decode cX2_enter 49 = .ok (.getfield 9, 3) := by decide +kernel
theorem dX2_enter_52 : decode cX2_enter 52 = .ok (.iconst 1, 1) := by decide +kernel
theorem dX2_enter_53 : decode cX2_enter 53 = .ok (.iadd, 1) := by decide +kernel
theorem dX2_enter_54 : decode cX2_enter 54 = .ok (.putfield 9, 3) := by decide +kernel
theorem dX2_enter_57 : decode cX2_enter 57 = .ok (.aload_n 0, 1) := by decide +kernel
theorem dX2_enter_58 : decode cX2_enter 58 = .ok (.getfield 9, 3) := by decide +kernel
theorem dX2_enter_61 : decode cX2_enter 61 = .ok (.ireturn, 1) := by decide +kernel
theorem dX2_firstOf_0 : decode cX2_firstOf 0 = .ok (.iload_n 1, 1) := by decide +kernel
theorem dX2_firstOf_1 : decode cX2_firstOf 1 = .ok (.ifCond .lt 29, 3) := by decide +kernel
theorem dX2_firstOf_4 : decode cX2_firstOf 4 = .ok (.iload_n 1, 1) := by decide +kernel
theorem dX2_firstOf_5 : decode cX2_firstOf 5 = .ok (.aload_n 0, 1) := by decide +kernel
theorem dX2_firstOf_6 : decode cX2_firstOf 6 = .ok (.getfield 9, 3) := by decide +kernel
theorem dX2_firstOf_9 : decode cX2_firstOf 9 = .ok (.if_icmp .ge 21, 3) := by decide +kernel
theorem dX2_firstOf_12 : decode cX2_firstOf 12 = .ok (.iload_n 1, 1) := by decide +kernel
theorem dX2_firstOf_13 : decode cX2_firstOf 13 = .ok (.aload_n 0, 1) := by decide +kernel
theorem dX2_firstOf_14 : decode cX2_firstOf 14 = .ok (.getfield 21, 3) := by decide +kernel
theorem dX2_firstOf_17 : decode cX2_firstOf 17 = .ok (.arraylength, 1) := by decide +kernel
theorem dX2_firstOf_18 : decode cX2_firstOf 18 = .ok (.if_icmp .ge 12, 3) := by decide +kernel
theorem dX2_firstOf_21 : decode cX2_firstOf 21 = .ok (.aload_n 0, 1) := by decide +kernel
theorem dX2_firstOf_22 : decode cX2_firstOf 22 = .ok (.getfield 21, 3) := by decide +kernel
theorem dX2_firstOf_25 : decode cX2_firstOf 25 = .ok (.iload_n 1, 1) := by decide +kernel
theorem dX2_firstOf_26 : decode cX2_firstOf 26 = .ok (.iaload, 1) := by decide +kernel
theorem dX2_firstOf_27 : decode cX2_firstOf 27 = .ok (.goto 5, 3) := by decide +kernel
theorem dX2_firstOf_30 : decode cX2_firstOf 30 = .ok (.bipush (-5), 2) := by decide +kernel
theorem dX2_firstOf_32 : decode cX2_firstOf 32 = .ok (.ireturn, 1) := by decide +kernel
theorem dX2_secondOf_0 : decode cX2_secondOf 0 = .ok (.iload_n 1, 1) := by decide +kernel
theorem dX2_secondOf_1 : decode cX2_secondOf 1 = .ok (.ifCond .lt 29, 3) := by decide +kernel
theorem dX2_secondOf_4 : decode cX2_secondOf 4 = .ok (.iload_n 1, 1) := by decide +kernel
theorem dX2_secondOf_5 : decode cX2_secondOf 5 = .ok (.aload_n 0, 1) := by decide +kernel
theorem dX2_secondOf_6 : decode cX2_secondOf 6 = .ok (.getfield 9, 3) := by decide +kernel
theorem dX2_secondOf_9 : decode cX2_secondOf 9 = .ok (.if_icmp .ge 21, 3) := by decide +kernel
theorem dX2_secondOf_12 : decode cX2_secondOf 12 = .ok (.iload_n 1, 1) := by decide +kernel
theorem dX2_secondOf_13 : decode cX2_secondOf 13 = .ok (.aload_n 0, 1) := by decide +kernel
theorem dX2_secondOf_14 : decode cX2_secondOf 14 = .ok (.getfield 25, 3) := by decide +kernel
theorem dX2_secondOf_17 : decode cX2_secondOf 17 = .ok (.arraylength, 1) := by decide +kernel
theorem dX2_secondOf_18 : decode cX2_secondOf 18 = .ok (.if_icmp .ge 12, 3) := by decide +kernel
theorem dX2_secondOf_21 : decode cX2_secondOf 21 = .ok (.aload_n 0, 1) := by decide +kernel
theorem dX2_secondOf_22 : decode cX2_secondOf 22 = .ok (.getfield 25, 3) := by decide +kernel
theorem dX2_secondOf_25 : decode cX2_secondOf 25 = .ok (.iload_n 1, 1) := by decide +kernel
theorem dX2_secondOf_26 : decode cX2_secondOf 26 = .ok (.iaload, 1) := by decide +kernel
theorem dX2_secondOf_27 : decode cX2_secondOf 27 = .ok (.goto 5, 3) := by decide +kernel
theorem dX2_secondOf_30 : decode cX2_secondOf 30 = .ok (.bipush (-5), 2) := by decide +kernel
theorem dX2_secondOf_32 : decode cX2_secondOf 32 = .ok (.ireturn, 1) := by decide +kernel
set_option maxRecDepth 20000 in
theorem ggX2_copyFrom_X2_clear : GoodIn wsX2_copyFrom wsX2_clear := goodIn_r _ [6, 1, 21, 22, 23] (by decide +kernel) (by decide +kernel)
set_option maxRecDepth 20000 in
theorem gX2_copyFrom_X2_clear : GoodIn wsX2_copyFrom (wsV RX2 28 RX2 yX2_clear wsX2_clear) := goodIn_app (goodIn_of _ (by decide +kernel)) ggX2_copyFrom_X2_clear
set_option maxRecDepth 20000 in
theorem ggX2_copyFrom_X2_firstOf : GoodIn wsX2_copyFrom wsX2_firstOf := goodIn_r _ [10, 1, 11, 21, 22, 23] (by decide +kernel) (by decide +kernel)
set_option maxRecDepth 20000 in
theorem gX2_copyFrom_X2_firstOf : GoodIn wsX2_copyFrom (wsV RX2 32 RX2 yX2_firstOf wsX2_firstOf) := goodIn_app (goodIn_of _ (by decide +kernel)) ggX2_copyFrom_X2_firstOf
set_option maxRecDepth 20000 in
theorem ggX2_copyFrom_X2_secondOf : GoodIn wsX2_copyFrom wsX2_secondOf := goodIn_r _ [15, 1, 16, 21, 22, 23] (by decide +kernel) (by decide +kernel)
set_option maxRecDepth 20000 in
theorem gX2_copyFrom_X2_secondOf : GoodIn wsX2_copyFrom (wsV RX2 36 RX2 yX2_secondOf wsX2_secondOf) := goodIn_app (goodIn_of _ (by decide +kernel)) ggX2_copyFrom_X2_secondOf
set_option maxRecDepth 20000 in
theorem ggX2_copyFrom_X2_enter : GoodIn wsX2_copyFrom wsX2_enter := goodIn_r _ [20, 1, 11, 16, 21, 22, 23] (by decide +kernel) (by decide +kernel)
set_option maxRecDepth 20000 in
theorem gX2_copyFrom_X2_enter : GoodIn wsX2_copyFrom (wsV RX2 39 RX2 yX2_enter wsX2_enter) := goodIn_app (goodIn_of _ (by decide +kernel)) ggX2_copyFrom_X2_enter
theorem dX2_copyFrom_0 : decode cX2_copyFrom 0 = .ok (.aload_n 0, 1) := by decide +kernel
theorem dX2_copyFrom_1 : decode cX2_copyFrom 1 = .ok (.invokevirtual 28, 3) := by decide +kernel
theorem dX2_copyFrom_4 : decode cX2_copyFrom 4 = .ok (.pop, 1) := by decide +kernel
theorem dX2_copyFrom_5 : decode cX2_copyFrom 5 = .ok (.iconst 0, 1) := by decide +kernel
theorem dX2_copyFrom_6 : decode cX2_copyFrom 6 = .ok (.istore_n 2, 1) := by decide +kernel
theorem dX2_copyFrom_7 : decode cX2_copyFrom 7 = .ok (.iload_n 2, 1) := by decide +kernel
theorem dX2_copyFrom_8 : decode cX2_copyFrom 8 = .ok (.aload_n 1, 1) := by decide +kernel
theorem dX2_copyFrom_9 : decode cX2_copyFrom 9 = .ok (.getfield 9, 3) := by decide +kernel
theorem dX2_copyFrom_12 : decode cX2_copyFrom 12 = .ok (.if_icmp .ge 24, 3) := by decide +kernel
theorem dX2_copyFrom_15 : decode cX2_copyFrom 15 = .ok (.aload_n 0, 1) := by decide +kernel
theorem dX2_copyFrom_16 : decode cX2_copyFrom 16 = .ok (.aload_n 1, 1) := by decide +kernel
theorem dX2_copyFrom_17 : decode cX2_copyFrom 17 = .ok (.iload_n 2, 1) := by decide +kernel
theorem dX2_copyFrom_18 : decode cX2_copyFrom 18 = .ok (.invokevirtual 32, 3) := by decide +kernel
theorem dX2_copyFrom_21 : decode cX2_copyFrom 21 = .ok (.aload_n 1, 1) := by decide +kernel
theorem dX2_copyFrom_22 : decode cX2_copyFrom 22 = .ok (.iload_n 2, 1) := by decide +kernel
theorem dX2_copyFrom_23 : decode cX2_copyFrom 23 = .ok (.invokevirtual 36, 3) := by decide +kernel
theorem dX2_copyFrom_26 : decode cX2_copyFrom 26 = .ok (.invokevirtual 39, 3) := by decide +kernel
theorem dX2_copyFrom_29 : decode cX2_copyFrom 29 = .ok (.pop, 1) := by decide +kernel
theorem dX2_copyFrom_30 : decode cX2_copyFrom 30 = .ok (.iinc 2 1, 3) := by decide +kernel
theorem dX2_copyFrom_33 : decode cX2_copyFrom 33 = .ok (.goto (-26), 3) := by decide +kernel
theorem dX2_copyFrom_36 : decode cX2_copyFrom 36 = .ok (.return_, 1) := by decide +kernel
theorem dX3_init_0 : decode cX3_init 0 = .ok (.aload_n 0, 1) := by decide +kernel
theorem dX3_init_1 : decode cX3_init 1 = .ok (.invokespecial 3, 3) := by decide +kernel
theorem dX3_init_4 : decode cX3_init 4 = .ok (.aload_n 0, 1) := by decide +kernel
theorem dX3_init_5 : decode cX3_init 5 = .ok (.iconst 5, 1) := by decide +kernel
theorem dX3_init_6 : decode cX3_init 6 = .ok (.newarray .int, 2) := by decide +kernel
theorem dX3_init_8 : decode cX3_init 8 = .ok (.putfield 9, 3) := by decide +kernel
theorem dX3_init_11 : decode cX3_init 11 = .ok (.aload_n 0, 1) := by decide +kernel
theorem dX3_init_12 : decode cX3_init 12 = .ok (.iconst 5, 1) := by decide +kernel
theorem dX3_init_13 : decode cX3_init 13 = .ok (.newarray .int, 2) := by decide +kernel
theorem dX3_init_15 : decode cX3_init 15 = .ok (.putfield 15, 3) := by decide +kernel
theorem dX3_init_18 : decode cX3_init 18 = .ok (.aload_n 0, 1) := by decide +kernel
theorem dX3_init_19 : decode cX3_init 19 = .ok (.iconst 0, 1) := by decide +kernel
theorem dX3_init_20 : decode cX3_init 20 = .ok (.putfield 18, 3) := by decide +kernel
theorem dX3_init_23 : decode cX3_init 23 = .ok (.return_, 1) := by decide +kernel
set_option maxRecDepth 20000 in
theorem ggX3_faultPlaceIn_X3_lettersFrom : GoodIn wsX3_faultPlaceIn wsX3_lettersFrom := goodIn_r _ [8, 9, 10, 11, 12, 13, 14, 15, 16, 17, 7, 18, 26, 27] (by decide +kernel) (by decide +kernel)
set_option maxRecDepth 20000 in
theorem gX3_faultPlaceIn_X3_lettersFrom : GoodIn wsX3_faultPlaceIn (va_wsS RX3 22 yX3_lettersFrom wsX3_lettersFrom) := goodIn_app (goodIn_of _ (by decide +kernel)) ggX3_faultPlaceIn_X3_lettersFrom
set_option maxRecDepth 20000 in
theorem ggX3_faultPlaceIn_X3_isNameAhead : GoodIn wsX3_faultPlaceIn wsX3_isNameAhead := goodIn_r _ [22, 1, 3, 2, 9, 10, 11, 12, 13, 14, 15, 23, 24, 25, 26, 27] (by decide +kernel) (by decide +kernel)
set_option maxRecDepth 20000 in
theorem gX3_faultPlaceIn_X3_isNameAhead : GoodIn wsX3_faultPlaceIn (wsV RX3 26 RX3 yX3_isNameAhead wsX3_isNameAhead) := goodIn_app (goodIn_of _ (by decide +kernel)) ggX3_faultPlaceIn_X3_isNameAhead
set_option maxRecDepth 20000 in
theorem ggX3_faultPlaceIn_X6_at : GoodIn wsX3_faultPlaceIn wsX6_at := goodIn_r _ [13, 14, 15, 26, 27] (by decide +kernel) (by decide +kernel)
set_option maxRecDepth 20000 in
theorem gX3_faultPlaceIn_X6_at : GoodIn wsX3_faultPlaceIn (wsV RX3 35 RX6 yX6_at wsX6_at) := goodIn_app (goodIn_of _ (by decide +kernel)) ggX3_faultPlaceIn_X6_at
theorem dX3_faultPlaceIn_0 : decode cX3_faultPlaceIn 0 = .ok (.aload_n 0, 1) := by decide +kernel
theorem dX3_faultPlaceIn_1 : decode cX3_faultPlaceIn 1 = .ok (.iconst 0, 1) := by decide +kernel
theorem dX3_faultPlaceIn_2 : decode cX3_faultPlaceIn 2 = .ok (.putfield 18, 3) := by decide +kernel
theorem dX3_faultPlaceIn_5 : decode cX3_faultPlaceIn 5 = .ok (.iconst 0, 1) := by decide +kernel
theorem dX3_faultPlaceIn_6 : decode cX3_faultPlaceIn 6 = .ok (.istore_n 2, 1) := by decide +kernel
theorem dX3_faultPlaceIn_7 : decode cX3_faultPlaceIn 7 = .ok (.aload_n 0, 1) := by decide +kernel
theorem dX3_faultPlaceIn_8 : decode cX3_faultPlaceIn 8 = .ok (.getfield 18, 3) := by decide +kernel
theorem dX3_faultPlaceIn_11 : decode cX3_faultPlaceIn 11 = .ok (.iconst 5, 1) := by decide +kernel
theorem dX3_faultPlaceIn_12 : decode cX3_faultPlaceIn 12 = .ok (.if_icmp .ge 95, 3) := by decide +kernel
theorem dX3_faultPlaceIn_15 : decode cX3_faultPlaceIn 15 = .ok (.aload_n 1, 1) := by decide +kernel
theorem dX3_faultPlaceIn_16 : decode cX3_faultPlaceIn 16 = .ok (.iload_n 2, 1) := by decide +kernel
theorem dX3_faultPlaceIn_17 : decode cX3_faultPlaceIn 17 = .ok (.invokestatic 22, 3) := by decide +kernel
theorem dX3_faultPlaceIn_20 : decode cX3_faultPlaceIn 20 = .ok (.istore_n 3, 1) := by decide +kernel
theorem dX3_faultPlaceIn_21 : decode cX3_faultPlaceIn 21 = .ok (.iload_n 3, 1) := by decide +kernel
theorem dX3_faultPlaceIn_22 : decode cX3_faultPlaceIn 22 = .ok (.ifCond .eq 13, 3) := by decide +kernel
theorem dX3_faultPlaceIn_25 : decode cX3_faultPlaceIn 25 = .ok (.aload_n 0, 1) := by decide +kernel
theorem dX3_faultPlaceIn_26 : decode cX3_faultPlaceIn 26 = .ok (.aload_n 1, 1) := by decide +kernel
theorem dX3_faultPlaceIn_27 : decode cX3_faultPlaceIn 27 = .ok (.iload_n 2, 1) := by decide +kernel
theorem dX3_faultPlaceIn_28 : decode cX3_faultPlaceIn 28 = .ok (.iload_n 3, 1) := by decide +kernel
theorem dX3_faultPlaceIn_29 : decode cX3_faultPlaceIn 29 = .ok (.invokevirtual 26, 3) := by decide +kernel
theorem dX3_faultPlaceIn_32 : decode cX3_faultPlaceIn 32 = .ok (.ifCond .eq 5, 3) := by decide +kernel
theorem dX3_faultPlaceIn_35 : decode cX3_faultPlaceIn 35 = .ok (.iload_n 2, 1) := by decide +kernel
theorem dX3_faultPlaceIn_36 : decode cX3_faultPlaceIn 36 = .ok (.ireturn, 1) := by decide +kernel
theorem dX3_faultPlaceIn_37 : decode cX3_faultPlaceIn 37 = .ok (.aload_n 0, 1) := by decide +kernel
theorem dX3_faultPlaceIn_38 : decode cX3_faultPlaceIn 38 = .ok (.getfield 9, 3) := by decide +kernel
theorem dX3_faultPlaceIn_41 : decode cX3_faultPlaceIn 41 = .ok (.aload_n 0, 1) := by decide +kernel
theorem dX3_faultPlaceIn_42 : decode cX3_faultPlaceIn 42 = .ok (.getfield 18, 3) := by decide +kernel
theorem dX3_faultPlaceIn_45 : decode cX3_faultPlaceIn 45 = .ok (.iload_n 2, 1) := by decide +kernel
theorem dX3_faultPlaceIn_46 : decode cX3_faultPlaceIn 46 = .ok (.iastore, 1) := by decide +kernel
theorem dX3_faultPlaceIn_47 : decode cX3_faultPlaceIn 47 = .ok (.aload_n 0, 1) := by decide +kernel
theorem dX3_faultPlaceIn_48 : decode cX3_faultPlaceIn 48 = .ok (.getfield 15, 3) := by decide +kernel
theorem dX3_faultPlaceIn_51 : decode cX3_faultPlaceIn 51 = .ok (.aload_n 0, 1) := by decide +kernel
theorem dX3_faultPlaceIn_52 : decode cX3_faultPlaceIn 52 = .ok (.getfield 18, 3) := by decide +kernel
theorem dX3_faultPlaceIn_55 : decode cX3_faultPlaceIn 55 = .ok (.iload_n 3, 1) := by decide +kernel
theorem dX3_faultPlaceIn_56 : decode cX3_faultPlaceIn 56 = .ok (.iastore, 1) := by decide +kernel
theorem dX3_faultPlaceIn_57 : decode cX3_faultPlaceIn 57 = .ok (.aload_n 0, 1) := by decide +kernel
theorem dX3_faultPlaceIn_58 : decode cX3_faultPlaceIn 58 = .ok (.dup, 1) := by decide +kernel
theorem dX3_faultPlaceIn_59 : decode cX3_faultPlaceIn 59 = .ok (.getfield 18, 3) := by decide +kernel
theorem dX3_faultPlaceIn_62 : decode cX3_faultPlaceIn 62 = .ok (.iconst 1, 1) := by decide +kernel
theorem dX3_faultPlaceIn_63 : decode cX3_faultPlaceIn 63 = .ok (.iadd, 1) := by decide +kernel
theorem dX3_faultPlaceIn_64 : decode cX3_faultPlaceIn 64 = .ok (.putfield 18, 3) := by decide +kernel
theorem dX3_faultPlaceIn_67 : decode cX3_faultPlaceIn 67 = .ok (.iload_n 2, 1) := by decide +kernel
theorem dX3_faultPlaceIn_68 : decode cX3_faultPlaceIn 68 = .ok (.iload_n 3, 1) := by decide +kernel
theorem dX3_faultPlaceIn_69 : decode cX3_faultPlaceIn 69 = .ok (.iadd, 1) := by decide +kernel
theorem dX3_faultPlaceIn_70 : decode cX3_faultPlaceIn 70 = .ok (.istore_n 2, 1) := by decide +kernel
theorem dX3_faultPlaceIn_71 : decode cX3_faultPlaceIn 71 = .ok (.iload_n 2, 1) := by decide +kernel
theorem dX3_faultPlaceIn_72 : decode cX3_faultPlaceIn 72 = .ok (.aload_n 1, 1) := by decide +kernel
theorem dX3_faultPlaceIn_73 : decode cX3_faultPlaceIn 73 = .ok (.getfield 30, 3) := by decide +kernel
theorem dX3_faultPlaceIn_76 : decode cX3_faultPlaceIn 76 = .ok (.if_icmp .ne 5, 3) := by decide +kernel
theorem dX3_faultPlaceIn_79 : decode cX3_faultPlaceIn 79 = .ok (.iconst (-1), 1) := by decide +kernel
theorem dX3_faultPlaceIn_80 : decode cX3_faultPlaceIn 80 = .ok (.ireturn, 1) := by decide +kernel
theorem dX3_faultPlaceIn_81 : decode cX3_faultPlaceIn 81 = .ok (.aload_n 1, 1) := by decide +kernel
theorem dX3_faultPlaceIn_82 : decode cX3_faultPlaceIn 82 = .ok (.iload_n 2, 1) := by decide +kernel
theorem dX3_faultPlaceIn_83 : decode cX3_faultPlaceIn 83 = .ok (.invokevirtual 35, 3) := by decide +kernel
theorem dX3_faultPlaceIn_86 : decode cX3_faultPlaceIn 86 = .ok (.bipush 44, 2) := by decide +kernel
theorem dX3_faultPlaceIn_88 : decode cX3_faultPlaceIn 88 = .ok (.if_icmp .ne 11, 3) := by decide +kernel
theorem dX3_faultPlaceIn_91 : decode cX3_faultPlaceIn 91 = .ok (.aload_n 0, 1) := by decide +kernel
theorem dX3_faultPlaceIn_92 : decode cX3_faultPlaceIn 92 = .ok (.getfield 18, 3) := by decide +kernel
theorem dX3_faultPlaceIn_95 : decode cX3_faultPlaceIn 95 = .ok (.iconst 5, 1) := by decide +kernel
theorem dX3_faultPlaceIn_96 : decode cX3_faultPlaceIn 96 = .ok (.if_icmp .ne 5, 3) := by decide +kernel
theorem dX3_faultPlaceIn_99 : decode cX3_faultPlaceIn 99 = .ok (.iload_n 2, 1) := by decide +kernel
theorem dX3_faultPlaceIn_100 : decode cX3_faultPlaceIn 100 = .ok (.ireturn, 1) := by decide +kernel
theorem dX3_faultPlaceIn_101 : decode cX3_faultPlaceIn 101 = .ok (.iinc 2 1, 3) := by decide +kernel
theorem dX3_faultPlaceIn_104 : decode cX3_faultPlaceIn 104 = .ok (.goto (-97), 3) := by decide +kernel
theorem dX3_faultPlaceIn_107 : decode cX3_faultPlaceIn 107 = .ok (.iload_n 2, 1) := by decide +kernel
theorem dX3_faultPlaceIn_108 : decode cX3_faultPlaceIn 108 = .ok (.ireturn, 1) := by decide +kernel
set_option maxRecDepth 20000 in
theorem ggX3_lettersFrom_X6_at : GoodIn wsX3_lettersFrom wsX6_at := goodIn_r _ [5, 6, 7, 12, 13] (by decide +kernel) (by decide +kernel)
set_option maxRecDepth 20000 in
theorem gX3_lettersFrom_X6_at : GoodIn wsX3_lettersFrom (wsV RX3 35 RX6 yX6_at wsX6_at) := goodIn_app (goodIn_of _ (by decide +kernel)) ggX3_lettersFrom_X6_at
set_option maxRecDepth 20000 in
theorem ggX3_lettersFrom_X3_isLetter : GoodIn wsX3_lettersFrom wsX3_isLetter := goodIn_r _ [11] (by decide +kernel) (by decide +kernel)
set_option maxRecDepth 20000 in
theorem gX3_lettersFrom_X3_isLetter : GoodIn wsX3_lettersFrom (va_wsS RX3 39 yX3_isLetter wsX3_isLetter) := goodIn_app (goodIn_of _ (by decide +kernel)) ggX3_lettersFrom_X3_isLetter
theorem dX3_lettersFrom_0 : decode cX3_lettersFrom 0 = .ok (.iconst 0, 1) := by decide +kernel
theorem dX3_lettersFrom_1 : decode cX3_lettersFrom 1 = .ok (.istore_n 2, 1) := by decide +kernel
theorem dX3_lettersFrom_2 : decode cX3_lettersFrom 2 = .ok (.iload_n 2, 1) := by decide +kernel
theorem dX3_lettersFrom_3 : decode cX3_lettersFrom 3 = .ok (.iconst 4, 1) := by decide +kernel
theorem dX3_lettersFrom_4 : decode cX3_lettersFrom 4 = .ok (.if_icmp .ge 22, 3) := by decide +kernel
theorem dX3_lettersFrom_7 : decode cX3_lettersFrom 7 = .ok (.aload_n 0, 1) := by decide +kernel
theorem dX3_lettersFrom_8 : decode cX3_lettersFrom 8 = .ok (.iload_n 1, 1) := by decide +kernel
theorem dX3_lettersFrom_9 : decode cX3_lettersFrom 9 = .ok (.iload_n 2, 1) := by decide +kernel
theorem dX3_lettersFrom_10 : decode cX3_lettersFrom 10 = .ok (.iadd, 1) := by decide +kernel
theorem dX3_lettersFrom_11 : decode cX3_lettersFrom 11 = .ok (.invokevirtual 35, 3) := by decide +kernel
theorem dX3_lettersFrom_14 : decode cX3_lettersFrom 14 = .ok (.invokestatic 39, 3) := by decide +kernel
theorem dX3_lettersFrom_17 : decode cX3_lettersFrom 17 = .ok (.ifCond .eq 9, 3) := by decide +kernel
theorem dX3_lettersFrom_20 : decode cX3_lettersFrom 20 = .ok (.iinc 2 1, 3) := by decide +kernel
theorem dX3_lettersFrom_23 : decode cX3_lettersFrom 23 = .ok (.goto (-21), 3) := by decide +kernel
theorem dX3_lettersFrom_26 : decode cX3_lettersFrom 26 = .ok (.iload_n 2, 1) := by decide +kernel
theorem dX3_lettersFrom_27 : decode cX3_lettersFrom 27 = .ok (.ireturn, 1) := by decide +kernel
theorem dX3_isLetter_0 : decode cX3_isLetter 0 = .ok (.iload_n 0, 1) := by decide +kernel
theorem dX3_isLetter_1 : decode cX3_isLetter 1 = .ok (.bipush 97, 2) := by decide +kernel
theorem dX3_isLetter_3 : decode cX3_isLetter 3 = .ok (.if_icmp .lt 13, 3) := by decide +kernel
theorem dX3_isLetter_6 : decode cX3_isLetter 6 = .ok (.iload_n 0, 1) := by decide +kernel
theorem dX3_isLetter_7 : decode cX3_isLetter 7 = .ok (.bipush 122, 2) := by decide +kernel
theorem dX3_isLetter_9 : decode cX3_isLetter 9 = .ok (.if_icmp .gt 7, 3) := by decide +kernel
theorem dX3_isLetter_12 : decode cX3_isLetter 12 = .ok (.iconst 1, 1) := by decide +kernel
theorem dX3_isLetter_13 : decode cX3_isLetter 13 = .ok (.goto 4, 3) := by decide +kernel
theorem dX3_isLetter_16 : decode cX3_isLetter 16 = .ok (.iconst 0, 1) := by decide +kernel
theorem dX3_isLetter_17 : decode cX3_isLetter 17 = .ok (.ireturn, 1) := by decide +kernel
set_option maxRecDepth 20000 in
theorem ggX3_isNameAhead_X6_at : GoodIn wsX3_isNameAhead wsX6_at := goodIn_r _ [8, 9, 10, 14, 15] (by decide +kernel) (by decide +kernel)
set_option maxRecDepth 20000 in
theorem gX3_isNameAhead_X6_at : GoodIn wsX3_isNameAhead (wsV RX3 35 RX6 yX6_at wsX6_at) := goodIn_app (goodIn_of _ (by decide +kernel)) ggX3_isNameAhead_X6_at
theorem dX3_isNameAhead_0 : decode cX3_isNameAhead 0 = .ok (.iconst 0, 1) := by decide +kernel
theorem dX3_isNameAhead_1 : decode cX3_isNameAhead 1 = .ok (.istore 4, 2) := by decide +kernel
theorem dX3_isNameAhead_3 : decode cX3_isNameAhead 3 = .ok (.iload 4, 2) := by decide +kernel
theorem dX3_isNameAhead_5 : decode cX3_isNameAhead 5 = .ok (.aload_n 0, 1) := by decide +kernel
theorem dX3_isNameAhead_6 : decode cX3_isNameAhead 6 = .ok (.getfield 18, 3) := by decide +kernel
theorem dX3_isNameAhead_9 : decode cX3_isNameAhead 9 = .ok (.if_icmp .ge 92, 3) := by decide +kernel
theorem dX3_isNameAhead_12 : decode cX3_isNameAhead 12 = .ok (.iload 4, 2) := by decide +kernel
theorem dX3_isNameAhead_14 : decode cX3_isNameAhead 14 = .ok (.iconst 5, 1) := by decide +kernel
theorem dX3_isNameAhead_15 : decode cX3_isNameAhead 15 = .ok (.if_icmp .ge 86, 3) := by decide +kernel
theorem dX3_isNameAhead_18 : decode cX3_isNameAhead 18 = .ok (.aload_n 0, 1) := by decide +kernel
theorem dX3_isNameAhead_19 : decode cX3_isNameAhead 19 = .ok (.getfield 15, 3) := by decide +kernel
theorem dX3_isNameAhead_22 : decode cX3_isNameAhead 22 = .ok (.iload 4, 2) := by decide +kernel
theorem dX3_isNameAhead_24 : decode cX3_isNameAhead 24 = .ok (.iaload, 1) := by decide +kernel
theorem dX3_isNameAhead_25 : decode cX3_isNameAhead 25 = .ok (.iload_n 3, 1) := by decide +kernel
theorem dX3_isNameAhead_26 : decode cX3_isNameAhead 26 = .ok (.if_icmp .ne 7, 3) := by decide +kernel
theorem dX3_isNameAhead_29 : decode cX3_isNameAhead 29 = .ok (.iconst 1, 1) := by decide +kernel
theorem dX3_isNameAhead_30 : decode cX3_isNameAhead 30 = .ok (.goto 4, 3) := by decide +kernel
theorem dX3_isNameAhead_33 : decode cX3_isNameAhead 33 = .ok (.iconst 0, 1) := by decide +kernel
theorem dX3_isNameAhead_34 : decode cX3_isNameAhead 34 = .ok (.istore 5, 2) := by decide +kernel
theorem dX3_isNameAhead_36 : decode cX3_isNameAhead 36 = .ok (.iconst 0, 1) := by decide +kernel
theorem dX3_isNameAhead_37 : decode cX3_isNameAhead 37 = .ok (.istore 6, 2) := by decide +kernel
theorem dX3_isNameAhead_39 : decode cX3_isNameAhead 39 = .ok (.iload 6, 2) := by decide +kernel
theorem dX3_isNameAhead_41 : decode cX3_isNameAhead 41 = .ok (.iload_n 3, 1) := by decide +kernel
theorem dX3_isNameAhead_42 : decode cX3_isNameAhead 42 = .ok (.if_icmp .ge 46, 3) := by decide +kernel
theorem dX3_isNameAhead_45 : decode cX3_isNameAhead 45 = .ok (.iload 5, 2) := by decide +kernel
theorem dX3_isNameAhead_47 : decode cX3_isNameAhead 47 = .ok (.ifCond .eq 41, 3) := by decide +kernel
theorem dX3_isNameAhead_50 : decode cX3_isNameAhead 50 = .ok (.aload_n 1, 1) := by decide +kernel
theorem dX3_isNameAhead_51 : decode cX3_isNameAhead 51 = .ok (.aload_n 0, 1) := by decide +kernel
theorem dX3_isNameAhead_52 : decode cX3_isNameAhead 52 = .ok (.getfield 9, 3) := by decide +kernel
theorem dX3_isNameAhead_55 : decode cX3_isNameAhead 55 = .ok (.iload 4, 2) := by decide +kernel
theorem dX3_isNameAhead_57 : decode cX3_isNameAhead 57 = .ok (.iaload, 1) := by decide +kernel
theorem dX3_isNameAhead_58 : decode cX3_isNameAhead 58 = .ok (.iload 6, 2) := by decide +kernel
theorem dX3_isNameAhead_60 : decode cX3_isNameAhead 60 = .ok (.iadd, 1) := by decide +kernel
theorem dX3_isNameAhead_61 : decode cX3_isNameAhead 61 = .ok (.invokevirtual 35, 3) := by decide +kernel
theorem dX3_isNameAhead_64 : decode cX3_isNameAhead 64 = .ok (.aload_n 1, 1) := by decide +kernel
theorem dX3_isNameAhead_65 : decode cX3_isNameAhead 65 = .ok (.iload_n 2, 1) := by decide +kernel
theorem dX3_isNameAhead_66 : decode cX3_isNameAhead 66 = .ok (.iload 6, 2) := by decide +kernel
theorem dX3_isNameAhead_68 : decode cX3_isNameAhead 68 = .ok (.iadd, 1) := by decide +kernel
theorem dX3_isNameAhead_69 : decode cX3_isNameAhead 69 = .ok (.invokevirtual 35, 3) := by decide +kernel
theorem dX3_isNameAhead_72 : decode cX3_isNameAhead 72 = .ok (.if_icmp .ne 7, 3) := by decide +kernel
theorem dX3_isNameAhead_75 : decode cX3_isNameAhead 75 = .ok (.iconst 1, 1) := by decide +kernel
theorem dX3_isNameAhead_76 : decode cX3_isNameAhead 76 = .ok (.goto 4, 3) := by decide +kernel
theorem dX3_isNameAhead_79 : decode cX3_isNameAhead 79 = .ok (.iconst 0, 1) := by decide +kernel
theorem dX3_isNameAhead_80 : decode cX3_isNameAhead 80 = .ok (.istore 5, 2) := by decide +kernel
theorem dX3_isNameAhead_82 : decode cX3_isNameAhead 82 = .ok (.iinc 6 1, 3) := by decide +kernel
theorem dX3_isNameAhead_85 : decode cX3_isNameAhead 85 = .ok (.goto (-46), 3) := by decide +kernel
theorem dX3_isNameAhead_88 : decode cX3_isNameAhead 88 = .ok (.iload 5, 2) := by decide +kernel
theorem dX3_isNameAhead_90 : decode cX3_isNameAhead 90 = .ok (.ifCond .eq 5, 3) := by decide +kernel
theorem dX3_isNameAhead_93 : decode cX3_isNameAhead 93 = .ok (.iconst 1, 1) := by decide +kernel
theorem dX3_isNameAhead_94 : decode cX3_isNameAhead 94 = .ok (.ireturn, 1) := by decide +kernel
theorem dX3_isNameAhead_95 : decode cX3_isNameAhead 95 = .ok (.iinc 4 1, 3) := by decide +kernel
theorem dX3_isNameAhead_98 : decode cX3_isNameAhead 98 = .ok (.goto (-95), 3) := by decide +kernel
theorem dX3_isNameAhead_101 : decode cX3_isNameAhead 101 = .ok (.iconst 0, 1) := by decide +kernel
theorem dX3_isNameAhead_102 : decode cX3_isNameAhead 102 = .ok (.ireturn, 1) := by decide +kernel
set_option maxRecDepth 20000 in
theorem ggX4_init_X4_commasIn : GoodIn wsX4_init wsX4_commasIn := goodIn_r _ [16, 17, 18, 19, 20, 21, 22, 23, 24, 150, 151] (by decide +kernel) (by decide +kernel)
set_option maxRecDepth 20000 in
theorem gX4_init_X4_commasIn : GoodIn wsX4_init (va_wsS RX4 7 yX4_commasIn wsX4_commasIn) := goodIn_app (goodIn_of _ (by decide +kernel)) ggX4_init_X4_commasIn
set_option maxRecDepth 20000 in
theorem ggX4_init_X4_endFrom : GoodIn wsX4_init wsX4_endFrom := goodIn_r _ [27, 17, 18, 19, 20, 21, 22, 23, 24, 150, 151] (by decide +kernel) (by decide +kernel)
set_option maxRecDepth 20000 in
theorem gX4_init_X4_endFrom : GoodIn wsX4_init (va_wsS RX4 19 yX4_endFrom wsX4_endFrom) := goodIn_app (goodIn_of _ (by decide +kernel)) ggX4_init_X4_endFrom
set_option maxRecDepth 20000 in
theorem ggX4_init_X6_at : GoodIn wsX4_init wsX6_at := goodIn_r _ [22, 23, 24, 150, 151] (by decide +kernel) (by decide +kernel)
set_option maxRecDepth 20000 in
theorem gX4_init_X6_at : GoodIn wsX4_init (wsV RX4 29 RX6 yX6_at wsX6_at) := goodIn_app (goodIn_of _ (by decide +kernel)) ggX4_init_X6_at
set_option maxRecDepth 20000 in
theorem ggX4_init_X1_init : GoodIn wsX4_init wsX1_init := goodIn_r _ [30, 31, 2, 3, 32, 33, 34, 35, 36, 37, 12, 38, 39, 40, 41, 42, 43, 44, 45, 46, 47, 48, 49, 50, 51, 52, 53, 54, 55, 56, 57, 58, 59, 60, 61, 62, 63, 64, 65, 66, 67, 68, 69, 70, 71, 72, 73, 74, 75, 76, 77, 78, 79, 80, 81, 82, 83, 84, 85, 86, 87, 88, 89, 90, 91, 92, 93, 94, 95, 96, 97, 98, 99, 100, 101, 102, 103, 104, 105, 106, 107, 108, 109, 110, 111, 112, 113, 114, 115, 116, 117, 118, 119, 120, 121, 122, 123, 124, 125, 126, 127, 128, 129, 130, 131, 132, 133, 134, 135, 136, 137, 138, 139, 140, 141, 142, 143, 144, 146, 147, 148, 149] (by decide +kernel) (by decide +kernel)
set_option maxRecDepth 20000 in
theorem gX4_init_X1_init : GoodIn wsX4_init (wsX1_init) := ggX4_init_X1_init
theorem dX4_init_0 : decode cX4_init 0 = .ok (.aload_n 0, 1) := by decide +kernel
theorem dX4_init_1 : decode cX4_init 1 = .ok (.invokespecial 1, 3) := by decide +kernel
theorem dX4_init_4 : decode cX4_init 4 = .ok (.aload_n 0, 1) := by decide +kernel
theorem dX4_init_5 : decode cX4_init 5 = .ok (.aload_n 1, 1) := by decide +kernel
theorem dX4_init_6 : decode cX4_init 6 = .ok (.invokestatic 7, 3) := by decide +kernel
theorem dX4_init_9 : decode cX4_init 9 = .ok (.iconst 1, 1) := by decide +kernel
theorem dX4_init_10 : decode cX4_init 10 = .ok (.iadd, 1) := by decide +kernel
theorem dX4_init_11 : decode cX4_init 11 = .ok (.anewarray 13, 3) := by decide +kernel
theorem dX4_init_14 : decode cX4_init 14 = .ok (.putfield 15, 3) := by decide +kernel
theorem dX4_init_17 : decode cX4_init 17 = .ok (.iconst 0, 1) := by decide +kernel
theorem dX4_init_18 : decode cX4_init 18 = .ok (.istore_n 2, 1) := by decide +kernel
theorem dX4_init_19 : decode cX4_init 19 = .ok (.iconst 0, 1) := by decide +kernel
theorem dX4_init_20 : decode cX4_init 20 = .ok (.istore_n 3, 1) := by decide +kernel
theorem dX4_init_21 : decode cX4_init 21 = .ok (.iload_n 3, 1) := by decide +kernel
theorem dX4_init_22 : decode cX4_init 22 = .ok (.aload_n 0, 1) := by decide +kernel
theorem dX4_init_23 : decode cX4_init 23 = .ok (.getfield 15, 3) := by decide +kernel
theorem dX4_init_26 : decode cX4_init 26 = .ok (.arraylength, 1) := by decide +kernel
theorem dX4_init_27 : decode cX4_init 27 = .ok (.if_icmp .ge 79, 3) := by decide +kernel
theorem dX4_init_30 : decode cX4_init 30 = .ok (.aload_n 1, 1) := by decide +kernel
theorem dX4_init_31 : decode cX4_init 31 = .ok (.iload_n 2, 1) := by decide +kernel
theorem dX4_init_32 : decode cX4_init 32 = .ok (.invokestatic 19, 3) := by decide +kernel
theorem dX4_init_35 : decode cX4_init 35 = .ok (.istore 4, 2) := by decide +kernel
theorem dX4_init_37 : decode cX4_init 37 = .ok (.iconst 0, 1) := by decide +kernel
theorem dX4_init_38 : decode cX4_init 38 = .ok (.iload 4, 2) := by decide +kernel
theorem dX4_init_40 : decode cX4_init 40 = .ok (.iload_n 2, 1) := by decide +kernel
theorem dX4_init_41 : decode cX4_init 41 = .ok (.isub, 1) := by decide +kernel
theorem dX4_init_42 : decode cX4_init 42 = .ok (.invokestatic 23, 3) := by decide +kernel
theorem dX4_init_45 : decode cX4_init 45 = .ok (.newarray .byte, 2) := by decide +kernel
theorem dX4_init_47 : decode cX4_init 47 = .ok (.astore 5, 2) := by decide +kernel
theorem dX4_init_49 : decode cX4_init 49 = .ok (.iconst 0, 1) := by decide +kernel
theorem dX4_init_50 : decode cX4_init 50 = .ok (.istore 6, 2) := by decide +kernel
theorem dX4_init_52 : decode cX4_init 52 = .ok (.iload 6, 2) := by decide +kernel
theorem dX4_init_54 : decode cX4_init 54 = .ok (.aload 5, 2) := by decide +kernel
theorem dX4_init_56 : decode cX4_init 56 = .ok (.arraylength, 1) := by decide +kernel
theorem dX4_init_57 : decode cX4_init 57 = .ok (.if_icmp .ge 23, 3) := by decide +kernel
theorem dX4_init_60 : decode cX4_init 60 = .ok (.aload 5, 2) := by decide +kernel
theorem dX4_init_62 : decode cX4_init 62 = .ok (.iload 6, 2) := by decide +kernel
theorem dX4_init_64 : decode cX4_init 64 = .ok (.aload_n 1, 1) := by decide +kernel
theorem dX4_init_65 : decode cX4_init 65 = .ok (.iload_n 2, 1) := by decide +kernel
theorem dX4_init_66 : decode cX4_init 66 = .ok (.iload 6, 2) := by decide +kernel
theorem dX4_init_68 : decode cX4_init 68 = .ok (.iadd, 1) := by decide +kernel
theorem dX4_init_69 : decode cX4_init 69 = .ok (.invokevirtual 29, 3) := by decide +kernel
theorem dX4_init_72 : decode cX4_init 72 = .ok (.i2b, 1) := by decide +kernel
theorem dX4_init_73 : decode cX4_init 73 = .ok (.bastore, 1) := by decide +kernel
theorem dX4_init_74 : decode cX4_init 74 = .ok (.iinc 6 1, 3) := by decide +kernel
theorem dX4_init_77 : decode cX4_init 77 = .ok (.goto (-25), 3) := by decide +kernel
theorem dX4_init_80 : decode cX4_init 80 = .ok (.aload_n 0, 1) := by decide +kernel
theorem dX4_init_81 : decode cX4_init 81 = .ok (.getfield 15, 3) := by decide +kernel
theorem dX4_init_84 : decode cX4_init 84 = .ok (.iload_n 3, 1) := by decide +kernel
theorem dX4_init_85 : decode cX4_init 85 = .ok (.new 13, 3) := by decide +kernel
theorem dX4_init_88 : decode cX4_init 88 = .ok (.dup, 1) := by decide +kernel
theorem dX4_init_89 : decode cX4_init 89 = .ok (.aload 5, 2) := by decide +kernel
theorem dX4_init_91 : decode cX4_init 91 = .ok (.invokespecial 35, 3) := by decide +kernel
theorem dX4_init_94 : decode cX4_init 94 = .ok (.aastore, 1) := by decide +kernel
theorem dX4_init_95 : decode cX4_init 95 = .ok (.iload 4, 2) := by decide +kernel
theorem dX4_init_97 : decode cX4_init 97 = .ok (.iconst 1, 1) := by decide +kernel
theorem dX4_init_98 : decode cX4_init 98 = .ok (.iadd, 1) := by decide +kernel
theorem dX4_init_99 : decode cX4_init 99 = .ok (.istore_n 2, 1) := by decide +kernel
theorem dX4_init_100 : decode cX4_init 100 = .ok (.iinc 3 1, 3) := by decide +kernel
theorem dX4_init_103 : decode cX4_init 103 = .ok (.goto (-82), 3) := by decide +kernel
theorem dX4_init_106 : decode cX4_init 106 = .ok (.return_, 1) := by decide +kernel
theorem dX4_fieldAt_0 : decode cX4_fieldAt 0 = .ok (.iload_n 1, 1) := by decide +kernel
theorem dX4_fieldAt_1 : decode cX4_fieldAt 1 = .ok (.ifCond .lt 21, 3) := by decide +kernel
theorem dX4_fieldAt_4 : decode cX4_fieldAt 4 = .ok (.iload_n 1, 1) := by decide +kernel
theorem dX4_fieldAt_5 : decode cX4_fieldAt 5 = .ok (.aload_n 0, 1) := by decide +kernel
theorem dX4_fieldAt_6 : decode cX4_fieldAt 6 = .ok (.getfield 15, 3) := by decide +kernel
theorem dX4_fieldAt_9 : decode cX4_fieldAt 9 = .ok (.arraylength, 1) := by decide +kernel
theorem dX4_fieldAt_10 : decode cX4_fieldAt 10 = .ok (.if_icmp .ge 12, 3) := by decide +kernel
theorem dX4_fieldAt_13 : decode cX4_fieldAt 13 = .ok (.aload_n 0, 1) := by decide +kernel
theorem dX4_fieldAt_14 : decode cX4_fieldAt 14 = .ok (.getfield 15, 3) := by decide +kernel
theorem dX4_fieldAt_17 : decode cX4_fieldAt 17 = .ok (.iload_n 1, 1) := by decide +kernel
theorem dX4_fieldAt_18 : decode cX4_fieldAt 18 = .ok (.aaload, 1) := by decide +kernel
theorem dX4_fieldAt_19 : decode cX4_fieldAt 19 = .ok (.goto 4, 3) := by decide +kernel
theorem dX4_fieldAt_22 : decode cX4_fieldAt 22 = .ok (.aconst_null, 1) := by decide +kernel
theorem dX4_fieldAt_23 : decode cX4_fieldAt 23 = .ok (.areturn, 1) := by decide +kernel
set_option maxRecDepth 20000 in
theorem ggX4_commasIn_X6_at : GoodIn wsX4_commasIn wsX6_at := goodIn_r _ [6, 7, 8, 9, 10] (by decide +kernel) (by decide +kernel)
set_option maxRecDepth 20000 in
theorem gX4_commasIn_X6_at : GoodIn wsX4_commasIn (wsV RX4 29 RX6 yX6_at wsX6_at) := goodIn_app (goodIn_of _ (by decide +kernel)) ggX4_commasIn_X6_at
theorem dX4_commasIn_0 : decode cX4_commasIn 0 = .ok (.iconst 0, 1) := by decide +kernel
theorem dX4_commasIn_1 : decode cX4_commasIn 1 = .ok (.istore_n 1, 1) := by decide +kernel
theorem dX4_commasIn_2 : decode cX4_commasIn 2 = .ok (.iconst 0, 1) := by decide +kernel
theorem dX4_commasIn_3 : decode cX4_commasIn 3 = .ok (.istore_n 2, 1) := by decide +kernel
theorem dX4_commasIn_4 : decode cX4_commasIn 4 = .ok (.iload_n 2, 1) := by decide +kernel
theorem dX4_commasIn_5 : decode cX4_commasIn 5 = .ok (.aload_n 0, 1) := by decide +kernel
theorem dX4_commasIn_6 : decode cX4_commasIn 6 = .ok (.getfield 38, 3) := by decide +kernel
theorem dX4_commasIn_9 : decode cX4_commasIn 9 = .ok (.if_icmp .ge 22, 3) := by decide +kernel
theorem dX4_commasIn_12 : decode cX4_commasIn 12 = .ok (.aload_n 0, 1) := by decide +kernel
theorem dX4_commasIn_13 : decode cX4_commasIn 13 = .ok (.iload_n 2, 1) := by decide +kernel
theorem dX4_commasIn_14 : decode cX4_commasIn 14 = .ok (.invokevirtual 29, 3) := by decide +kernel
theorem dX4_commasIn_17 : decode cX4_commasIn 17 = .ok (.bipush 44, 2) := by decide +kernel
theorem dX4_commasIn_19 : decode cX4_commasIn 19 = .ok (.if_icmp .ne 6, 3) := by decide +kernel
theorem dX4_commasIn_22 : decode cX4_commasIn 22 = .ok (.iinc 1 1, 3) := by decide +kernel
theorem dX4_commasIn_25 : decode cX4_commasIn 25 = .ok (.iinc 2 1, 3) := by decide +kernel
theorem dX4_commasIn_28 : decode cX4_commasIn 28 = .ok (.goto (-24), 3) := by decide +kernel
theorem dX4_commasIn_31 : decode cX4_commasIn 31 = .ok (.iload_n 1, 1) := by decide +kernel
theorem dX4_commasIn_32 : decode cX4_commasIn 32 = .ok (.ireturn, 1) := by decide +kernel
set_option maxRecDepth 20000 in
theorem ggX4_endFrom_X6_at : GoodIn wsX4_endFrom wsX6_at := goodIn_r _ [6, 7, 8, 9, 10] (by decide +kernel) (by decide +kernel)
set_option maxRecDepth 20000 in
theorem gX4_endFrom_X6_at : GoodIn wsX4_endFrom (wsV RX4 29 RX6 yX6_at wsX6_at) := goodIn_app (goodIn_of _ (by decide +kernel)) ggX4_endFrom_X6_at
theorem dX4_endFrom_0 : decode cX4_endFrom 0 = .ok (.iload_n 1, 1) := by decide +kernel
theorem dX4_endFrom_1 : decode cX4_endFrom 1 = .ok (.istore_n 2, 1) := by decide +kernel
theorem dX4_endFrom_2 : decode cX4_endFrom 2 = .ok (.iload_n 2, 1) := by decide +kernel
theorem dX4_endFrom_3 : decode cX4_endFrom 3 = .ok (.aload_n 0, 1) := by decide +kernel
theorem dX4_endFrom_4 : decode cX4_endFrom 4 = .ok (.getfield 38, 3) := by decide +kernel
theorem dX4_endFrom_7 : decode cX4_endFrom 7 = .ok (.if_icmp .ge 19, 3) := by decide +kernel
theorem dX4_endFrom_10 : decode cX4_endFrom 10 = .ok (.aload_n 0, 1) := by decide +kernel
theorem dX4_endFrom_11 : decode cX4_endFrom 11 = .ok (.iload_n 2, 1) := by decide +kernel
theorem dX4_endFrom_12 : decode cX4_endFrom 12 = .ok (.invokevirtual 29, 3) := by decide +kernel
theorem dX4_endFrom_15 : decode cX4_endFrom 15 = .ok (.bipush 44, 2) := by decide +kernel
theorem dX4_endFrom_17 : decode cX4_endFrom 17 = .ok (.if_icmp .eq 9, 3) := by decide +kernel
theorem dX4_endFrom_20 : decode cX4_endFrom 20 = .ok (.iinc 2 1, 3) := by decide +kernel
theorem dX4_endFrom_23 : decode cX4_endFrom 23 = .ok (.goto (-21), 3) := by decide +kernel
theorem dX4_endFrom_26 : decode cX4_endFrom 26 = .ok (.iload_n 2, 1) := by decide +kernel
theorem dX4_endFrom_27 : decode cX4_endFrom 27 = .ok (.ireturn, 1) := by decide +kernel
theorem dX5_init_0 : decode cX5_init 0 = .ok (.aload_n 0, 1) := by decide +kernel
theorem dX5_init_1 : decode cX5_init 1 = .ok (.invokespecial 3, 3) := by decide +kernel
theorem dX5_init_4 : decode cX5_init 4 = .ok (.aload_n 0, 1) := by decide +kernel
theorem dX5_init_5 : decode cX5_init 5 = .ok (.iconst 5, 1) := by decide +kernel
theorem dX5_init_6 : decode cX5_init 6 = .ok (.newarray .int, 2) := by decide +kernel
theorem dX5_init_8 : decode cX5_init 8 = .ok (.putfield 9, 3) := by decide +kernel
theorem dX5_init_11 : decode cX5_init 11 = .ok (.aload_n 0, 1) := by decide +kernel
theorem dX5_init_12 : decode cX5_init 12 = .ok (.bipush 24, 2) := by decide +kernel
theorem dX5_init_14 : decode cX5_init 14 = .ok (.newarray .int, 2) := by decide +kernel
theorem dX5_init_16 : decode cX5_init 16 = .ok (.putfield 15, 3) := by decide +kernel
theorem dX5_init_19 : decode cX5_init 19 = .ok (.aload_n 0, 1) := by decide +kernel
theorem dX5_init_20 : decode cX5_init 20 = .ok (.bipush 24, 2) := by decide +kernel
theorem dX5_init_22 : decode cX5_init 22 = .ok (.newarray .int, 2) := by decide +kernel
theorem dX5_init_24 : decode cX5_init 24 = .ok (.putfield 18, 3) := by decide +kernel
theorem dX5_init_27 : decode cX5_init 27 = .ok (.aload_n 0, 1) := by decide +kernel
theorem dX5_init_28 : decode cX5_init 28 = .ok (.bipush 24, 2) := by decide +kernel
theorem dX5_init_30 : decode cX5_init 30 = .ok (.newarray .int, 2) := by decide +kernel
theorem dX5_init_32 : decode cX5_init 32 = .ok (.putfield 21, 3) := by decide +kernel
theorem dX5_init_35 : decode cX5_init 35 = .ok (.aload_n 0, 1) := by decide +kernel
theorem dX5_init_36 : decode cX5_init 36 = .ok (.bipush 24, 2) := by decide +kernel
theorem dX5_init_38 : decode cX5_init 38 = .ok (.newarray .int, 2) := by decide +kernel
theorem dX5_init_40 : decode cX5_init 40 = .ok (.putfield 24, 3) := by decide +kernel
theorem dX5_init_43 : decode cX5_init 43 = .ok (.aload_n 0, 1) := by decide +kernel
theorem dX5_init_44 : decode cX5_init 44 = .ok (.bipush 24, 2) := by decide +kernel
theorem dX5_init_46 : decode cX5_init 46 = .ok (.newarray .int, 2) := by decide +kernel
theorem dX5_init_48 : decode cX5_init 48 = .ok (.putfield 27, 3) := by decide +kernel
theorem dX5_init_51 : decode cX5_init 51 = .ok (.aload_n 0, 1) := by decide +kernel
theorem dX5_init_52 : decode cX5_init 52 = .ok (.iconst 0, 1) := by decide +kernel
theorem dX5_init_53 : decode cX5_init 53 = .ok (.putfield 30, 3) := by decide +kernel
theorem dX5_init_56 : decode cX5_init 56 = .ok (.aload_n 0, 1) := by decide +kernel
theorem dX5_init_57 : decode cX5_init 57 = .ok (.iconst 0, 1) := by decide +kernel
theorem dX5_init_58 : decode cX5_init 58 = .ok (.putfield 34, 3) := by decide +kernel
theorem dX5_init_61 : decode cX5_init 61 = .ok (.aload_n 0, 1) := by decide +kernel
theorem dX5_init_62 : decode cX5_init 62 = .ok (.iconst (-1), 1) := by decide +kernel
theorem dX5_init_63 : decode cX5_init 63 = .ok (.putfield 37, 3) := by decide +kernel
theorem dX5_init_66 : decode cX5_init 66 = .ok (.return_, 1) := by decide +kernel
set_option maxRecDepth 20000 in
theorem ggX5_restart_J7_fill_53178 : GoodIn wsX5_restart wsJ7_fill_53178 := goodIn_r _ [7] (by decide +kernel) (by decide +kernel)
set_option maxRecDepth 20000 in
theorem gX5_restart_J7_fill_53178 : GoodIn wsX5_restart (va_wsS RX5 40 yJ7_fill_53178 wsJ7_fill_53178) := goodIn_app (goodIn_of _ (by decide +kernel)) ggX5_restart_J7_fill_53178
theorem dX5_restart_0 : decode cX5_restart 0 = .ok (.aload_n 0, 1) := by decide +kernel
theorem dX5_restart_1 : decode cX5_restart 1 = .ok (.iconst 0, 1) := by decide +kernel
theorem dX5_restart_2 : decode cX5_restart 2 = .ok (.putfield 30, 3) := by decide +kernel
theorem dX5_restart_5 : decode cX5_restart 5 = .ok (.aload_n 0, 1) := by decide +kernel
theorem dX5_restart_6 : decode cX5_restart 6 = .ok (.iconst 0, 1) := by decide +kernel
theorem dX5_restart_7 : decode cX5_restart 7 = .ok (.putfield 34, 3) := by decide +kernel
theorem dX5_restart_10 : decode cX5_restart 10 = .ok (.aload_n 0, 1) := by decide +kernel
theorem dX5_restart_11 : decode cX5_restart 11 = .ok (.getfield 9, 3) := by decide +kernel
theorem dX5_restart_14 : decode cX5_restart 14 = .ok (.iconst 0, 1) := by decide +kernel
theorem dX5_restart_15 : decode cX5_restart 15 = .ok (.invokestatic 40, 3) := by decide +kernel
theorem dX5_restart_18 : decode cX5_restart 18 = .ok (.return_, 1) := by decide +kernel
theorem dX5_copyFrom_0 : decode cX5_copyFrom 0 = .ok (.aload_n 1, 1) := by decide +kernel
theorem dX5_copyFrom_1 : decode cX5_copyFrom 1 = .ok (.getfield 9, 3) := by decide +kernel
theorem dX5_copyFrom_4 : decode cX5_copyFrom 4 = .ok (.iconst 0, 1) := by decide +kernel
theorem dX5_copyFrom_5 : decode cX5_copyFrom 5 = .ok (.aload_n 0, 1) := by decide +kernel
theorem dX5_copyFrom_6 : decode cX5_copyFrom 6 = .ok (.getfield 9, 3) := by decide +kernel
theorem dX5_copyFrom_9 : decode cX5_copyFrom 9 = .ok (.iconst 0, 1) := by decide +kernel
theorem dX5_copyFrom_10 : decode cX5_copyFrom 10 = .ok (.iconst 5, 1) := by decide +kernel
theorem dX5_copyFrom_11 : decode cX5_copyFrom 11 = .ok (.invokestatic 46, 3) := by decide +kernel
theorem dX5_copyFrom_14 : decode cX5_copyFrom 14 = .ok (.aload_n 1, 1) := by decide +kernel
theorem dX5_copyFrom_15 : decode cX5_copyFrom 15 = .ok (.getfield 15, 3) := by decide +kernel
theorem dX5_copyFrom_18 : decode cX5_copyFrom 18 = .ok (.iconst 0, 1) := by decide +kernel
theorem dX5_copyFrom_19 : decode cX5_copyFrom 19 = .ok (.aload_n 0, 1) := by decide +kernel
theorem dX5_copyFrom_20 : decode cX5_copyFrom 20 = .ok (.getfield 15, 3) := by decide +kernel
theorem dX5_copyFrom_23 : decode cX5_copyFrom 23 = .ok (.iconst 0, 1) := by decide +kernel
theorem dX5_copyFrom_24 : decode cX5_copyFrom 24 = .ok (.bipush 24, 2) := by decide +kernel
theorem dX5_copyFrom_26 : decode cX5_copyFrom 26 = .ok (.invokestatic 46, 3) := by decide +kernel
theorem dX5_copyFrom_29 : decode cX5_copyFrom 29 = .ok (.aload_n 1, 1) := by decide +kernel
theorem dX5_copyFrom_30 : decode cX5_copyFrom 30 = .ok (.getfield 18, 3) := by decide +kernel
theorem dX5_copyFrom_33 : decode cX5_copyFrom 33 = .ok (.iconst 0, 1) := by decide +kernel
theorem dX5_copyFrom_34 : decode cX5_copyFrom 34 = .ok (.aload_n 0, 1) := by decide +kernel
theorem dX5_copyFrom_35 : decode cX5_copyFrom 35 = .ok (.getfield 18, 3) := by decide +kernel
theorem dX5_copyFrom_38 : decode cX5_copyFrom 38 = .ok (.iconst 0, 1) := by decide +kernel
theorem dX5_copyFrom_39 : decode cX5_copyFrom 39 = .ok (.bipush 24, 2) := by decide +kernel
theorem dX5_copyFrom_41 : decode cX5_copyFrom 41 = .ok (.invokestatic 46, 3) := by decide +kernel
theorem dX5_copyFrom_44 : decode cX5_copyFrom 44 = .ok (.aload_n 1, 1) := by decide +kernel
theorem dX5_copyFrom_45 : decode cX5_copyFrom 45 = .ok (.getfield 21, 3) := by decide +kernel
theorem dX5_copyFrom_48 : decode cX5_copyFrom 48 = .ok (.iconst 0, 1) := by decide +kernel
theorem dX5_copyFrom_49 : decode cX5_copyFrom 49 = .ok (.aload_n 0, 1) := by decide +kernel
theorem dX5_copyFrom_50 : decode cX5_copyFrom 50 = .ok (.getfield 21, 3) := by decide +kernel
theorem dX5_copyFrom_53 : decode cX5_copyFrom 53 = .ok (.iconst 0, 1) := by decide +kernel
theorem dX5_copyFrom_54 : decode cX5_copyFrom 54 = .ok (.bipush 24, 2) := by decide +kernel
theorem dX5_copyFrom_56 : decode cX5_copyFrom 56 = .ok (.invokestatic 46, 3) := by decide +kernel
theorem dX5_copyFrom_59 : decode cX5_copyFrom 59 = .ok (.aload_n 1, 1) := by decide +kernel
theorem dX5_copyFrom_60 : decode cX5_copyFrom 60 = .ok (.getfield 24, 3) := by decide +kernel
theorem dX5_copyFrom_63 : decode cX5_copyFrom 63 = .ok (.iconst 0, 1) := by decide +kernel
theorem dX5_copyFrom_64 : decode cX5_copyFrom 64 = .ok (.aload_n 0, 1) := by decide +kernel
theorem dX5_copyFrom_65 : decode cX5_copyFrom 65 = .ok (.getfield 24, 3) := by decide +kernel
theorem dX5_copyFrom_68 : decode cX5_copyFrom 68 = .ok (.iconst 0, 1) := by decide +kernel
theorem dX5_copyFrom_69 : decode cX5_copyFrom 69 = .ok (.bipush 24, 2) := by decide +kernel
theorem dX5_copyFrom_71 : decode cX5_copyFrom 71 = .ok (.invokestatic 46, 3) := by decide +kernel
theorem dX5_copyFrom_74 : decode cX5_copyFrom 74 = .ok (.aload_n 1, 1) := by decide +kernel
theorem dX5_copyFrom_75 : decode cX5_copyFrom 75 = .ok (.getfield 27, 3) := by decide +kernel
theorem dX5_copyFrom_78 : decode cX5_copyFrom 78 = .ok (.iconst 0, 1) := by decide +kernel
theorem dX5_copyFrom_79 : decode cX5_copyFrom 79 = .ok (.aload_n 0, 1) := by decide +kernel
theorem dX5_copyFrom_80 : decode cX5_copyFrom 80 = .ok (.getfield 27, 3) := by decide +kernel
theorem dX5_copyFrom_83 : decode cX5_copyFrom 83 = .ok (.iconst 0, 1) := by decide +kernel
theorem dX5_copyFrom_84 : decode cX5_copyFrom 84 = .ok (.bipush 24, 2) := by decide +kernel
theorem dX5_copyFrom_86 : decode cX5_copyFrom 86 = .ok (.invokestatic 46, 3) := by decide +kernel
theorem dX5_copyFrom_89 : decode cX5_copyFrom 89 = .ok (.aload_n 0, 1) := by decide +kernel
theorem dX5_copyFrom_90 : decode cX5_copyFrom 90 = .ok (.aload_n 1, 1) := by decide +kernel
theorem dX5_copyFrom_91 : decode cX5_copyFrom 91 = .ok (.getfield 30, 3) := by decide +kernel
theorem dX5_copyFrom_94 : decode cX5_copyFrom 94 = .ok (.putfield 30, 3) := by decide +kernel
theorem dX5_copyFrom_97 : decode cX5_copyFrom 97 = .ok (.aload_n 0, 1) := by decide +kernel
theorem dX5_copyFrom_98 : decode cX5_copyFrom 98 = .ok (.aload_n 1, 1) := by decide +kernel
theorem dX5_copyFrom_99 : decode cX5_copyFrom 99 = .ok (.getfield 34, 3) := by decide +kernel
theorem dX5_copyFrom_102 : decode cX5_copyFrom 102 = .ok (.putfield 34, 3) := by decide +kernel
theorem dX5_copyFrom_105 : decode cX5_copyFrom 105 = .ok (.aload_n 0, 1) := by decide +kernel
theorem dX5_copyFrom_106 : decode cX5_copyFrom 106 = .ok (.aload_n 1, 1) := by decide +kernel
theorem dX5_copyFrom_107 : decode cX5_copyFrom 107 = .ok (.getfield 37, 3) := by decide +kernel
theorem dX5_copyFrom_110 : decode cX5_copyFrom 110 = .ok (.putfield 37, 3) := by decide +kernel
theorem dX5_copyFrom_113 : decode cX5_copyFrom 113 = .ok (.return_, 1) := by decide +kernel
theorem dX5_passFault_0 : decode cX5_passFault 0 = .ok (.aload_n 0, 1) := by decide +kernel
theorem dX5_passFault_1 : decode cX5_passFault 1 = .ok (.getfield 30, 3) := by decide +kernel
theorem dX5_passFault_4 : decode cX5_passFault 4 = .ok (.bipush 24, 2) := by decide +kernel
theorem dX5_passFault_6 : decode cX5_passFault 6 = .ok (.if_icmp .lt 4, 3) := by decide +kernel
theorem dX5_passFault_9 : decode cX5_passFault 9 = .ok (.return_, 1) := by decide +kernel
theorem dX5_passFault_10 : decode cX5_passFault 10 = .ok (.aload_n 0, 1) := by decide +kernel
theorem dX5_passFault_11 : decode cX5_passFault 11 = .ok (.getfield 15, 3) := by decide +kernel
theorem dX5_passFault_14 : decode cX5_passFault 14 = .ok (.aload_n 0, 1) := by decide +kernel
theorem dX5_passFault_15 : decode cX5_passFault 15 = .ok (.getfield 30, 3) := by decide +kernel
theorem dX5_passFault_18 : decode cX5_passFault 18 = .ok (.iload_n 1, 1) := by decide +kernel
theorem dX5_passFault_19 : decode cX5_passFault 19 = .ok (.iastore, 1) := by decide +kernel
theorem dX5_passFault_20 : decode cX5_passFault 20 = .ok (.aload_n 0, 1) := by decide +kernel
theorem dX5_passFault_21 : decode cX5_passFault 21 = .ok (.getfield 18, 3) := by decide +kernel
theorem dX5_passFault_24 : decode cX5_passFault 24 = .ok (.aload_n 0, 1) := by decide +kernel
theorem dX5_passFault_25 : decode cX5_passFault 25 = .ok (.getfield 30, 3) := by decide +kernel
theorem dX5_passFault_28 : decode cX5_passFault 28 = .ok (.iload_n 2, 1) := by decide +kernel
theorem dX5_passFault_29 : decode cX5_passFault 29 = .ok (.iastore, 1) := by decide +kernel
theorem dX5_passFault_30 : decode cX5_passFault 30 = .ok (.aload_n 0, 1) := by decide +kernel
theorem dX5_passFault_31 : decode cX5_passFault 31 = .ok (.getfield 21, 3) := by decide +kernel
theorem dX5_passFault_34 : decode cX5_passFault 34 = .ok (.aload_n 0, 1) := by decide +kernel
theorem dX5_passFault_35 : decode cX5_passFault 35 = .ok (.getfield 30, 3) := by decide +kernel
theorem dX5_passFault_38 : decode cX5_passFault 38 = .ok (.iload_n 3, 1) := by decide +kernel
theorem dX5_passFault_39 : decode cX5_passFault 39 = .ok (.iastore, 1) := by decide +kernel
theorem dX5_passFault_40 : decode cX5_passFault 40 = .ok (.aload_n 0, 1) := by decide +kernel
theorem dX5_passFault_41 : decode cX5_passFault 41 = .ok (.getfield 24, 3) := by decide +kernel
theorem dX5_passFault_44 : decode cX5_passFault 44 = .ok (.aload_n 0, 1) := by decide +kernel
theorem dX5_passFault_45 : decode cX5_passFault 45 = .ok (.getfield 30, 3) := by decide +kernel
theorem dX5_passFault_48 : decode cX5_passFault 48 = .ok (.bipush (-5), 2) := by decide +kernel
theorem dX5_passFault_50 : decode cX5_passFault 50 = .ok (.iastore, 1) := by decide +kernel
theorem dX5_passFault_51 : decode cX5_passFault 51 = .ok (.aload_n 0, 1) := by decide +kernel
theorem dX5_passFault_52 : decode cX5_passFault 52 = .ok (.dup, 1) := by decide +kernel
theorem dX5_passFault_53 : decode cX5_passFault 53 = .ok (.getfield 30, 3) := by decide +kernel
theorem dX5_passFault_56 : decode cX5_passFault 56 = .ok (.iconst 1, 1) := by decide +kernel
theorem dX5_passFault_57 : decode cX5_passFault 57 = .ok (.iadd, 1) := by decide +kernel
theorem dX5_passFault_58 : decode cX5_passFault 58 = .ok (.putfield 30, 3) := by decide +kernel
theorem dX5_passFault_61 : decode cX5_passFault 61 = .ok (.return_, 1) := by decide +kernel
theorem dX5_passRow_0 : decode cX5_passRow 0 = .ok (.aload_n 0, 1) := by decide +kernel
theorem dX5_passRow_1 : decode cX5_passRow 1 = .ok (.getfield 30, 3) := by decide +kernel
theorem dX5_passRow_4 : decode cX5_passRow 4 = .ok (.bipush 24, 2) := by decide +kernel
theorem dX5_passRow_6 : decode cX5_passRow 6 = .ok (.if_icmp .ge 12, 3) := by decide +kernel
theorem dX5_passRow_9 : decode cX5_passRow 9 = .ok (.aload_n 0, 1) := by decide +kernel
theorem dX5_passRow_10 : decode cX5_passRow 10 = .ok (.getfield 34, 3) := by decide +kernel
theorem dX5_passRow_13 : decode cX5_passRow 13 = .ok (.bipush 24, 2) := by decide +kernel
theorem dX5_passRow_15 : decode cX5_passRow 15 = .ok (.if_icmp .lt 4, 3) := by decide +kernel
theorem dX5_passRow_18 : decode cX5_passRow 18 = .ok (.return_, 1) := by decide +kernel
theorem dX5_passRow_19 : decode cX5_passRow 19 = .ok (.aload_n 0, 1) := by decide +kernel
