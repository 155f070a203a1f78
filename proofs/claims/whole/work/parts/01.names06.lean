theorem dX10_type_14 : decode cX10_type 14 = .ok (.iaload, 1) := by decide +kernel
theorem dX10_type_15 : decode cX10_type 15 = .ok (.goto 30, 3) := by decide +kernel
theorem dX10_type_18 : decode cX10_type 18 = .ok (.aload_n 0, 1) := by decide +kernel
theorem dX10_type_19 : decode cX10_type 19 = .ok (.getfield 25, 3) := by decide +kernel
theorem dX10_type_22 : decode cX10_type 22 = .ok (.iload_n 1, 1) := by decide +kernel
theorem dX10_type_23 : decode cX10_type 23 = .ok (.iaload, 1) := by decide +kernel
theorem dX10_type_24 : decode cX10_type 24 = .ok (.ifCond .eq 12, 3) := by decide +kernel
theorem dX10_type_27 : decode cX10_type 27 = .ok (.aload_n 0, 1) := by decide +kernel
theorem dX10_type_28 : decode cX10_type 28 = .ok (.getfield 25, 3) := by decide +kernel
theorem dX10_type_31 : decode cX10_type 31 = .ok (.iload_n 1, 1) := by decide +kernel
theorem dX10_type_32 : decode cX10_type 32 = .ok (.iaload, 1) := by decide +kernel
theorem dX10_type_33 : decode cX10_type 33 = .ok (.goto 12, 3) := by decide +kernel
theorem dX10_type_36 : decode cX10_type 36 = .ok (.aload_n 0, 1) := by decide +kernel
theorem dX10_type_37 : decode cX10_type 37 = .ok (.iload_n 1, 1) := by decide +kernel
theorem dX10_type_38 : decode cX10_type 38 = .ok (.aload_n 0, 1) := by decide +kernel
theorem dX10_type_39 : decode cX10_type 39 = .ok (.getfield 9, 3) := by decide +kernel
theorem dX10_type_42 : decode cX10_type 42 = .ok (.invokevirtual 274, 3) := by decide +kernel
theorem dX10_type_45 : decode cX10_type 45 = .ok (.ireturn, 1) := by decide +kernel
set_option maxRecDepth 20000 in
theorem ggX10_sample_X10_in : GoodIn wsX10_sample wsX10_in := goodIn_r _ [6] (by decide +kernel) (by decide +kernel)
set_option maxRecDepth 20000 in
theorem gX10_sample_X10_in : GoodIn wsX10_sample (va_wsS RX10 121 yX10_in wsX10_in) := goodIn_app (goodIn_of _ (by decide +kernel)) ggX10_sample_X10_in
theorem dX10_sample_0 : decode cX10_sample 0 = .ok (.iload_n 1, 1) := by decide +kernel
theorem dX10_sample_1 : decode cX10_sample 1 = .ok (.i2l, 1) := by decide +kernel
theorem dX10_sample_2 : decode cX10_sample 2 = .ok (.lconst 1, 1) := by decide +kernel
theorem dX10_sample_3 : decode cX10_sample 3 = .ok (.ldc2_w 277, 3) := by decide +kernel
theorem dX10_sample_6 : decode cX10_sample 6 = .ok (.invokestatic 121, 3) := by decide +kernel
theorem dX10_sample_9 : decode cX10_sample 9 = .ok (.ifCond .ne 6, 3) := by decide +kernel
theorem dX10_sample_12 : decode cX10_sample 12 = .ok (.bipush (-2), 2) := by decide +kernel
theorem dX10_sample_14 : decode cX10_sample 14 = .ok (.ireturn, 1) := by decide +kernel
theorem dX10_sample_15 : decode cX10_sample 15 = .ok (.aload_n 0, 1) := by decide +kernel
theorem dX10_sample_16 : decode cX10_sample 16 = .ok (.getfield 9, 3) := by decide +kernel
theorem dX10_sample_19 : decode cX10_sample 19 = .ok (.istore_n 2, 1) := by decide +kernel
theorem dX10_sample_20 : decode cX10_sample 20 = .ok (.aload_n 0, 1) := by decide +kernel
theorem dX10_sample_21 : decode cX10_sample 21 = .ok (.iload_n 1, 1) := by decide +kernel
theorem dX10_sample_22 : decode cX10_sample 22 = .ok (.putfield 9, 3) := by decide +kernel
theorem dX10_sample_25 : decode cX10_sample 25 = .ok (.iload_n 2, 1) := by decide +kernel
theorem dX10_sample_26 : decode cX10_sample 26 = .ok (.ireturn, 1) := by decide +kernel
set_option maxRecDepth 20000 in
theorem ggX10_type__X10_isColumn : GoodIn wsX10_type_ wsX10_isColumn := goodIn_r _ [7, 8, 9, 10, 6, 11, 12, 13, 14, 15, 16, 17, 18, 19, 20, 21, 22, 23, 24, 25, 26, 27, 28, 29, 30, 31, 32, 33, 34, 35, 36, 37, 38, 39, 40, 41, 42, 43, 44, 45, 46, 47, 48, 49, 50, 51, 52, 53, 54, 55, 56, 57, 58] (by decide +kernel) (by decide +kernel)
set_option maxRecDepth 20000 in
theorem gX10_type__X10_isColumn : GoodIn wsX10_type_ (wsV RX10 279 RX10 yX10_isColumn wsX10_isColumn) := goodIn_app (goodIn_of _ (by decide +kernel)) ggX10_type__X10_isColumn
set_option maxRecDepth 20000 in
theorem ggX10_type__X10_in : GoodIn wsX10_type_ wsX10_in := goodIn_r _ [11] (by decide +kernel) (by decide +kernel)
set_option maxRecDepth 20000 in
theorem gX10_type__X10_in : GoodIn wsX10_type_ (va_wsS RX10 121 yX10_in wsX10_in) := goodIn_app (goodIn_of _ (by decide +kernel)) ggX10_type__X10_in
theorem dX10_type__0 : decode cX10_type_ 0 = .ok (.aload_n 0, 1) := by decide +kernel
theorem dX10_type__1 : decode cX10_type_ 1 = .ok (.iload_n 1, 1) := by decide +kernel
theorem dX10_type__2 : decode cX10_type_ 2 = .ok (.invokevirtual 279, 3) := by decide +kernel
theorem dX10_type__5 : decode cX10_type_ 5 = .ok (.ifCond .ne 5, 3) := by decide +kernel
theorem dX10_type__8 : decode cX10_type_ 8 = .ok (.iconst (-1), 1) := by decide +kernel
theorem dX10_type__9 : decode cX10_type_ 9 = .ok (.ireturn, 1) := by decide +kernel
theorem dX10_type__10 : decode cX10_type_ 10 = .ok (.iload_n 2, 1) := by decide +kernel
theorem dX10_type__11 : decode cX10_type_ 11 = .ok (.i2l, 1) := by decide +kernel
theorem dX10_type__12 : decode cX10_type_ 12 = .ok (.lconst 0, 1) := by decide +kernel
theorem dX10_type__13 : decode cX10_type_ 13 = .ok (.ldc2_w 282, 3) := by decide +kernel
theorem dX10_type__16 : decode cX10_type_ 16 = .ok (.invokestatic 121, 3) := by decide +kernel
theorem dX10_type__19 : decode cX10_type_ 19 = .ok (.ifCond .ne 6, 3) := by decide +kernel
theorem dX10_type__22 : decode cX10_type_ 22 = .ok (.bipush (-2), 2) := by decide +kernel
theorem dX10_type__24 : decode cX10_type_ 24 = .ok (.ireturn, 1) := by decide +kernel
theorem dX10_type__25 : decode cX10_type_ 25 = .ok (.aload_n 0, 1) := by decide +kernel
theorem dX10_type__26 : decode cX10_type_ 26 = .ok (.getfield 25, 3) := by decide +kernel
theorem dX10_type__29 : decode cX10_type_ 29 = .ok (.iload_n 1, 1) := by decide +kernel
theorem dX10_type__30 : decode cX10_type_ 30 = .ok (.iaload, 1) := by decide +kernel
theorem dX10_type__31 : decode cX10_type_ 31 = .ok (.istore_n 3, 1) := by decide +kernel
theorem dX10_type__32 : decode cX10_type_ 32 = .ok (.aload_n 0, 1) := by decide +kernel
theorem dX10_type__33 : decode cX10_type_ 33 = .ok (.getfield 25, 3) := by decide +kernel
theorem dX10_type__36 : decode cX10_type_ 36 = .ok (.iload_n 1, 1) := by decide +kernel
theorem dX10_type__37 : decode cX10_type_ 37 = .ok (.iload_n 2, 1) := by decide +kernel
theorem dX10_type__38 : decode cX10_type_ 38 = .ok (.iastore, 1) := by decide +kernel
theorem dX10_type__39 : decode cX10_type_ 39 = .ok (.iload_n 3, 1) := by decide +kernel
theorem dX10_type__40 : decode cX10_type_ 40 = .ok (.ireturn, 1) := by decide +kernel
set_option maxRecDepth 20000 in
theorem ggX10_key_X10_isColumn : GoodIn wsX10_key wsX10_isColumn := goodIn_r _ [7, 8, 9, 10, 6, 11, 12, 13, 14, 15, 16, 17, 18, 19, 20, 21, 22, 23, 24, 25, 26, 27, 28, 29, 30, 31, 32, 33, 34, 35, 36, 37, 38, 39, 40, 41, 42, 43, 44, 45, 46, 47, 48, 49, 50, 51, 52, 53, 54, 55, 56, 57, 58] (by decide +kernel) (by decide +kernel)
set_option maxRecDepth 20000 in
theorem gX10_key_X10_isColumn : GoodIn wsX10_key (wsV RX10 279 RX10 yX10_isColumn wsX10_isColumn) := goodIn_app (goodIn_of _ (by decide +kernel)) ggX10_key_X10_isColumn
theorem dX10_key_0 : decode cX10_key 0 = .ok (.iload_n 1, 1) := by decide +kernel
theorem dX10_key_1 : decode cX10_key 1 = .ok (.iconst (-1), 1) := by decide +kernel
theorem dX10_key_2 : decode cX10_key 2 = .ok (.if_icmp .eq 13, 3) := by decide +kernel
theorem dX10_key_5 : decode cX10_key 5 = .ok (.aload_n 0, 1) := by decide +kernel
theorem dX10_key_6 : decode cX10_key 6 = .ok (.iload_n 1, 1) := by decide +kernel
theorem dX10_key_7 : decode cX10_key 7 = .ok (.invokevirtual 279, 3) := by decide +kernel
theorem dX10_key_10 : decode cX10_key 10 = .ok (.ifCond .ne 5, 3) := by decide +kernel
theorem dX10_key_13 : decode cX10_key 13 = .ok (.iconst (-1), 1) := by decide +kernel
theorem dX10_key_14 : decode cX10_key 14 = .ok (.ireturn, 1) := by decide +kernel
theorem dX10_key_15 : decode cX10_key 15 = .ok (.aload_n 0, 1) := by decide +kernel
theorem dX10_key_16 : decode cX10_key 16 = .ok (.getfield 142, 3) := by decide +kernel
theorem dX10_key_19 : decode cX10_key 19 = .ok (.ifCond .le 6, 3) := by decide +kernel
theorem dX10_key_22 : decode cX10_key 22 = .ok (.bipush (-3), 2) := by decide +kernel
theorem dX10_key_24 : decode cX10_key 24 = .ok (.ireturn, 1) := by decide +kernel
theorem dX10_key_25 : decode cX10_key 25 = .ok (.aload_n 0, 1) := by decide +kernel
theorem dX10_key_26 : decode cX10_key 26 = .ok (.getfield 15, 3) := by decide +kernel
theorem dX10_key_29 : decode cX10_key 29 = .ok (.istore_n 2, 1) := by decide +kernel
theorem dX10_key_30 : decode cX10_key 30 = .ok (.aload_n 0, 1) := by decide +kernel
theorem dX10_key_31 : decode cX10_key 31 = .ok (.iload_n 1, 1) := by decide +kernel
theorem dX10_key_32 : decode cX10_key 32 = .ok (.putfield 15, 3) := by decide +kernel
theorem dX10_key_35 : decode cX10_key 35 = .ok (.iload_n 2, 1) := by decide +kernel
theorem dX10_key_36 : decode cX10_key 36 = .ok (.ifCond .ge 8, 3) := by decide +kernel
theorem dX10_key_39 : decode cX10_key 39 = .ok (.bipush (-5), 2) := by decide +kernel
theorem dX10_key_41 : decode cX10_key 41 = .ok (.goto 4, 3) := by decide +kernel
theorem dX10_key_44 : decode cX10_key 44 = .ok (.iload_n 2, 1) := by decide +kernel
theorem dX10_key_45 : decode cX10_key 45 = .ok (.ireturn, 1) := by decide +kernel
set_option maxRecDepth 20000 in
theorem ggX10_column_X10_isColumn : GoodIn wsX10_column wsX10_isColumn := goodIn_r _ [9, 10, 11, 12, 8, 13, 37, 38, 39, 40, 41, 42, 43, 44, 45, 46, 47, 48, 49, 50, 51, 52, 53, 54, 55, 56, 57, 58, 59, 60, 61, 62, 63, 64, 65, 66, 67, 68, 69, 70, 71, 72, 73, 74, 75, 76, 77, 78, 79, 80, 81, 82, 83] (by decide +kernel) (by decide +kernel)
set_option maxRecDepth 20000 in
theorem gX10_column_X10_isColumn : GoodIn wsX10_column (wsV RX10 279 RX10 yX10_isColumn wsX10_isColumn) := goodIn_app (goodIn_of _ (by decide +kernel)) ggX10_column_X10_isColumn
set_option maxRecDepth 20000 in
theorem ggX10_column_X10_type : GoodIn wsX10_column wsX10_type := goodIn_r _ [17, 3, 2, 1, 18, 19, 20, 8, 21, 22, 23, 24, 25, 26, 27, 28, 29, 30, 31, 32, 33, 34, 35, 36, 37, 38, 39, 40, 41, 42, 43, 44, 45, 46, 47, 48, 49, 50, 51, 52, 53, 54, 55, 56, 57, 58, 59, 60, 61, 62, 63, 64, 65, 66, 67, 68, 69, 70, 71, 72, 73, 74, 75, 76, 77, 78, 79, 80, 81, 82, 83] (by decide +kernel) (by decide +kernel)
set_option maxRecDepth 20000 in
theorem gX10_column_X10_type : GoodIn wsX10_column (wsV RX10 284 RX10 yX10_type wsX10_type) := goodIn_app (goodIn_of _ (by decide +kernel)) ggX10_column_X10_type
set_option maxRecDepth 20000 in
theorem ggX10_column_X10_guess : GoodIn wsX10_column wsX10_guess := goodIn_r _ [21, 22, 23, 24, 8, 25, 26, 27, 28, 29, 30, 31, 32, 33, 34, 35, 36, 37, 38, 39, 40, 41, 42, 43, 44, 45, 46, 47, 48, 49, 50, 51, 52, 53, 54, 55, 56, 57, 58, 59, 60, 61, 62, 63, 64, 65, 66, 67, 68, 69, 70, 71, 72, 73, 74, 75, 76, 77, 78, 79, 80, 81, 82, 83] (by decide +kernel) (by decide +kernel)
set_option maxRecDepth 20000 in
theorem gX10_column_X10_guess : GoodIn wsX10_column (wsV RX10 274 RX10 yX10_guess wsX10_guess) := goodIn_app (goodIn_of _ (by decide +kernel)) ggX10_column_X10_guess
theorem dX10_column_0 : decode cX10_column 0 = .ok (.aload_n 0, 1) := by decide +kernel
theorem dX10_column_1 : decode cX10_column 1 = .ok (.iload_n 1, 1) := by decide +kernel
theorem dX10_column_2 : decode cX10_column 2 = .ok (.invokevirtual 279, 3) := by decide +kernel
theorem dX10_column_5 : decode cX10_column 5 = .ok (.ifCond .ne 5, 3) := by decide +kernel
theorem dX10_column_8 : decode cX10_column 8 = .ok (.iconst (-1), 1) := by decide +kernel
theorem dX10_column_9 : decode cX10_column 9 = .ok (.ireturn, 1) := by decide +kernel
theorem dX10_column_10 : decode cX10_column 10 = .ok (.iload_n 2, 1) := by decide +kernel
theorem dX10_column_11 : decode cX10_column 11 = .ok (.tableswitch 70 0 4 #[33, 39, 49, 56, 63], 33) := by decide +kernel
theorem dX10_column_44 : decode cX10_column 44 = .ok (.aload_n 0, 1) := by decide +kernel
theorem dX10_column_45 : decode cX10_column 45 = .ok (.iload_n 1, 1) := by decide +kernel
theorem dX10_column_46 : decode cX10_column 46 = .ok (.invokevirtual 284, 3) := by decide +kernel
theorem dX10_column_49 : decode cX10_column 49 = .ok (.ireturn, 1) := by decide +kernel
theorem dX10_column_50 : decode cX10_column 50 = .ok (.aload_n 0, 1) := by decide +kernel
theorem dX10_column_51 : decode cX10_column 51 = .ok (.iload_n 1, 1) := by decide +kernel
theorem dX10_column_52 : decode cX10_column 52 = .ok (.aload_n 0, 1) := by decide +kernel
theorem dX10_column_53 : decode cX10_column 53 = .ok (.getfield 9, 3) := by decide +kernel
theorem dX10_column_56 : decode cX10_column 56 = .ok (.invokevirtual 274, 3) := by decide +kernel
theorem dX10_column_59 : decode cX10_column 59 = .ok (.ireturn, 1) := by decide +kernel
theorem dX10_column_60 : decode cX10_column 60 = .ok (.aload_n 0, 1) := by decide +kernel
theorem dX10_column_61 : decode cX10_column 61 = .ok (.getfield 25, 3) := by decide +kernel
theorem dX10_column_64 : decode cX10_column 64 = .ok (.iload_n 1, 1) := by decide +kernel
theorem dX10_column_65 : decode cX10_column 65 = .ok (.iaload, 1) := by decide +kernel
theorem dX10_column_66 : decode cX10_column 66 = .ok (.ireturn, 1) := by decide +kernel
theorem dX10_column_67 : decode cX10_column 67 = .ok (.aload_n 0, 1) := by decide +kernel
theorem dX10_column_68 : decode cX10_column 68 = .ok (.getfield 28, 3) := by decide +kernel
theorem dX10_column_71 : decode cX10_column 71 = .ok (.iload_n 1, 1) := by decide +kernel
theorem dX10_column_72 : decode cX10_column 72 = .ok (.iaload, 1) := by decide +kernel
theorem dX10_column_73 : decode cX10_column 73 = .ok (.ireturn, 1) := by decide +kernel
theorem dX10_column_74 : decode cX10_column 74 = .ok (.aload_n 0, 1) := by decide +kernel
theorem dX10_column_75 : decode cX10_column 75 = .ok (.getfield 22, 3) := by decide +kernel
theorem dX10_column_78 : decode cX10_column 78 = .ok (.iload_n 1, 1) := by decide +kernel
theorem dX10_column_79 : decode cX10_column 79 = .ok (.iaload, 1) := by decide +kernel
theorem dX10_column_80 : decode cX10_column 80 = .ok (.ireturn, 1) := by decide +kernel
theorem dX10_column_81 : decode cX10_column 81 = .ok (.iconst (-1), 1) := by decide +kernel
theorem dX10_column_82 : decode cX10_column 82 = .ok (.ireturn, 1) := by decide +kernel
set_option maxRecDepth 20000 in
theorem ggX10_of_X10_isLine : GoodIn wsX10_of wsX10_isLine := goodIn_r _ [8, 9, 10, 11, 7, 12, 50, 51, 52, 53, 54, 55, 56, 57, 58, 59, 60, 61, 62, 63, 64, 65, 66, 67, 68, 69, 70, 71, 72, 73, 74, 75, 76, 77, 78, 79, 80, 81, 82, 83, 84, 85, 86, 87, 88, 89, 90, 91, 92, 93, 94, 95, 96] (by decide +kernel) (by decide +kernel)
set_option maxRecDepth 20000 in
theorem gX10_of_X10_isLine : GoodIn wsX10_of (wsV RX10 288 RX10 yX10_isLine wsX10_isLine) := goodIn_app (goodIn_of _ (by decide +kernel)) ggX10_of_X10_isLine
set_option maxRecDepth 20000 in
theorem ggX10_of_X10_begins : GoodIn wsX10_of wsX10_begins := goodIn_r _ [16, 17, 50, 51, 52, 53, 54, 55, 56, 57, 58, 59, 60, 61, 62, 63, 64, 65, 66, 67, 68, 69, 70, 71, 72, 73, 74, 75, 76, 77, 78, 79, 80, 81, 82, 83, 84, 85, 86, 87, 88, 89, 90, 91, 92, 93, 94, 95, 96] (by decide +kernel) (by decide +kernel)
set_option maxRecDepth 20000 in
theorem gX10_of_X10_begins : GoodIn wsX10_of (wsV RX10 213 RX10 yX10_begins wsX10_begins) := goodIn_app (goodIn_of _ (by decide +kernel)) ggX10_of_X10_begins
set_option maxRecDepth 20000 in
theorem ggX10_of_X10_ends : GoodIn wsX10_of wsX10_ends := goodIn_r _ [21, 22, 17, 50, 51, 52, 53, 54, 55, 56, 57, 58, 59, 60, 61, 62, 63, 64, 65, 66, 67, 68, 69, 70, 71, 72, 73, 74, 75, 76, 77, 78, 79, 80, 81, 82, 83, 84, 85, 86, 87, 88, 89, 90, 91, 92, 93, 94, 95, 96] (by decide +kernel) (by decide +kernel)
set_option maxRecDepth 20000 in
theorem gX10_of_X10_ends : GoodIn wsX10_of (wsV RX10 217 RX10 yX10_ends wsX10_ends) := goodIn_app (goodIn_of _ (by decide +kernel)) ggX10_of_X10_ends
set_option maxRecDepth 20000 in
theorem ggX10_of_X10_form : GoodIn wsX10_of wsX10_form := goodIn_r _ [26, 17, 27, 28, 29, 30, 31, 32, 7, 33, 34, 35, 10, 11, 12, 36, 37, 38, 39, 40, 41, 42, 43, 44, 45, 46, 47, 48, 49, 50, 51, 52, 53, 54, 55, 56, 57, 58, 59, 60, 61, 62, 63, 64, 65, 66, 67, 68, 69, 70, 71, 72, 73, 74, 75, 76, 77, 78, 79, 80, 81, 82, 83, 84, 85, 86, 87, 88, 89, 90, 91, 92, 93, 94, 95, 96] (by decide +kernel) (by decide +kernel)
set_option maxRecDepth 20000 in
theorem gX10_of_X10_form : GoodIn wsX10_of (wsV RX10 220 RX10 yX10_form wsX10_form) := goodIn_app (goodIn_of _ (by decide +kernel)) ggX10_of_X10_form
theorem dX10_of_0 : decode cX10_of 0 = .ok (.aload_n 0, 1) := by decide +kernel
theorem dX10_of_1 : decode cX10_of 1 = .ok (.iload_n 1, 1) := by decide +kernel
theorem dX10_of_2 : decode cX10_of 2 = .ok (.invokevirtual 288, 3) := by decide +kernel
theorem dX10_of_5 : decode cX10_of 5 = .ok (.ifCond .eq 7, 3) := by decide +kernel
theorem dX10_of_8 : decode cX10_of 8 = .ok (.iload_n 2, 1) := by decide +kernel
theorem dX10_of_9 : decode cX10_of 9 = .ok (.ifCond .ge 5, 3) := by decide +kernel
theorem dX10_of_12 : decode cX10_of 12 = .ok (.iconst (-1), 1) := by decide +kernel
theorem dX10_of_13 : decode cX10_of 13 = .ok (.ireturn, 1) := by decide +kernel
theorem dX10_of_14 : decode cX10_of 14 = .ok (.iload_n 2, 1) := by decide +kernel
theorem dX10_of_15 : decode cX10_of 15 = .ok (.ifCond .ne 10, 3) := by decide +kernel
theorem dX10_of_18 : decode cX10_of 18 = .ok (.aload_n 0, 1) := by decide +kernel
theorem dX10_of_19 : decode cX10_of 19 = .ok (.getfield 37, 3) := by decide +kernel
theorem dX10_of_22 : decode cX10_of 22 = .ok (.iload_n 1, 1) := by decide +kernel
theorem dX10_of_23 : decode cX10_of 23 = .ok (.iaload, 1) := by decide +kernel
theorem dX10_of_24 : decode cX10_of 24 = .ok (.ireturn, 1) := by decide +kernel
theorem dX10_of_25 : decode cX10_of 25 = .ok (.iload_n 2, 1) := by decide +kernel
theorem dX10_of_26 : decode cX10_of 26 = .ok (.iconst 1, 1) := by decide +kernel
theorem dX10_of_27 : decode cX10_of 27 = .ok (.if_icmp .ne 17, 3) := by decide +kernel
theorem dX10_of_30 : decode cX10_of 30 = .ok (.iload_n 1, 1) := by decide +kernel
theorem dX10_of_31 : decode cX10_of 31 = .ok (.aload_n 0, 1) := by decide +kernel
theorem dX10_of_32 : decode cX10_of 32 = .ok (.getfield 142, 3) := by decide +kernel
theorem dX10_of_35 : decode cX10_of 35 = .ok (.if_icmp .ge 7, 3) := by decide +kernel
theorem dX10_of_38 : decode cX10_of 38 = .ok (.iconst 1, 1) := by decide +kernel
theorem dX10_of_39 : decode cX10_of 39 = .ok (.goto 4, 3) := by decide +kernel
theorem dX10_of_42 : decode cX10_of 42 = .ok (.iconst 0, 1) := by decide +kernel
theorem dX10_of_43 : decode cX10_of 43 = .ok (.ireturn, 1) := by decide +kernel
theorem dX10_of_44 : decode cX10_of 44 = .ok (.iload_n 2, 1) := by decide +kernel
theorem dX10_of_45 : decode cX10_of 45 = .ok (.iconst 2, 1) := by decide +kernel
theorem dX10_of_46 : decode cX10_of 46 = .ok (.if_icmp .ne 10, 3) := by decide +kernel
theorem dX10_of_49 : decode cX10_of 49 = .ok (.aload_n 0, 1) := by decide +kernel
theorem dX10_of_50 : decode cX10_of 50 = .ok (.getfield 53, 3) := by decide +kernel
theorem dX10_of_53 : decode cX10_of 53 = .ok (.iload_n 1, 1) := by decide +kernel
theorem dX10_of_54 : decode cX10_of 54 = .ok (.iaload, 1) := by decide +kernel
theorem dX10_of_55 : decode cX10_of 55 = .ok (.ireturn, 1) := by decide +kernel
theorem dX10_of_56 : decode cX10_of 56 = .ok (.iload_n 2, 1) := by decide +kernel
theorem dX10_of_57 : decode cX10_of 57 = .ok (.iconst 3, 1) := by decide +kernel
theorem dX10_of_58 : decode cX10_of 58 = .ok (.isub, 1) := by decide +kernel
theorem dX10_of_59 : decode cX10_of 59 = .ok (.aload_n 0, 1) := by decide +kernel
theorem dX10_of_60 : decode cX10_of 60 = .ok (.getfield 37, 3) := by decide +kernel
theorem dX10_of_63 : decode cX10_of 63 = .ok (.iload_n 1, 1) := by decide +kernel
theorem dX10_of_64 : decode cX10_of 64 = .ok (.iaload, 1) := by decide +kernel
theorem dX10_of_65 : decode cX10_of 65 = .ok (.if_icmp .lt 6, 3) := by decide +kernel
theorem dX10_of_68 : decode cX10_of 68 = .ok (.bipush (-5), 2) := by decide +kernel
theorem dX10_of_70 : decode cX10_of 70 = .ok (.ireturn, 1) := by decide +kernel
theorem dX10_of_71 : decode cX10_of 71 = .ok (.aload_n 0, 1) := by decide +kernel
theorem dX10_of_72 : decode cX10_of 72 = .ok (.iload_n 1, 1) := by decide +kernel
theorem dX10_of_73 : decode cX10_of 73 = .ok (.iload_n 2, 1) := by decide +kernel
theorem dX10_of_74 : decode cX10_of 74 = .ok (.iconst 3, 1) := by decide +kernel
theorem dX10_of_75 : decode cX10_of 75 = .ok (.isub, 1) := by decide +kernel
theorem dX10_of_76 : decode cX10_of 76 = .ok (.invokevirtual 213, 3) := by decide +kernel
theorem dX10_of_79 : decode cX10_of 79 = .ok (.istore_n 3, 1) := by decide +kernel
theorem dX10_of_80 : decode cX10_of 80 = .ok (.aload_n 0, 1) := by decide +kernel
theorem dX10_of_81 : decode cX10_of 81 = .ok (.iload_n 3, 1) := by decide +kernel
theorem dX10_of_82 : decode cX10_of 82 = .ok (.aload_n 0, 1) := by decide +kernel
theorem dX10_of_83 : decode cX10_of 83 = .ok (.iload_n 1, 1) := by decide +kernel
theorem dX10_of_84 : decode cX10_of 84 = .ok (.iload_n 3, 1) := by decide +kernel
theorem dX10_of_85 : decode cX10_of 85 = .ok (.invokevirtual 217, 3) := by decide +kernel
theorem dX10_of_88 : decode cX10_of 88 = .ok (.invokevirtual 220, 3) := by decide +kernel
theorem dX10_of_91 : decode cX10_of 91 = .ok (.ireturn, 1) := by decide +kernel
set_option maxRecDepth 20000 in
theorem ggX10_votes_X10_isColumn : GoodIn wsX10_votes wsX10_isColumn := goodIn_r _ [7, 8, 9, 10, 6, 11, 27, 28, 29, 30, 31, 32, 33, 34, 35, 36, 37, 38, 39, 40, 41, 42, 43, 44, 45, 46, 47, 48, 49, 50, 51, 52, 53, 54, 55, 56, 57, 58, 59, 60, 61, 62, 63, 64, 65, 66, 67, 68, 69, 70, 71, 72, 73] (by decide +kernel) (by decide +kernel)
set_option maxRecDepth 20000 in
theorem gX10_votes_X10_isColumn : GoodIn wsX10_votes (wsV RX10 279 RX10 yX10_isColumn wsX10_isColumn) := goodIn_app (goodIn_of _ (by decide +kernel)) ggX10_votes_X10_isColumn
set_option maxRecDepth 20000 in
theorem ggX10_votes_X10_in : GoodIn wsX10_votes wsX10_in := goodIn_r _ [11] (by decide +kernel) (by decide +kernel)
set_option maxRecDepth 20000 in
theorem gX10_votes_X10_in : GoodIn wsX10_votes (va_wsS RX10 121 yX10_in wsX10_in) := goodIn_app (goodIn_of _ (by decide +kernel)) ggX10_votes_X10_in
set_option maxRecDepth 20000 in
theorem ggX10_votes_X10_voters : GoodIn wsX10_votes wsX10_voters := goodIn_r _ [15, 16, 17, 18, 19, 6, 20, 21, 22, 23, 24, 25, 26, 27, 28, 29, 30, 31, 32, 33, 34, 35, 36, 37, 38, 39, 40, 41, 42, 43, 44, 45, 46, 47, 48, 49, 50, 51, 52, 53, 54, 55, 56, 57, 58, 59, 60, 61, 62, 63, 64, 65, 66, 67, 68, 69, 70, 71, 72, 73] (by decide +kernel) (by decide +kernel)
set_option maxRecDepth 20000 in
theorem gX10_votes_X10_voters : GoodIn wsX10_votes (wsV RX10 270 RX10 yX10_voters wsX10_voters) := goodIn_app (goodIn_of _ (by decide +kernel)) ggX10_votes_X10_voters
theorem dX10_votes_0 : decode cX10_votes 0 = .ok (.aload_n 0, 1) := by decide +kernel
theorem dX10_votes_1 : decode cX10_votes 1 = .ok (.iload_n 1, 1) := by decide +kernel
theorem dX10_votes_2 : decode cX10_votes 2 = .ok (.invokevirtual 279, 3) := by decide +kernel
theorem dX10_votes_5 : decode cX10_votes 5 = .ok (.ifCond .eq 28, 3) := by decide +kernel
theorem dX10_votes_8 : decode cX10_votes 8 = .ok (.iload_n 2, 1) := by decide +kernel
theorem dX10_votes_9 : decode cX10_votes 9 = .ok (.i2l, 1) := by decide +kernel
theorem dX10_votes_10 : decode cX10_votes 10 = .ok (.lconst 0, 1) := by decide +kernel
theorem dX10_votes_11 : decode cX10_votes 11 = .ok (.ldc2_w 282, 3) := by decide +kernel
theorem dX10_votes_14 : decode cX10_votes 14 = .ok (.invokestatic 121, 3) := by decide +kernel
theorem dX10_votes_17 : decode cX10_votes 17 = .ok (.ifCond .eq 16, 3) := by decide +kernel
theorem dX10_votes_20 : decode cX10_votes 20 = .ok (.aload_n 0, 1) := by decide +kernel
theorem dX10_votes_21 : decode cX10_votes 21 = .ok (.iload_n 1, 1) := by decide +kernel
theorem dX10_votes_22 : decode cX10_votes 22 = .ok (.iload_n 2, 1) := by decide +kernel
theorem dX10_votes_23 : decode cX10_votes 23 = .ok (.aload_n 0, 1) := by decide +kernel
theorem dX10_votes_24 : decode cX10_votes 24 = .ok (.getfield 9, 3) := by decide +kernel
theorem dX10_votes_27 : decode cX10_votes 27 = .ok (.invokevirtual 270, 3) := by decide +kernel
theorem dX10_votes_30 : decode cX10_votes 30 = .ok (.goto 4, 3) := by decide +kernel
theorem dX10_votes_33 : decode cX10_votes 33 = .ok (.iconst (-1), 1) := by decide +kernel
theorem dX10_votes_34 : decode cX10_votes 34 = .ok (.ireturn, 1) := by decide +kernel
theorem dX10_fitsType_0 : decode cX10_fitsType 0 = .ok (.iload_n 0, 1) := by decide +kernel
theorem dX10_fitsType_1 : decode cX10_fitsType 1 = .ok (.ifCond .eq 23, 3) := by decide +kernel
theorem dX10_fitsType_4 : decode cX10_fitsType 4 = .ok (.iload_n 0, 1) := by decide +kernel
theorem dX10_fitsType_5 : decode cX10_fitsType 5 = .ok (.iload_n 1, 1) := by decide +kernel
theorem dX10_fitsType_6 : decode cX10_fitsType 6 = .ok (.if_icmp .eq 18, 3) := by decide +kernel
theorem dX10_fitsType_9 : decode cX10_fitsType 9 = .ok (.iload_n 1, 1) := by decide +kernel
theorem dX10_fitsType_10 : decode cX10_fitsType 10 = .ok (.iconst 4, 1) := by decide +kernel
theorem dX10_fitsType_11 : decode cX10_fitsType 11 = .ok (.if_icmp .eq 13, 3) := by decide +kernel
theorem dX10_fitsType_14 : decode cX10_fitsType 14 = .ok (.iload_n 0, 1) := by decide +kernel
theorem dX10_fitsType_15 : decode cX10_fitsType 15 = .ok (.iconst 1, 1) := by decide +kernel
theorem dX10_fitsType_16 : decode cX10_fitsType 16 = .ok (.if_icmp .ne 12, 3) := by decide +kernel
theorem dX10_fitsType_19 : decode cX10_fitsType 19 = .ok (.iload_n 1, 1) := by decide +kernel
theorem dX10_fitsType_20 : decode cX10_fitsType 20 = .ok (.iconst 2, 1) := by decide +kernel
theorem dX10_fitsType_21 : decode cX10_fitsType 21 = .ok (.if_icmp .ne 7, 3) := by decide +kernel
theorem dX10_fitsType_24 : decode cX10_fitsType 24 = .ok (.iconst 1, 1) := by decide +kernel
theorem dX10_fitsType_25 : decode cX10_fitsType 25 = .ok (.goto 4, 3) := by decide +kernel
theorem dX10_fitsType_28 : decode cX10_fitsType 28 = .ok (.iconst 0, 1) := by decide +kernel
theorem dX10_fitsType_29 : decode cX10_fitsType 29 = .ok (.ireturn, 1) := by decide +kernel
theorem dX10_valueOf_0 : decode cX10_valueOf 0 = .ok (.iload_n 3, 1) := by decide +kernel
theorem dX10_valueOf_1 : decode cX10_valueOf 1 = .ok (.iconst 4, 1) := by decide +kernel
theorem dX10_valueOf_2 : decode cX10_valueOf 2 = .ok (.if_icmp .ne 14, 3) := by decide +kernel
theorem dX10_valueOf_5 : decode cX10_valueOf 5 = .ok (.aload_n 0, 1) := by decide +kernel
theorem dX10_valueOf_6 : decode cX10_valueOf 6 = .ok (.getfield 47, 3) := by decide +kernel
theorem dX10_valueOf_9 : decode cX10_valueOf 9 = .ok (.iconst 5, 1) := by decide +kernel
theorem dX10_valueOf_10 : decode cX10_valueOf 10 = .ok (.iload_n 1, 1) := by decide +kernel
theorem dX10_valueOf_11 : decode cX10_valueOf 11 = .ok (.imul, 1) := by decide +kernel
theorem dX10_valueOf_12 : decode cX10_valueOf 12 = .ok (.iload_n 2, 1) := by decide +kernel
theorem dX10_valueOf_13 : decode cX10_valueOf 13 = .ok (.iadd, 1) := by decide +kernel
theorem dX10_valueOf_14 : decode cX10_valueOf 14 = .ok (.laload, 1) := by decide +kernel
theorem dX10_valueOf_15 : decode cX10_valueOf 15 = .ok (.lreturn, 1) := by decide +kernel
theorem dX10_valueOf_16 : decode cX10_valueOf 16 = .ok (.iload_n 3, 1) := by decide +kernel
theorem dX10_valueOf_17 : decode cX10_valueOf 17 = .ok (.iconst 1, 1) := by decide +kernel
theorem dX10_valueOf_18 : decode cX10_valueOf 18 = .ok (.if_icmp .ne 20, 3) := by decide +kernel
theorem dX10_valueOf_21 : decode cX10_valueOf 21 = .ok (.aload_n 0, 1) := by decide +kernel
theorem dX10_valueOf_22 : decode cX10_valueOf 22 = .ok (.getfield 43, 3) := by decide +kernel
theorem dX10_valueOf_25 : decode cX10_valueOf 25 = .ok (.iconst 5, 1) := by decide +kernel
theorem dX10_valueOf_26 : decode cX10_valueOf 26 = .ok (.iload_n 1, 1) := by decide +kernel
theorem dX10_valueOf_27 : decode cX10_valueOf 27 = .ok (.imul, 1) := by decide +kernel
theorem dX10_valueOf_28 : decode cX10_valueOf 28 = .ok (.iload_n 2, 1) := by decide +kernel
theorem dX10_valueOf_29 : decode cX10_valueOf 29 = .ok (.iadd, 1) := by decide +kernel
theorem dX10_valueOf_30 : decode cX10_valueOf 30 = .ok (.laload, 1) := by decide +kernel
theorem dX10_valueOf_31 : decode cX10_valueOf 31 = .ok (.ldc2_w 291, 3) := by decide +kernel
theorem dX10_valueOf_34 : decode cX10_valueOf 34 = .ok (.ldiv, 1) := by decide +kernel
theorem dX10_valueOf_35 : decode cX10_valueOf 35 = .ok (.goto 13, 3) := by decide +kernel
theorem dX10_valueOf_38 : decode cX10_valueOf 38 = .ok (.aload_n 0, 1) := by decide +kernel
theorem dX10_valueOf_39 : decode cX10_valueOf 39 = .ok (.getfield 43, 3) := by decide +kernel
theorem dX10_valueOf_42 : decode cX10_valueOf 42 = .ok (.iconst 5, 1) := by decide +kernel
theorem dX10_valueOf_43 : decode cX10_valueOf 43 = .ok (.iload_n 1, 1) := by decide +kernel
theorem dX10_valueOf_44 : decode cX10_valueOf 44 = .ok (.imul, 1) := by decide +kernel
theorem dX10_valueOf_45 : decode cX10_valueOf 45 = .ok (.iload_n 2, 1) := by decide +kernel
theorem dX10_valueOf_46 : decode cX10_valueOf 46 = .ok (.iadd, 1) := by decide +kernel
theorem dX10_valueOf_47 : decode cX10_valueOf 47 = .ok (.laload, 1) := by decide +kernel
theorem dX10_valueOf_48 : decode cX10_valueOf 48 = .ok (.lreturn, 1) := by decide +kernel
theorem dX10_faulty_0 : decode cX10_faulty 0 = .ok (.aload_n 0, 1) := by decide +kernel
theorem dX10_faulty_1 : decode cX10_faulty 1 = .ok (.getfield 56, 3) := by decide +kernel
theorem dX10_faulty_4 : decode cX10_faulty 4 = .ok (.iload_n 1, 1) := by decide +kernel
theorem dX10_faulty_5 : decode cX10_faulty 5 = .ok (.iload_n 2, 1) := by decide +kernel
theorem dX10_faulty_6 : decode cX10_faulty 6 = .ok (.iastore, 1) := by decide +kernel
theorem dX10_faulty_7 : decode cX10_faulty 7 = .ok (.aload_n 0, 1) := by decide +kernel
theorem dX10_faulty_8 : decode cX10_faulty 8 = .ok (.getfield 59, 3) := by decide +kernel
theorem dX10_faulty_11 : decode cX10_faulty 11 = .ok (.iload_n 1, 1) := by decide +kernel
theorem dX10_faulty_12 : decode cX10_faulty 12 = .ok (.iload_n 3, 1) := by decide +kernel
theorem dX10_faulty_13 : decode cX10_faulty 13 = .ok (.iastore, 1) := by decide +kernel
theorem dX10_faulty_14 : decode cX10_faulty 14 = .ok (.aload_n 0, 1) := by decide +kernel
theorem dX10_faulty_15 : decode cX10_faulty 15 = .ok (.getfield 62, 3) := by decide +kernel
theorem dX10_faulty_18 : decode cX10_faulty 18 = .ok (.iload_n 1, 1) := by decide +kernel
theorem dX10_faulty_19 : decode cX10_faulty 19 = .ok (.iload 4, 2) := by decide +kernel
theorem dX10_faulty_21 : decode cX10_faulty 21 = .ok (.iastore, 1) := by decide +kernel
theorem dX10_faulty_22 : decode cX10_faulty 22 = .ok (.return_, 1) := by decide +kernel
set_option maxRecDepth 20000 in
theorem ggX10_comes_X10_type : GoodIn wsX10_comes wsX10_type := goodIn_r _ [13, 3, 14, 15, 16, 17, 18, 12, 19, 20, 21, 22, 23, 24, 25, 26, 27, 28, 4, 29, 30, 31, 32, 33, 55, 56, 57, 58, 59, 60, 61, 62, 63, 64, 65, 66, 67, 68, 69, 70, 71, 72, 73, 74, 75, 76, 77, 78, 79, 80, 81, 82, 83, 84, 85, 86, 87, 88, 89, 90, 91, 92, 93, 94, 95, 96, 97, 98, 99, 100, 101] (by decide +kernel) (by decide +kernel)
set_option maxRecDepth 20000 in
theorem gX10_comes_X10_type : GoodIn wsX10_comes (wsV RX10 284 RX10 yX10_type wsX10_type) := goodIn_app (goodIn_of _ (by decide +kernel)) ggX10_comes_X10_type
set_option maxRecDepth 20000 in
theorem ggX10_comes_X10_faulty : GoodIn wsX10_comes wsX10_faulty := goodIn_r _ [37, 38, 39, 40, 55, 56, 57, 58, 59, 60, 61, 62, 63, 64, 65, 66, 67, 68, 69, 70, 71, 72, 73, 74, 75, 76, 77, 78, 79, 80, 81, 82, 83, 84, 85, 86, 87, 88, 89, 90, 91, 92, 93, 94, 95, 96, 97, 98, 99, 100, 101] (by decide +kernel) (by decide +kernel)
set_option maxRecDepth 20000 in
theorem gX10_comes_X10_faulty : GoodIn wsX10_comes (wsV RX10 293 RX10 yX10_faulty wsX10_faulty) := goodIn_app (goodIn_of _ (by decide +kernel)) ggX10_comes_X10_faulty
set_option maxRecDepth 20000 in
theorem ggX10_comes_X10_formOf : GoodIn wsX10_comes wsX10_formOf := goodIn_r _ [32, 33, 55, 56, 57, 58, 59, 60, 61, 62, 63, 64, 65, 66, 67, 68, 69, 70, 71, 72, 73, 74, 75, 76, 77, 78, 79, 80, 81, 82, 83, 84, 85, 86, 87, 88, 89, 90, 91, 92, 93, 94, 95, 96, 97, 98, 99, 100, 101] (by decide +kernel) (by decide +kernel)
set_option maxRecDepth 20000 in
theorem gX10_comes_X10_formOf : GoodIn wsX10_comes (wsV RX10 267 RX10 yX10_formOf wsX10_formOf) := goodIn_app (goodIn_of _ (by decide +kernel)) ggX10_comes_X10_formOf
set_option maxRecDepth 20000 in
theorem ggX10_comes_X10_fitsType : GoodIn wsX10_comes wsX10_fitsType := goodIn_r _ [43] (by decide +kernel) (by decide +kernel)
set_option maxRecDepth 20000 in
theorem gX10_comes_X10_fitsType : GoodIn wsX10_comes (va_wsS RX10 297 yX10_fitsType wsX10_fitsType) := goodIn_app (goodIn_of _ (by decide +kernel)) ggX10_comes_X10_fitsType
set_option maxRecDepth 20000 in
theorem ggX10_comes_X10_isSameKey : GoodIn wsX10_comes wsX10_isSameKey := goodIn_r _ [47, 5, 3, 29, 30, 31, 12, 32, 33, 48, 49, 50, 51, 52, 53, 54, 55, 56, 57, 58, 59, 60, 61, 62, 63, 64, 65, 66, 67, 68, 69, 70, 71, 72, 73, 74, 75, 76, 77, 78, 79, 80, 81, 82, 83, 84, 85, 86, 87, 88, 89, 90, 91, 92, 93, 94, 95, 96, 97, 98, 99, 100, 101] (by decide +kernel) (by decide +kernel)
set_option maxRecDepth 20000 in
theorem gX10_comes_X10_isSameKey : GoodIn wsX10_comes (wsV RX10 300 RX10 yX10_isSameKey wsX10_isSameKey) := goodIn_app (goodIn_of _ (by decide +kernel)) ggX10_comes_X10_isSameKey
theorem dX10_comes_0 : decode cX10_comes 0 = .ok (.iconst 0, 1) := by decide +kernel
theorem dX10_comes_1 : decode cX10_comes 1 = .ok (.istore_n 1, 1) := by decide +kernel
theorem dX10_comes_2 : decode cX10_comes 2 = .ok (.iload_n 1, 1) := by decide +kernel
theorem dX10_comes_3 : decode cX10_comes 3 = .ok (.aload_n 0, 1) := by decide +kernel
theorem dX10_comes_4 : decode cX10_comes 4 = .ok (.getfield 118, 3) := by decide +kernel
theorem dX10_comes_7 : decode cX10_comes 7 = .ok (.if_icmp .ge 27, 3) := by decide +kernel
theorem dX10_comes_10 : decode cX10_comes 10 = .ok (.aload_n 0, 1) := by decide +kernel
theorem dX10_comes_11 : decode cX10_comes 11 = .ok (.getfield 142, 3) := by decide +kernel
theorem dX10_comes_14 : decode cX10_comes 14 = .ok (.ifCond .ne 20, 3) := by decide +kernel
theorem dX10_comes_17 : decode cX10_comes 17 = .ok (.aload_n 0, 1) := by decide +kernel
theorem dX10_comes_18 : decode cX10_comes 18 = .ok (.getfield 28, 3) := by decide +kernel
theorem dX10_comes_21 : decode cX10_comes 21 = .ok (.iload_n 1, 1) := by decide +kernel
theorem dX10_comes_22 : decode cX10_comes 22 = .ok (.aload_n 0, 1) := by decide +kernel
theorem dX10_comes_23 : decode cX10_comes 23 = .ok (.iload_n 1, 1) := by decide +kernel
theorem dX10_comes_24 : decode cX10_comes 24 = .ok (.invokevirtual 284, 3) := by decide +kernel
theorem dX10_comes_27 : decode cX10_comes 27 = .ok (.iastore, 1) := by decide +kernel
theorem dX10_comes_28 : decode cX10_comes 28 = .ok (.iinc 1 1, 3) := by decide +kernel
theorem dX10_comes_31 : decode cX10_comes 31 = .ok (.goto (-29), 3) := by decide +kernel
theorem dX10_comes_34 : decode cX10_comes 34 = .ok (.aload_n 0, 1) := by decide +kernel
theorem dX10_comes_35 : decode cX10_comes 35 = .ok (.getfield 142, 3) := by decide +kernel
theorem dX10_comes_38 : decode cX10_comes 38 = .ok (.istore_n 1, 1) := by decide +kernel
theorem dX10_comes_39 : decode cX10_comes 39 = .ok (.aload_n 0, 1) := by decide +kernel
theorem dX10_comes_40 : decode cX10_comes 40 = .ok (.dup, 1) := by decide +kernel
theorem dX10_comes_41 : decode cX10_comes 41 = .ok (.getfield 142, 3) := by decide +kernel
theorem dX10_comes_44 : decode cX10_comes 44 = .ok (.iconst 1, 1) := by decide +kernel
theorem dX10_comes_45 : decode cX10_comes 45 = .ok (.iadd, 1) := by decide +kernel
theorem dX10_comes_46 : decode cX10_comes 46 = .ok (.putfield 142, 3) := by decide +kernel
theorem dX10_comes_49 : decode cX10_comes 49 = .ok (.aload_n 0, 1) := by decide +kernel
theorem dX10_comes_50 : decode cX10_comes 50 = .ok (.getfield 37, 3) := by decide +kernel
theorem dX10_comes_53 : decode cX10_comes 53 = .ok (.iload_n 1, 1) := by decide +kernel
theorem dX10_comes_54 : decode cX10_comes 54 = .ok (.iaload, 1) := by decide +kernel
theorem dX10_comes_55 : decode cX10_comes 55 = .ok (.aload_n 0, 1) := by decide +kernel
theorem dX10_comes_56 : decode cX10_comes 56 = .ok (.getfield 118, 3) := by decide +kernel
theorem dX10_comes_59 : decode cX10_comes 59 = .ok (.if_icmp .eq 31, 3) := by decide +kernel
theorem dX10_comes_62 : decode cX10_comes 62 = .ok (.aload_n 0, 1) := by decide +kernel
theorem dX10_comes_63 : decode cX10_comes 63 = .ok (.iload_n 1, 1) := by decide +kernel
theorem dX10_comes_64 : decode cX10_comes 64 = .ok (.aload_n 0, 1) := by decide +kernel
theorem dX10_comes_65 : decode cX10_comes 65 = .ok (.getfield 37, 3) := by decide +kernel
theorem dX10_comes_68 : decode cX10_comes 68 = .ok (.iload_n 1, 1) := by decide +kernel
theorem dX10_comes_69 : decode cX10_comes 69 = .ok (.iaload, 1) := by decide +kernel
theorem dX10_comes_70 : decode cX10_comes 70 = .ok (.aload_n 0, 1) := by decide +kernel
theorem dX10_comes_71 : decode cX10_comes 71 = .ok (.getfield 118, 3) := by decide +kernel
theorem dX10_comes_74 : decode cX10_comes 74 = .ok (.if_icmp .ge 7, 3) := by decide +kernel
theorem dX10_comes_77 : decode cX10_comes 77 = .ok (.iconst 1, 1) := by decide +kernel
theorem dX10_comes_78 : decode cX10_comes 78 = .ok (.goto 4, 3) := by decide +kernel
theorem dX10_comes_81 : decode cX10_comes 81 = .ok (.iconst 2, 1) := by decide +kernel
theorem dX10_comes_82 : decode cX10_comes 82 = .ok (.bipush (-5), 2) := by decide +kernel
theorem dX10_comes_84 : decode cX10_comes 84 = .ok (.bipush (-5), 2) := by decide +kernel
theorem dX10_comes_86 : decode cX10_comes 86 = .ok (.invokevirtual 293, 3) := by decide +kernel
theorem dX10_comes_89 : decode cX10_comes 89 = .ok (.return_, 1) := by decide +kernel
theorem dX10_comes_90 : decode cX10_comes 90 = .ok (.iconst 0, 1) := by decide +kernel
theorem dX10_comes_91 : decode cX10_comes 91 = .ok (.istore_n 2, 1) := by decide +kernel
theorem dX10_comes_92 : decode cX10_comes 92 = .ok (.iload_n 2, 1) := by decide +kernel
theorem dX10_comes_93 : decode cX10_comes 93 = .ok (.aload_n 0, 1) := by decide +kernel
theorem dX10_comes_94 : decode cX10_comes 94 = .ok (.getfield 118, 3) := by decide +kernel
theorem dX10_comes_97 : decode cX10_comes 97 = .ok (.if_icmp .ge 47, 3) := by decide +kernel
theorem dX10_comes_100 : decode cX10_comes 100 = .ok (.aload_n 0, 1) := by decide +kernel
theorem dX10_comes_101 : decode cX10_comes 101 = .ok (.iload_n 1, 1) := by decide +kernel
theorem dX10_comes_102 : decode cX10_comes 102 = .ok (.iload_n 2, 1) := by decide +kernel
theorem dX10_comes_103 : decode cX10_comes 103 = .ok (.invokevirtual 267, 3) := by decide +kernel
theorem dX10_comes_106 : decode cX10_comes 106 = .ok (.aload_n 0, 1) := by decide +kernel
theorem dX10_comes_107 : decode cX10_comes 107 = .ok (.getfield 28, 3) := by decide +kernel
theorem dX10_comes_110 : decode cX10_comes 110 = .ok (.iload_n 2, 1) := by decide +kernel
theorem dX10_comes_111 : decode cX10_comes 111 = .ok (.iaload, 1) := by decide +kernel
theorem dX10_comes_112 : decode cX10_comes 112 = .ok (.invokestatic 297, 3) := by decide +kernel
theorem dX10_comes_115 : decode cX10_comes 115 = .ok (.ifCond .ne 23, 3) := by decide +kernel
theorem dX10_comes_118 : decode cX10_comes 118 = .ok (.aload_n 0, 1) := by decide +kernel
theorem dX10_comes_119 : decode cX10_comes 119 = .ok (.iload_n 1, 1) := by decide +kernel
theorem dX10_comes_120 : decode cX10_comes 120 = .ok (.iconst 3, 1) := by decide +kernel
theorem dX10_comes_121 : decode cX10_comes 121 = .ok (.bipush 10, 2) := by decide +kernel
theorem dX10_comes_123 : decode cX10_comes 123 = .ok (.iload_n 2, 1) := by decide +kernel
theorem dX10_comes_124 : decode cX10_comes 124 = .ok (.iadd, 1) := by decide +kernel
theorem dX10_comes_125 : decode cX10_comes 125 = .ok (.bipush 20, 2) := by decide +kernel
theorem dX10_comes_127 : decode cX10_comes 127 = .ok (.aload_n 0, 1) := by decide +kernel
theorem dX10_comes_128 : decode cX10_comes 128 = .ok (.iload_n 1, 1) := by decide +kernel
theorem dX10_comes_129 : decode cX10_comes 129 = .ok (.iload_n 2, 1) := by decide +kernel
theorem dX10_comes_130 : decode cX10_comes 130 = .ok (.invokevirtual 267, 3) := by decide +kernel
theorem dX10_comes_133 : decode cX10_comes 133 = .ok (.iadd, 1) := by decide +kernel
theorem dX10_comes_134 : decode cX10_comes 134 = .ok (.invokevirtual 293, 3) := by decide +kernel
theorem dX10_comes_137 : decode cX10_comes 137 = .ok (.return_, 1) := by decide +kernel
theorem dX10_comes_138 : decode cX10_comes 138 = .ok (.iinc 2 1, 3) := by decide +kernel
theorem dX10_comes_141 : decode cX10_comes 141 = .ok (.goto (-49), 3) := by decide +kernel
theorem dX10_comes_144 : decode cX10_comes 144 = .ok (.aload_n 0, 1) := by decide +kernel
theorem dX10_comes_145 : decode cX10_comes 145 = .ok (.getfield 15, 3) := by decide +kernel
theorem dX10_comes_148 : decode cX10_comes 148 = .ok (.ifCond .lt 26, 3) := by decide +kernel
theorem dX10_comes_151 : decode cX10_comes 151 = .ok (.aload_n 0, 1) := by decide +kernel
theorem dX10_comes_152 : decode cX10_comes 152 = .ok (.iload_n 1, 1) := by decide +kernel
theorem dX10_comes_153 : decode cX10_comes 153 = .ok (.aload_n 0, 1) := by decide +kernel
theorem dX10_comes_154 : decode cX10_comes 154 = .ok (.getfield 15, 3) := by decide +kernel
theorem dX10_comes_157 : decode cX10_comes 157 = .ok (.invokevirtual 267, 3) := by decide +kernel
theorem dX10_comes_160 : decode cX10_comes 160 = .ok (.ifCond .ne 14, 3) := by decide +kernel
theorem dX10_comes_163 : decode cX10_comes 163 = .ok (.aload_n 0, 1) := by decide +kernel
theorem dX10_comes_164 : decode cX10_comes 164 = .ok (.iload_n 1, 1) := by decide +kernel
theorem dX10_comes_165 : decode cX10_comes 165 = .ok (.iconst 4, 1) := by decide +kernel
theorem dX10_comes_166 : decode cX10_comes 166 = .ok (.bipush (-5), 2) := by decide +kernel
theorem dX10_comes_168 : decode cX10_comes 168 = .ok (.bipush (-5), 2) := by decide +kernel
theorem dX10_comes_170 : decode cX10_comes 170 = .ok (.invokevirtual 293, 3) := by decide +kernel
theorem dX10_comes_173 : decode cX10_comes 173 = .ok (.return_, 1) := by decide +kernel
theorem dX10_comes_174 : decode cX10_comes 174 = .ok (.iconst 0, 1) := by decide +kernel
theorem dX10_comes_175 : decode cX10_comes 175 = .ok (.istore_n 2, 1) := by decide +kernel
theorem dX10_comes_176 : decode cX10_comes 176 = .ok (.iload_n 2, 1) := by decide +kernel
theorem dX10_comes_177 : decode cX10_comes 177 = .ok (.aload_n 0, 1) := by decide +kernel
theorem dX10_comes_178 : decode cX10_comes 178 = .ok (.getfield 128, 3) := by decide +kernel
theorem dX10_comes_181 : decode cX10_comes 181 = .ok (.if_icmp .ge 48, 3) := by decide +kernel
theorem dX10_comes_184 : decode cX10_comes 184 = .ok (.aload_n 0, 1) := by decide +kernel
theorem dX10_comes_185 : decode cX10_comes 185 = .ok (.getfield 15, 3) := by decide +kernel
theorem dX10_comes_188 : decode cX10_comes 188 = .ok (.ifCond .lt 41, 3) := by decide +kernel
theorem dX10_comes_191 : decode cX10_comes 191 = .ok (.aload_n 0, 1) := by decide +kernel
theorem dX10_comes_192 : decode cX10_comes 192 = .ok (.aload_n 0, 1) := by decide +kernel
theorem dX10_comes_193 : decode cX10_comes 193 = .ok (.getfield 50, 3) := by decide +kernel
theorem dX10_comes_196 : decode cX10_comes 196 = .ok (.iload_n 2, 1) := by decide +kernel
theorem dX10_comes_197 : decode cX10_comes 197 = .ok (.iaload, 1) := by decide +kernel
theorem dX10_comes_198 : decode cX10_comes 198 = .ok (.iload_n 1, 1) := by decide +kernel
theorem dX10_comes_199 : decode cX10_comes 199 = .ok (.invokevirtual 300, 3) := by decide +kernel
theorem dX10_comes_202 : decode cX10_comes 202 = .ok (.ifCond .eq 21, 3) := by decide +kernel
theorem dX10_comes_205 : decode cX10_comes 205 = .ok (.aload_n 0, 1) := by decide +kernel
theorem dX10_comes_206 : decode cX10_comes 206 = .ok (.iload_n 1, 1) := by decide +kernel
theorem dX10_comes_207 : decode cX10_comes 207 = .ok (.iconst 5, 1) := by decide +kernel
theorem dX10_comes_208 : decode cX10_comes 208 = .ok (.bipush 30, 2) := by decide +kernel
theorem dX10_comes_210 : decode cX10_comes 210 = .ok (.aload_n 0, 1) := by decide +kernel
theorem dX10_comes_211 : decode cX10_comes 211 = .ok (.getfield 50, 3) := by decide +kernel
theorem dX10_comes_214 : decode cX10_comes 214 = .ok (.iload_n 2, 1) := by decide +kernel
theorem dX10_comes_215 : decode cX10_comes 215 = .ok (.iaload, 1) := by decide +kernel
theorem dX10_comes_216 : decode cX10_comes 216 = .ok (.iadd, 1) := by decide +kernel
theorem dX10_comes_217 : decode cX10_comes 217 = .ok (.bipush (-5), 2) := by decide +kernel
theorem dX10_comes_219 : decode cX10_comes 219 = .ok (.invokevirtual 293, 3) := by decide +kernel
theorem dX10_comes_222 : decode cX10_comes 222 = .ok (.return_, 1) := by decide +kernel
theorem dX10_comes_223 : decode cX10_comes 223 = .ok (.iinc 2 1, 3) := by decide +kernel
theorem dX10_comes_226 : decode cX10_comes 226 = .ok (.goto (-50), 3) := by decide +kernel
theorem dX10_comes_229 : decode cX10_comes 229 = .ok (.aload_n 0, 1) := by decide +kernel
theorem dX10_comes_230 : decode cX10_comes 230 = .ok (.getfield 50, 3) := by decide +kernel
theorem dX10_comes_233 : decode cX10_comes 233 = .ok (.aload_n 0, 1) := by decide +kernel
theorem dX10_comes_234 : decode cX10_comes 234 = .ok (.getfield 128, 3) := by decide +kernel
theorem dX10_comes_237 : decode cX10_comes 237 = .ok (.iload_n 1, 1) := by decide +kernel
theorem dX10_comes_238 : decode cX10_comes 238 = .ok (.iastore, 1) := by decide +kernel
theorem dX10_comes_239 : decode cX10_comes 239 = .ok (.aload_n 0, 1) := by decide +kernel
theorem dX10_comes_240 : decode cX10_comes 240 = .ok (.getfield 53, 3) := by decide +kernel
theorem dX10_comes_243 : decode cX10_comes 243 = .ok (.iload_n 1, 1) := by decide +kernel
theorem dX10_comes_244 : decode cX10_comes 244 = .ok (.aload_n 0, 1) := by decide +kernel
theorem dX10_comes_245 : decode cX10_comes 245 = .ok (.getfield 128, 3) := by decide +kernel
theorem dX10_comes_248 : decode cX10_comes 248 = .ok (.iastore, 1) := by decide +kernel
theorem dX10_comes_249 : decode cX10_comes 249 = .ok (.aload_n 0, 1) := by decide +kernel
theorem dX10_comes_250 : decode cX10_comes 250 = .ok (.dup, 1) := by decide +kernel
theorem dX10_comes_251 : decode cX10_comes 251 = .ok (.getfield 128, 3) := by decide +kernel
theorem dX10_comes_254 : decode cX10_comes 254 = .ok (.iconst 1, 1) := by decide +kernel
theorem dX10_comes_255 : decode cX10_comes 255 = .ok (.iadd, 1) := by decide +kernel
theorem dX10_comes_256 : decode cX10_comes 256 = .ok (.putfield 128, 3) := by decide +kernel
theorem dX10_comes_259 : decode cX10_comes 259 = .ok (.return_, 1) := by decide +kernel
set_option maxRecDepth 20000 in
theorem ggX10_isSameKey_X10_formOf : GoodIn wsX10_isSameKey wsX10_formOf := goodIn_r _ [7, 8, 16, 17, 18, 19, 20, 21, 22, 23, 24, 25, 26, 27, 28, 29, 30, 31, 32, 33, 34, 35, 36, 37, 38, 39, 40, 41, 42, 43, 44, 45, 46, 47, 48, 49, 50, 51, 52, 53, 54, 55, 56, 57, 58, 59, 60, 61, 62] (by decide +kernel) (by decide +kernel)
set_option maxRecDepth 20000 in
theorem gX10_isSameKey_X10_formOf : GoodIn wsX10_isSameKey (wsV RX10 267 RX10 yX10_formOf wsX10_formOf) := goodIn_app (goodIn_of _ (by decide +kernel)) ggX10_isSameKey_X10_formOf
set_option maxRecDepth 20000 in
theorem ggX10_isSameKey_X10_valueOf : GoodIn wsX10_isSameKey wsX10_valueOf := goodIn_r _ [12, 13, 14, 15, 16, 17, 18, 19, 20, 21, 22, 23, 24, 25, 26, 27, 28, 29, 30, 31, 32, 33, 34, 35, 36, 37, 38, 39, 40, 41, 42, 43, 44, 45, 46, 47, 48, 49, 50, 51, 52, 53, 54, 55, 56, 57, 58, 59, 60, 61, 62] (by decide +kernel) (by decide +kernel)
set_option maxRecDepth 20000 in
theorem gX10_isSameKey_X10_valueOf : GoodIn wsX10_isSameKey (wsV RX10 303 RX10 yX10_valueOf wsX10_valueOf) := goodIn_app (goodIn_of _ (by decide +kernel)) ggX10_isSameKey_X10_valueOf
theorem dX10_isSameKey_0 : decode cX10_isSameKey 0 = .ok (.aload_n 0, 1) := by decide +kernel
theorem dX10_isSameKey_1 : decode cX10_isSameKey 1 = .ok (.iload_n 1, 1) := by decide +kernel
theorem dX10_isSameKey_2 : decode cX10_isSameKey 2 = .ok (.aload_n 0, 1) := by decide +kernel
theorem dX10_isSameKey_3 : decode cX10_isSameKey 3 = .ok (.getfield 15, 3) := by decide +kernel
theorem dX10_isSameKey_6 : decode cX10_isSameKey 6 = .ok (.invokevirtual 267, 3) := by decide +kernel
theorem dX10_isSameKey_9 : decode cX10_isSameKey 9 = .ok (.ifCond .eq 47, 3) := by decide +kernel
theorem dX10_isSameKey_12 : decode cX10_isSameKey 12 = .ok (.aload_n 0, 1) := by decide +kernel
theorem dX10_isSameKey_13 : decode cX10_isSameKey 13 = .ok (.iload_n 1, 1) := by decide +kernel
theorem dX10_isSameKey_14 : decode cX10_isSameKey 14 = .ok (.aload_n 0, 1) := by decide +kernel
theorem dX10_isSameKey_15 : decode cX10_isSameKey 15 = .ok (.getfield 15, 3) := by decide +kernel
theorem dX10_isSameKey_18 : decode cX10_isSameKey 18 = .ok (.aload_n 0, 1) := by decide +kernel
theorem dX10_isSameKey_19 : decode cX10_isSameKey 19 = .ok (.getfield 28, 3) := by decide +kernel
theorem dX10_isSameKey_22 : decode cX10_isSameKey 22 = .ok (.aload_n 0, 1) := by decide +kernel
theorem dX10_isSameKey_23 : decode cX10_isSameKey 23 = .ok (.getfield 15, 3) := by decide +kernel
theorem dX10_isSameKey_26 : decode cX10_isSameKey 26 = .ok (.iaload, 1) := by decide +kernel
theorem dX10_isSameKey_27 : decode cX10_isSameKey 27 = .ok (.invokevirtual 303, 3) := by decide +kernel
theorem dX10_isSameKey_30 : decode cX10_isSameKey 30 = .ok (.aload_n 0, 1) := by decide +kernel
theorem dX10_isSameKey_31 : decode cX10_isSameKey 31 = .ok (.iload_n 2, 1) := by decide +kernel
theorem dX10_isSameKey_32 : decode cX10_isSameKey 32 = .ok (.aload_n 0, 1) := by decide +kernel
theorem dX10_isSameKey_33 : decode cX10_isSameKey 33 = .ok (.getfield 15, 3) := by decide +kernel
theorem dX10_isSameKey_36 : decode cX10_isSameKey 36 = .ok (.aload_n 0, 1) := by decide +kernel
theorem dX10_isSameKey_37 : decode cX10_isSameKey 37 = .ok (.getfield 28, 3) := by decide +kernel
theorem dX10_isSameKey_40 : decode cX10_isSameKey 40 = .ok (.aload_n 0, 1) := by decide +kernel
theorem dX10_isSameKey_41 : decode cX10_isSameKey 41 = .ok (.getfield 15, 3) := by decide +kernel
theorem dX10_isSameKey_44 : decode cX10_isSameKey 44 = .ok (.iaload, 1) := by decide +kernel
theorem dX10_isSameKey_45 : decode cX10_isSameKey 45 = .ok (.invokevirtual 303, 3) := by decide +kernel
theorem dX10_isSameKey_48 : decode cX10_isSameKey 48 = .ok (.lcmp, 1) := by decide +kernel
theorem dX10_isSameKey_49 : decode cX10_isSameKey 49 = .ok (.ifCond .ne 7, 3) := by decide +kernel
theorem dX10_isSameKey_52 : decode cX10_isSameKey 52 = .ok (.iconst 1, 1) := by decide +kernel
theorem dX10_isSameKey_53 : decode cX10_isSameKey 53 = .ok (.goto 4, 3) := by decide +kernel
theorem dX10_isSameKey_56 : decode cX10_isSameKey 56 = .ok (.iconst 0, 1) := by decide +kernel
theorem dX10_isSameKey_57 : decode cX10_isSameKey 57 = .ok (.ireturn, 1) := by decide +kernel
set_option maxRecDepth 20000 in
theorem ggX10_goesOn_X10_comes : GoodIn wsX10_goesOn wsX10_comes := goodIn_r _ [7, 8, 1, 9, 10, 11, 12, 13, 14, 15, 16, 17, 6, 18, 19, 20, 21, 22, 23, 24, 25, 26, 27, 28, 2, 29, 30, 31, 32, 33, 34, 35, 36, 37, 38, 39, 40, 41, 42, 43, 44, 45, 46, 47, 48, 49, 50, 51, 52, 53, 54, 55, 56, 57, 58, 59, 60, 61, 62, 63, 64, 65, 66, 67, 68, 69, 70, 71, 72, 73, 74, 75, 76, 77, 78, 79, 80, 81, 82, 83, 84, 85, 86, 87, 88, 89, 90, 91, 92, 93, 94, 95, 96, 97, 98, 99, 100, 101, 102, 103, 104, 105] (by decide +kernel) (by decide +kernel)
set_option maxRecDepth 20000 in
theorem gX10_goesOn_X10_comes : GoodIn wsX10_goesOn (wsV RX10 307 RX10 yX10_comes wsX10_comes) := goodIn_app (goodIn_of _ (by decide +kernel)) ggX10_goesOn_X10_comes
theorem dX10_goesOn_0 : decode cX10_goesOn 0 = .ok (.iconst 0, 1) := by decide +kernel
theorem dX10_goesOn_1 : decode cX10_goesOn 1 = .ok (.istore_n 2, 1) := by decide +kernel
theorem dX10_goesOn_2 : decode cX10_goesOn 2 = .ok (.iload_n 2, 1) := by decide +kernel
theorem dX10_goesOn_3 : decode cX10_goesOn 3 = .ok (.iload_n 1, 1) := by decide +kernel
theorem dX10_goesOn_4 : decode cX10_goesOn 4 = .ok (.if_icmp .ge 24, 3) := by decide +kernel
theorem dX10_goesOn_7 : decode cX10_goesOn 7 = .ok (.aload_n 0, 1) := by decide +kernel
theorem dX10_goesOn_8 : decode cX10_goesOn 8 = .ok (.getfield 142, 3) := by decide +kernel
theorem dX10_goesOn_11 : decode cX10_goesOn 11 = .ok (.aload_n 0, 1) := by decide +kernel
theorem dX10_goesOn_12 : decode cX10_goesOn 12 = .ok (.getfield 125, 3) := by decide +kernel
theorem dX10_goesOn_15 : decode cX10_goesOn 15 = .ok (.if_icmp .ge 13, 3) := by decide +kernel
theorem dX10_goesOn_18 : decode cX10_goesOn 18 = .ok (.aload_n 0, 1) := by decide +kernel
theorem dX10_goesOn_19 : decode cX10_goesOn 19 = .ok (.invokevirtual 307, 3) := by decide +kernel
theorem dX10_goesOn_22 : decode cX10_goesOn 22 = .ok (.iinc 2 1, 3) := by decide +kernel
theorem dX10_goesOn_25 : decode cX10_goesOn 25 = .ok (.goto (-23), 3) := by decide +kernel
theorem dX10_goesOn_28 : decode cX10_goesOn 28 = .ok (.iload_n 2, 1) := by decide +kernel
theorem dX10_goesOn_29 : decode cX10_goesOn 29 = .ok (.ireturn, 1) := by decide +kernel
set_option maxRecDepth 20000 in
theorem ggX10_run_X10_in : GoodIn wsX10_run wsX10_in := goodIn_r _ [5] (by decide +kernel) (by decide +kernel)
set_option maxRecDepth 20000 in
theorem gX10_run_X10_in : GoodIn wsX10_run (va_wsS RX10 121 yX10_in wsX10_in) := goodIn_app (goodIn_of _ (by decide +kernel)) ggX10_run_X10_in
set_option maxRecDepth 20000 in
theorem ggX10_run_X10_goesOn : GoodIn wsX10_run wsX10_goesOn := goodIn_r _ [9, 10, 11, 12, 13, 14, 4, 15, 16, 17, 18, 19, 20, 21, 22, 23, 24, 25, 26, 27, 28, 29, 30, 31, 32, 33, 34, 35, 36, 37, 38, 39, 40, 41, 42, 43, 44, 45, 46, 47, 48, 49, 50, 51, 52, 53, 54, 55, 56, 57, 58, 59, 60, 61, 62, 63, 64, 65, 66, 67, 68, 69, 70, 71, 72, 73, 74, 75, 76, 77, 78, 79, 80, 81, 82, 83, 84, 85, 86, 87, 88, 89, 90, 91, 92, 93, 94, 95, 96, 97, 98, 99, 100, 101, 102, 103, 104, 105, 106, 107, 108, 109, 110, 111, 112, 113] (by decide +kernel) (by decide +kernel)
set_option maxRecDepth 20000 in
theorem gX10_run_X10_goesOn : GoodIn wsX10_run (wsV RX10 310 RX10 yX10_goesOn wsX10_goesOn) := goodIn_app (goodIn_of _ (by decide +kernel)) ggX10_run_X10_goesOn
theorem dX10_run_0 : decode cX10_run 0 = .ok (.iload_n 1, 1) := by decide +kernel
theorem dX10_run_1 : decode cX10_run 1 = .ok (.i2l, 1) := by decide +kernel
theorem dX10_run_2 : decode cX10_run 2 = .ok (.lconst 0, 1) := by decide +kernel
theorem dX10_run_3 : decode cX10_run 3 = .ok (.ldc2_w 277, 3) := by decide +kernel
theorem dX10_run_6 : decode cX10_run 6 = .ok (.invokestatic 121, 3) := by decide +kernel
theorem dX10_run_9 : decode cX10_run 9 = .ok (.ifCond .eq 11, 3) := by decide +kernel
theorem dX10_run_12 : decode cX10_run 12 = .ok (.aload_n 0, 1) := by decide +kernel
theorem dX10_run_13 : decode cX10_run 13 = .ok (.iload_n 1, 1) := by decide +kernel
theorem dX10_run_14 : decode cX10_run 14 = .ok (.invokevirtual 310, 3) := by decide +kernel
theorem dX10_run_17 : decode cX10_run 17 = .ok (.goto 5, 3) := by decide +kernel
theorem dX10_run_20 : decode cX10_run 20 = .ok (.bipush (-2), 2) := by decide +kernel
theorem dX10_run_22 : decode cX10_run 22 = .ok (.ireturn, 1) := by decide +kernel
set_option maxRecDepth 20000 in
theorem ggX10_reset_X10_afresh : GoodIn wsX10_reset wsX10_afresh := goodIn_r _ [6, 1, 7, 8, 9, 10, 11, 12, 13, 14, 15, 16, 17, 18, 19, 20, 21, 22, 23, 24, 25, 26, 27, 28, 29, 30, 31, 32, 33, 34, 35, 36, 37, 38, 39, 40, 41, 42, 43, 44, 45, 46, 47, 48, 49, 50, 51, 52, 53, 54, 55, 56, 57, 58, 59] (by decide +kernel) (by decide +kernel)
set_option maxRecDepth 20000 in
theorem gX10_reset_X10_afresh : GoodIn wsX10_reset (wsV RX10 115 RX10 yX10_afresh wsX10_afresh) := goodIn_app (goodIn_of _ (by decide +kernel)) ggX10_reset_X10_afresh
theorem dX10_reset_0 : decode cX10_reset 0 = .ok (.aload_n 0, 1) := by decide +kernel
theorem dX10_reset_1 : decode cX10_reset 1 = .ok (.getfield 142, 3) := by decide +kernel
theorem dX10_reset_4 : decode cX10_reset 4 = .ok (.istore_n 1, 1) := by decide +kernel
theorem dX10_reset_5 : decode cX10_reset 5 = .ok (.aload_n 0, 1) := by decide +kernel
theorem dX10_reset_6 : decode cX10_reset 6 = .ok (.invokevirtual 115, 3) := by decide +kernel
theorem dX10_reset_9 : decode cX10_reset 9 = .ok (.iload_n 1, 1) := by decide +kernel
theorem dX10_reset_10 : decode cX10_reset 10 = .ok (.ireturn, 1) := by decide +kernel
theorem dX10_faults_0 : decode cX10_faults 0 = .ok (.iconst 0, 1) := by decide +kernel
theorem dX10_faults_1 : decode cX10_faults 1 = .ok (.istore_n 2, 1) := by decide +kernel
theorem dX10_faults_2 : decode cX10_faults 2 = .ok (.iconst 0, 1) := by decide +kernel
theorem dX10_faults_3 : decode cX10_faults 3 = .ok (.istore_n 3, 1) := by decide +kernel
theorem dX10_faults_4 : decode cX10_faults 4 = .ok (.iload_n 3, 1) := by decide +kernel
theorem dX10_faults_5 : decode cX10_faults 5 = .ok (.aload_n 0, 1) := by decide +kernel
theorem dX10_faults_6 : decode cX10_faults 6 = .ok (.getfield 142, 3) := by decide +kernel
theorem dX10_faults_9 : decode cX10_faults 9 = .ok (.if_icmp .ge 48, 3) := by decide +kernel
theorem dX10_faults_12 : decode cX10_faults 12 = .ok (.iload_n 2, 1) := by decide +kernel
theorem dX10_faults_13 : decode cX10_faults 13 = .ok (.iload_n 1, 1) := by decide +kernel
theorem dX10_faults_14 : decode cX10_faults 14 = .ok (.ifCond .ne 20, 3) := by decide +kernel
theorem dX10_faults_17 : decode cX10_faults 17 = .ok (.aload_n 0, 1) := by decide +kernel
theorem dX10_faults_18 : decode cX10_faults 18 = .ok (.getfield 53, 3) := by decide +kernel
theorem dX10_faults_21 : decode cX10_faults 21 = .ok (.iload_n 3, 1) := by decide +kernel
theorem dX10_faults_22 : decode cX10_faults 22 = .ok (.iaload, 1) := by decide +kernel
theorem dX10_faults_23 : decode cX10_faults 23 = .ok (.ifCond .ge 7, 3) := by decide +kernel
theorem dX10_faults_26 : decode cX10_faults 26 = .ok (.iconst 1, 1) := by decide +kernel
theorem dX10_faults_27 : decode cX10_faults 27 = .ok (.goto 22, 3) := by decide +kernel
theorem dX10_faults_30 : decode cX10_faults 30 = .ok (.iconst 0, 1) := by decide +kernel
theorem dX10_faults_31 : decode cX10_faults 31 = .ok (.goto 18, 3) := by decide +kernel
theorem dX10_faults_34 : decode cX10_faults 34 = .ok (.aload_n 0, 1) := by decide +kernel
theorem dX10_faults_35 : decode cX10_faults 35 = .ok (.getfield 56, 3) := by decide +kernel
theorem dX10_faults_38 : decode cX10_faults 38 = .ok (.iload_n 3, 1) := by decide +kernel
theorem dX10_faults_39 : decode cX10_faults 39 = .ok (.iaload, 1) := by decide +kernel
theorem dX10_faults_40 : decode cX10_faults 40 = .ok (.iload_n 1, 1) := by decide +kernel
theorem dX10_faults_41 : decode cX10_faults 41 = .ok (.if_icmp .ne 7, 3) := by decide +kernel
theorem dX10_faults_44 : decode cX10_faults 44 = .ok (.iconst 1, 1) := by decide +kernel
theorem dX10_faults_45 : decode cX10_faults 45 = .ok (.goto 4, 3) := by decide +kernel
theorem dX10_faults_48 : decode cX10_faults 48 = .ok (.iconst 0, 1) := by decide +kernel
theorem dX10_faults_49 : decode cX10_faults 49 = .ok (.iadd, 1) := by decide +kernel
theorem dX10_faults_50 : decode cX10_faults 50 = .ok (.istore_n 2, 1) := by decide +kernel
theorem dX10_faults_51 : decode cX10_faults 51 = .ok (.iinc 3 1, 3) := by decide +kernel
theorem dX10_faults_54 : decode cX10_faults 54 = .ok (.goto (-50), 3) := by decide +kernel
theorem dX10_faults_57 : decode cX10_faults 57 = .ok (.iload_n 2, 1) := by decide +kernel
theorem dX10_faults_58 : decode cX10_faults 58 = .ok (.ireturn, 1) := by decide +kernel
set_option maxRecDepth 20000 in
theorem ggX10_fault_X10_isLine : GoodIn wsX10_fault wsX10_isLine := goodIn_r _ [8, 9, 10, 11, 7, 12, 13, 14, 15, 16, 17, 18, 19, 20, 21, 22, 23, 24, 25, 26, 27, 28, 29, 30, 31, 32, 33, 34, 35, 36, 37, 38, 39, 40, 41, 42, 43, 44, 45, 46, 47, 48, 49, 50, 51, 52, 53, 54, 55, 56, 57, 58, 59] (by decide +kernel) (by decide +kernel)
set_option maxRecDepth 20000 in
theorem gX10_fault_X10_isLine : GoodIn wsX10_fault (wsV RX10 288 RX10 yX10_isLine wsX10_isLine) := goodIn_app (goodIn_of _ (by decide +kernel)) ggX10_fault_X10_isLine
theorem dX10_fault_0 : decode cX10_fault 0 = .ok (.aload_n 0, 1) := by decide +kernel
theorem dX10_fault_1 : decode cX10_fault 1 = .ok (.iload_n 1, 1) := by decide +kernel
theorem dX10_fault_2 : decode cX10_fault 2 = .ok (.invokevirtual 288, 3) := by decide +kernel
theorem dX10_fault_5 : decode cX10_fault 5 = .ok (.ifCond .eq 7, 3) := by decide +kernel
theorem dX10_fault_8 : decode cX10_fault 8 = .ok (.iload_n 2, 1) := by decide +kernel
theorem dX10_fault_9 : decode cX10_fault 9 = .ok (.ifCond .ge 5, 3) := by decide +kernel
theorem dX10_fault_12 : decode cX10_fault 12 = .ok (.iconst (-1), 1) := by decide +kernel
theorem dX10_fault_13 : decode cX10_fault 13 = .ok (.ireturn, 1) := by decide +kernel
theorem dX10_fault_14 : decode cX10_fault 14 = .ok (.iload_n 2, 1) := by decide +kernel
theorem dX10_fault_15 : decode cX10_fault 15 = .ok (.ifCond .ne 12, 3) := by decide +kernel
theorem dX10_fault_18 : decode cX10_fault 18 = .ok (.aload_n 0, 1) := by decide +kernel
theorem dX10_fault_19 : decode cX10_fault 19 = .ok (.getfield 56, 3) := by decide +kernel
theorem dX10_fault_22 : decode cX10_fault 22 = .ok (.iload_n 1, 1) := by decide +kernel
theorem dX10_fault_23 : decode cX10_fault 23 = .ok (.iaload, 1) := by decide +kernel
theorem dX10_fault_24 : decode cX10_fault 24 = .ok (.goto 33, 3) := by decide +kernel
theorem dX10_fault_27 : decode cX10_fault 27 = .ok (.iload_n 2, 1) := by decide +kernel
theorem dX10_fault_28 : decode cX10_fault 28 = .ok (.iconst 1, 1) := by decide +kernel
theorem dX10_fault_29 : decode cX10_fault 29 = .ok (.if_icmp .ne 12, 3) := by decide +kernel
theorem dX10_fault_32 : decode cX10_fault 32 = .ok (.aload_n 0, 1) := by decide +kernel
theorem dX10_fault_33 : decode cX10_fault 33 = .ok (.getfield 59, 3) := by decide +kernel
theorem dX10_fault_36 : decode cX10_fault 36 = .ok (.iload_n 1, 1) := by decide +kernel
theorem dX10_fault_37 : decode cX10_fault 37 = .ok (.iaload, 1) := by decide +kernel
theorem dX10_fault_38 : decode cX10_fault 38 = .ok (.goto 19, 3) := by decide +kernel
theorem dX10_fault_41 : decode cX10_fault 41 = .ok (.iload_n 2, 1) := by decide +kernel
theorem dX10_fault_42 : decode cX10_fault 42 = .ok (.iconst 2, 1) := by decide +kernel
theorem dX10_fault_43 : decode cX10_fault 43 = .ok (.if_icmp .ne 12, 3) := by decide +kernel
theorem dX10_fault_46 : decode cX10_fault 46 = .ok (.aload_n 0, 1) := by decide +kernel
theorem dX10_fault_47 : decode cX10_fault 47 = .ok (.getfield 62, 3) := by decide +kernel
theorem dX10_fault_50 : decode cX10_fault 50 = .ok (.iload_n 1, 1) := by decide +kernel
theorem dX10_fault_51 : decode cX10_fault 51 = .ok (.iaload, 1) := by decide +kernel
theorem dX10_fault_52 : decode cX10_fault 52 = .ok (.goto 5, 3) := by decide +kernel
theorem dX10_fault_55 : decode cX10_fault 55 = .ok (.bipush (-5), 2) := by decide +kernel
theorem dX10_fault_57 : decode cX10_fault 57 = .ok (.ireturn, 1) := by decide +kernel
set_option maxRecDepth 20000 in
theorem ggX10_told_X10_faults : GoodIn wsX10_told wsX10_faults := goodIn_r _ [10, 1, 11, 12, 13, 14, 15, 16, 17, 18, 19, 20, 21, 22, 23, 24, 25, 26, 27, 28, 29, 30, 31, 32, 33, 34, 35, 36, 37, 38, 39, 40, 41, 42, 43, 44, 45, 46, 47, 48, 49, 50, 51, 52, 53, 54, 55, 56, 57, 58, 59] (by decide +kernel) (by decide +kernel)
set_option maxRecDepth 20000 in
theorem gX10_told_X10_faults : GoodIn wsX10_told (wsV RX10 313 RX10 yX10_faults wsX10_faults) := goodIn_app (goodIn_of _ (by decide +kernel)) ggX10_told_X10_faults
theorem dX10_told_0 : decode cX10_told 0 = .ok (.iload_n 1, 1) := by decide +kernel
theorem dX10_told_1 : decode cX10_told 1 = .ok (.tableswitch 102 0 7 #[47, 52, 57, 63, 68, 85, 90, 96], 47) := by decide +kernel
theorem dX10_told_48 : decode cX10_told 48 = .ok (.aload_n 0, 1) := by decide +kernel
theorem dX10_told_49 : decode cX10_told 49 = .ok (.getfield 142, 3) := by decide +kernel
theorem dX10_told_52 : decode cX10_told 52 = .ok (.ireturn, 1) := by decide +kernel
theorem dX10_told_53 : decode cX10_told 53 = .ok (.aload_n 0, 1) := by decide +kernel
theorem dX10_told_54 : decode cX10_told 54 = .ok (.getfield 128, 3) := by decide +kernel
theorem dX10_told_57 : decode cX10_told 57 = .ok (.ireturn, 1) := by decide +kernel
theorem dX10_told_58 : decode cX10_told 58 = .ok (.aload_n 0, 1) := by decide +kernel
theorem dX10_told_59 : decode cX10_told 59 = .ok (.iconst 0, 1) := by decide +kernel
theorem dX10_told_60 : decode cX10_told 60 = .ok (.invokevirtual 313, 3) := by decide +kernel
theorem dX10_told_63 : decode cX10_told 63 = .ok (.ireturn, 1) := by decide +kernel
theorem dX10_told_64 : decode cX10_told 64 = .ok (.aload_n 0, 1) := by decide +kernel
theorem dX10_told_65 : decode cX10_told 65 = .ok (.getfield 118, 3) := by decide +kernel
theorem dX10_told_68 : decode cX10_told 68 = .ok (.ireturn, 1) := by decide +kernel
theorem dX10_told_69 : decode cX10_told 69 = .ok (.aload_n 0, 1) := by decide +kernel
theorem dX10_told_70 : decode cX10_told 70 = .ok (.getfield 15, 3) := by decide +kernel
theorem dX10_told_73 : decode cX10_told 73 = .ok (.ifCond .ge 8, 3) := by decide +kernel
theorem dX10_told_76 : decode cX10_told 76 = .ok (.bipush (-5), 2) := by decide +kernel
theorem dX10_told_78 : decode cX10_told 78 = .ok (.goto 7, 3) := by decide +kernel
theorem dX10_told_81 : decode cX10_told 81 = .ok (.aload_n 0, 1) := by decide +kernel
theorem dX10_told_82 : decode cX10_told 82 = .ok (.getfield 15, 3) := by decide +kernel
theorem dX10_told_85 : decode cX10_told 85 = .ok (.ireturn, 1) := by decide +kernel
theorem dX10_told_86 : decode cX10_told 86 = .ok (.aload_n 0, 1) := by decide +kernel
theorem dX10_told_87 : decode cX10_told 87 = .ok (.getfield 9, 3) := by decide +kernel
theorem dX10_told_90 : decode cX10_told 90 = .ok (.ireturn, 1) := by decide +kernel
theorem dX10_told_91 : decode cX10_told 91 = .ok (.aload_n 0, 1) := by decide +kernel
theorem dX10_told_92 : decode cX10_told 92 = .ok (.iconst 3, 1) := by decide +kernel
theorem dX10_told_93 : decode cX10_told 93 = .ok (.invokevirtual 313, 3) := by decide +kernel
theorem dX10_told_96 : decode cX10_told 96 = .ok (.ireturn, 1) := by decide +kernel
theorem dX10_told_97 : decode cX10_told 97 = .ok (.aload_n 0, 1) := by decide +kernel
theorem dX10_told_98 : decode cX10_told 98 = .ok (.iconst 5, 1) := by decide +kernel
theorem dX10_told_99 : decode cX10_told 99 = .ok (.invokevirtual 313, 3) := by decide +kernel
theorem dX10_told_102 : decode cX10_told 102 = .ok (.ireturn, 1) := by decide +kernel
theorem dX10_told_103 : decode cX10_told 103 = .ok (.iconst (-1), 1) := by decide +kernel
theorem dX10_told_104 : decode cX10_told 104 = .ok (.ireturn, 1) := by decide +kernel
set_option maxRecDepth 20000 in
theorem ggX10_hasValue_X10_isRow : GoodIn wsX10_hasValue wsX10_isRow := goodIn_r _ [6, 7, 8, 9, 5, 10, 21, 22, 23, 24, 25, 26, 27, 28, 29, 30, 31, 32, 33, 34, 35, 36, 37, 38, 39, 40, 41, 42, 43, 44, 45, 46, 47, 48, 49, 50, 51, 52, 53, 54, 55, 56, 57, 58, 59, 60, 61, 62, 63, 64, 65, 66, 67] (by decide +kernel) (by decide +kernel)
set_option maxRecDepth 20000 in
theorem gX10_hasValue_X10_isRow : GoodIn wsX10_hasValue (wsV RX10 316 RX10 yX10_isRow wsX10_isRow) := goodIn_app (goodIn_of _ (by decide +kernel)) ggX10_hasValue_X10_isRow
set_option maxRecDepth 20000 in
theorem ggX10_hasValue_X10_isColumn : GoodIn wsX10_hasValue wsX10_isColumn := goodIn_r _ [14, 15, 8, 9, 5, 10, 21, 22, 23, 24, 25, 26, 27, 28, 29, 30, 31, 32, 33, 34, 35, 36, 37, 38, 39, 40, 41, 42, 43, 44, 45, 46, 47, 48, 49, 50, 51, 52, 53, 54, 55, 56, 57, 58, 59, 60, 61, 62, 63, 64, 65, 66, 67] (by decide +kernel) (by decide +kernel)
set_option maxRecDepth 20000 in
theorem gX10_hasValue_X10_isColumn : GoodIn wsX10_hasValue (wsV RX10 279 RX10 yX10_isColumn wsX10_isColumn) := goodIn_app (goodIn_of _ (by decide +kernel)) ggX10_hasValue_X10_isColumn
set_option maxRecDepth 20000 in
theorem ggX10_hasValue_X10_formOf : GoodIn wsX10_hasValue wsX10_formOf := goodIn_r _ [19, 20, 21, 22, 23, 24, 25, 26, 27, 28, 29, 30, 31, 32, 33, 34, 35, 36, 37, 38, 39, 40, 41, 42, 43, 44, 45, 46, 47, 48, 49, 50, 51, 52, 53, 54, 55, 56, 57, 58, 59, 60, 61, 62, 63, 64, 65, 66, 67] (by decide +kernel) (by decide +kernel)
set_option maxRecDepth 20000 in
theorem gX10_hasValue_X10_formOf : GoodIn wsX10_hasValue (wsV RX10 267 RX10 yX10_formOf wsX10_formOf) := goodIn_app (goodIn_of _ (by decide +kernel)) ggX10_hasValue_X10_formOf
theorem dX10_hasValue_0 : decode cX10_hasValue 0 = .ok (.aload_n 0, 1) := by decide +kernel
theorem dX10_hasValue_1 : decode cX10_hasValue 1 = .ok (.iload_n 1, 1) := by decide +kernel
theorem dX10_hasValue_2 : decode cX10_hasValue 2 = .ok (.invokevirtual 316, 3) := by decide +kernel
theorem dX10_hasValue_5 : decode cX10_hasValue 5 = .ok (.ifCond .eq 29, 3) := by decide +kernel
theorem dX10_hasValue_8 : decode cX10_hasValue 8 = .ok (.aload_n 0, 1) := by decide +kernel
theorem dX10_hasValue_9 : decode cX10_hasValue 9 = .ok (.iload_n 2, 1) := by decide +kernel
theorem dX10_hasValue_10 : decode cX10_hasValue 10 = .ok (.invokevirtual 279, 3) := by decide +kernel
theorem dX10_hasValue_13 : decode cX10_hasValue 13 = .ok (.ifCond .eq 21, 3) := by decide +kernel
theorem dX10_hasValue_16 : decode cX10_hasValue 16 = .ok (.aload_n 0, 1) := by decide +kernel
theorem dX10_hasValue_17 : decode cX10_hasValue 17 = .ok (.aload_n 0, 1) := by decide +kernel
theorem dX10_hasValue_18 : decode cX10_hasValue 18 = .ok (.getfield 50, 3) := by decide +kernel
theorem dX10_hasValue_21 : decode cX10_hasValue 21 = .ok (.iload_n 1, 1) := by decide +kernel
theorem dX10_hasValue_22 : decode cX10_hasValue 22 = .ok (.iaload, 1) := by decide +kernel
theorem dX10_hasValue_23 : decode cX10_hasValue 23 = .ok (.iload_n 2, 1) := by decide +kernel
theorem dX10_hasValue_24 : decode cX10_hasValue 24 = .ok (.invokevirtual 267, 3) := by decide +kernel
theorem dX10_hasValue_27 : decode cX10_hasValue 27 = .ok (.ifCond .eq 7, 3) := by decide +kernel
theorem dX10_hasValue_30 : decode cX10_hasValue 30 = .ok (.iconst 1, 1) := by decide +kernel
theorem dX10_hasValue_31 : decode cX10_hasValue 31 = .ok (.goto 4, 3) := by decide +kernel
theorem dX10_hasValue_34 : decode cX10_hasValue 34 = .ok (.iconst 0, 1) := by decide +kernel
theorem dX10_hasValue_35 : decode cX10_hasValue 35 = .ok (.ireturn, 1) := by decide +kernel
set_option maxRecDepth 20000 in
theorem ggX10_its_X10_valueOf : GoodIn wsX10_its wsX10_valueOf := goodIn_r _ [7, 8, 9, 10, 11, 12, 13, 14, 15, 16, 17, 18, 19, 20, 21, 22, 23, 24, 25, 26, 27, 28, 29, 30, 31, 32, 33, 34, 35, 36, 37, 38, 39, 40, 41, 42, 43, 44, 45, 46, 47, 48, 49, 50, 51, 52, 53, 54, 55, 56, 57] (by decide +kernel) (by decide +kernel)
set_option maxRecDepth 20000 in
theorem gX10_its_X10_valueOf : GoodIn wsX10_its (wsV RX10 303 RX10 yX10_valueOf wsX10_valueOf) := goodIn_app (goodIn_of _ (by decide +kernel)) ggX10_its_X10_valueOf
theorem dX10_its_0 : decode cX10_its 0 = .ok (.aload_n 0, 1) := by decide +kernel
theorem dX10_its_1 : decode cX10_its 1 = .ok (.aload_n 0, 1) := by decide +kernel
theorem dX10_its_2 : decode cX10_its 2 = .ok (.getfield 50, 3) := by decide +kernel
theorem dX10_its_5 : decode cX10_its 5 = .ok (.iload_n 1, 1) := by decide +kernel
theorem dX10_its_6 : decode cX10_its 6 = .ok (.iaload, 1) := by decide +kernel
theorem dX10_its_7 : decode cX10_its 7 = .ok (.iload_n 2, 1) := by decide +kernel
theorem dX10_its_8 : decode cX10_its 8 = .ok (.aload_n 0, 1) := by decide +kernel
theorem dX10_its_9 : decode cX10_its 9 = .ok (.getfield 28, 3) := by decide +kernel
theorem dX10_its_12 : decode cX10_its 12 = .ok (.iload_n 2, 1) := by decide +kernel
theorem dX10_its_13 : decode cX10_its 13 = .ok (.iaload, 1) := by decide +kernel
theorem dX10_its_14 : decode cX10_its 14 = .ok (.invokevirtual 303, 3) := by decide +kernel
theorem dX10_its_17 : decode cX10_its 17 = .ok (.lreturn, 1) := by decide +kernel
set_option maxRecDepth 20000 in
theorem ggX10_value_X10_hasValue : GoodIn wsX10_value wsX10_hasValue := goodIn_r _ [6, 7, 8, 9, 10, 5, 11, 12, 13, 14, 15, 16, 17, 18, 19, 20, 21, 22, 23, 24, 25, 38, 39, 40, 41, 42, 43, 44, 45, 46, 47, 48, 49, 50, 51, 52, 53, 54, 55, 56, 57, 58, 59, 60, 61, 62, 63, 64, 65, 66, 67, 68, 69, 70, 71, 72, 73, 74, 75, 76, 77, 78, 79, 80, 81, 82, 83, 84] (by decide +kernel) (by decide +kernel)
set_option maxRecDepth 20000 in
theorem gX10_value_X10_hasValue : GoodIn wsX10_value (wsV RX10 319 RX10 yX10_hasValue wsX10_hasValue) := goodIn_app (goodIn_of _ (by decide +kernel)) ggX10_value_X10_hasValue
set_option maxRecDepth 20000 in
theorem ggX10_value_X10_its : GoodIn wsX10_value wsX10_its := goodIn_r _ [29, 7, 30, 31, 32, 33, 5, 34, 35, 36, 37, 38, 39, 40, 41, 42, 43, 44, 45, 46, 47, 48, 49, 50, 51, 52, 53, 54, 55, 56, 57, 58, 59, 60, 61, 62, 63, 64, 65, 66, 67, 68, 69, 70, 71, 72, 73, 74, 75, 76, 77, 78, 79, 80, 81, 82, 83, 84] (by decide +kernel) (by decide +kernel)
set_option maxRecDepth 20000 in
theorem gX10_value_X10_its : GoodIn wsX10_value (wsV RX10 322 RX10 yX10_its wsX10_its) := goodIn_app (goodIn_of _ (by decide +kernel)) ggX10_value_X10_its
theorem dX10_value_0 : decode cX10_value 0 = .ok (.aload_n 0, 1) := by decide +kernel
theorem dX10_value_1 : decode cX10_value 1 = .ok (.iload_n 1, 1) := by decide +kernel
theorem dX10_value_2 : decode cX10_value 2 = .ok (.iload_n 2, 1) := by decide +kernel
theorem dX10_value_3 : decode cX10_value 3 = .ok (.invokevirtual 319, 3) := by decide +kernel
theorem dX10_value_6 : decode cX10_value 6 = .ok (.ifCond .eq 12, 3) := by decide +kernel
theorem dX10_value_9 : decode cX10_value 9 = .ok (.aload_n 0, 1) := by decide +kernel
theorem dX10_value_10 : decode cX10_value 10 = .ok (.iload_n 1, 1) := by decide +kernel
theorem dX10_value_11 : decode cX10_value 11 = .ok (.iload_n 2, 1) := by decide +kernel
theorem dX10_value_12 : decode cX10_value 12 = .ok (.invokevirtual 322, 3) := by decide +kernel
theorem dX10_value_15 : decode cX10_value 15 = .ok (.goto 6, 3) := by decide +kernel
theorem dX10_value_18 : decode cX10_value 18 = .ok (.ldc2_w 245, 3) := by decide +kernel
theorem dX10_value_21 : decode cX10_value 21 = .ok (.lreturn, 1) := by decide +kernel
theorem dX10_shows_0 : decode cX10_shows 0 = .ok (.aload_n 0, 1) := by decide +kernel
theorem dX10_shows_1 : decode cX10_shows 1 = .ok (.getfield 98, 3) := by decide +kernel
theorem dX10_shows_4 : decode cX10_shows 4 = .ok (.aload_n 0, 1) := by decide +kernel
theorem dX10_shows_5 : decode cX10_shows 5 = .ok (.getfield 325, 3) := by decide +kernel
theorem dX10_shows_8 : decode cX10_shows 8 = .ok (.iload_n 1, 1) := by decide +kernel
theorem dX10_shows_9 : decode cX10_shows 9 = .ok (.iastore, 1) := by decide +kernel
theorem dX10_shows_10 : decode cX10_shows 10 = .ok (.aload_n 0, 1) := by decide +kernel
theorem dX10_shows_11 : decode cX10_shows 11 = .ok (.dup, 1) := by decide +kernel
theorem dX10_shows_12 : decode cX10_shows 12 = .ok (.getfield 325, 3) := by decide +kernel
theorem dX10_shows_15 : decode cX10_shows 15 = .ok (.iconst 1, 1) := by decide +kernel
theorem dX10_shows_16 : decode cX10_shows 16 = .ok (.iadd, 1) := by decide +kernel
theorem dX10_shows_17 : decode cX10_shows 17 = .ok (.putfield 325, 3) := by decide +kernel
theorem dX10_shows_20 : decode cX10_shows 20 = .ok (.return_, 1) := by decide +kernel
set_option maxRecDepth 20000 in
theorem ggX10_showsDigits_X10_showsDigits : GoodIn wsX10_showsDigits wsX10_showsDigits := goodIn_r _ [0, 1, 2, 3, 4, 5, 6, 7, 8, 9, 10, 11, 12, 13, 14, 15, 16, 17, 18, 19, 20, 21, 22, 23, 24, 25, 26, 27, 28, 29, 30, 31, 32, 33, 34, 35, 36, 37, 38, 39, 40, 41, 42, 43, 44, 45, 46, 47, 48, 49, 50, 51, 52, 53, 54, 55, 56, 57, 58, 59] (by decide +kernel) (by decide +kernel)
set_option maxRecDepth 20000 in
theorem gX10_showsDigits_X10_showsDigits : GoodIn wsX10_showsDigits (wsV RX10 330 RX10 yX10_showsDigits wsX10_showsDigits) := goodIn_app (goodIn_of _ (by decide +kernel)) ggX10_showsDigits_X10_showsDigits
set_option maxRecDepth 20000 in
theorem ggX10_showsDigits_X10_shows : GoodIn wsX10_showsDigits wsX10_shows := goodIn_r _ [10, 11, 12, 13, 14, 15, 16, 17, 18, 19, 20, 21, 22, 23, 24, 25, 26, 27, 28, 29, 30, 31, 32, 33, 34, 35, 36, 37, 38, 39, 40, 41, 42, 43, 44, 45, 46, 47, 48, 49, 50, 51, 52, 53, 54, 55, 56, 57, 58, 59] (by decide +kernel) (by decide +kernel)
set_option maxRecDepth 20000 in
theorem gX10_showsDigits_X10_shows : GoodIn wsX10_showsDigits (wsV RX10 334 RX10 yX10_shows wsX10_shows) := goodIn_app (goodIn_of _ (by decide +kernel)) ggX10_showsDigits_X10_shows
theorem dX10_showsDigits_0 : decode cX10_showsDigits 0 = .ok (.lload_n 1, 1) := by decide +kernel
theorem dX10_showsDigits_1 : decode cX10_showsDigits 1 = .ok (.ldc2_w 328, 3) := by decide +kernel
theorem dX10_showsDigits_4 : decode cX10_showsDigits 4 = .ok (.lcmp, 1) := by decide +kernel
theorem dX10_showsDigits_5 : decode cX10_showsDigits 5 = .ok (.ifCond .le 12, 3) := by decide +kernel
theorem dX10_showsDigits_8 : decode cX10_showsDigits 8 = .ok (.aload_n 0, 1) := by decide +kernel
theorem dX10_showsDigits_9 : decode cX10_showsDigits 9 = .ok (.lload_n 1, 1) := by decide +kernel
theorem dX10_showsDigits_10 : decode cX10_showsDigits 10 = .ok (.ldc2_w 247, 3) := by decide +kernel
theorem dX10_showsDigits_13 : decode cX10_showsDigits 13 = .ok (.ldiv, 1) := by decide +kernel
theorem dX10_showsDigits_14 : decode cX10_showsDigits 14 = .ok (.invokevirtual 330, 3) := by decide +kernel
theorem dX10_showsDigits_17 : decode cX10_showsDigits 17 = .ok (.aload_n 0, 1) := by decide +kernel
theorem dX10_showsDigits_18 : decode cX10_showsDigits 18 = .ok (.bipush 48, 2) := by decide +kernel
theorem dX10_showsDigits_20 : decode cX10_showsDigits 20 = .ok (.lload_n 1, 1) := by decide +kernel
theorem dX10_showsDigits_21 : decode cX10_showsDigits 21 = .ok (.ldc2_w 247, 3) := by decide +kernel
theorem dX10_showsDigits_24 : decode cX10_showsDigits 24 = .ok (.lrem, 1) := by decide +kernel
theorem dX10_showsDigits_25 : decode cX10_showsDigits 25 = .ok (.l2i, 1) := by decide +kernel
theorem dX10_showsDigits_26 : decode cX10_showsDigits 26 = .ok (.iadd, 1) := by decide +kernel
theorem dX10_showsDigits_27 : decode cX10_showsDigits 27 = .ok (.invokevirtual 334, 3) := by decide +kernel
theorem dX10_showsDigits_30 : decode cX10_showsDigits 30 = .ok (.return_, 1) := by decide +kernel
set_option maxRecDepth 20000 in
theorem ggX10_showsBytes_X10_shows : GoodIn wsX10_showsBytes wsX10_shows := goodIn_r _ [6, 7, 8, 9, 10, 11, 12, 13, 14, 15, 16, 17, 18, 19, 20, 21, 22, 23, 24, 25, 26, 27, 28, 29, 30, 31, 32, 33, 34, 35, 36, 37, 38, 39, 40, 41, 42, 43, 44, 45, 46, 47, 48, 49, 50, 51, 52, 53, 54, 55] (by decide +kernel) (by decide +kernel)
set_option maxRecDepth 20000 in
theorem gX10_showsBytes_X10_shows : GoodIn wsX10_showsBytes (wsV RX10 334 RX10 yX10_shows wsX10_shows) := goodIn_app (goodIn_of _ (by decide +kernel)) ggX10_showsBytes_X10_shows
theorem dX10_showsBytes_0 : decode cX10_showsBytes 0 = .ok (.iload_n 1, 1) := by decide +kernel
theorem dX10_showsBytes_1 : decode cX10_showsBytes 1 = .ok (.istore_n 3, 1) := by decide +kernel
theorem dX10_showsBytes_2 : decode cX10_showsBytes 2 = .ok (.iload_n 3, 1) := by decide +kernel
theorem dX10_showsBytes_3 : decode cX10_showsBytes 3 = .ok (.iload_n 1, 1) := by decide +kernel
theorem dX10_showsBytes_4 : decode cX10_showsBytes 4 = .ok (.iload_n 2, 1) := by decide +kernel
theorem dX10_showsBytes_5 : decode cX10_showsBytes 5 = .ok (.iadd, 1) := by decide +kernel
theorem dX10_showsBytes_6 : decode cX10_showsBytes 6 = .ok (.if_icmp .ge 19, 3) := by decide +kernel
theorem dX10_showsBytes_9 : decode cX10_showsBytes 9 = .ok (.aload_n 0, 1) := by decide +kernel
theorem dX10_showsBytes_10 : decode cX10_showsBytes 10 = .ok (.aload_n 0, 1) := by decide +kernel
theorem dX10_showsBytes_11 : decode cX10_showsBytes 11 = .ok (.getfield 31, 3) := by decide +kernel
theorem dX10_showsBytes_14 : decode cX10_showsBytes 14 = .ok (.iload_n 3, 1) := by decide +kernel
theorem dX10_showsBytes_15 : decode cX10_showsBytes 15 = .ok (.iaload, 1) := by decide +kernel
theorem dX10_showsBytes_16 : decode cX10_showsBytes 16 = .ok (.invokevirtual 334, 3) := by decide +kernel
theorem dX10_showsBytes_19 : decode cX10_showsBytes 19 = .ok (.iinc 3 1, 3) := by decide +kernel
theorem dX10_showsBytes_22 : decode cX10_showsBytes 22 = .ok (.goto (-20), 3) := by decide +kernel
theorem dX10_showsBytes_25 : decode cX10_showsBytes 25 = .ok (.return_, 1) := by decide +kernel
set_option maxRecDepth 20000 in
theorem ggX10_showsDate_X10_showsBytes : GoodIn wsX10_showsDate wsX10_showsBytes := goodIn_r _ [6, 1, 7, 8, 9, 5, 10, 11, 12, 13, 14, 15, 16, 17, 18, 19, 20, 21, 22, 23, 24, 25, 26, 27, 28, 29, 30, 31, 32, 33, 34, 35, 36, 37, 38, 39, 40, 41, 42, 43, 44, 45, 46, 47, 48, 49, 50, 51, 52, 53, 54, 55, 56, 57, 58, 59] (by decide +kernel) (by decide +kernel)
set_option maxRecDepth 20000 in
theorem gX10_showsDate_X10_showsBytes : GoodIn wsX10_showsDate (wsV RX10 337 RX10 yX10_showsBytes wsX10_showsBytes) := goodIn_app (goodIn_of _ (by decide +kernel)) ggX10_showsDate_X10_showsBytes
set_option maxRecDepth 20000 in
theorem ggX10_showsDate_X10_shows : GoodIn wsX10_showsDate wsX10_shows := goodIn_r _ [10, 11, 12, 13, 14, 15, 16, 17, 18, 19, 20, 21, 22, 23, 24, 25, 26, 27, 28, 29, 30, 31, 32, 33, 34, 35, 36, 37, 38, 39, 40, 41, 42, 43, 44, 45, 46, 47, 48, 49, 50, 51, 52, 53, 54, 55, 56, 57, 58, 59] (by decide +kernel) (by decide +kernel)
set_option maxRecDepth 20000 in
theorem gX10_showsDate_X10_shows : GoodIn wsX10_showsDate (wsV RX10 334 RX10 yX10_shows wsX10_shows) := goodIn_app (goodIn_of _ (by decide +kernel)) ggX10_showsDate_X10_shows
theorem dX10_showsDate_0 : decode cX10_showsDate 0 = .ok (.aload_n 0, 1) := by decide +kernel
theorem dX10_showsDate_1 : decode cX10_showsDate 1 = .ok (.getfield 31, 3) := by decide +kernel
theorem dX10_showsDate_4 : decode cX10_showsDate 4 = .ok (.iload_n 1, 1) := by decide +kernel
theorem dX10_showsDate_5 : decode cX10_showsDate 5 = .ok (.iconst 4, 1) := by decide +kernel
theorem dX10_showsDate_6 : decode cX10_showsDate 6 = .ok (.iadd, 1) := by decide +kernel
theorem dX10_showsDate_7 : decode cX10_showsDate 7 = .ok (.iaload, 1) := by decide +kernel
theorem dX10_showsDate_8 : decode cX10_showsDate 8 = .ok (.bipush 45, 2) := by decide +kernel
theorem dX10_showsDate_10 : decode cX10_showsDate 10 = .ok (.if_icmp .ne 7, 3) := by decide +kernel
theorem dX10_showsDate_13 : decode cX10_showsDate 13 = .ok (.iconst 1, 1) := by decide +kernel
theorem dX10_showsDate_14 : decode cX10_showsDate 14 = .ok (.goto 4, 3) := by decide +kernel
theorem dX10_showsDate_17 : decode cX10_showsDate 17 = .ok (.iconst 0, 1) := by decide +kernel
theorem dX10_showsDate_18 : decode cX10_showsDate 18 = .ok (.istore_n 2, 1) := by decide +kernel
theorem dX10_showsDate_19 : decode cX10_showsDate 19 = .ok (.aload_n 0, 1) := by decide +kernel
theorem dX10_showsDate_20 : decode cX10_showsDate 20 = .ok (.iload_n 2, 1) := by decide +kernel
theorem dX10_showsDate_21 : decode cX10_showsDate 21 = .ok (.ifCond .eq 7, 3) := by decide +kernel
theorem dX10_showsDate_24 : decode cX10_showsDate 24 = .ok (.iload_n 1, 1) := by decide +kernel
theorem dX10_showsDate_25 : decode cX10_showsDate 25 = .ok (.goto 7, 3) := by decide +kernel
theorem dX10_showsDate_28 : decode cX10_showsDate 28 = .ok (.iload_n 1, 1) := by decide +kernel
theorem dX10_showsDate_29 : decode cX10_showsDate 29 = .ok (.bipush 6, 2) := by decide +kernel
theorem dX10_showsDate_31 : decode cX10_showsDate 31 = .ok (.iadd, 1) := by decide +kernel
theorem dX10_showsDate_32 : decode cX10_showsDate 32 = .ok (.iconst 4, 1) := by decide +kernel
theorem dX10_showsDate_33 : decode cX10_showsDate 33 = .ok (.invokevirtual 337, 3) := by decide +kernel
theorem dX10_showsDate_36 : decode cX10_showsDate 36 = .ok (.aload_n 0, 1) := by decide +kernel
theorem dX10_showsDate_37 : decode cX10_showsDate 37 = .ok (.bipush 45, 2) := by decide +kernel
theorem dX10_showsDate_39 : decode cX10_showsDate 39 = .ok (.invokevirtual 334, 3) := by decide +kernel
theorem dX10_showsDate_42 : decode cX10_showsDate 42 = .ok (.aload_n 0, 1) := by decide +kernel
theorem dX10_showsDate_43 : decode cX10_showsDate 43 = .ok (.iload_n 2, 1) := by decide +kernel
theorem dX10_showsDate_44 : decode cX10_showsDate 44 = .ok (.ifCond .eq 9, 3) := by decide +kernel
theorem dX10_showsDate_47 : decode cX10_showsDate 47 = .ok (.iload_n 1, 1) := by decide +kernel
theorem dX10_showsDate_48 : decode cX10_showsDate 48 = .ok (.iconst 5, 1) := by decide +kernel
theorem dX10_showsDate_49 : decode cX10_showsDate 49 = .ok (.iadd, 1) := by decide +kernel
theorem dX10_showsDate_50 : decode cX10_showsDate 50 = .ok (.goto 6, 3) := by decide +kernel
theorem dX10_showsDate_53 : decode cX10_showsDate 53 = .ok (.iload_n 1, 1) := by decide +kernel
theorem dX10_showsDate_54 : decode cX10_showsDate 54 = .ok (.iconst 3, 1) := by decide +kernel
theorem dX10_showsDate_55 : decode cX10_showsDate 55 = .ok (.iadd, 1) := by decide +kernel
theorem dX10_showsDate_56 : decode cX10_showsDate 56 = .ok (.iconst 2, 1) := by decide +kernel
theorem dX10_showsDate_57 : decode cX10_showsDate 57 = .ok (.invokevirtual 337, 3) := by decide +kernel
theorem dX10_showsDate_60 : decode cX10_showsDate 60 = .ok (.aload_n 0, 1) := by decide +kernel
theorem dX10_showsDate_61 : decode cX10_showsDate 61 = .ok (.bipush 45, 2) := by decide +kernel
theorem dX10_showsDate_63 : decode cX10_showsDate 63 = .ok (.invokevirtual 334, 3) := by decide +kernel
theorem dX10_showsDate_66 : decode cX10_showsDate 66 = .ok (.aload_n 0, 1) := by decide +kernel
theorem dX10_showsDate_67 : decode cX10_showsDate 67 = .ok (.iload_n 2, 1) := by decide +kernel
theorem dX10_showsDate_68 : decode cX10_showsDate 68 = .ok (.ifCond .eq 10, 3) := by decide +kernel
theorem dX10_showsDate_71 : decode cX10_showsDate 71 = .ok (.iload_n 1, 1) := by decide +kernel
theorem dX10_showsDate_72 : decode cX10_showsDate 72 = .ok (.bipush 8, 2) := by decide +kernel
theorem dX10_showsDate_74 : decode cX10_showsDate 74 = .ok (.iadd, 1) := by decide +kernel
theorem dX10_showsDate_75 : decode cX10_showsDate 75 = .ok (.goto 4, 3) := by decide +kernel
theorem dX10_showsDate_78 : decode cX10_showsDate 78 = .ok (.iload_n 1, 1) := by decide +kernel
theorem dX10_showsDate_79 : decode cX10_showsDate 79 = .ok (.iconst 2, 1) := by decide +kernel
theorem dX10_showsDate_80 : decode cX10_showsDate 80 = .ok (.invokevirtual 337, 3) := by decide +kernel
theorem dX10_showsDate_83 : decode cX10_showsDate 83 = .ok (.return_, 1) := by decide +kernel
set_option maxRecDepth 20000 in
theorem ggX10_showsNumber_X10_shows : GoodIn wsX10_showsNumber wsX10_shows := goodIn_r _ [12, 13, 14, 20, 21, 22, 23, 24, 25, 26, 27, 28, 29, 30, 31, 32, 33, 34, 35, 36, 37, 38, 39, 40, 41, 42, 43, 44, 45, 46, 47, 48, 49, 50, 51, 52, 53, 54, 55, 56, 57, 58, 59, 60, 61, 62, 63, 64, 65, 66] (by decide +kernel) (by decide +kernel)
set_option maxRecDepth 20000 in
theorem gX10_showsNumber_X10_shows : GoodIn wsX10_showsNumber (wsV RX10 334 RX10 yX10_shows wsX10_shows) := goodIn_app (goodIn_of _ (by decide +kernel)) ggX10_showsNumber_X10_shows
set_option maxRecDepth 20000 in
theorem ggX10_showsNumber_X10_showsDigits : GoodIn wsX10_showsNumber wsX10_showsDigits := goodIn_r _ [18, 19, 7, 15, 16, 17, 11, 8, 9, 10, 12, 13, 14, 20, 21, 22, 23, 24, 25, 26, 27, 28, 29, 30, 31, 32, 33, 34, 35, 36, 37, 38, 39, 40, 41, 42, 43, 44, 45, 46, 47, 48, 49, 50, 51, 52, 53, 54, 55, 56, 57, 58, 59, 60, 61, 62, 63, 64, 65, 66] (by decide +kernel) (by decide +kernel)
set_option maxRecDepth 20000 in
theorem gX10_showsNumber_X10_showsDigits : GoodIn wsX10_showsNumber (wsV RX10 330 RX10 yX10_showsDigits wsX10_showsDigits) := goodIn_app (goodIn_of _ (by decide +kernel)) ggX10_showsNumber_X10_showsDigits
theorem dX10_showsNumber_0 : decode cX10_showsNumber 0 = .ok (.lload_n 1, 1) := by decide +kernel
theorem dX10_showsNumber_1 : decode cX10_showsNumber 1 = .ok (.lconst 0, 1) := by decide +kernel
theorem dX10_showsNumber_2 : decode cX10_showsNumber 2 = .ok (.lcmp, 1) := by decide +kernel
theorem dX10_showsNumber_3 : decode cX10_showsNumber 3 = .ok (.ifCond .ge 9, 3) := by decide +kernel
theorem dX10_showsNumber_6 : decode cX10_showsNumber 6 = .ok (.aload_n 0, 1) := by decide +kernel
theorem dX10_showsNumber_7 : decode cX10_showsNumber 7 = .ok (.bipush 45, 2) := by decide +kernel
theorem dX10_showsNumber_9 : decode cX10_showsNumber 9 = .ok (.invokevirtual 334, 3) := by decide +kernel
theorem dX10_showsNumber_12 : decode cX10_showsNumber 12 = .ok (.lload_n 1, 1) := by decide +kernel
theorem dX10_showsNumber_13 : decode cX10_showsNumber 13 = .ok (.invokestatic 341, 3) := by decide +kernel
theorem dX10_showsNumber_16 : decode cX10_showsNumber 16 = .ok (.lstore 4, 2) := by decide +kernel
theorem dX10_showsNumber_18 : decode cX10_showsNumber 18 = .ok (.aload_n 0, 1) := by decide +kernel
theorem dX10_showsNumber_19 : decode cX10_showsNumber 19 = .ok (.iload_n 3, 1) := by decide +kernel
theorem dX10_showsNumber_20 : decode cX10_showsNumber 20 = .ok (.ifCond .eq 12, 3) := by decide +kernel
theorem dX10_showsNumber_23 : decode cX10_showsNumber 23 = .ok (.lload 4, 2) := by decide +kernel
theorem dX10_showsNumber_25 : decode cX10_showsNumber 25 = .ok (.ldc2_w 291, 3) := by decide +kernel
theorem dX10_showsNumber_28 : decode cX10_showsNumber 28 = .ok (.ldiv, 1) := by decide +kernel
theorem dX10_showsNumber_29 : decode cX10_showsNumber 29 = .ok (.goto 5, 3) := by decide +kernel
theorem dX10_showsNumber_32 : decode cX10_showsNumber 32 = .ok (.lload 4, 2) := by decide +kernel
theorem dX10_showsNumber_34 : decode cX10_showsNumber 34 = .ok (.invokevirtual 330, 3) := by decide +kernel
theorem dX10_showsNumber_37 : decode cX10_showsNumber 37 = .ok (.iload_n 3, 1) := by decide +kernel
theorem dX10_showsNumber_38 : decode cX10_showsNumber 38 = .ok (.ifCond .eq 49, 3) := by decide +kernel
theorem dX10_showsNumber_41 : decode cX10_showsNumber 41 = .ok (.aload_n 0, 1) := by decide +kernel
theorem dX10_showsNumber_42 : decode cX10_showsNumber 42 = .ok (.bipush 46, 2) := by decide +kernel
theorem dX10_showsNumber_44 : decode cX10_showsNumber 44 = .ok (.invokevirtual 334, 3) := by decide +kernel
theorem dX10_showsNumber_47 : decode cX10_showsNumber 47 = .ok (.ldc2_w 346, 3) := by decide +kernel
theorem dX10_showsNumber_50 : decode cX10_showsNumber 50 = .ok (.lstore 6, 2) := by decide +kernel
theorem dX10_showsNumber_52 : decode cX10_showsNumber 52 = .ok (.lload 6, 2) := by decide +kernel
theorem dX10_showsNumber_54 : decode cX10_showsNumber 54 = .ok (.lconst 0, 1) := by decide +kernel
theorem dX10_showsNumber_55 : decode cX10_showsNumber 55 = .ok (.lcmp, 1) := by decide +kernel
theorem dX10_showsNumber_56 : decode cX10_showsNumber 56 = .ok (.ifCond .le 31, 3) := by decide +kernel
theorem dX10_showsNumber_59 : decode cX10_showsNumber 59 = .ok (.aload_n 0, 1) := by decide +kernel
theorem dX10_showsNumber_60 : decode cX10_showsNumber 60 = .ok (.bipush 48, 2) := by decide +kernel
theorem dX10_showsNumber_62 : decode cX10_showsNumber 62 = .ok (.lload 4, 2) := by decide +kernel
theorem dX10_showsNumber_64 : decode cX10_showsNumber 64 = .ok (.lload 6, 2) := by decide +kernel
theorem dX10_showsNumber_66 : decode cX10_showsNumber 66 = .ok (.ldiv, 1) := by decide +kernel
theorem dX10_showsNumber_67 : decode cX10_showsNumber 67 = .ok (.ldc2_w 247, 3) := by decide +kernel
theorem dX10_showsNumber_70 : decode cX10_showsNumber 70 = .ok (.lrem, 1) := by decide +kernel
theorem dX10_showsNumber_71 : decode cX10_showsNumber 71 = .ok (.l2i, 1) := by decide +kernel
theorem dX10_showsNumber_72 : decode cX10_showsNumber 72 = .ok (.iadd, 1) := by decide +kernel
theorem dX10_showsNumber_73 : decode cX10_showsNumber 73 = .ok (.invokevirtual 334, 3) := by decide +kernel
theorem dX10_showsNumber_76 : decode cX10_showsNumber 76 = .ok (.lload 6, 2) := by decide +kernel
theorem dX10_showsNumber_78 : decode cX10_showsNumber 78 = .ok (.ldc2_w 247, 3) := by decide +kernel
theorem dX10_showsNumber_81 : decode cX10_showsNumber 81 = .ok (.ldiv, 1) := by decide +kernel
theorem dX10_showsNumber_82 : decode cX10_showsNumber 82 = .ok (.lstore 6, 2) := by decide +kernel
theorem dX10_showsNumber_84 : decode cX10_showsNumber 84 = .ok (.goto (-32), 3) := by decide +kernel
theorem dX10_showsNumber_87 : decode cX10_showsNumber 87 = .ok (.return_, 1) := by decide +kernel
set_option maxRecDepth 20000 in
theorem ggX10_shown_X10_hasValue : GoodIn wsX10_shown wsX10_hasValue := goodIn_r _ [9, 2, 10, 11, 12, 8, 13, 14, 15, 16, 17, 18, 19, 20, 21, 22, 23, 24, 25, 26, 27, 76, 77, 78, 79, 80, 81, 82, 83, 84, 85, 86, 87, 88, 89, 90, 91, 92, 93, 94, 95, 96, 97, 98, 99, 100, 101, 102, 103, 104, 105, 106, 107, 108, 109, 110, 111, 112, 113, 114, 115, 116, 117, 118, 119, 120, 121, 122] (by decide +kernel) (by decide +kernel)
set_option maxRecDepth 20000 in
theorem gX10_shown_X10_hasValue : GoodIn wsX10_shown (wsV RX10 319 RX10 yX10_hasValue wsX10_hasValue) := goodIn_app (goodIn_of _ (by decide +kernel)) ggX10_shown_X10_hasValue
set_option maxRecDepth 20000 in
theorem ggX10_shown_X10_begins : GoodIn wsX10_shown wsX10_begins := goodIn_r _ [31, 32, 76, 77, 78, 79, 80, 81, 82, 83, 84, 85, 86, 87, 88, 89, 90, 91, 92, 93, 94, 95, 96, 97, 98, 99, 100, 101, 102, 103, 104, 105, 106, 107, 108, 109, 110, 111, 112, 113, 114, 115, 116, 117, 118, 119, 120, 121, 122] (by decide +kernel) (by decide +kernel)
set_option maxRecDepth 20000 in
theorem gX10_shown_X10_begins : GoodIn wsX10_shown (wsV RX10 213 RX10 yX10_begins wsX10_begins) := goodIn_app (goodIn_of _ (by decide +kernel)) ggX10_shown_X10_begins
set_option maxRecDepth 20000 in
theorem ggX10_shown_X10_ends : GoodIn wsX10_shown wsX10_ends := goodIn_r _ [36, 37, 32, 76, 77, 78, 79, 80, 81, 82, 83, 84, 85, 86, 87, 88, 89, 90, 91, 92, 93, 94, 95, 96, 97, 98, 99, 100, 101, 102, 103, 104, 105, 106, 107, 108, 109, 110, 111, 112, 113, 114, 115, 116, 117, 118, 119, 120, 121, 122] (by decide +kernel) (by decide +kernel)
set_option maxRecDepth 20000 in
theorem gX10_shown_X10_ends : GoodIn wsX10_shown (wsV RX10 217 RX10 yX10_ends wsX10_ends) := goodIn_app (goodIn_of _ (by decide +kernel)) ggX10_shown_X10_ends
set_option maxRecDepth 20000 in
theorem ggX10_shown_X10_showsBytes : GoodIn wsX10_shown wsX10_showsBytes := goodIn_r _ [41, 32, 42, 43, 44, 8, 45, 4, 1, 76, 77, 78, 79, 80, 81, 82, 83, 84, 85, 86, 87, 88, 89, 90, 91, 92, 93, 94, 95, 96, 97, 98, 99, 100, 101, 102, 103, 104, 105, 106, 107, 108, 109, 110, 111, 112, 113, 114, 115, 116, 117, 118, 119, 120, 121, 122] (by decide +kernel) (by decide +kernel)
set_option maxRecDepth 20000 in
theorem gX10_shown_X10_showsBytes : GoodIn wsX10_shown (wsV RX10 337 RX10 yX10_showsBytes wsX10_showsBytes) := goodIn_app (goodIn_of _ (by decide +kernel)) ggX10_shown_X10_showsBytes
set_option maxRecDepth 20000 in
theorem ggX10_shown_X10_showsDate : GoodIn wsX10_shown wsX10_showsDate := goodIn_r _ [49, 32, 38, 39, 40, 8, 41, 42, 43, 44, 45, 4, 1, 76, 77, 78, 79, 80, 81, 82, 83, 84, 85, 86, 87, 88, 89, 90, 91, 92, 93, 94, 95, 96, 97, 98, 99, 100, 101, 102, 103, 104, 105, 106, 107, 108, 109, 110, 111, 112, 113, 114, 115, 116, 117, 118, 119, 120, 121, 122] (by decide +kernel) (by decide +kernel)
set_option maxRecDepth 20000 in
theorem gX10_shown_X10_showsDate : GoodIn wsX10_shown (wsV RX10 348 RX10 yX10_showsDate wsX10_showsDate) := goodIn_app (goodIn_of _ (by decide +kernel)) ggX10_shown_X10_showsDate
set_option maxRecDepth 20000 in
theorem ggX10_shown_X10_its : GoodIn wsX10_shown wsX10_its := goodIn_r _ [53, 2, 3, 54, 55, 56, 8, 57, 58, 59, 60, 76, 77, 78, 79, 80, 81, 82, 83, 84, 85, 86, 87, 88, 89, 90, 91, 92, 93, 94, 95, 96, 97, 98, 99, 100, 101, 102, 103, 104, 105, 106, 107, 108, 109, 110, 111, 112, 113, 114, 115, 116, 117, 118, 119, 120, 121, 122] (by decide +kernel) (by decide +kernel)
set_option maxRecDepth 20000 in
theorem gX10_shown_X10_its : GoodIn wsX10_shown (wsV RX10 322 RX10 yX10_its wsX10_its) := goodIn_app (goodIn_of _ (by decide +kernel)) ggX10_shown_X10_its
set_option maxRecDepth 20000 in
theorem ggX10_shown_X10_showsNumber : GoodIn wsX10_shown wsX10_showsNumber := goodIn_r _ [64, 65, 66, 67, 68, 60, 69, 70, 42, 43, 44, 8, 45, 4, 1, 71, 72, 73, 74, 75, 76, 77, 78, 79, 80, 81, 82, 83, 84, 85, 86, 87, 88, 89, 90, 91, 92, 93, 94, 95, 96, 97, 98, 99, 100, 101, 102, 103, 104, 105, 106, 107, 108, 109, 110, 111, 112, 113, 114, 115, 116, 117, 118, 119, 120, 121, 122] (by decide +kernel) (by decide +kernel)
set_option maxRecDepth 20000 in
theorem gX10_shown_X10_showsNumber : GoodIn wsX10_shown (wsV RX10 351 RX10 yX10_showsNumber wsX10_showsNumber) := goodIn_app (goodIn_of _ (by decide +kernel)) ggX10_shown_X10_showsNumber
set_option maxRecDepth 20000 in
theorem ggX10_shown_X10_in : GoodIn wsX10_shown wsX10_in := goodIn_r _ [17] (by decide +kernel) (by decide +kernel)
set_option maxRecDepth 20000 in
theorem gX10_shown_X10_in : GoodIn wsX10_shown (va_wsS RX10 121 yX10_in wsX10_in) := goodIn_app (goodIn_of _ (by decide +kernel)) ggX10_shown_X10_in
theorem dX10_shown_0 : decode cX10_shown 0 = .ok (.aload_n 0, 1) := by decide +kernel
theorem dX10_shown_1 : decode cX10_shown 1 = .ok (.iconst 0, 1) := by decide +kernel
theorem dX10_shown_2 : decode cX10_shown 2 = .ok (.putfield 325, 3) := by decide +kernel
theorem dX10_shown_5 : decode cX10_shown 5 = .ok (.aload_n 0, 1) := by decide +kernel
theorem dX10_shown_6 : decode cX10_shown 6 = .ok (.iload_n 1, 1) := by decide +kernel
theorem dX10_shown_7 : decode cX10_shown 7 = .ok (.iload_n 2, 1) := by decide +kernel
theorem dX10_shown_8 : decode cX10_shown 8 = .ok (.invokevirtual 319, 3) := by decide +kernel
theorem dX10_shown_11 : decode cX10_shown 11 = .ok (.ifCond .eq 94, 3) := by decide +kernel
theorem dX10_shown_14 : decode cX10_shown 14 = .ok (.aload_n 0, 1) := by decide +kernel
theorem dX10_shown_15 : decode cX10_shown 15 = .ok (.getfield 50, 3) := by decide +kernel
theorem dX10_shown_18 : decode cX10_shown 18 = .ok (.iload_n 1, 1) := by decide +kernel
theorem dX10_shown_19 : decode cX10_shown 19 = .ok (.iaload, 1) := by decide +kernel
theorem dX10_shown_20 : decode cX10_shown 20 = .ok (.istore 4, 2) := by decide +kernel
theorem dX10_shown_22 : decode cX10_shown 22 = .ok (.aload_n 0, 1) := by decide +kernel
theorem dX10_shown_23 : decode cX10_shown 23 = .ok (.iload 4, 2) := by decide +kernel
theorem dX10_shown_25 : decode cX10_shown 25 = .ok (.iload_n 2, 1) := by decide +kernel
theorem dX10_shown_26 : decode cX10_shown 26 = .ok (.invokevirtual 213, 3) := by decide +kernel
theorem dX10_shown_29 : decode cX10_shown 29 = .ok (.istore 5, 2) := by decide +kernel
theorem dX10_shown_31 : decode cX10_shown 31 = .ok (.aload_n 0, 1) := by decide +kernel
theorem dX10_shown_32 : decode cX10_shown 32 = .ok (.getfield 28, 3) := by decide +kernel
theorem dX10_shown_35 : decode cX10_shown 35 = .ok (.iload_n 2, 1) := by decide +kernel
theorem dX10_shown_36 : decode cX10_shown 36 = .ok (.iaload, 1) := by decide +kernel
theorem dX10_shown_37 : decode cX10_shown 37 = .ok (.iconst 4, 1) := by decide +kernel
theorem dX10_shown_38 : decode cX10_shown 38 = .ok (.if_icmp .ne 23, 3) := by decide +kernel
theorem dX10_shown_41 : decode cX10_shown 41 = .ok (.aload_n 0, 1) := by decide +kernel
theorem dX10_shown_42 : decode cX10_shown 42 = .ok (.iload 5, 2) := by decide +kernel
theorem dX10_shown_44 : decode cX10_shown 44 = .ok (.aload_n 0, 1) := by decide +kernel
theorem dX10_shown_45 : decode cX10_shown 45 = .ok (.iload 4, 2) := by decide +kernel
theorem dX10_shown_47 : decode cX10_shown 47 = .ok (.iload 5, 2) := by decide +kernel
theorem dX10_shown_49 : decode cX10_shown 49 = .ok (.invokevirtual 217, 3) := by decide +kernel
theorem dX10_shown_52 : decode cX10_shown 52 = .ok (.iload 5, 2) := by decide +kernel
theorem dX10_shown_54 : decode cX10_shown 54 = .ok (.isub, 1) := by decide +kernel
theorem dX10_shown_55 : decode cX10_shown 55 = .ok (.invokevirtual 337, 3) := by decide +kernel
theorem dX10_shown_58 : decode cX10_shown 58 = .ok (.goto 47, 3) := by decide +kernel
theorem dX10_shown_61 : decode cX10_shown 61 = .ok (.aload_n 0, 1) := by decide +kernel
theorem dX10_shown_62 : decode cX10_shown 62 = .ok (.getfield 28, 3) := by decide +kernel
theorem dX10_shown_65 : decode cX10_shown 65 = .ok (.iload_n 2, 1) := by decide +kernel
theorem dX10_shown_66 : decode cX10_shown 66 = .ok (.iaload, 1) := by decide +kernel
theorem dX10_shown_67 : decode cX10_shown 67 = .ok (.iconst 3, 1) := by decide +kernel
theorem dX10_shown_68 : decode cX10_shown 68 = .ok (.if_icmp .ne 12, 3) := by decide +kernel
theorem dX10_shown_71 : decode cX10_shown 71 = .ok (.aload_n 0, 1) := by decide +kernel
theorem dX10_shown_72 : decode cX10_shown 72 = .ok (.iload 5, 2) := by decide +kernel
theorem dX10_shown_74 : decode cX10_shown 74 = .ok (.invokevirtual 348, 3) := by decide +kernel
theorem dX10_shown_77 : decode cX10_shown 77 = .ok (.goto 28, 3) := by decide +kernel
theorem dX10_shown_80 : decode cX10_shown 80 = .ok (.aload_n 0, 1) := by decide +kernel
theorem dX10_shown_81 : decode cX10_shown 81 = .ok (.aload_n 0, 1) := by decide +kernel
theorem dX10_shown_82 : decode cX10_shown 82 = .ok (.iload_n 1, 1) := by decide +kernel
theorem dX10_shown_83 : decode cX10_shown 83 = .ok (.iload_n 2, 1) := by decide +kernel
theorem dX10_shown_84 : decode cX10_shown 84 = .ok (.invokevirtual 322, 3) := by decide +kernel
theorem dX10_shown_87 : decode cX10_shown 87 = .ok (.aload_n 0, 1) := by decide +kernel
theorem dX10_shown_88 : decode cX10_shown 88 = .ok (.getfield 28, 3) := by decide +kernel
theorem dX10_shown_91 : decode cX10_shown 91 = .ok (.iload_n 2, 1) := by decide +kernel
theorem dX10_shown_92 : decode cX10_shown 92 = .ok (.iaload, 1) := by decide +kernel
theorem dX10_shown_93 : decode cX10_shown 93 = .ok (.iconst 2, 1) := by decide +kernel
theorem dX10_shown_94 : decode cX10_shown 94 = .ok (.if_icmp .ne 7, 3) := by decide +kernel
theorem dX10_shown_97 : decode cX10_shown 97 = .ok (.iconst 1, 1) := by decide +kernel
theorem dX10_shown_98 : decode cX10_shown 98 = .ok (.goto 4, 3) := by decide +kernel
theorem dX10_shown_101 : decode cX10_shown 101 = .ok (.iconst 0, 1) := by decide +kernel
theorem dX10_shown_102 : decode cX10_shown 102 = .ok (.invokevirtual 351, 3) := by decide +kernel
theorem dX10_shown_105 : decode cX10_shown 105 = .ok (.iload_n 3, 1) := by decide +kernel
theorem dX10_shown_106 : decode cX10_shown 106 = .ok (.i2l, 1) := by decide +kernel
theorem dX10_shown_107 : decode cX10_shown 107 = .ok (.lconst 0, 1) := by decide +kernel
theorem dX10_shown_108 : decode cX10_shown 108 = .ok (.aload_n 0, 1) := by decide +kernel
theorem dX10_shown_109 : decode cX10_shown 109 = .ok (.getfield 325, 3) := by decide +kernel
theorem dX10_shown_112 : decode cX10_shown 112 = .ok (.iconst 1, 1) := by decide +kernel
theorem dX10_shown_113 : decode cX10_shown 113 = .ok (.isub, 1) := by decide +kernel
theorem dX10_shown_114 : decode cX10_shown 114 = .ok (.i2l, 1) := by decide +kernel
theorem dX10_shown_115 : decode cX10_shown 115 = .ok (.invokestatic 121, 3) := by decide +kernel
theorem dX10_shown_118 : decode cX10_shown 118 = .ok (.ifCond .eq 12, 3) := by decide +kernel
theorem dX10_shown_121 : decode cX10_shown 121 = .ok (.aload_n 0, 1) := by decide +kernel
theorem dX10_shown_122 : decode cX10_shown 122 = .ok (.getfield 98, 3) := by decide +kernel
theorem dX10_shown_125 : decode cX10_shown 125 = .ok (.iload_n 3, 1) := by decide +kernel
theorem dX10_shown_126 : decode cX10_shown 126 = .ok (.iaload, 1) := by decide +kernel
theorem dX10_shown_127 : decode cX10_shown 127 = .ok (.goto 4, 3) := by decide +kernel
theorem dX10_shown_130 : decode cX10_shown 130 = .ok (.iconst (-1), 1) := by decide +kernel
theorem dX10_shown_131 : decode cX10_shown 131 = .ok (.ireturn, 1) := by decide +kernel
set_option maxRecDepth 20000 in
theorem ggX10_havers_X10_hasValue : GoodIn wsX10_havers wsX10_hasValue := goodIn_r _ [6, 7, 8, 9, 10, 5, 11, 1, 12, 13, 14, 15, 16, 17, 18, 19, 20, 21, 22, 23, 24, 25, 26, 27, 28, 29, 30, 31, 32, 33, 34, 35, 36, 37, 38, 39, 40, 41, 42, 43, 44, 45, 46, 47, 48, 49, 50, 51, 52, 53, 54, 55, 56, 57, 58, 59, 60, 61, 62, 63, 64, 65, 66, 67, 68, 69, 70, 71] (by decide +kernel) (by decide +kernel)
set_option maxRecDepth 20000 in
theorem gX10_havers_X10_hasValue : GoodIn wsX10_havers (wsV RX10 319 RX10 yX10_hasValue wsX10_hasValue) := goodIn_app (goodIn_of _ (by decide +kernel)) ggX10_havers_X10_hasValue
theorem dX10_havers_0 : decode cX10_havers 0 = .ok (.iconst 0, 1) := by decide +kernel
theorem dX10_havers_1 : decode cX10_havers 1 = .ok (.istore_n 2, 1) := by decide +kernel
theorem dX10_havers_2 : decode cX10_havers 2 = .ok (.iconst 0, 1) := by decide +kernel
theorem dX10_havers_3 : decode cX10_havers 3 = .ok (.istore_n 3, 1) := by decide +kernel
theorem dX10_havers_4 : decode cX10_havers 4 = .ok (.iload_n 3, 1) := by decide +kernel
theorem dX10_havers_5 : decode cX10_havers 5 = .ok (.aload_n 0, 1) := by decide +kernel
theorem dX10_havers_6 : decode cX10_havers 6 = .ok (.getfield 128, 3) := by decide +kernel
theorem dX10_havers_9 : decode cX10_havers 9 = .ok (.if_icmp .ge 26, 3) := by decide +kernel
theorem dX10_havers_12 : decode cX10_havers 12 = .ok (.iload_n 2, 1) := by decide +kernel
theorem dX10_havers_13 : decode cX10_havers 13 = .ok (.aload_n 0, 1) := by decide +kernel
theorem dX10_havers_14 : decode cX10_havers 14 = .ok (.iload_n 3, 1) := by decide +kernel
theorem dX10_havers_15 : decode cX10_havers 15 = .ok (.iload_n 1, 1) := by decide +kernel
theorem dX10_havers_16 : decode cX10_havers 16 = .ok (.invokevirtual 319, 3) := by decide +kernel
theorem dX10_havers_19 : decode cX10_havers 19 = .ok (.ifCond .eq 7, 3) := by decide +kernel
theorem dX10_havers_22 : decode cX10_havers 22 = .ok (.iconst 1, 1) := by decide +kernel
theorem dX10_havers_23 : decode cX10_havers 23 = .ok (.goto 4, 3) := by decide +kernel
theorem dX10_havers_26 : decode cX10_havers 26 = .ok (.iconst 0, 1) := by decide +kernel
theorem dX10_havers_27 : decode cX10_havers 27 = .ok (.iadd, 1) := by decide +kernel
theorem dX10_havers_28 : decode cX10_havers 28 = .ok (.istore_n 2, 1) := by decide +kernel
theorem dX10_havers_29 : decode cX10_havers 29 = .ok (.iinc 3 1, 3) := by decide +kernel
theorem dX10_havers_32 : decode cX10_havers 32 = .ok (.goto (-28), 3) := by decide +kernel
theorem dX10_havers_35 : decode cX10_havers 35 = .ok (.iload_n 2, 1) := by decide +kernel
theorem dX10_havers_36 : decode cX10_havers 36 = .ok (.ireturn, 1) := by decide +kernel
set_option maxRecDepth 20000 in
theorem ggX10_edge_X10_hasValue : GoodIn wsX10_edge wsX10_hasValue := goodIn_r _ [7, 8, 9, 10, 11, 6, 12, 2, 13, 14, 15, 16, 17, 18, 19, 20, 21, 22, 23, 24, 25, 38, 39, 40, 41, 42, 43, 44, 45, 46, 47, 48, 49, 50, 51, 52, 53, 54, 55, 56, 57, 58, 59, 60, 61, 62, 63, 64, 65, 66, 67, 68, 69, 70, 71, 72, 73, 74, 75, 76, 77, 78, 79, 80, 81, 82, 83, 84] (by decide +kernel) (by decide +kernel)
set_option maxRecDepth 20000 in
theorem gX10_edge_X10_hasValue : GoodIn wsX10_edge (wsV RX10 319 RX10 yX10_hasValue wsX10_hasValue) := goodIn_app (goodIn_of _ (by decide +kernel)) ggX10_edge_X10_hasValue
set_option maxRecDepth 20000 in
theorem ggX10_edge_X10_its : GoodIn wsX10_edge wsX10_its := goodIn_r _ [29, 8, 30, 31, 32, 33, 6, 34, 35, 36, 37, 38, 39, 40, 41, 42, 43, 44, 45, 46, 47, 48, 49, 50, 51, 52, 53, 54, 55, 56, 57, 58, 59, 60, 61, 62, 63, 64, 65, 66, 67, 68, 69, 70, 71, 72, 73, 74, 75, 76, 77, 78, 79, 80, 81, 82, 83, 84] (by decide +kernel) (by decide +kernel)
set_option maxRecDepth 20000 in
theorem gX10_edge_X10_its : GoodIn wsX10_edge (wsV RX10 322 RX10 yX10_its wsX10_its) := goodIn_app (goodIn_of _ (by decide +kernel)) ggX10_edge_X10_its
theorem dX10_edge_0 : decode cX10_edge 0 = .ok (.ldc2_w 245, 3) := by decide +kernel
theorem dX10_edge_3 : decode cX10_edge 3 = .ok (.lstore_n 3, 1) := by decide +kernel
theorem dX10_edge_4 : decode cX10_edge 4 = .ok (.iconst 0, 1) := by decide +kernel
theorem dX10_edge_5 : decode cX10_edge 5 = .ok (.istore 5, 2) := by decide +kernel
theorem dX10_edge_7 : decode cX10_edge 7 = .ok (.iconst 0, 1) := by decide +kernel
theorem dX10_edge_8 : decode cX10_edge 8 = .ok (.istore 6, 2) := by decide +kernel
theorem dX10_edge_10 : decode cX10_edge 10 = .ok (.iload 6, 2) := by decide +kernel
theorem dX10_edge_12 : decode cX10_edge 12 = .ok (.aload_n 0, 1) := by decide +kernel
theorem dX10_edge_13 : decode cX10_edge 13 = .ok (.getfield 128, 3) := by decide +kernel
theorem dX10_edge_16 : decode cX10_edge 16 = .ok (.if_icmp .ge 66, 3) := by decide +kernel
theorem dX10_edge_19 : decode cX10_edge 19 = .ok (.aload_n 0, 1) := by decide +kernel
theorem dX10_edge_20 : decode cX10_edge 20 = .ok (.iload 6, 2) := by decide +kernel
theorem dX10_edge_22 : decode cX10_edge 22 = .ok (.iload_n 1, 1) := by decide +kernel
theorem dX10_edge_23 : decode cX10_edge 23 = .ok (.invokevirtual 319, 3) := by decide +kernel
theorem dX10_edge_26 : decode cX10_edge 26 = .ok (.ifCond .eq 50, 3) := by decide +kernel
theorem dX10_edge_29 : decode cX10_edge 29 = .ok (.iload 5, 2) := by decide +kernel
theorem dX10_edge_31 : decode cX10_edge 31 = .ok (.ifCond .eq 34, 3) := by decide +kernel
theorem dX10_edge_34 : decode cX10_edge 34 = .ok (.iload_n 2, 1) := by decide +kernel
theorem dX10_edge_35 : decode cX10_edge 35 = .ok (.ifCond .eq 18, 3) := by decide +kernel
theorem dX10_edge_38 : decode cX10_edge 38 = .ok (.aload_n 0, 1) := by decide +kernel
theorem dX10_edge_39 : decode cX10_edge 39 = .ok (.iload 6, 2) := by decide +kernel
theorem dX10_edge_41 : decode cX10_edge 41 = .ok (.iload_n 1, 1) := by decide +kernel
theorem dX10_edge_42 : decode cX10_edge 42 = .ok (.invokevirtual 322, 3) := by decide +kernel
theorem dX10_edge_45 : decode cX10_edge 45 = .ok (.lload_n 3, 1) := by decide +kernel
theorem dX10_edge_46 : decode cX10_edge 46 = .ok (.lcmp, 1) := by decide +kernel
theorem dX10_edge_47 : decode cX10_edge 47 = .ok (.ifCond .ge 29, 3) := by decide +kernel
theorem dX10_edge_50 : decode cX10_edge 50 = .ok (.goto 15, 3) := by decide +kernel
theorem dX10_edge_53 : decode cX10_edge 53 = .ok (.aload_n 0, 1) := by decide +kernel
theorem dX10_edge_54 : decode cX10_edge 54 = .ok (.iload 6, 2) := by decide +kernel
theorem dX10_edge_56 : decode cX10_edge 56 = .ok (.iload_n 1, 1) := by decide +kernel
theorem dX10_edge_57 : decode cX10_edge 57 = .ok (.invokevirtual 322, 3) := by decide +kernel
theorem dX10_edge_60 : decode cX10_edge 60 = .ok (.lload_n 3, 1) := by decide +kernel
theorem dX10_edge_61 : decode cX10_edge 61 = .ok (.lcmp, 1) := by decide +kernel
theorem dX10_edge_62 : decode cX10_edge 62 = .ok (.ifCond .le 14, 3) := by decide +kernel
theorem dX10_edge_65 : decode cX10_edge 65 = .ok (.aload_n 0, 1) := by decide +kernel
theorem dX10_edge_66 : decode cX10_edge 66 = .ok (.iload 6, 2) := by decide +kernel
theorem dX10_edge_68 : decode cX10_edge 68 = .ok (.iload_n 1, 1) := by decide +kernel
theorem dX10_edge_69 : decode cX10_edge 69 = .ok (.invokevirtual 322, 3) := by decide +kernel
theorem dX10_edge_72 : decode cX10_edge 72 = .ok (.lstore_n 3, 1) := by decide +kernel
theorem dX10_edge_73 : decode cX10_edge 73 = .ok (.iconst 1, 1) := by decide +kernel
theorem dX10_edge_74 : decode cX10_edge 74 = .ok (.istore 5, 2) := by decide +kernel
theorem dX10_edge_76 : decode cX10_edge 76 = .ok (.iinc 6 1, 3) := by decide +kernel
theorem dX10_edge_79 : decode cX10_edge 79 = .ok (.goto (-69), 3) := by decide +kernel
theorem dX10_edge_82 : decode cX10_edge 82 = .ok (.lload_n 3, 1) := by decide +kernel
theorem dX10_edge_83 : decode cX10_edge 83 = .ok (.lreturn, 1) := by decide +kernel
set_option maxRecDepth 20000 in
theorem ggX10_unlike_X10_hasValue : GoodIn wsX10_unlike wsX10_hasValue := goodIn_r _ [6, 7, 8, 9, 10, 5, 11, 1, 12, 13, 14, 15, 16, 17, 18, 19, 20, 21, 22, 23, 24, 37, 38, 39, 40, 41, 42, 43, 44, 45, 46, 47, 48, 49, 50, 51, 52, 53, 54, 55, 56, 57, 58, 59, 60, 61, 62, 63, 64, 65, 66, 67, 68, 69, 70, 71, 72, 73, 74, 75, 76, 77, 78, 79, 80, 81, 82, 83] (by decide +kernel) (by decide +kernel)
set_option maxRecDepth 20000 in
theorem gX10_unlike_X10_hasValue : GoodIn wsX10_unlike (wsV RX10 319 RX10 yX10_hasValue wsX10_hasValue) := goodIn_app (goodIn_of _ (by decide +kernel)) ggX10_unlike_X10_hasValue
set_option maxRecDepth 20000 in
theorem ggX10_unlike_X10_its : GoodIn wsX10_unlike wsX10_its := goodIn_r _ [28, 7, 29, 30, 31, 32, 5, 33, 34, 35, 36, 37, 38, 39, 40, 41, 42, 43, 44, 45, 46, 47, 48, 49, 50, 51, 52, 53, 54, 55, 56, 57, 58, 59, 60, 61, 62, 63, 64, 65, 66, 67, 68, 69, 70, 71, 72, 73, 74, 75, 76, 77, 78, 79, 80, 81, 82, 83] (by decide +kernel) (by decide +kernel)
set_option maxRecDepth 20000 in
theorem gX10_unlike_X10_its : GoodIn wsX10_unlike (wsV RX10 322 RX10 yX10_its wsX10_its) := goodIn_app (goodIn_of _ (by decide +kernel)) ggX10_unlike_X10_its
theorem dX10_unlike_0 : decode cX10_unlike 0 = .ok (.iconst 0, 1) := by decide +kernel
theorem dX10_unlike_1 : decode cX10_unlike 1 = .ok (.istore_n 2, 1) := by decide +kernel
theorem dX10_unlike_2 : decode cX10_unlike 2 = .ok (.iconst 0, 1) := by decide +kernel
theorem dX10_unlike_3 : decode cX10_unlike 3 = .ok (.istore_n 3, 1) := by decide +kernel
theorem dX10_unlike_4 : decode cX10_unlike 4 = .ok (.iload_n 3, 1) := by decide +kernel
theorem dX10_unlike_5 : decode cX10_unlike 5 = .ok (.aload_n 0, 1) := by decide +kernel
theorem dX10_unlike_6 : decode cX10_unlike 6 = .ok (.getfield 128, 3) := by decide +kernel
theorem dX10_unlike_9 : decode cX10_unlike 9 = .ok (.if_icmp .ge 84, 3) := by decide +kernel
theorem dX10_unlike_12 : decode cX10_unlike 12 = .ok (.aload_n 0, 1) := by decide +kernel
theorem dX10_unlike_13 : decode cX10_unlike 13 = .ok (.iload_n 3, 1) := by decide +kernel
theorem dX10_unlike_14 : decode cX10_unlike 14 = .ok (.iload_n 1, 1) := by decide +kernel
theorem dX10_unlike_15 : decode cX10_unlike 15 = .ok (.invokevirtual 319, 3) := by decide +kernel
theorem dX10_unlike_18 : decode cX10_unlike 18 = .ok (.istore 4, 2) := by decide +kernel
theorem dX10_unlike_20 : decode cX10_unlike 20 = .ok (.iconst 0, 1) := by decide +kernel
theorem dX10_unlike_21 : decode cX10_unlike 21 = .ok (.istore 5, 2) := by decide +kernel
theorem dX10_unlike_23 : decode cX10_unlike 23 = .ok (.iload 5, 2) := by decide +kernel
theorem dX10_unlike_25 : decode cX10_unlike 25 = .ok (.iload_n 3, 1) := by decide +kernel
theorem dX10_unlike_26 : decode cX10_unlike 26 = .ok (.if_icmp .ge 48, 3) := by decide +kernel
theorem dX10_unlike_29 : decode cX10_unlike 29 = .ok (.iload 4, 2) := by decide +kernel
theorem dX10_unlike_31 : decode cX10_unlike 31 = .ok (.ifCond .eq 43, 3) := by decide +kernel
theorem dX10_unlike_34 : decode cX10_unlike 34 = .ok (.aload_n 0, 1) := by decide +kernel
theorem dX10_unlike_35 : decode cX10_unlike 35 = .ok (.iload 5, 2) := by decide +kernel
theorem dX10_unlike_37 : decode cX10_unlike 37 = .ok (.iload_n 1, 1) := by decide +kernel
theorem dX10_unlike_38 : decode cX10_unlike 38 = .ok (.invokevirtual 319, 3) := by decide +kernel
theorem dX10_unlike_41 : decode cX10_unlike 41 = .ok (.ifCond .eq 20, 3) := by decide +kernel
theorem dX10_unlike_44 : decode cX10_unlike 44 = .ok (.aload_n 0, 1) := by decide +kernel
theorem dX10_unlike_45 : decode cX10_unlike 45 = .ok (.iload 5, 2) := by decide +kernel
theorem dX10_unlike_47 : decode cX10_unlike 47 = .ok (.iload_n 1, 1) := by decide +kernel
theorem dX10_unlike_48 : decode cX10_unlike 48 = .ok (.invokevirtual 322, 3) := by decide +kernel
theorem dX10_unlike_51 : decode cX10_unlike 51 = .ok (.aload_n 0, 1) := by decide +kernel
theorem dX10_unlike_52 : decode cX10_unlike 52 = .ok (.iload_n 3, 1) := by decide +kernel
theorem dX10_unlike_53 : decode cX10_unlike 53 = .ok (.iload_n 1, 1) := by decide +kernel
theorem dX10_unlike_54 : decode cX10_unlike 54 = .ok (.invokevirtual 322, 3) := by decide +kernel
theorem dX10_unlike_57 : decode cX10_unlike 57 = .ok (.lcmp, 1) := by decide +kernel
theorem dX10_unlike_58 : decode cX10_unlike 58 = .ok (.ifCond .eq 7, 3) := by decide +kernel
theorem dX10_unlike_61 : decode cX10_unlike 61 = .ok (.iconst 1, 1) := by decide +kernel
theorem dX10_unlike_62 : decode cX10_unlike 62 = .ok (.goto 4, 3) := by decide +kernel
theorem dX10_unlike_65 : decode cX10_unlike 65 = .ok (.iconst 0, 1) := by decide +kernel
theorem dX10_unlike_66 : decode cX10_unlike 66 = .ok (.istore 4, 2) := by decide +kernel
theorem dX10_unlike_68 : decode cX10_unlike 68 = .ok (.iinc 5 1, 3) := by decide +kernel
theorem dX10_unlike_71 : decode cX10_unlike 71 = .ok (.goto (-48), 3) := by decide +kernel
theorem dX10_unlike_74 : decode cX10_unlike 74 = .ok (.iload_n 2, 1) := by decide +kernel
theorem dX10_unlike_75 : decode cX10_unlike 75 = .ok (.iload 4, 2) := by decide +kernel
theorem dX10_unlike_77 : decode cX10_unlike 77 = .ok (.ifCond .eq 7, 3) := by decide +kernel
theorem dX10_unlike_80 : decode cX10_unlike 80 = .ok (.iconst 1, 1) := by decide +kernel
theorem dX10_unlike_81 : decode cX10_unlike 81 = .ok (.goto 4, 3) := by decide +kernel
theorem dX10_unlike_84 : decode cX10_unlike 84 = .ok (.iconst 0, 1) := by decide +kernel
theorem dX10_unlike_85 : decode cX10_unlike 85 = .ok (.iadd, 1) := by decide +kernel
theorem dX10_unlike_86 : decode cX10_unlike 86 = .ok (.istore_n 2, 1) := by decide +kernel
theorem dX10_unlike_87 : decode cX10_unlike 87 = .ok (.iinc 3 1, 3) := by decide +kernel
theorem dX10_unlike_90 : decode cX10_unlike 90 = .ok (.goto (-86), 3) := by decide +kernel
theorem dX10_unlike_93 : decode cX10_unlike 93 = .ok (.iload_n 2, 1) := by decide +kernel
theorem dX10_unlike_94 : decode cX10_unlike 94 = .ok (.ireturn, 1) := by decide +kernel
set_option maxRecDepth 20000 in
theorem ggX10_feature_X10_isColumn : GoodIn wsX10_feature wsX10_isColumn := goodIn_r _ [8, 9, 10, 11, 7, 12, 51, 52, 53, 54, 55, 56, 57, 58, 59, 60, 61, 62, 63, 64, 65, 66, 67, 68, 69, 70, 71, 72, 73, 74, 75, 76, 77, 78, 79, 80, 81, 82, 83, 84, 85, 86, 87, 88, 89, 90, 91, 92, 93, 94, 95, 96, 97] (by decide +kernel) (by decide +kernel)
set_option maxRecDepth 20000 in
theorem gX10_feature_X10_isColumn : GoodIn wsX10_feature (wsV RX10 279 RX10 yX10_isColumn wsX10_isColumn) := goodIn_app (goodIn_of _ (by decide +kernel)) ggX10_feature_X10_isColumn
set_option maxRecDepth 20000 in
theorem ggX10_feature_X10_in : GoodIn wsX10_feature wsX10_in := goodIn_r _ [12] (by decide +kernel) (by decide +kernel)
set_option maxRecDepth 20000 in
theorem gX10_feature_X10_in : GoodIn wsX10_feature (va_wsS RX10 121 yX10_in wsX10_in) := goodIn_app (goodIn_of _ (by decide +kernel)) ggX10_feature_X10_in
set_option maxRecDepth 20000 in
theorem ggX10_feature_X10_havers : GoodIn wsX10_feature wsX10_havers := goodIn_r _ [16, 3, 17, 18, 19, 7, 20, 21, 22, 23, 24, 25, 10, 11, 12, 4, 5, 6, 8, 9, 26, 27, 28, 29, 30, 51, 52, 53, 54, 55, 56, 57, 58, 59, 60, 61, 62, 63, 64, 65, 66, 67, 68, 69, 70, 71, 72, 73, 74, 75, 76, 77, 78, 79, 80, 81, 82, 83, 84, 85, 86, 87, 88, 89, 90, 91, 92, 93, 94, 95, 96, 97] (by decide +kernel) (by decide +kernel)
set_option maxRecDepth 20000 in
theorem gX10_feature_X10_havers : GoodIn wsX10_feature (wsV RX10 355 RX10 yX10_havers wsX10_havers) := goodIn_app (goodIn_of _ (by decide +kernel)) ggX10_feature_X10_havers
set_option maxRecDepth 20000 in
theorem ggX10_feature_X10_edge : GoodIn wsX10_feature wsX10_edge := goodIn_r _ [34, 2, 3, 17, 18, 19, 7, 20, 21, 22, 23, 24, 25, 10, 11, 12, 4, 5, 6, 8, 9, 26, 27, 28, 29, 30, 35, 36, 37, 38, 39, 40, 41, 42, 43, 44, 45, 46, 51, 52, 53, 54, 55, 56, 57, 58, 59, 60, 61, 62, 63, 64, 65, 66, 67, 68, 69, 70, 71, 72, 73, 74, 75, 76, 77, 78, 79, 80, 81, 82, 83, 84, 85, 86, 87, 88, 89, 90, 91, 92, 93, 94, 95, 96, 97] (by decide +kernel) (by decide +kernel)
set_option maxRecDepth 20000 in
theorem gX10_feature_X10_edge : GoodIn wsX10_feature (wsV RX10 358 RX10 yX10_edge wsX10_edge) := goodIn_app (goodIn_of _ (by decide +kernel)) ggX10_feature_X10_edge
set_option maxRecDepth 20000 in
theorem ggX10_feature_X10_unlike : GoodIn wsX10_feature wsX10_unlike := goodIn_r _ [50, 3, 17, 18, 19, 7, 20, 21, 22, 23, 24, 25, 10, 11, 12, 4, 5, 6, 8, 9, 26, 27, 28, 29, 30, 35, 36, 37, 38, 39, 40, 41, 42, 43, 44, 45, 46, 51, 52, 53, 54, 55, 56, 57, 58, 59, 60, 61, 62, 63, 64, 65, 66, 67, 68, 69, 70, 71, 72, 73, 74, 75, 76, 77, 78, 79, 80, 81, 82, 83, 84, 85, 86, 87, 88, 89, 90, 91, 92, 93, 94, 95, 96, 97] (by decide +kernel) (by decide +kernel)
set_option maxRecDepth 20000 in
theorem gX10_feature_X10_unlike : GoodIn wsX10_feature (wsV RX10 362 RX10 yX10_unlike wsX10_unlike) := goodIn_app (goodIn_of _ (by decide +kernel)) ggX10_feature_X10_unlike
theorem dX10_feature_0 : decode cX10_feature 0 = .ok (.aload_n 0, 1) := by decide +kernel
theorem dX10_feature_1 : decode cX10_feature 1 = .ok (.iload_n 1, 1) := by decide +kernel
theorem dX10_feature_2 : decode cX10_feature 2 = .ok (.invokevirtual 279, 3) := by decide +kernel
theorem dX10_feature_5 : decode cX10_feature 5 = .ok (.ifCond .eq 15, 3) := by decide +kernel
theorem dX10_feature_8 : decode cX10_feature 8 = .ok (.iload_n 2, 1) := by decide +kernel
theorem dX10_feature_9 : decode cX10_feature 9 = .ok (.i2l, 1) := by decide +kernel
theorem dX10_feature_10 : decode cX10_feature 10 = .ok (.lconst 0, 1) := by decide +kernel
theorem dX10_feature_11 : decode cX10_feature 11 = .ok (.ldc2_w 282, 3) := by decide +kernel
theorem dX10_feature_14 : decode cX10_feature 14 = .ok (.invokestatic 121, 3) := by decide +kernel
theorem dX10_feature_17 : decode cX10_feature 17 = .ok (.ifCond .ne 7, 3) := by decide +kernel
theorem dX10_feature_20 : decode cX10_feature 20 = .ok (.ldc2_w 245, 3) := by decide +kernel
theorem dX10_feature_23 : decode cX10_feature 23 = .ok (.lreturn, 1) := by decide +kernel
theorem dX10_feature_24 : decode cX10_feature 24 = .ok (.iload_n 2, 1) := by decide +kernel
theorem dX10_feature_25 : decode cX10_feature 25 = .ok (.tableswitch 59 0 3 #[31, 38, 45, 52], 31) := by decide +kernel
theorem dX10_feature_56 : decode cX10_feature 56 = .ok (.aload_n 0, 1) := by decide +kernel
theorem dX10_feature_57 : decode cX10_feature 57 = .ok (.iload_n 1, 1) := by decide +kernel
theorem dX10_feature_58 : decode cX10_feature 58 = .ok (.invokevirtual 355, 3) := by decide +kernel
theorem dX10_feature_61 : decode cX10_feature 61 = .ok (.i2l, 1) := by decide +kernel
theorem dX10_feature_62 : decode cX10_feature 62 = .ok (.lreturn, 1) := by decide +kernel
theorem dX10_feature_63 : decode cX10_feature 63 = .ok (.aload_n 0, 1) := by decide +kernel
theorem dX10_feature_64 : decode cX10_feature 64 = .ok (.iload_n 1, 1) := by decide +kernel
theorem dX10_feature_65 : decode cX10_feature 65 = .ok (.iconst 1, 1) := by decide +kernel
theorem dX10_feature_66 : decode cX10_feature 66 = .ok (.invokevirtual 358, 3) := by decide +kernel
theorem dX10_feature_69 : decode cX10_feature 69 = .ok (.lreturn, 1) := by decide +kernel
theorem dX10_feature_70 : decode cX10_feature 70 = .ok (.aload_n 0, 1) := by decide +kernel
theorem dX10_feature_71 : decode cX10_feature 71 = .ok (.iload_n 1, 1) := by decide +kernel
theorem dX10_feature_72 : decode cX10_feature 72 = .ok (.iconst 0, 1) := by decide +kernel
theorem dX10_feature_73 : decode cX10_feature 73 = .ok (.invokevirtual 358, 3) := by decide +kernel
theorem dX10_feature_76 : decode cX10_feature 76 = .ok (.lreturn, 1) := by decide +kernel
theorem dX10_feature_77 : decode cX10_feature 77 = .ok (.aload_n 0, 1) := by decide +kernel
theorem dX10_feature_78 : decode cX10_feature 78 = .ok (.iload_n 1, 1) := by decide +kernel
theorem dX10_feature_79 : decode cX10_feature 79 = .ok (.invokevirtual 362, 3) := by decide +kernel
theorem dX10_feature_82 : decode cX10_feature 82 = .ok (.i2l, 1) := by decide +kernel
theorem dX10_feature_83 : decode cX10_feature 83 = .ok (.lreturn, 1) := by decide +kernel
theorem dX10_feature_84 : decode cX10_feature 84 = .ok (.aload_n 0, 1) := by decide +kernel
theorem dX10_feature_85 : decode cX10_feature 85 = .ok (.getfield 128, 3) := by decide +kernel
theorem dX10_feature_88 : decode cX10_feature 88 = .ok (.aload_n 0, 1) := by decide +kernel
theorem dX10_feature_89 : decode cX10_feature 89 = .ok (.iload_n 1, 1) := by decide +kernel
theorem dX10_feature_90 : decode cX10_feature 90 = .ok (.invokevirtual 355, 3) := by decide +kernel
theorem dX10_feature_93 : decode cX10_feature 93 = .ok (.isub, 1) := by decide +kernel
theorem dX10_feature_94 : decode cX10_feature 94 = .ok (.i2l, 1) := by decide +kernel
theorem dX10_feature_95 : decode cX10_feature 95 = .ok (.lreturn, 1) := by decide +kernel
set_option maxRecDepth 20000 in
theorem ggX10_would_X10_isColumn : GoodIn wsX10_would wsX10_isColumn := goodIn_r _ [8, 9, 10, 11, 7, 12, 97, 98, 99, 100, 101, 102, 103, 104, 105, 106, 107, 108, 109, 110, 111, 112, 113, 114, 115, 116, 117, 118, 119, 120, 121, 122, 123, 124, 125, 126, 127, 128, 129, 130, 131, 132, 133, 134, 135, 136, 137, 138, 139, 140, 141, 142, 143] (by decide +kernel) (by decide +kernel)
set_option maxRecDepth 20000 in
theorem gX10_would_X10_isColumn : GoodIn wsX10_would (wsV RX10 279 RX10 yX10_isColumn wsX10_isColumn) := goodIn_app (goodIn_of _ (by decide +kernel)) ggX10_would_X10_isColumn
