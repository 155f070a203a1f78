theorem dX9_init_98 : decode cX9_init 98 = .ok (.iload_n 1, 1) := by decide +kernel
theorem dX9_init_99 : decode cX9_init 99 = .ok (.aload_n 0, 1) := by decide +kernel
theorem dX9_init_100 : decode cX9_init 100 = .ok (.getfield 53, 3) := by decide +kernel
theorem dX9_init_103 : decode cX9_init 103 = .ok (.arraylength, 1) := by decide +kernel
theorem dX9_init_104 : decode cX9_init 104 = .ok (.if_icmp .ge 22, 3) := by decide +kernel
theorem dX9_init_107 : decode cX9_init 107 = .ok (.aload_n 0, 1) := by decide +kernel
theorem dX9_init_108 : decode cX9_init 108 = .ok (.getfield 53, 3) := by decide +kernel
theorem dX9_init_111 : decode cX9_init 111 = .ok (.iload_n 1, 1) := by decide +kernel
theorem dX9_init_112 : decode cX9_init 112 = .ok (.new 51, 3) := by decide +kernel
theorem dX9_init_115 : decode cX9_init 115 = .ok (.dup, 1) := by decide +kernel
theorem dX9_init_116 : decode cX9_init 116 = .ok (.invokespecial 61, 3) := by decide +kernel
theorem dX9_init_119 : decode cX9_init 119 = .ok (.aastore, 1) := by decide +kernel
theorem dX9_init_120 : decode cX9_init 120 = .ok (.iinc 1 1, 3) := by decide +kernel
theorem dX9_init_123 : decode cX9_init 123 = .ok (.goto (-25), 3) := by decide +kernel
theorem dX9_init_126 : decode cX9_init 126 = .ok (.return_, 1) := by decide +kernel
set_option maxRecDepth 20000 in
theorem ggX9_feed_X6_add : GoodIn wsX9_feed wsX6_add := goodIn_r _ [7, 8, 9, 19, 20] (by decide +kernel) (by decide +kernel)
set_option maxRecDepth 20000 in
theorem gX9_feed_X6_add : GoodIn wsX9_feed (wsV RX9 66 RX6 yX6_add wsX6_add) := goodIn_app (goodIn_of _ (by decide +kernel)) ggX9_feed_X6_add
theorem dX9_feed_0 : decode cX9_feed 0 = .ok (.iload_n 1, 1) := by decide +kernel
theorem dX9_feed_1 : decode cX9_feed 1 = .ok (.ifCond .lt 9, 3) := by decide +kernel
theorem dX9_feed_4 : decode cX9_feed 4 = .ok (.iload_n 1, 1) := by decide +kernel
theorem dX9_feed_5 : decode cX9_feed 5 = .ok (.bipush 127, 2) := by decide +kernel
theorem dX9_feed_7 : decode cX9_feed 7 = .ok (.if_icmp .le 6, 3) := by decide +kernel
theorem dX9_feed_10 : decode cX9_feed 10 = .ok (.bipush (-2), 2) := by decide +kernel
theorem dX9_feed_12 : decode cX9_feed 12 = .ok (.ireturn, 1) := by decide +kernel
theorem dX9_feed_13 : decode cX9_feed 13 = .ok (.aload_n 0, 1) := by decide +kernel
theorem dX9_feed_14 : decode cX9_feed 14 = .ok (.getfield 16, 3) := by decide +kernel
theorem dX9_feed_17 : decode cX9_feed 17 = .ok (.getfield 62, 3) := by decide +kernel
theorem dX9_feed_20 : decode cX9_feed 20 = .ok (.bipush 60, 2) := by decide +kernel
theorem dX9_feed_22 : decode cX9_feed 22 = .ok (.if_icmp .lt 6, 3) := by decide +kernel
theorem dX9_feed_25 : decode cX9_feed 25 = .ok (.bipush (-4), 2) := by decide +kernel
theorem dX9_feed_27 : decode cX9_feed 27 = .ok (.ireturn, 1) := by decide +kernel
theorem dX9_feed_28 : decode cX9_feed 28 = .ok (.aload_n 0, 1) := by decide +kernel
theorem dX9_feed_29 : decode cX9_feed 29 = .ok (.getfield 16, 3) := by decide +kernel
theorem dX9_feed_32 : decode cX9_feed 32 = .ok (.iload_n 1, 1) := by decide +kernel
theorem dX9_feed_33 : decode cX9_feed 33 = .ok (.invokevirtual 66, 3) := by decide +kernel
theorem dX9_feed_36 : decode cX9_feed 36 = .ok (.aload_n 0, 1) := by decide +kernel
theorem dX9_feed_37 : decode cX9_feed 37 = .ok (.getfield 16, 3) := by decide +kernel
theorem dX9_feed_40 : decode cX9_feed 40 = .ok (.getfield 62, 3) := by decide +kernel
theorem dX9_feed_43 : decode cX9_feed 43 = .ok (.ireturn, 1) := by decide +kernel
set_option maxRecDepth 20000 in
theorem ggX9_head_X3_faultPlaceIn : GoodIn wsX9_head wsX3_faultPlaceIn := goodIn_r _ [9, 10, 11, 12, 13, 14, 15, 8, 16, 17, 18, 19, 20, 21, 22, 23, 24, 25, 26, 27, 28, 29, 30, 94, 95, 96, 97, 98] (by decide +kernel) (by decide +kernel)
set_option maxRecDepth 20000 in
theorem gX9_head_X3_faultPlaceIn : GoodIn wsX9_head (wsV RX9 69 RX3 yX3_faultPlaceIn wsX3_faultPlaceIn) := goodIn_app (goodIn_of _ (by decide +kernel)) ggX9_head_X3_faultPlaceIn
set_option maxRecDepth 20000 in
theorem ggX9_head_X6_clear : GoodIn wsX9_head wsX6_clear := goodIn_r _ [34, 22, 97, 98] (by decide +kernel) (by decide +kernel)
set_option maxRecDepth 20000 in
theorem gX9_head_X6_clear : GoodIn wsX9_head (wsV RX9 73 RX6 yX6_clear wsX6_clear) := goodIn_app (goodIn_of _ (by decide +kernel)) ggX9_head_X6_clear
set_option maxRecDepth 20000 in
theorem ggX9_head_X7_begin : GoodIn wsX9_head wsX7_begin := goodIn_r _ [39, 40, 41, 42, 43, 44, 45, 46, 47, 48, 49, 50, 51, 52, 53, 54, 55, 56, 57, 58, 59, 60, 61, 62, 63, 64, 65, 66, 67, 68, 69, 70, 71, 72, 73, 94, 95, 96, 83, 84, 85, 86, 87, 88, 89, 90, 91, 92, 93, 99, 100, 101, 102, 103, 104, 105, 106, 107, 108, 109, 110] (by decide +kernel) (by decide +kernel)
set_option maxRecDepth 20000 in
theorem gX9_head_X7_begin : GoodIn wsX9_head (wsV RX9 76 RX7 yX7_begin wsX7_begin) := goodIn_app (goodIn_of _ (by decide +kernel)) ggX9_head_X7_begin
theorem dX9_head_0 : decode cX9_head 0 = .ok (.aload_n 0, 1) := by decide +kernel
theorem dX9_head_1 : decode cX9_head 1 = .ok (.getfield 26, 3) := by decide +kernel
theorem dX9_head_4 : decode cX9_head 4 = .ok (.aload_n 0, 1) := by decide +kernel
theorem dX9_head_5 : decode cX9_head 5 = .ok (.getfield 16, 3) := by decide +kernel
theorem dX9_head_8 : decode cX9_head 8 = .ok (.invokevirtual 69, 3) := by decide +kernel
theorem dX9_head_11 : decode cX9_head 11 = .ok (.istore_n 1, 1) := by decide +kernel
theorem dX9_head_12 : decode cX9_head 12 = .ok (.aload_n 0, 1) := by decide +kernel
theorem dX9_head_13 : decode cX9_head 13 = .ok (.getfield 16, 3) := by decide +kernel
theorem dX9_head_16 : decode cX9_head 16 = .ok (.invokevirtual 73, 3) := by decide +kernel
theorem dX9_head_19 : decode cX9_head 19 = .ok (.iload_n 1, 1) := by decide +kernel
theorem dX9_head_20 : decode cX9_head 20 = .ok (.iconst (-1), 1) := by decide +kernel
theorem dX9_head_21 : decode cX9_head 21 = .ok (.if_icmp .eq 8, 3) := by decide +kernel
theorem dX9_head_24 : decode cX9_head 24 = .ok (.bipush (-10), 2) := by decide +kernel
theorem dX9_head_26 : decode cX9_head 26 = .ok (.iload_n 1, 1) := by decide +kernel
theorem dX9_head_27 : decode cX9_head 27 = .ok (.isub, 1) := by decide +kernel
theorem dX9_head_28 : decode cX9_head 28 = .ok (.ireturn, 1) := by decide +kernel
theorem dX9_head_29 : decode cX9_head 29 = .ok (.aload_n 0, 1) := by decide +kernel
theorem dX9_head_30 : decode cX9_head 30 = .ok (.getfield 33, 3) := by decide +kernel
theorem dX9_head_33 : decode cX9_head 33 = .ok (.aload_n 0, 1) := by decide +kernel
theorem dX9_head_34 : decode cX9_head 34 = .ok (.getfield 26, 3) := by decide +kernel
theorem dX9_head_37 : decode cX9_head 37 = .ok (.invokevirtual 76, 3) := by decide +kernel
theorem dX9_head_40 : decode cX9_head 40 = .ok (.aload_n 0, 1) := by decide +kernel
theorem dX9_head_41 : decode cX9_head 41 = .ok (.getfield 33, 3) := by decide +kernel
theorem dX9_head_44 : decode cX9_head 44 = .ok (.getfield 80, 3) := by decide +kernel
theorem dX9_head_47 : decode cX9_head 47 = .ok (.ireturn, 1) := by decide +kernel
set_option maxRecDepth 20000 in
theorem ggX9_line_X9_lineFaultPlace : GoodIn wsX9_line wsX9_lineFaultPlace := goodIn_r _ [11, 12, 13, 14, 15, 16, 17, 18, 19, 192, 193] (by decide +kernel) (by decide +kernel)
set_option maxRecDepth 20000 in
theorem gX9_line_X9_lineFaultPlace : GoodIn wsX9_line (va_wsS RX9 86 yX9_lineFaultPlace wsX9_lineFaultPlace) := goodIn_app (goodIn_of _ (by decide +kernel)) ggX9_line_X9_lineFaultPlace
set_option maxRecDepth 20000 in
theorem ggX9_line_X6_clear : GoodIn wsX9_line wsX6_clear := goodIn_r _ [23, 18, 192, 193] (by decide +kernel) (by decide +kernel)
set_option maxRecDepth 20000 in
theorem gX9_line_X6_clear : GoodIn wsX9_line (wsV RX9 73 RX6 yX6_clear wsX6_clear) := goodIn_app (goodIn_of _ (by decide +kernel)) ggX9_line_X6_clear
set_option maxRecDepth 20000 in
theorem ggX9_line_X4_init : GoodIn wsX9_line wsX4_init := goodIn_r _ [26, 27, 28, 29, 30, 31, 32, 33, 34, 35, 36, 37, 38, 39, 40, 7, 41, 42, 43, 14, 15, 16, 17, 18, 19, 44, 45, 46, 47, 48, 49, 50, 51, 52, 53, 54, 55, 56, 57, 58, 59, 60, 61, 62, 63, 64, 65, 66, 67, 68, 69, 70, 71, 72, 73, 74, 75, 76, 77, 78, 79, 80, 81, 82, 83, 84, 85, 86, 87, 88, 89, 90, 91, 92, 93, 94, 95, 96, 97, 98, 99, 100, 101, 102, 103, 104, 105, 106, 107, 108, 109, 110, 111, 112, 113, 114, 115, 116, 117, 118, 119, 120, 121, 122, 123, 124, 125, 126, 127, 128, 129, 130, 131, 132, 133, 134, 135, 136, 137, 138, 139, 140, 141, 142, 143, 144, 145, 146, 147, 148, 149, 150, 151, 152, 153, 154, 155, 156, 157, 158, 159, 160, 161, 162, 163, 191, 194, 195, 196, 197, 192, 193] (by decide +kernel) (by decide +kernel)
set_option maxRecDepth 20000 in
theorem gX9_line_X4_init : GoodIn wsX9_line (wsX4_init) := ggX9_line_X4_init
set_option maxRecDepth 20000 in
theorem ggX9_line_X7_addLine : GoodIn wsX9_line wsX7_addLine := goodIn_r _ [168, 169, 170, 180, 181, 182, 183, 184, 185, 186, 187, 188, 189, 190] (by decide +kernel) (by decide +kernel)
set_option maxRecDepth 20000 in
theorem gX9_line_X7_addLine : GoodIn wsX9_line (wsV RX9 94 RX7 yX7_addLine wsX7_addLine) := goodIn_app (goodIn_of _ (by decide +kernel)) ggX9_line_X7_addLine
theorem dX9_line_0 : decode cX9_line 0 = .ok (.aload_n 0, 1) := by decide +kernel
theorem dX9_line_1 : decode cX9_line 1 = .ok (.getfield 33, 3) := by decide +kernel
theorem dX9_line_4 : decode cX9_line 4 = .ok (.getfield 80, 3) := by decide +kernel
theorem dX9_line_7 : decode cX9_line 7 = .ok (.ifCond .ne 6, 3) := by decide +kernel
theorem dX9_line_10 : decode cX9_line 10 = .ok (.bipush (-3), 2) := by decide +kernel
theorem dX9_line_12 : decode cX9_line 12 = .ok (.ireturn, 1) := by decide +kernel
theorem dX9_line_13 : decode cX9_line 13 = .ok (.aload_n 0, 1) := by decide +kernel
theorem dX9_line_14 : decode cX9_line 14 = .ok (.getfield 33, 3) := by decide +kernel
theorem dX9_line_17 : decode cX9_line 17 = .ok (.getfield 83, 3) := by decide +kernel
theorem dX9_line_20 : decode cX9_line 20 = .ok (.bipush 24, 2) := by decide +kernel
theorem dX9_line_22 : decode cX9_line 22 = .ok (.if_icmp .lt 6, 3) := by decide +kernel
theorem dX9_line_25 : decode cX9_line 25 = .ok (.bipush (-4), 2) := by decide +kernel
theorem dX9_line_27 : decode cX9_line 27 = .ok (.ireturn, 1) := by decide +kernel
theorem dX9_line_28 : decode cX9_line 28 = .ok (.aload_n 0, 1) := by decide +kernel
theorem dX9_line_29 : decode cX9_line 29 = .ok (.getfield 16, 3) := by decide +kernel
theorem dX9_line_32 : decode cX9_line 32 = .ok (.invokestatic 86, 3) := by decide +kernel
theorem dX9_line_35 : decode cX9_line 35 = .ok (.istore_n 1, 1) := by decide +kernel
theorem dX9_line_36 : decode cX9_line 36 = .ok (.iload_n 1, 1) := by decide +kernel
theorem dX9_line_37 : decode cX9_line 37 = .ok (.iconst (-1), 1) := by decide +kernel
theorem dX9_line_38 : decode cX9_line 38 = .ok (.if_icmp .eq 15, 3) := by decide +kernel
theorem dX9_line_41 : decode cX9_line 41 = .ok (.aload_n 0, 1) := by decide +kernel
theorem dX9_line_42 : decode cX9_line 42 = .ok (.getfield 16, 3) := by decide +kernel
theorem dX9_line_45 : decode cX9_line 45 = .ok (.invokevirtual 73, 3) := by decide +kernel
theorem dX9_line_48 : decode cX9_line 48 = .ok (.bipush (-10), 2) := by decide +kernel
theorem dX9_line_50 : decode cX9_line 50 = .ok (.iload_n 1, 1) := by decide +kernel
theorem dX9_line_51 : decode cX9_line 51 = .ok (.isub, 1) := by decide +kernel
theorem dX9_line_52 : decode cX9_line 52 = .ok (.ireturn, 1) := by decide +kernel
theorem dX9_line_53 : decode cX9_line 53 = .ok (.aload_n 0, 1) := by decide +kernel
theorem dX9_line_54 : decode cX9_line 54 = .ok (.getfield 33, 3) := by decide +kernel
theorem dX9_line_57 : decode cX9_line 57 = .ok (.new 89, 3) := by decide +kernel
theorem dX9_line_60 : decode cX9_line 60 = .ok (.dup, 1) := by decide +kernel
theorem dX9_line_61 : decode cX9_line 61 = .ok (.aload_n 0, 1) := by decide +kernel
theorem dX9_line_62 : decode cX9_line 62 = .ok (.getfield 16, 3) := by decide +kernel
theorem dX9_line_65 : decode cX9_line 65 = .ok (.invokespecial 91, 3) := by decide +kernel
theorem dX9_line_68 : decode cX9_line 68 = .ok (.invokevirtual 94, 3) := by decide +kernel
theorem dX9_line_71 : decode cX9_line 71 = .ok (.aload_n 0, 1) := by decide +kernel
theorem dX9_line_72 : decode cX9_line 72 = .ok (.getfield 16, 3) := by decide +kernel
theorem dX9_line_75 : decode cX9_line 75 = .ok (.invokevirtual 73, 3) := by decide +kernel
theorem dX9_line_78 : decode cX9_line 78 = .ok (.aload_n 0, 1) := by decide +kernel
theorem dX9_line_79 : decode cX9_line 79 = .ok (.getfield 33, 3) := by decide +kernel
theorem dX9_line_82 : decode cX9_line 82 = .ok (.getfield 83, 3) := by decide +kernel
theorem dX9_line_85 : decode cX9_line 85 = .ok (.iconst 1, 1) := by decide +kernel
theorem dX9_line_86 : decode cX9_line 86 = .ok (.isub, 1) := by decide +kernel
theorem dX9_line_87 : decode cX9_line 87 = .ok (.ireturn, 1) := by decide +kernel
theorem dX9_sample_0 : decode cX9_sample 0 = .ok (.iload_n 1, 1) := by decide +kernel
theorem dX9_sample_1 : decode cX9_sample 1 = .ok (.iconst 1, 1) := by decide +kernel
theorem dX9_sample_2 : decode cX9_sample 2 = .ok (.if_icmp .lt 9, 3) := by decide +kernel
theorem dX9_sample_5 : decode cX9_sample 5 = .ok (.iload_n 1, 1) := by decide +kernel
theorem dX9_sample_6 : decode cX9_sample 6 = .ok (.bipush 24, 2) := by decide +kernel
theorem dX9_sample_8 : decode cX9_sample 8 = .ok (.if_icmp .le 6, 3) := by decide +kernel
theorem dX9_sample_11 : decode cX9_sample 11 = .ok (.bipush (-2), 2) := by decide +kernel
theorem dX9_sample_13 : decode cX9_sample 13 = .ok (.ireturn, 1) := by decide +kernel
theorem dX9_sample_14 : decode cX9_sample 14 = .ok (.aload_n 0, 1) := by decide +kernel
theorem dX9_sample_15 : decode cX9_sample 15 = .ok (.getfield 33, 3) := by decide +kernel
theorem dX9_sample_18 : decode cX9_sample 18 = .ok (.getfield 98, 3) := by decide +kernel
theorem dX9_sample_21 : decode cX9_sample 21 = .ok (.istore_n 2, 1) := by decide +kernel
theorem dX9_sample_22 : decode cX9_sample 22 = .ok (.aload_n 0, 1) := by decide +kernel
theorem dX9_sample_23 : decode cX9_sample 23 = .ok (.getfield 33, 3) := by decide +kernel
theorem dX9_sample_26 : decode cX9_sample 26 = .ok (.iload_n 1, 1) := by decide +kernel
theorem dX9_sample_27 : decode cX9_sample 27 = .ok (.putfield 98, 3) := by decide +kernel
theorem dX9_sample_30 : decode cX9_sample 30 = .ok (.iload_n 2, 1) := by decide +kernel
theorem dX9_sample_31 : decode cX9_sample 31 = .ok (.ireturn, 1) := by decide +kernel
set_option maxRecDepth 20000 in
theorem ggX9_type_X7_hasColumn : GoodIn wsX9_type wsX7_hasColumn := goodIn_r _ [7, 8, 18, 19, 20, 21, 22, 23, 24, 25, 26, 27, 28] (by decide +kernel) (by decide +kernel)
set_option maxRecDepth 20000 in
theorem gX9_type_X7_hasColumn : GoodIn wsX9_type (wsV RX9 101 RX7 yX7_hasColumn wsX7_hasColumn) := goodIn_app (goodIn_of _ (by decide +kernel)) ggX9_type_X7_hasColumn
theorem dX9_type_0 : decode cX9_type 0 = .ok (.aload_n 0, 1) := by decide +kernel
theorem dX9_type_1 : decode cX9_type 1 = .ok (.getfield 33, 3) := by decide +kernel
theorem dX9_type_4 : decode cX9_type 4 = .ok (.iload_n 1, 1) := by decide +kernel
theorem dX9_type_5 : decode cX9_type 5 = .ok (.invokevirtual 101, 3) := by decide +kernel
theorem dX9_type_8 : decode cX9_type 8 = .ok (.ifCond .ne 5, 3) := by decide +kernel
theorem dX9_type_11 : decode cX9_type 11 = .ok (.iconst (-1), 1) := by decide +kernel
theorem dX9_type_12 : decode cX9_type 12 = .ok (.ireturn, 1) := by decide +kernel
theorem dX9_type_13 : decode cX9_type 13 = .ok (.iload_n 2, 1) := by decide +kernel
theorem dX9_type_14 : decode cX9_type 14 = .ok (.ifCond .lt 8, 3) := by decide +kernel
theorem dX9_type_17 : decode cX9_type 17 = .ok (.iload_n 2, 1) := by decide +kernel
theorem dX9_type_18 : decode cX9_type 18 = .ok (.iconst 4, 1) := by decide +kernel
theorem dX9_type_19 : decode cX9_type 19 = .ok (.if_icmp .le 6, 3) := by decide +kernel
theorem dX9_type_22 : decode cX9_type 22 = .ok (.bipush (-2), 2) := by decide +kernel
theorem dX9_type_24 : decode cX9_type 24 = .ok (.ireturn, 1) := by decide +kernel
theorem dX9_type_25 : decode cX9_type 25 = .ok (.aload_n 0, 1) := by decide +kernel
theorem dX9_type_26 : decode cX9_type 26 = .ok (.getfield 33, 3) := by decide +kernel
theorem dX9_type_29 : decode cX9_type 29 = .ok (.getfield 105, 3) := by decide +kernel
theorem dX9_type_32 : decode cX9_type 32 = .ok (.iload_n 1, 1) := by decide +kernel
theorem dX9_type_33 : decode cX9_type 33 = .ok (.iaload, 1) := by decide +kernel
theorem dX9_type_34 : decode cX9_type 34 = .ok (.istore_n 3, 1) := by decide +kernel
theorem dX9_type_35 : decode cX9_type 35 = .ok (.aload_n 0, 1) := by decide +kernel
theorem dX9_type_36 : decode cX9_type 36 = .ok (.getfield 33, 3) := by decide +kernel
theorem dX9_type_39 : decode cX9_type 39 = .ok (.getfield 105, 3) := by decide +kernel
theorem dX9_type_42 : decode cX9_type 42 = .ok (.iload_n 1, 1) := by decide +kernel
theorem dX9_type_43 : decode cX9_type 43 = .ok (.iload_n 2, 1) := by decide +kernel
theorem dX9_type_44 : decode cX9_type 44 = .ok (.iastore, 1) := by decide +kernel
theorem dX9_type_45 : decode cX9_type 45 = .ok (.iload_n 3, 1) := by decide +kernel
theorem dX9_type_46 : decode cX9_type 46 = .ok (.ireturn, 1) := by decide +kernel
set_option maxRecDepth 20000 in
theorem ggX9_key_X7_hasColumn : GoodIn wsX9_key wsX7_hasColumn := goodIn_r _ [9, 10, 25, 26, 27, 28, 29, 30, 31, 32, 33, 34, 35] (by decide +kernel) (by decide +kernel)
set_option maxRecDepth 20000 in
theorem gX9_key_X7_hasColumn : GoodIn wsX9_key (wsV RX9 101 RX7 yX7_hasColumn wsX7_hasColumn) := goodIn_app (goodIn_of _ (by decide +kernel)) ggX9_key_X7_hasColumn
set_option maxRecDepth 20000 in
theorem ggX9_key_X9_keyOrAbsent : GoodIn wsX9_key wsX9_keyOrAbsent := goodIn_r _ [15, 1, 2, 4, 16, 17, 18, 19, 20, 21, 22, 23, 24, 25, 26, 27, 28, 29, 30, 31, 32, 33, 34, 35, 36, 37, 38, 39, 40, 41, 42, 43, 44] (by decide +kernel) (by decide +kernel)
set_option maxRecDepth 20000 in
theorem gX9_key_X9_keyOrAbsent : GoodIn wsX9_key (wsV RX9 115 RX9 yX9_keyOrAbsent wsX9_keyOrAbsent) := goodIn_app (goodIn_of _ (by decide +kernel)) ggX9_key_X9_keyOrAbsent
theorem dX9_key_0 : decode cX9_key 0 = .ok (.iload_n 1, 1) := by decide +kernel
theorem dX9_key_1 : decode cX9_key 1 = .ok (.iconst (-1), 1) := by decide +kernel
theorem dX9_key_2 : decode cX9_key 2 = .ok (.if_icmp .eq 16, 3) := by decide +kernel
theorem dX9_key_5 : decode cX9_key 5 = .ok (.aload_n 0, 1) := by decide +kernel
theorem dX9_key_6 : decode cX9_key 6 = .ok (.getfield 33, 3) := by decide +kernel
theorem dX9_key_9 : decode cX9_key 9 = .ok (.iload_n 1, 1) := by decide +kernel
theorem dX9_key_10 : decode cX9_key 10 = .ok (.invokevirtual 101, 3) := by decide +kernel
theorem dX9_key_13 : decode cX9_key 13 = .ok (.ifCond .ne 5, 3) := by decide +kernel
theorem dX9_key_16 : decode cX9_key 16 = .ok (.iconst (-1), 1) := by decide +kernel
theorem dX9_key_17 : decode cX9_key 17 = .ok (.ireturn, 1) := by decide +kernel
theorem dX9_key_18 : decode cX9_key 18 = .ok (.aload_n 0, 1) := by decide +kernel
theorem dX9_key_19 : decode cX9_key 19 = .ok (.getfield 33, 3) := by decide +kernel
theorem dX9_key_22 : decode cX9_key 22 = .ok (.getfield 109, 3) := by decide +kernel
theorem dX9_key_25 : decode cX9_key 25 = .ok (.getfield 112, 3) := by decide +kernel
theorem dX9_key_28 : decode cX9_key 28 = .ok (.ifCond .le 6, 3) := by decide +kernel
theorem dX9_key_31 : decode cX9_key 31 = .ok (.bipush (-3), 2) := by decide +kernel
theorem dX9_key_33 : decode cX9_key 33 = .ok (.ireturn, 1) := by decide +kernel
theorem dX9_key_34 : decode cX9_key 34 = .ok (.aload_n 0, 1) := by decide +kernel
theorem dX9_key_35 : decode cX9_key 35 = .ok (.invokevirtual 115, 3) := by decide +kernel
theorem dX9_key_38 : decode cX9_key 38 = .ok (.istore_n 2, 1) := by decide +kernel
theorem dX9_key_39 : decode cX9_key 39 = .ok (.aload_n 0, 1) := by decide +kernel
theorem dX9_key_40 : decode cX9_key 40 = .ok (.getfield 33, 3) := by decide +kernel
theorem dX9_key_43 : decode cX9_key 43 = .ok (.getfield 109, 3) := by decide +kernel
theorem dX9_key_46 : decode cX9_key 46 = .ok (.iload_n 1, 1) := by decide +kernel
theorem dX9_key_47 : decode cX9_key 47 = .ok (.putfield 119, 3) := by decide +kernel
theorem dX9_key_50 : decode cX9_key 50 = .ok (.iload_n 2, 1) := by decide +kernel
theorem dX9_key_51 : decode cX9_key 51 = .ok (.ireturn, 1) := by decide +kernel
set_option maxRecDepth 20000 in
theorem ggX9_column_X7_hasColumn : GoodIn wsX9_column wsX7_hasColumn := goodIn_r _ [11, 12, 62, 63, 64, 65, 66, 67, 68, 69, 70, 71, 72] (by decide +kernel) (by decide +kernel)
set_option maxRecDepth 20000 in
theorem gX9_column_X7_hasColumn : GoodIn wsX9_column (wsV RX9 101 RX7 yX7_hasColumn wsX7_hasColumn) := goodIn_app (goodIn_of _ (by decide +kernel)) ggX9_column_X7_hasColumn
set_option maxRecDepth 20000 in
theorem ggX9_column_X7_typeOf : GoodIn wsX9_column wsX7_typeOf := goodIn_r _ [16, 17, 18, 19, 20, 8, 9, 10, 11, 12, 21, 22, 23, 24, 25, 26, 27, 28, 29, 30, 31, 32, 33, 34, 35, 36, 37, 38, 39, 40, 41, 42, 43, 44, 45, 46, 47, 48, 49, 50, 51, 62, 63, 64, 65, 66, 67, 68, 69, 70, 71, 72, 73, 74, 75, 76, 77, 78, 79, 80, 81, 82, 83, 84, 85, 86] (by decide +kernel) (by decide +kernel)
set_option maxRecDepth 20000 in
theorem gX9_column_X7_typeOf : GoodIn wsX9_column (wsV RX9 122 RX7 yX7_typeOf wsX7_typeOf) := goodIn_app (goodIn_of _ (by decide +kernel)) ggX9_column_X7_typeOf
set_option maxRecDepth 20000 in
theorem ggX9_column_X7_guessBy : GoodIn wsX9_column wsX7_guessBy := goodIn_r _ [29, 30, 31, 32, 33, 10, 34, 35, 36, 37, 38, 39, 40, 41, 42, 43, 44, 45, 46, 47, 48, 49, 50, 51, 62, 63, 64, 65, 66, 67, 68, 69, 70, 71, 72, 82, 83, 84, 85, 86] (by decide +kernel) (by decide +kernel)
set_option maxRecDepth 20000 in
theorem gX9_column_X7_guessBy : GoodIn wsX9_column (wsV RX9 126 RX7 yX7_guessBy wsX7_guessBy) := goodIn_app (goodIn_of _ (by decide +kernel)) ggX9_column_X7_guessBy
theorem dX9_column_0 : decode cX9_column 0 = .ok (.aload_n 0, 1) := by decide +kernel
theorem dX9_column_1 : decode cX9_column 1 = .ok (.getfield 33, 3) := by decide +kernel
theorem dX9_column_4 : decode cX9_column 4 = .ok (.iload_n 1, 1) := by decide +kernel
theorem dX9_column_5 : decode cX9_column 5 = .ok (.invokevirtual 101, 3) := by decide +kernel
theorem dX9_column_8 : decode cX9_column 8 = .ok (.ifCond .ne 5, 3) := by decide +kernel
theorem dX9_column_11 : decode cX9_column 11 = .ok (.iconst (-1), 1) := by decide +kernel
theorem dX9_column_12 : decode cX9_column 12 = .ok (.ireturn, 1) := by decide +kernel
theorem dX9_column_13 : decode cX9_column 13 = .ok (.iload_n 2, 1) := by decide +kernel
theorem dX9_column_14 : decode cX9_column 14 = .ok (.tableswitch 92 0 4 #[34, 43, 59, 69, 82], 34) := by decide +kernel
theorem dX9_column_48 : decode cX9_column 48 = .ok (.aload_n 0, 1) := by decide +kernel
theorem dX9_column_49 : decode cX9_column 49 = .ok (.getfield 33, 3) := by decide +kernel
theorem dX9_column_52 : decode cX9_column 52 = .ok (.iload_n 1, 1) := by decide +kernel
theorem dX9_column_53 : decode cX9_column 53 = .ok (.invokevirtual 122, 3) := by decide +kernel
theorem dX9_column_56 : decode cX9_column 56 = .ok (.ireturn, 1) := by decide +kernel
theorem dX9_column_57 : decode cX9_column 57 = .ok (.aload_n 0, 1) := by decide +kernel
theorem dX9_column_58 : decode cX9_column 58 = .ok (.getfield 33, 3) := by decide +kernel
theorem dX9_column_61 : decode cX9_column 61 = .ok (.iload_n 1, 1) := by decide +kernel
theorem dX9_column_62 : decode cX9_column 62 = .ok (.aload_n 0, 1) := by decide +kernel
theorem dX9_column_63 : decode cX9_column 63 = .ok (.getfield 33, 3) := by decide +kernel
theorem dX9_column_66 : decode cX9_column 66 = .ok (.getfield 98, 3) := by decide +kernel
theorem dX9_column_69 : decode cX9_column 69 = .ok (.invokevirtual 126, 3) := by decide +kernel
theorem dX9_column_72 : decode cX9_column 72 = .ok (.ireturn, 1) := by decide +kernel
theorem dX9_column_73 : decode cX9_column 73 = .ok (.aload_n 0, 1) := by decide +kernel
theorem dX9_column_74 : decode cX9_column 74 = .ok (.getfield 33, 3) := by decide +kernel
theorem dX9_column_77 : decode cX9_column 77 = .ok (.getfield 105, 3) := by decide +kernel
theorem dX9_column_80 : decode cX9_column 80 = .ok (.iload_n 1, 1) := by decide +kernel
theorem dX9_column_81 : decode cX9_column 81 = .ok (.iaload, 1) := by decide +kernel
theorem dX9_column_82 : decode cX9_column 82 = .ok (.ireturn, 1) := by decide +kernel
theorem dX9_column_83 : decode cX9_column 83 = .ok (.aload_n 0, 1) := by decide +kernel
theorem dX9_column_84 : decode cX9_column 84 = .ok (.getfield 33, 3) := by decide +kernel
theorem dX9_column_87 : decode cX9_column 87 = .ok (.getfield 109, 3) := by decide +kernel
theorem dX9_column_90 : decode cX9_column 90 = .ok (.getfield 130, 3) := by decide +kernel
theorem dX9_column_93 : decode cX9_column 93 = .ok (.iload_n 1, 1) := by decide +kernel
theorem dX9_column_94 : decode cX9_column 94 = .ok (.iaload, 1) := by decide +kernel
theorem dX9_column_95 : decode cX9_column 95 = .ok (.ireturn, 1) := by decide +kernel
theorem dX9_column_96 : decode cX9_column 96 = .ok (.aload_n 0, 1) := by decide +kernel
theorem dX9_column_97 : decode cX9_column 97 = .ok (.getfield 33, 3) := by decide +kernel
theorem dX9_column_100 : decode cX9_column 100 = .ok (.getfield 133, 3) := by decide +kernel
theorem dX9_column_103 : decode cX9_column 103 = .ok (.iload_n 1, 1) := by decide +kernel
theorem dX9_column_104 : decode cX9_column 104 = .ok (.iaload, 1) := by decide +kernel
theorem dX9_column_105 : decode cX9_column 105 = .ok (.ireturn, 1) := by decide +kernel
theorem dX9_column_106 : decode cX9_column 106 = .ok (.iconst (-1), 1) := by decide +kernel
theorem dX9_column_107 : decode cX9_column 107 = .ok (.ireturn, 1) := by decide +kernel
set_option maxRecDepth 20000 in
theorem ggX9_of_X7_lineAt : GoodIn wsX9_of wsX7_lineAt := goodIn_r _ [9, 10, 11, 40, 41, 42, 43, 44, 45, 46, 47, 48, 49, 50] (by decide +kernel) (by decide +kernel)
set_option maxRecDepth 20000 in
theorem gX9_of_X7_lineAt : GoodIn wsX9_of (wsV RX9 136 RX7 yX7_lineAt wsX7_lineAt) := goodIn_app (goodIn_of _ (by decide +kernel)) ggX9_of_X7_lineAt
set_option maxRecDepth 20000 in
theorem ggX9_of_X5_isImported : GoodIn wsX9_of wsX5_isImported := goodIn_r _ [16, 17, 55, 56, 57, 58, 59, 60, 61, 62, 63] (by decide +kernel) (by decide +kernel)
set_option maxRecDepth 20000 in
theorem gX9_of_X5_isImported : GoodIn wsX9_of (wsV RX9 144 RX5 yX5_isImported wsX5_isImported) := goodIn_app (goodIn_of _ (by decide +kernel)) ggX9_of_X5_isImported
set_option maxRecDepth 20000 in
theorem ggX9_of_X5_rowOf : GoodIn wsX9_of wsX5_rowOf := goodIn_r _ [21, 22, 23, 13, 14, 15, 16, 17, 55, 56, 57, 58, 59, 60, 61, 62, 63] (by decide +kernel) (by decide +kernel)
set_option maxRecDepth 20000 in
theorem gX9_of_X5_rowOf : GoodIn wsX9_of (wsV RX9 147 RX5 yX5_rowOf wsX5_rowOf) := goodIn_app (goodIn_of _ (by decide +kernel)) ggX9_of_X5_rowOf
set_option maxRecDepth 20000 in
theorem ggX9_of_X4_fieldAt : GoodIn wsX9_of wsX4_fieldAt := goodIn_r _ [28, 29, 39] (by decide +kernel) (by decide +kernel)
set_option maxRecDepth 20000 in
theorem gX9_of_X4_fieldAt : GoodIn wsX9_of (wsV RX9 150 RX4 yX4_fieldAt wsX4_fieldAt) := goodIn_app (goodIn_of _ (by decide +kernel)) ggX9_of_X4_fieldAt
theorem dX9_of_0 : decode cX9_of 0 = .ok (.aload_n 0, 1) := by decide +kernel
theorem dX9_of_1 : decode cX9_of 1 = .ok (.getfield 33, 3) := by decide +kernel
theorem dX9_of_4 : decode cX9_of 4 = .ok (.iload_n 1, 1) := by decide +kernel
theorem dX9_of_5 : decode cX9_of 5 = .ok (.invokevirtual 136, 3) := by decide +kernel
theorem dX9_of_8 : decode cX9_of 8 = .ok (.astore_n 3, 1) := by decide +kernel
theorem dX9_of_9 : decode cX9_of 9 = .ok (.aload_n 3, 1) := by decide +kernel
theorem dX9_of_10 : decode cX9_of 10 = .ok (.ifnull 7, 3) := by decide +kernel
theorem dX9_of_13 : decode cX9_of 13 = .ok (.iload_n 2, 1) := by decide +kernel
theorem dX9_of_14 : decode cX9_of 14 = .ok (.ifCond .ge 5, 3) := by decide +kernel
theorem dX9_of_17 : decode cX9_of 17 = .ok (.iconst (-1), 1) := by decide +kernel
theorem dX9_of_18 : decode cX9_of 18 = .ok (.ireturn, 1) := by decide +kernel
theorem dX9_of_19 : decode cX9_of 19 = .ok (.iload_n 2, 1) := by decide +kernel
theorem dX9_of_20 : decode cX9_of 20 = .ok (.tableswitch 66 0 2 #[28, 34, 54], 28) := by decide +kernel
theorem dX9_of_48 : decode cX9_of 48 = .ok (.aload_n 3, 1) := by decide +kernel
theorem dX9_of_49 : decode cX9_of 49 = .ok (.getfield 140, 3) := by decide +kernel
theorem dX9_of_52 : decode cX9_of 52 = .ok (.arraylength, 1) := by decide +kernel
theorem dX9_of_53 : decode cX9_of 53 = .ok (.ireturn, 1) := by decide +kernel
theorem dX9_of_54 : decode cX9_of 54 = .ok (.aload_n 0, 1) := by decide +kernel
theorem dX9_of_55 : decode cX9_of 55 = .ok (.getfield 33, 3) := by decide +kernel
theorem dX9_of_58 : decode cX9_of 58 = .ok (.getfield 109, 3) := by decide +kernel
theorem dX9_of_61 : decode cX9_of 61 = .ok (.iload_n 1, 1) := by decide +kernel
theorem dX9_of_62 : decode cX9_of 62 = .ok (.invokevirtual 144, 3) := by decide +kernel
theorem dX9_of_65 : decode cX9_of 65 = .ok (.ifCond .eq 7, 3) := by decide +kernel
theorem dX9_of_68 : decode cX9_of 68 = .ok (.iconst 1, 1) := by decide +kernel
theorem dX9_of_69 : decode cX9_of 69 = .ok (.goto 4, 3) := by decide +kernel
theorem dX9_of_72 : decode cX9_of 72 = .ok (.iconst 0, 1) := by decide +kernel
theorem dX9_of_73 : decode cX9_of 73 = .ok (.ireturn, 1) := by decide +kernel
theorem dX9_of_74 : decode cX9_of 74 = .ok (.aload_n 0, 1) := by decide +kernel
theorem dX9_of_75 : decode cX9_of 75 = .ok (.getfield 33, 3) := by decide +kernel
theorem dX9_of_78 : decode cX9_of 78 = .ok (.getfield 109, 3) := by decide +kernel
theorem dX9_of_81 : decode cX9_of 81 = .ok (.iload_n 1, 1) := by decide +kernel
theorem dX9_of_82 : decode cX9_of 82 = .ok (.invokevirtual 147, 3) := by decide +kernel
theorem dX9_of_85 : decode cX9_of 85 = .ok (.ireturn, 1) := by decide +kernel
theorem dX9_of_86 : decode cX9_of 86 = .ok (.aload_n 3, 1) := by decide +kernel
theorem dX9_of_87 : decode cX9_of 87 = .ok (.iload_n 2, 1) := by decide +kernel
theorem dX9_of_88 : decode cX9_of 88 = .ok (.iconst 3, 1) := by decide +kernel
theorem dX9_of_89 : decode cX9_of 89 = .ok (.isub, 1) := by decide +kernel
theorem dX9_of_90 : decode cX9_of 90 = .ok (.invokevirtual 150, 3) := by decide +kernel
theorem dX9_of_93 : decode cX9_of 93 = .ok (.astore 4, 2) := by decide +kernel
theorem dX9_of_95 : decode cX9_of 95 = .ok (.aload 4, 2) := by decide +kernel
theorem dX9_of_97 : decode cX9_of 97 = .ok (.ifnonnull 8, 3) := by decide +kernel
theorem dX9_of_100 : decode cX9_of 100 = .ok (.bipush (-5), 2) := by decide +kernel
theorem dX9_of_102 : decode cX9_of 102 = .ok (.goto 8, 3) := by decide +kernel
theorem dX9_of_105 : decode cX9_of 105 = .ok (.aload 4, 2) := by decide +kernel
theorem dX9_of_107 : decode cX9_of 107 = .ok (.getfield 154, 3) := by decide +kernel
theorem dX9_of_110 : decode cX9_of 110 = .ok (.ireturn, 1) := by decide +kernel
set_option maxRecDepth 20000 in
theorem ggX9_votes_X7_hasColumn : GoodIn wsX9_votes wsX7_hasColumn := goodIn_r _ [7, 8, 44, 45, 46, 47, 48, 49, 50, 51, 52, 53, 54] (by decide +kernel) (by decide +kernel)
set_option maxRecDepth 20000 in
theorem gX9_votes_X7_hasColumn : GoodIn wsX9_votes (wsV RX9 101 RX7 yX7_hasColumn wsX7_hasColumn) := goodIn_app (goodIn_of _ (by decide +kernel)) ggX9_votes_X7_hasColumn
set_option maxRecDepth 20000 in
theorem ggX9_votes_X7_votesFor : GoodIn wsX9_votes wsX7_votesFor := goodIn_r _ [12, 13, 14, 15, 16, 6, 17, 18, 19, 20, 21, 22, 23, 24, 25, 26, 27, 28, 29, 30, 31, 32, 33, 34, 44, 45, 46, 47, 48, 49, 50, 51, 52, 53, 54, 55, 56, 57, 58, 59] (by decide +kernel) (by decide +kernel)
set_option maxRecDepth 20000 in
theorem gX9_votes_X7_votesFor : GoodIn wsX9_votes (wsV RX9 159 RX7 yX7_votesFor wsX7_votesFor) := goodIn_app (goodIn_of _ (by decide +kernel)) ggX9_votes_X7_votesFor
theorem dX9_votes_0 : decode cX9_votes 0 = .ok (.aload_n 0, 1) := by decide +kernel
theorem dX9_votes_1 : decode cX9_votes 1 = .ok (.getfield 33, 3) := by decide +kernel
theorem dX9_votes_4 : decode cX9_votes 4 = .ok (.iload_n 1, 1) := by decide +kernel
theorem dX9_votes_5 : decode cX9_votes 5 = .ok (.invokevirtual 101, 3) := by decide +kernel
theorem dX9_votes_8 : decode cX9_votes 8 = .ok (.ifCond .eq 12, 3) := by decide +kernel
theorem dX9_votes_11 : decode cX9_votes 11 = .ok (.iload_n 2, 1) := by decide +kernel
theorem dX9_votes_12 : decode cX9_votes 12 = .ok (.ifCond .lt 8, 3) := by decide +kernel
theorem dX9_votes_15 : decode cX9_votes 15 = .ok (.iload_n 2, 1) := by decide +kernel
theorem dX9_votes_16 : decode cX9_votes 16 = .ok (.iconst 4, 1) := by decide +kernel
theorem dX9_votes_17 : decode cX9_votes 17 = .ok (.if_icmp .le 5, 3) := by decide +kernel
theorem dX9_votes_20 : decode cX9_votes 20 = .ok (.iconst (-1), 1) := by decide +kernel
theorem dX9_votes_21 : decode cX9_votes 21 = .ok (.ireturn, 1) := by decide +kernel
theorem dX9_votes_22 : decode cX9_votes 22 = .ok (.aload_n 0, 1) := by decide +kernel
theorem dX9_votes_23 : decode cX9_votes 23 = .ok (.getfield 33, 3) := by decide +kernel
theorem dX9_votes_26 : decode cX9_votes 26 = .ok (.iload_n 1, 1) := by decide +kernel
theorem dX9_votes_27 : decode cX9_votes 27 = .ok (.iload_n 2, 1) := by decide +kernel
theorem dX9_votes_28 : decode cX9_votes 28 = .ok (.aload_n 0, 1) := by decide +kernel
theorem dX9_votes_29 : decode cX9_votes 29 = .ok (.getfield 33, 3) := by decide +kernel
theorem dX9_votes_32 : decode cX9_votes 32 = .ok (.getfield 98, 3) := by decide +kernel
theorem dX9_votes_35 : decode cX9_votes 35 = .ok (.invokevirtual 159, 3) := by decide +kernel
theorem dX9_votes_38 : decode cX9_votes 38 = .ok (.ireturn, 1) := by decide +kernel
set_option maxRecDepth 20000 in
theorem ggX9_run_X7_importLines : GoodIn wsX9_run wsX7_importLines := goodIn_r _ [7, 8, 9, 10, 11, 12, 13, 6, 14, 15, 16, 17, 18, 19, 20, 21, 22, 23, 24, 25, 26, 27, 28, 29, 30, 31, 32, 33, 34, 35, 36, 37, 38, 39, 40, 41, 42, 43, 44, 45, 46, 47, 48, 49, 50, 51, 52, 53, 54, 55, 56, 57, 58, 59, 60, 61, 62, 63, 64, 65, 66, 67, 68, 69, 70, 71, 72, 73, 74, 75, 76, 77, 78, 79, 80, 81, 82, 83, 84, 85, 86, 87, 88, 89, 90, 91, 92, 93, 94, 95, 96, 97, 98, 99, 100, 101, 102, 123, 124, 125, 126, 127, 128, 129, 130, 131, 112, 113, 114, 115, 116, 117, 118, 119, 120, 121, 122, 132, 133, 134, 135, 136] (by decide +kernel) (by decide +kernel)
set_option maxRecDepth 20000 in
theorem gX9_run_X7_importLines : GoodIn wsX9_run (wsV RX9 163 RX7 yX7_importLines wsX7_importLines) := goodIn_app (goodIn_of _ (by decide +kernel)) ggX9_run_X7_importLines
theorem dX9_run_0 : decode cX9_run 0 = .ok (.iload_n 1, 1) := by decide +kernel
theorem dX9_run_1 : decode cX9_run 1 = .ok (.ifCond .lt 9, 3) := by decide +kernel
theorem dX9_run_4 : decode cX9_run 4 = .ok (.iload_n 1, 1) := by decide +kernel
theorem dX9_run_5 : decode cX9_run 5 = .ok (.bipush 24, 2) := by decide +kernel
theorem dX9_run_7 : decode cX9_run 7 = .ok (.if_icmp .le 6, 3) := by decide +kernel
theorem dX9_run_10 : decode cX9_run 10 = .ok (.bipush (-2), 2) := by decide +kernel
theorem dX9_run_12 : decode cX9_run 12 = .ok (.ireturn, 1) := by decide +kernel
theorem dX9_run_13 : decode cX9_run 13 = .ok (.aload_n 0, 1) := by decide +kernel
theorem dX9_run_14 : decode cX9_run 14 = .ok (.getfield 33, 3) := by decide +kernel
theorem dX9_run_17 : decode cX9_run 17 = .ok (.aload_n 0, 1) := by decide +kernel
theorem dX9_run_18 : decode cX9_run 18 = .ok (.getfield 33, 3) := by decide +kernel
theorem dX9_run_21 : decode cX9_run 21 = .ok (.getfield 109, 3) := by decide +kernel
theorem dX9_run_24 : decode cX9_run 24 = .ok (.iload_n 1, 1) := by decide +kernel
theorem dX9_run_25 : decode cX9_run 25 = .ok (.invokevirtual 163, 3) := by decide +kernel
theorem dX9_run_28 : decode cX9_run 28 = .ok (.ireturn, 1) := by decide +kernel
set_option maxRecDepth 20000 in
theorem ggX9_reset_X5_restart : GoodIn wsX9_reset wsX5_restart := goodIn_r _ [8, 9, 10, 11, 12, 13, 14, 15, 36, 37, 38, 39, 40, 41, 42, 43, 44] (by decide +kernel) (by decide +kernel)
set_option maxRecDepth 20000 in
theorem gX9_reset_X5_restart : GoodIn wsX9_reset (wsV RX9 167 RX5 yX5_restart wsX5_restart) := goodIn_app (goodIn_of _ (by decide +kernel)) ggX9_reset_X5_restart
theorem dX9_reset_0 : decode cX9_reset 0 = .ok (.aload_n 0, 1) := by decide +kernel
theorem dX9_reset_1 : decode cX9_reset 1 = .ok (.getfield 33, 3) := by decide +kernel
theorem dX9_reset_4 : decode cX9_reset 4 = .ok (.getfield 109, 3) := by decide +kernel
theorem dX9_reset_7 : decode cX9_reset 7 = .ok (.getfield 112, 3) := by decide +kernel
theorem dX9_reset_10 : decode cX9_reset 10 = .ok (.istore_n 1, 1) := by decide +kernel
theorem dX9_reset_11 : decode cX9_reset 11 = .ok (.aload_n 0, 1) := by decide +kernel
theorem dX9_reset_12 : decode cX9_reset 12 = .ok (.getfield 33, 3) := by decide +kernel
theorem dX9_reset_15 : decode cX9_reset 15 = .ok (.getfield 109, 3) := by decide +kernel
theorem dX9_reset_18 : decode cX9_reset 18 = .ok (.invokevirtual 167, 3) := by decide +kernel
theorem dX9_reset_21 : decode cX9_reset 21 = .ok (.iload_n 1, 1) := by decide +kernel
theorem dX9_reset_22 : decode cX9_reset 22 = .ok (.ireturn, 1) := by decide +kernel
set_option maxRecDepth 20000 in
theorem ggX9_fault_X7_lineAt : GoodIn wsX9_fault wsX7_lineAt := goodIn_r _ [7, 8, 9, 32, 33, 34, 35, 36, 37, 38, 39, 40, 41, 42] (by decide +kernel) (by decide +kernel)
set_option maxRecDepth 20000 in
theorem gX9_fault_X7_lineAt : GoodIn wsX9_fault (wsV RX9 136 RX7 yX7_lineAt wsX7_lineAt) := goodIn_app (goodIn_of _ (by decide +kernel)) ggX9_fault_X7_lineAt
set_option maxRecDepth 20000 in
theorem ggX9_fault_X5_faultPart : GoodIn wsX9_fault wsX5_faultPart := goodIn_r _ [14, 15, 16, 17, 18, 19, 20, 13, 21, 22, 43, 44, 45, 46, 47, 48, 49, 50, 51] (by decide +kernel) (by decide +kernel)
set_option maxRecDepth 20000 in
theorem gX9_fault_X5_faultPart : GoodIn wsX9_fault (wsV RX9 170 RX5 yX5_faultPart wsX5_faultPart) := goodIn_app (goodIn_of _ (by decide +kernel)) ggX9_fault_X5_faultPart
theorem dX9_fault_0 : decode cX9_fault 0 = .ok (.aload_n 0, 1) := by decide +kernel
theorem dX9_fault_1 : decode cX9_fault 1 = .ok (.getfield 33, 3) := by decide +kernel
theorem dX9_fault_4 : decode cX9_fault 4 = .ok (.iload_n 1, 1) := by decide +kernel
theorem dX9_fault_5 : decode cX9_fault 5 = .ok (.invokevirtual 136, 3) := by decide +kernel
theorem dX9_fault_8 : decode cX9_fault 8 = .ok (.ifnull 7, 3) := by decide +kernel
theorem dX9_fault_11 : decode cX9_fault 11 = .ok (.iload_n 2, 1) := by decide +kernel
theorem dX9_fault_12 : decode cX9_fault 12 = .ok (.ifCond .ge 5, 3) := by decide +kernel
theorem dX9_fault_15 : decode cX9_fault 15 = .ok (.iconst (-1), 1) := by decide +kernel
theorem dX9_fault_16 : decode cX9_fault 16 = .ok (.ireturn, 1) := by decide +kernel
theorem dX9_fault_17 : decode cX9_fault 17 = .ok (.aload_n 0, 1) := by decide +kernel
theorem dX9_fault_18 : decode cX9_fault 18 = .ok (.getfield 33, 3) := by decide +kernel
theorem dX9_fault_21 : decode cX9_fault 21 = .ok (.getfield 109, 3) := by decide +kernel
theorem dX9_fault_24 : decode cX9_fault 24 = .ok (.iload_n 1, 1) := by decide +kernel
theorem dX9_fault_25 : decode cX9_fault 25 = .ok (.iload_n 2, 1) := by decide +kernel
theorem dX9_fault_26 : decode cX9_fault 26 = .ok (.invokevirtual 170, 3) := by decide +kernel
theorem dX9_fault_29 : decode cX9_fault 29 = .ok (.ireturn, 1) := by decide +kernel
set_option maxRecDepth 20000 in
theorem ggX9_told_X5_faultyLines : GoodIn wsX9_told wsX5_faultyLines := goodIn_r _ [11, 12, 13, 45, 46, 47, 48, 49, 50, 51, 52, 53] (by decide +kernel) (by decide +kernel)
set_option maxRecDepth 20000 in
theorem gX9_told_X5_faultyLines : GoodIn wsX9_told (wsV RX9 176 RX5 yX5_faultyLines wsX5_faultyLines) := goodIn_app (goodIn_of _ (by decide +kernel)) ggX9_told_X5_faultyLines
set_option maxRecDepth 20000 in
theorem ggX9_told_X9_keyOrAbsent : GoodIn wsX9_told wsX9_keyOrAbsent := goodIn_r _ [18, 1, 2, 19, 25, 26, 27, 28, 29, 30, 31, 32, 33, 34, 35, 36, 37, 38, 39, 40, 41, 42, 43, 44, 45, 46, 47, 48, 49, 50, 51, 52, 53] (by decide +kernel) (by decide +kernel)
set_option maxRecDepth 20000 in
theorem gX9_told_X9_keyOrAbsent : GoodIn wsX9_told (wsV RX9 115 RX9 yX9_keyOrAbsent wsX9_keyOrAbsent) := goodIn_app (goodIn_of _ (by decide +kernel)) ggX9_told_X9_keyOrAbsent
set_option maxRecDepth 20000 in
theorem ggX9_told_X5_linesWith : GoodIn wsX9_told wsX5_linesWith := goodIn_r _ [23, 12, 24, 45, 46, 47, 48, 49, 50, 51, 52, 53] (by decide +kernel) (by decide +kernel)
set_option maxRecDepth 20000 in
theorem gX9_told_X5_linesWith : GoodIn wsX9_told (wsV RX9 179 RX5 yX5_linesWith wsX5_linesWith) := goodIn_app (goodIn_of _ (by decide +kernel)) ggX9_told_X5_linesWith
theorem dX9_told_0 : decode cX9_told 0 = .ok (.aload_n 0, 1) := by decide +kernel
theorem dX9_told_1 : decode cX9_told 1 = .ok (.getfield 33, 3) := by decide +kernel
theorem dX9_told_4 : decode cX9_told 4 = .ok (.getfield 109, 3) := by decide +kernel
theorem dX9_told_7 : decode cX9_told 7 = .ok (.astore_n 2, 1) := by decide +kernel
theorem dX9_told_8 : decode cX9_told 8 = .ok (.iload_n 1, 1) := by decide +kernel
theorem dX9_told_9 : decode cX9_told 9 = .ok (.tableswitch 95 0 7 #[47, 52, 57, 62, 70, 75, 83, 89], 47) := by decide +kernel
theorem dX9_told_56 : decode cX9_told 56 = .ok (.aload_n 2, 1) := by decide +kernel
theorem dX9_told_57 : decode cX9_told 57 = .ok (.getfield 112, 3) := by decide +kernel
theorem dX9_told_60 : decode cX9_told 60 = .ok (.ireturn, 1) := by decide +kernel
theorem dX9_told_61 : decode cX9_told 61 = .ok (.aload_n 2, 1) := by decide +kernel
theorem dX9_told_62 : decode cX9_told 62 = .ok (.getfield 173, 3) := by decide +kernel
theorem dX9_told_65 : decode cX9_told 65 = .ok (.ireturn, 1) := by decide +kernel
theorem dX9_told_66 : decode cX9_told 66 = .ok (.aload_n 2, 1) := by decide +kernel
theorem dX9_told_67 : decode cX9_told 67 = .ok (.invokevirtual 176, 3) := by decide +kernel
theorem dX9_told_70 : decode cX9_told 70 = .ok (.ireturn, 1) := by decide +kernel
theorem dX9_told_71 : decode cX9_told 71 = .ok (.aload_n 0, 1) := by decide +kernel
theorem dX9_told_72 : decode cX9_told 72 = .ok (.getfield 33, 3) := by decide +kernel
theorem dX9_told_75 : decode cX9_told 75 = .ok (.getfield 80, 3) := by decide +kernel
theorem dX9_told_78 : decode cX9_told 78 = .ok (.ireturn, 1) := by decide +kernel
theorem dX9_told_79 : decode cX9_told 79 = .ok (.aload_n 0, 1) := by decide +kernel
theorem dX9_told_80 : decode cX9_told 80 = .ok (.invokevirtual 115, 3) := by decide +kernel
theorem dX9_told_83 : decode cX9_told 83 = .ok (.ireturn, 1) := by decide +kernel
theorem dX9_told_84 : decode cX9_told 84 = .ok (.aload_n 0, 1) := by decide +kernel
theorem dX9_told_85 : decode cX9_told 85 = .ok (.getfield 33, 3) := by decide +kernel
theorem dX9_told_88 : decode cX9_told 88 = .ok (.getfield 98, 3) := by decide +kernel
theorem dX9_told_91 : decode cX9_told 91 = .ok (.ireturn, 1) := by decide +kernel
theorem dX9_told_92 : decode cX9_told 92 = .ok (.aload_n 2, 1) := by decide +kernel
theorem dX9_told_93 : decode cX9_told 93 = .ok (.iconst 3, 1) := by decide +kernel
theorem dX9_told_94 : decode cX9_told 94 = .ok (.invokevirtual 179, 3) := by decide +kernel
theorem dX9_told_97 : decode cX9_told 97 = .ok (.ireturn, 1) := by decide +kernel
theorem dX9_told_98 : decode cX9_told 98 = .ok (.aload_n 2, 1) := by decide +kernel
theorem dX9_told_99 : decode cX9_told 99 = .ok (.iconst 5, 1) := by decide +kernel
theorem dX9_told_100 : decode cX9_told 100 = .ok (.invokevirtual 179, 3) := by decide +kernel
theorem dX9_told_103 : decode cX9_told 103 = .ok (.ireturn, 1) := by decide +kernel
theorem dX9_told_104 : decode cX9_told 104 = .ok (.iconst (-1), 1) := by decide +kernel
theorem dX9_told_105 : decode cX9_told 105 = .ok (.ireturn, 1) := by decide +kernel
set_option maxRecDepth 20000 in
theorem ggX9_value_X9_rowField : GoodIn wsX9_value wsX9_rowField := goodIn_r _ [8, 3, 9, 10, 11, 12, 13, 14, 15, 16, 17, 18, 19, 20, 21, 22, 23, 24, 25, 26, 27, 28, 29, 30, 31, 32, 33, 34, 77, 78, 79, 80, 81, 82, 83, 84, 85, 86, 87, 88, 89, 90, 91, 92, 93, 94, 95, 96, 97, 98, 99, 100, 101, 102, 103, 104, 105, 106] (by decide +kernel) (by decide +kernel)
set_option maxRecDepth 20000 in
theorem gX9_value_X9_rowField : GoodIn wsX9_value (wsV RX9 182 RX9 yX9_rowField wsX9_rowField) := goodIn_app (goodIn_of _ (by decide +kernel)) ggX9_value_X9_rowField
set_option maxRecDepth 20000 in
theorem ggX9_value_X7_typeOf : GoodIn wsX9_value wsX7_typeOf := goodIn_r _ [38, 39, 40, 41, 42, 11, 12, 13, 14, 15, 43, 44, 45, 46, 47, 48, 49, 50, 51, 52, 53, 54, 55, 56, 27, 57, 58, 59, 60, 61, 62, 24, 25, 26, 28, 63, 30, 31, 32, 33, 34, 86, 87, 88, 89, 90, 91, 92, 93, 94, 95, 96, 97, 98, 99, 100, 101, 102, 103, 104, 105, 73, 74, 75, 76, 106] (by decide +kernel) (by decide +kernel)
set_option maxRecDepth 20000 in
theorem gX9_value_X7_typeOf : GoodIn wsX9_value (wsV RX9 122 RX7 yX7_typeOf wsX7_typeOf) := goodIn_app (goodIn_of _ (by decide +kernel)) ggX9_value_X7_typeOf
set_option maxRecDepth 20000 in
theorem ggX9_value_X1_valueAs : GoodIn wsX9_value wsX1_valueAs := goodIn_r _ [68, 69, 70, 71, 72, 73, 74, 75, 76] (by decide +kernel) (by decide +kernel)
set_option maxRecDepth 20000 in
theorem gX9_value_X1_valueAs : GoodIn wsX9_value (wsV RX9 188 RX1 yX1_valueAs wsX1_valueAs) := goodIn_app (goodIn_of _ (by decide +kernel)) ggX9_value_X1_valueAs
theorem dX9_value_0 : decode cX9_value 0 = .ok (.aload_n 0, 1) := by decide +kernel
theorem dX9_value_1 : decode cX9_value 1 = .ok (.iload_n 1, 1) := by decide +kernel
theorem dX9_value_2 : decode cX9_value 2 = .ok (.iload_n 2, 1) := by decide +kernel
theorem dX9_value_3 : decode cX9_value 3 = .ok (.invokevirtual 182, 3) := by decide +kernel
theorem dX9_value_6 : decode cX9_value 6 = .ok (.astore_n 3, 1) := by decide +kernel
theorem dX9_value_7 : decode cX9_value 7 = .ok (.aload_n 3, 1) := by decide +kernel
theorem dX9_value_8 : decode cX9_value 8 = .ok (.ifnull 10, 3) := by decide +kernel
theorem dX9_value_11 : decode cX9_value 11 = .ok (.aload_n 3, 1) := by decide +kernel
theorem dX9_value_12 : decode cX9_value 12 = .ok (.getfield 154, 3) := by decide +kernel
theorem dX9_value_15 : decode cX9_value 15 = .ok (.ifCond .ne 7, 3) := by decide +kernel
theorem dX9_value_18 : decode cX9_value 18 = .ok (.ldc2_w 186, 3) := by decide +kernel
theorem dX9_value_21 : decode cX9_value 21 = .ok (.lreturn, 1) := by decide +kernel
theorem dX9_value_22 : decode cX9_value 22 = .ok (.aload_n 3, 1) := by decide +kernel
theorem dX9_value_23 : decode cX9_value 23 = .ok (.aload_n 0, 1) := by decide +kernel
theorem dX9_value_24 : decode cX9_value 24 = .ok (.getfield 33, 3) := by decide +kernel
theorem dX9_value_27 : decode cX9_value 27 = .ok (.iload_n 2, 1) := by decide +kernel
theorem dX9_value_28 : decode cX9_value 28 = .ok (.invokevirtual 122, 3) := by decide +kernel
theorem dX9_value_31 : decode cX9_value 31 = .ok (.invokevirtual 188, 3) := by decide +kernel
theorem dX9_value_34 : decode cX9_value 34 = .ok (.lreturn, 1) := by decide +kernel
set_option maxRecDepth 20000 in
theorem ggX9_shown_X9_rowField : GoodIn wsX9_shown wsX9_rowField := goodIn_r _ [8, 2, 9, 10, 11, 12, 13, 14, 15, 16, 17, 18, 19, 20, 21, 22, 23, 24, 25, 26, 27, 28, 29, 30, 31, 32, 33, 34, 125, 126, 127, 128, 129, 130, 131, 132, 133, 136, 137, 138, 139, 140, 141, 142, 143, 144, 145, 146, 147, 148, 149, 150, 151, 152, 153, 154, 155, 156] (by decide +kernel) (by decide +kernel)
set_option maxRecDepth 20000 in
theorem gX9_shown_X9_rowField : GoodIn wsX9_shown (wsV RX9 182 RX9 yX9_rowField wsX9_rowField) := goodIn_app (goodIn_of _ (by decide +kernel)) ggX9_shown_X9_rowField
set_option maxRecDepth 20000 in
theorem ggX9_shown_X6_clear : GoodIn wsX9_shown wsX6_clear := goodIn_r _ [39, 40, 134, 135] (by decide +kernel) (by decide +kernel)
set_option maxRecDepth 20000 in
theorem gX9_shown_X6_clear : GoodIn wsX9_shown (wsV RX9 73 RX6 yX6_clear wsX6_clear) := goodIn_app (goodIn_of _ (by decide +kernel)) ggX9_shown_X6_clear
set_option maxRecDepth 20000 in
theorem ggX9_shown_X7_typeOf : GoodIn wsX9_shown wsX7_typeOf := goodIn_r _ [44, 45, 46, 47, 48, 11, 12, 13, 14, 15, 49, 50, 51, 52, 53, 54, 55, 56, 57, 58, 59, 60, 61, 62, 27, 63, 64, 65, 66, 67, 68, 24, 25, 26, 28, 69, 30, 31, 32, 33, 34, 136, 137, 138, 139, 140, 141, 142, 143, 144, 145, 146, 147, 148, 149, 150, 151, 152, 153, 154, 155, 157, 158, 159, 160, 156] (by decide +kernel) (by decide +kernel)
set_option maxRecDepth 20000 in
theorem gX9_shown_X7_typeOf : GoodIn wsX9_shown (wsV RX9 122 RX7 yX7_typeOf wsX7_typeOf) := goodIn_app (goodIn_of _ (by decide +kernel)) ggX9_shown_X7_typeOf
set_option maxRecDepth 20000 in
theorem ggX9_shown_X9_writeShown : GoodIn wsX9_shown wsX9_writeShown := goodIn_r _ [73, 74, 75, 1, 76, 77, 78, 38, 79, 40, 80, 81, 82, 83, 84, 85, 86, 87, 88, 89, 90, 91, 92, 93, 94, 95, 96, 97, 98, 99, 100, 101, 102, 103, 104, 105, 106, 107, 108, 109, 110, 111, 112, 113, 114, 7, 115, 116, 117, 118, 119, 120, 157, 158, 159, 160, 125, 126, 127, 128, 129, 130, 131, 132, 133, 134, 135] (by decide +kernel) (by decide +kernel)
set_option maxRecDepth 20000 in
theorem gX9_shown_X9_writeShown : GoodIn wsX9_shown (wsV RX9 192 RX9 yX9_writeShown wsX9_writeShown) := goodIn_app (goodIn_of _ (by decide +kernel)) ggX9_shown_X9_writeShown
set_option maxRecDepth 20000 in
theorem ggX9_shown_X6_at : GoodIn wsX9_shown wsX6_at := goodIn_r _ [124, 40, 80, 134, 135] (by decide +kernel) (by decide +kernel)
set_option maxRecDepth 20000 in
theorem gX9_shown_X6_at : GoodIn wsX9_shown (wsV RX9 196 RX6 yX6_at wsX6_at) := goodIn_app (goodIn_of _ (by decide +kernel)) ggX9_shown_X6_at
theorem dX9_shown_0 : decode cX9_shown 0 = .ok (.aload_n 0, 1) := by decide +kernel
theorem dX9_shown_1 : decode cX9_shown 1 = .ok (.iload_n 1, 1) := by decide +kernel
theorem dX9_shown_2 : decode cX9_shown 2 = .ok (.iload_n 2, 1) := by decide +kernel
theorem dX9_shown_3 : decode cX9_shown 3 = .ok (.invokevirtual 182, 3) := by decide +kernel
theorem dX9_shown_6 : decode cX9_shown 6 = .ok (.astore 4, 2) := by decide +kernel
theorem dX9_shown_8 : decode cX9_shown 8 = .ok (.aload 4, 2) := by decide +kernel
theorem dX9_shown_10 : decode cX9_shown 10 = .ok (.ifnonnull 5, 3) := by decide +kernel
theorem dX9_shown_13 : decode cX9_shown 13 = .ok (.iconst (-1), 1) := by decide +kernel
theorem dX9_shown_14 : decode cX9_shown 14 = .ok (.ireturn, 1) := by decide +kernel
theorem dX9_shown_15 : decode cX9_shown 15 = .ok (.aload_n 0, 1) := by decide +kernel
theorem dX9_shown_16 : decode cX9_shown 16 = .ok (.getfield 20, 3) := by decide +kernel
theorem dX9_shown_19 : decode cX9_shown 19 = .ok (.invokevirtual 73, 3) := by decide +kernel
theorem dX9_shown_22 : decode cX9_shown 22 = .ok (.aload_n 0, 1) := by decide +kernel
theorem dX9_shown_23 : decode cX9_shown 23 = .ok (.aload 4, 2) := by decide +kernel
theorem dX9_shown_25 : decode cX9_shown 25 = .ok (.aload_n 0, 1) := by decide +kernel
theorem dX9_shown_26 : decode cX9_shown 26 = .ok (.getfield 33, 3) := by decide +kernel
theorem dX9_shown_29 : decode cX9_shown 29 = .ok (.iload_n 2, 1) := by decide +kernel
theorem dX9_shown_30 : decode cX9_shown 30 = .ok (.invokevirtual 122, 3) := by decide +kernel
theorem dX9_shown_33 : decode cX9_shown 33 = .ok (.invokevirtual 192, 3) := by decide +kernel
theorem dX9_shown_36 : decode cX9_shown 36 = .ok (.iload_n 3, 1) := by decide +kernel
theorem dX9_shown_37 : decode cX9_shown 37 = .ok (.ifCond .lt 14, 3) := by decide +kernel
theorem dX9_shown_40 : decode cX9_shown 40 = .ok (.iload_n 3, 1) := by decide +kernel
theorem dX9_shown_41 : decode cX9_shown 41 = .ok (.aload_n 0, 1) := by decide +kernel
theorem dX9_shown_42 : decode cX9_shown 42 = .ok (.getfield 20, 3) := by decide +kernel
theorem dX9_shown_45 : decode cX9_shown 45 = .ok (.getfield 62, 3) := by decide +kernel
theorem dX9_shown_48 : decode cX9_shown 48 = .ok (.if_icmp .lt 7, 3) := by decide +kernel
theorem dX9_shown_51 : decode cX9_shown 51 = .ok (.iconst (-1), 1) := by decide +kernel
theorem dX9_shown_52 : decode cX9_shown 52 = .ok (.goto 11, 3) := by decide +kernel
theorem dX9_shown_55 : decode cX9_shown 55 = .ok (.aload_n 0, 1) := by decide +kernel
theorem dX9_shown_56 : decode cX9_shown 56 = .ok (.getfield 20, 3) := by decide +kernel
theorem dX9_shown_59 : decode cX9_shown 59 = .ok (.iload_n 3, 1) := by decide +kernel
theorem dX9_shown_60 : decode cX9_shown 60 = .ok (.invokevirtual 196, 3) := by decide +kernel
theorem dX9_shown_63 : decode cX9_shown 63 = .ok (.ireturn, 1) := by decide +kernel
set_option maxRecDepth 20000 in
theorem ggX9_feature_X7_hasColumn : GoodIn wsX9_feature wsX7_hasColumn := goodIn_r _ [9, 10, 108, 109, 110, 111, 112, 113, 114, 115, 116, 117, 118] (by decide +kernel) (by decide +kernel)
set_option maxRecDepth 20000 in
theorem gX9_feature_X7_hasColumn : GoodIn wsX9_feature (wsV RX9 101 RX7 yX7_hasColumn wsX7_hasColumn) := goodIn_app (goodIn_of _ (by decide +kernel)) ggX9_feature_X7_hasColumn
set_option maxRecDepth 20000 in
theorem ggX9_feature_X9_gatherValues : GoodIn wsX9_feature wsX9_gatherValues := goodIn_r _ [15, 1, 3, 4, 16, 17, 18, 19, 20, 14, 21, 5, 6, 7, 8, 9, 10, 22, 23, 24, 25, 26, 27, 28, 29, 30, 31, 32, 33, 34, 35, 36, 37, 38, 39, 40, 41, 42, 43, 44, 45, 46, 47, 48, 49, 50, 51, 52, 53, 54, 55, 56, 57, 58, 59, 60, 61, 62, 63, 64, 65, 66, 67, 68, 69, 70, 71, 72, 73, 74, 75, 76, 77, 78, 99, 100, 101, 102, 103, 104, 105, 106, 107, 108, 109, 110, 111, 112, 113, 114, 115, 116, 117, 118, 119, 120, 121, 122, 123, 124, 125, 126, 127, 128, 129, 130, 131, 132] (by decide +kernel) (by decide +kernel)
set_option maxRecDepth 20000 in
theorem gX9_feature_X9_gatherValues : GoodIn wsX9_feature (wsV RX9 199 RX9 yX9_gatherValues wsX9_gatherValues) := goodIn_app (goodIn_of _ (by decide +kernel)) ggX9_feature_X9_gatherValues
set_option maxRecDepth 20000 in
theorem ggX9_feature_X9_leastGathered : GoodIn wsX9_feature wsX9_leastGathered := goodIn_r _ [82, 83, 17, 84, 85, 86, 87, 99, 100, 101, 102, 103, 104, 105, 106, 107] (by decide +kernel) (by decide +kernel)
set_option maxRecDepth 20000 in
theorem gX9_feature_X9_leastGathered : GoodIn wsX9_feature (wsV RX9 202 RX9 yX9_leastGathered wsX9_leastGathered) := goodIn_app (goodIn_of _ (by decide +kernel)) ggX9_feature_X9_leastGathered
set_option maxRecDepth 20000 in
theorem ggX9_feature_X9_greatestGathered : GoodIn wsX9_feature wsX9_greatestGathered := goodIn_r _ [91, 2, 17, 92, 93, 86, 94, 99, 100, 101, 102, 103, 104, 105, 106, 107] (by decide +kernel) (by decide +kernel)
set_option maxRecDepth 20000 in
theorem gX9_feature_X9_greatestGathered : GoodIn wsX9_feature (wsV RX9 205 RX9 yX9_greatestGathered wsX9_greatestGathered) := goodIn_app (goodIn_of _ (by decide +kernel)) ggX9_feature_X9_greatestGathered
set_option maxRecDepth 20000 in
theorem ggX9_feature_X9_unlikeGathered : GoodIn wsX9_feature wsX9_unlikeGathered := goodIn_r _ [98, 17, 99, 100, 101, 102, 103, 104, 105, 106, 107] (by decide +kernel) (by decide +kernel)
set_option maxRecDepth 20000 in
theorem gX9_feature_X9_unlikeGathered : GoodIn wsX9_feature (wsV RX9 208 RX9 yX9_unlikeGathered wsX9_unlikeGathered) := goodIn_app (goodIn_of _ (by decide +kernel)) ggX9_feature_X9_unlikeGathered
theorem dX9_feature_0 : decode cX9_feature 0 = .ok (.aload_n 0, 1) := by decide +kernel
theorem dX9_feature_1 : decode cX9_feature 1 = .ok (.getfield 33, 3) := by decide +kernel
theorem dX9_feature_4 : decode cX9_feature 4 = .ok (.iload_n 1, 1) := by decide +kernel
theorem dX9_feature_5 : decode cX9_feature 5 = .ok (.invokevirtual 101, 3) := by decide +kernel
theorem dX9_feature_8 : decode cX9_feature 8 = .ok (.ifCond .ne 7, 3) := by decide +kernel
theorem dX9_feature_11 : decode cX9_feature 11 = .ok (.ldc2_w 186, 3) := by decide +kernel
theorem dX9_feature_14 : decode cX9_feature 14 = .ok (.lreturn, 1) := by decide +kernel
theorem dX9_feature_15 : decode cX9_feature 15 = .ok (.aload_n 0, 1) := by decide +kernel
theorem dX9_feature_16 : decode cX9_feature 16 = .ok (.iload_n 1, 1) := by decide +kernel
theorem dX9_feature_17 : decode cX9_feature 17 = .ok (.invokevirtual 199, 3) := by decide +kernel
theorem dX9_feature_20 : decode cX9_feature 20 = .ok (.istore_n 3, 1) := by decide +kernel
theorem dX9_feature_21 : decode cX9_feature 21 = .ok (.iload_n 2, 1) := by decide +kernel
theorem dX9_feature_22 : decode cX9_feature 22 = .ok (.tableswitch 90 0 4 #[34, 37, 53, 69, 76], 34) := by decide +kernel
theorem dX9_feature_56 : decode cX9_feature 56 = .ok (.iload_n 3, 1) := by decide +kernel
theorem dX9_feature_57 : decode cX9_feature 57 = .ok (.i2l, 1) := by decide +kernel
theorem dX9_feature_58 : decode cX9_feature 58 = .ok (.lreturn, 1) := by decide +kernel
theorem dX9_feature_59 : decode cX9_feature 59 = .ok (.iload_n 3, 1) := by decide +kernel
theorem dX9_feature_60 : decode cX9_feature 60 = .ok (.ifCond .ne 9, 3) := by decide +kernel
theorem dX9_feature_63 : decode cX9_feature 63 = .ok (.ldc2_w 186, 3) := by decide +kernel
theorem dX9_feature_66 : decode cX9_feature 66 = .ok (.goto 8, 3) := by decide +kernel
theorem dX9_feature_69 : decode cX9_feature 69 = .ok (.aload_n 0, 1) := by decide +kernel
theorem dX9_feature_70 : decode cX9_feature 70 = .ok (.iload_n 3, 1) := by decide +kernel
theorem dX9_feature_71 : decode cX9_feature 71 = .ok (.invokevirtual 202, 3) := by decide +kernel
theorem dX9_feature_74 : decode cX9_feature 74 = .ok (.lreturn, 1) := by decide +kernel
theorem dX9_feature_75 : decode cX9_feature 75 = .ok (.iload_n 3, 1) := by decide +kernel
theorem dX9_feature_76 : decode cX9_feature 76 = .ok (.ifCond .ne 9, 3) := by decide +kernel
theorem dX9_feature_79 : decode cX9_feature 79 = .ok (.ldc2_w 186, 3) := by decide +kernel
theorem dX9_feature_82 : decode cX9_feature 82 = .ok (.goto 8, 3) := by decide +kernel
theorem dX9_feature_85 : decode cX9_feature 85 = .ok (.aload_n 0, 1) := by decide +kernel
theorem dX9_feature_86 : decode cX9_feature 86 = .ok (.iload_n 3, 1) := by decide +kernel
theorem dX9_feature_87 : decode cX9_feature 87 = .ok (.invokevirtual 205, 3) := by decide +kernel
theorem dX9_feature_90 : decode cX9_feature 90 = .ok (.lreturn, 1) := by decide +kernel
theorem dX9_feature_91 : decode cX9_feature 91 = .ok (.aload_n 0, 1) := by decide +kernel
theorem dX9_feature_92 : decode cX9_feature 92 = .ok (.iload_n 3, 1) := by decide +kernel
theorem dX9_feature_93 : decode cX9_feature 93 = .ok (.invokevirtual 208, 3) := by decide +kernel
theorem dX9_feature_96 : decode cX9_feature 96 = .ok (.i2l, 1) := by decide +kernel
theorem dX9_feature_97 : decode cX9_feature 97 = .ok (.lreturn, 1) := by decide +kernel
theorem dX9_feature_98 : decode cX9_feature 98 = .ok (.aload_n 0, 1) := by decide +kernel
theorem dX9_feature_99 : decode cX9_feature 99 = .ok (.getfield 33, 3) := by decide +kernel
theorem dX9_feature_102 : decode cX9_feature 102 = .ok (.getfield 109, 3) := by decide +kernel
theorem dX9_feature_105 : decode cX9_feature 105 = .ok (.getfield 173, 3) := by decide +kernel
theorem dX9_feature_108 : decode cX9_feature 108 = .ok (.iload_n 3, 1) := by decide +kernel
theorem dX9_feature_109 : decode cX9_feature 109 = .ok (.isub, 1) := by decide +kernel
theorem dX9_feature_110 : decode cX9_feature 110 = .ok (.i2l, 1) := by decide +kernel
theorem dX9_feature_111 : decode cX9_feature 111 = .ok (.lreturn, 1) := by decide +kernel
theorem dX9_feature_112 : decode cX9_feature 112 = .ok (.ldc2_w 186, 3) := by decide +kernel
theorem dX9_feature_115 : decode cX9_feature 115 = .ok (.lreturn, 1) := by decide +kernel
set_option maxRecDepth 20000 in
theorem ggX9_would_X7_hasColumn : GoodIn wsX9_would wsX7_hasColumn := goodIn_r _ [8, 9, 124, 125, 126, 127, 128, 129, 130, 131, 132, 133, 134] (by decide +kernel) (by decide +kernel)
set_option maxRecDepth 20000 in
theorem gX9_would_X7_hasColumn : GoodIn wsX9_would (wsV RX9 101 RX7 yX7_hasColumn wsX7_hasColumn) := goodIn_app (goodIn_of _ (by decide +kernel)) ggX9_would_X7_hasColumn
set_option maxRecDepth 20000 in
theorem ggX9_would_X7_rehearse : GoodIn wsX9_would wsX7_rehearse := goodIn_r _ [13, 14, 15, 16, 17, 18, 19, 20, 21, 22, 23, 24, 25, 26, 27, 28, 29, 30, 31, 7, 32, 9, 33, 34, 35, 36, 37, 38, 39, 5, 6, 8, 40, 41, 42, 43, 44, 45, 46, 47, 48, 49, 50, 51, 52, 53, 54, 55, 56, 57, 58, 59, 60, 61, 62, 63, 64, 65, 66, 67, 68, 69, 70, 71, 72, 73, 74, 75, 76, 77, 78, 79, 80, 81, 82, 83, 84, 85, 86, 87, 88, 89, 90, 91, 92, 93, 94, 95, 96, 97, 98, 99, 100, 101, 102, 103, 104, 105, 106, 107, 108, 109, 110, 124, 125, 126, 127, 128, 129, 130, 131, 132, 133, 134, 135, 136, 137, 138, 139, 140, 141, 142, 143, 144, 145, 146, 147, 148] (by decide +kernel) (by decide +kernel)
set_option maxRecDepth 20000 in
theorem gX9_would_X7_rehearse : GoodIn wsX9_would (wsV RX9 211 RX7 yX7_rehearse wsX7_rehearse) := goodIn_app (goodIn_of _ (by decide +kernel)) ggX9_would_X7_rehearse
set_option maxRecDepth 20000 in
theorem ggX9_would_X5_faultyLines : GoodIn wsX9_would wsX5_faultyLines := goodIn_r _ [114, 22, 23, 135, 136, 137, 138, 139, 140, 141, 142, 143] (by decide +kernel) (by decide +kernel)
set_option maxRecDepth 20000 in
theorem gX9_would_X5_faultyLines : GoodIn wsX9_would (wsV RX9 176 RX5 yX5_faultyLines wsX5_faultyLines) := goodIn_app (goodIn_of _ (by decide +kernel)) ggX9_would_X5_faultyLines
theorem dX9_would_0 : decode cX9_would 0 = .ok (.aload_n 0, 1) := by decide +kernel
theorem dX9_would_1 : decode cX9_would 1 = .ok (.getfield 33, 3) := by decide +kernel
theorem dX9_would_4 : decode cX9_would 4 = .ok (.iload_n 1, 1) := by decide +kernel
theorem dX9_would_5 : decode cX9_would 5 = .ok (.invokevirtual 101, 3) := by decide +kernel
theorem dX9_would_8 : decode cX9_would 8 = .ok (.ifCond .ne 5, 3) := by decide +kernel
theorem dX9_would_11 : decode cX9_would 11 = .ok (.iconst (-1), 1) := by decide +kernel
theorem dX9_would_12 : decode cX9_would 12 = .ok (.ireturn, 1) := by decide +kernel
theorem dX9_would_13 : decode cX9_would 13 = .ok (.iload_n 2, 1) := by decide +kernel
theorem dX9_would_14 : decode cX9_would 14 = .ok (.iconst 1, 1) := by decide +kernel
theorem dX9_would_15 : decode cX9_would 15 = .ok (.if_icmp .lt 8, 3) := by decide +kernel
theorem dX9_would_18 : decode cX9_would 18 = .ok (.iload_n 2, 1) := by decide +kernel
theorem dX9_would_19 : decode cX9_would 19 = .ok (.iconst 4, 1) := by decide +kernel
theorem dX9_would_20 : decode cX9_would 20 = .ok (.if_icmp .le 6, 3) := by decide +kernel
theorem dX9_would_23 : decode cX9_would 23 = .ok (.bipush (-2), 2) := by decide +kernel
theorem dX9_would_25 : decode cX9_would 25 = .ok (.ireturn, 1) := by decide +kernel
theorem dX9_would_26 : decode cX9_would 26 = .ok (.aload_n 0, 1) := by decide +kernel
theorem dX9_would_27 : decode cX9_would 27 = .ok (.getfield 33, 3) := by decide +kernel
theorem dX9_would_30 : decode cX9_would 30 = .ok (.aload_n 0, 1) := by decide +kernel
theorem dX9_would_31 : decode cX9_would 31 = .ok (.getfield 43, 3) := by decide +kernel
theorem dX9_would_34 : decode cX9_would 34 = .ok (.aload_n 0, 1) := by decide +kernel
theorem dX9_would_35 : decode cX9_would 35 = .ok (.getfield 33, 3) := by decide +kernel
theorem dX9_would_38 : decode cX9_would 38 = .ok (.getfield 98, 3) := by decide +kernel
theorem dX9_would_41 : decode cX9_would 41 = .ok (.iload_n 1, 1) := by decide +kernel
theorem dX9_would_42 : decode cX9_would 42 = .ok (.iload_n 2, 1) := by decide +kernel
theorem dX9_would_43 : decode cX9_would 43 = .ok (.invokevirtual 211, 3) := by decide +kernel
theorem dX9_would_46 : decode cX9_would 46 = .ok (.aload_n 0, 1) := by decide +kernel
theorem dX9_would_47 : decode cX9_would 47 = .ok (.getfield 43, 3) := by decide +kernel
theorem dX9_would_50 : decode cX9_would 50 = .ok (.invokevirtual 176, 3) := by decide +kernel
theorem dX9_would_53 : decode cX9_would 53 = .ok (.ireturn, 1) := by decide +kernel
set_option maxRecDepth 20000 in
theorem ggX9_need_X7_hasColumn : GoodIn wsX9_need wsX7_hasColumn := goodIn_r _ [6, 7, 43, 44, 45, 46, 47, 48, 49, 50, 51, 52, 53] (by decide +kernel) (by decide +kernel)
set_option maxRecDepth 20000 in
theorem gX9_need_X7_hasColumn : GoodIn wsX9_need (wsV RX9 101 RX7 yX7_hasColumn wsX7_hasColumn) := goodIn_app (goodIn_of _ (by decide +kernel)) ggX9_need_X7_hasColumn
set_option maxRecDepth 20000 in
theorem ggX9_need_X7_guessBy : GoodIn wsX9_need wsX7_guessBy := goodIn_r _ [11, 12, 13, 14, 15, 5, 16, 17, 18, 19, 20, 21, 22, 23, 24, 25, 26, 27, 28, 29, 30, 31, 32, 33, 43, 44, 45, 46, 47, 48, 49, 50, 51, 52, 53, 54, 55, 56, 57, 58] (by decide +kernel) (by decide +kernel)
set_option maxRecDepth 20000 in
theorem gX9_need_X7_guessBy : GoodIn wsX9_need (wsV RX9 126 RX7 yX7_guessBy wsX7_guessBy) := goodIn_app (goodIn_of _ (by decide +kernel)) ggX9_need_X7_guessBy
theorem dX9_need_0 : decode cX9_need 0 = .ok (.aload_n 0, 1) := by decide +kernel
theorem dX9_need_1 : decode cX9_need 1 = .ok (.getfield 33, 3) := by decide +kernel
theorem dX9_need_4 : decode cX9_need 4 = .ok (.iload_n 1, 1) := by decide +kernel
theorem dX9_need_5 : decode cX9_need 5 = .ok (.invokevirtual 101, 3) := by decide +kernel
theorem dX9_need_8 : decode cX9_need 8 = .ok (.ifCond .ne 5, 3) := by decide +kernel
theorem dX9_need_11 : decode cX9_need 11 = .ok (.iconst (-1), 1) := by decide +kernel
theorem dX9_need_12 : decode cX9_need 12 = .ok (.ireturn, 1) := by decide +kernel
theorem dX9_need_13 : decode cX9_need 13 = .ok (.iload_n 2, 1) := by decide +kernel
theorem dX9_need_14 : decode cX9_need 14 = .ok (.iconst 1, 1) := by decide +kernel
theorem dX9_need_15 : decode cX9_need 15 = .ok (.if_icmp .lt 8, 3) := by decide +kernel
theorem dX9_need_18 : decode cX9_need 18 = .ok (.iload_n 2, 1) := by decide +kernel
theorem dX9_need_19 : decode cX9_need 19 = .ok (.iconst 4, 1) := by decide +kernel
theorem dX9_need_20 : decode cX9_need 20 = .ok (.if_icmp .le 6, 3) := by decide +kernel
theorem dX9_need_23 : decode cX9_need 23 = .ok (.bipush (-2), 2) := by decide +kernel
theorem dX9_need_25 : decode cX9_need 25 = .ok (.ireturn, 1) := by decide +kernel
theorem dX9_need_26 : decode cX9_need 26 = .ok (.iconst 1, 1) := by decide +kernel
theorem dX9_need_27 : decode cX9_need 27 = .ok (.istore_n 3, 1) := by decide +kernel
theorem dX9_need_28 : decode cX9_need 28 = .ok (.iload_n 3, 1) := by decide +kernel
theorem dX9_need_29 : decode cX9_need 29 = .ok (.bipush 24, 2) := by decide +kernel
theorem dX9_need_31 : decode cX9_need 31 = .ok (.if_icmp .gt 24, 3) := by decide +kernel
theorem dX9_need_34 : decode cX9_need 34 = .ok (.aload_n 0, 1) := by decide +kernel
theorem dX9_need_35 : decode cX9_need 35 = .ok (.getfield 33, 3) := by decide +kernel
theorem dX9_need_38 : decode cX9_need 38 = .ok (.iload_n 1, 1) := by decide +kernel
theorem dX9_need_39 : decode cX9_need 39 = .ok (.iload_n 3, 1) := by decide +kernel
theorem dX9_need_40 : decode cX9_need 40 = .ok (.invokevirtual 126, 3) := by decide +kernel
theorem dX9_need_43 : decode cX9_need 43 = .ok (.iload_n 2, 1) := by decide +kernel
theorem dX9_need_44 : decode cX9_need 44 = .ok (.if_icmp .ne 5, 3) := by decide +kernel
theorem dX9_need_47 : decode cX9_need 47 = .ok (.iload_n 3, 1) := by decide +kernel
theorem dX9_need_48 : decode cX9_need 48 = .ok (.ireturn, 1) := by decide +kernel
theorem dX9_need_49 : decode cX9_need 49 = .ok (.iinc 3 1, 3) := by decide +kernel
theorem dX9_need_52 : decode cX9_need 52 = .ok (.goto (-24), 3) := by decide +kernel
theorem dX9_need_55 : decode cX9_need 55 = .ok (.bipush (-5), 2) := by decide +kernel
theorem dX9_need_57 : decode cX9_need 57 = .ok (.ireturn, 1) := by decide +kernel
set_option maxRecDepth 20000 in
theorem ggX9_see_X2_clear : GoodIn wsX9_see wsX2_clear := goodIn_r _ [7, 8, 42, 43, 44] (by decide +kernel) (by decide +kernel)
set_option maxRecDepth 20000 in
theorem gX9_see_X2_clear : GoodIn wsX9_see (wsV RX9 219 RX2 yX2_clear wsX2_clear) := goodIn_app (goodIn_of _ (by decide +kernel)) ggX9_see_X2_clear
set_option maxRecDepth 20000 in
theorem ggX9_see_X7_lineAt : GoodIn wsX9_see wsX7_lineAt := goodIn_r _ [13, 14, 15, 31, 32, 33, 34, 35, 36, 37, 38, 39, 40, 41] (by decide +kernel) (by decide +kernel)
set_option maxRecDepth 20000 in
theorem gX9_see_X7_lineAt : GoodIn wsX9_see (wsV RX9 136 RX7 yX7_lineAt wsX7_lineAt) := goodIn_app (goodIn_of _ (by decide +kernel)) ggX9_see_X7_lineAt
set_option maxRecDepth 20000 in
theorem ggX9_see_X2_enter : GoodIn wsX9_see wsX2_enter := goodIn_r _ [19, 8, 20, 21, 42, 43, 44] (by decide +kernel) (by decide +kernel)
set_option maxRecDepth 20000 in
theorem gX9_see_X2_enter : GoodIn wsX9_see (wsV RX9 223 RX2 yX2_enter wsX2_enter) := goodIn_app (goodIn_of _ (by decide +kernel)) ggX9_see_X2_enter
theorem dX9_see_0 : decode cX9_see 0 = .ok (.iload_n 1, 1) := by decide +kernel
theorem dX9_see_1 : decode cX9_see 1 = .ok (.iconst (-1), 1) := by decide +kernel
theorem dX9_see_2 : decode cX9_see 2 = .ok (.if_icmp .ne 14, 3) := by decide +kernel
theorem dX9_see_5 : decode cX9_see 5 = .ok (.aload_n 0, 1) := by decide +kernel
theorem dX9_see_6 : decode cX9_see 6 = .ok (.getfield 33, 3) := by decide +kernel
theorem dX9_see_9 : decode cX9_see 9 = .ok (.getfield 215, 3) := by decide +kernel
theorem dX9_see_12 : decode cX9_see 12 = .ok (.invokevirtual 219, 3) := by decide +kernel
theorem dX9_see_15 : decode cX9_see 15 = .ok (.ireturn, 1) := by decide +kernel
theorem dX9_see_16 : decode cX9_see 16 = .ok (.aload_n 0, 1) := by decide +kernel
theorem dX9_see_17 : decode cX9_see 17 = .ok (.getfield 33, 3) := by decide +kernel
theorem dX9_see_20 : decode cX9_see 20 = .ok (.iload_n 1, 1) := by decide +kernel
theorem dX9_see_21 : decode cX9_see 21 = .ok (.invokevirtual 136, 3) := by decide +kernel
theorem dX9_see_24 : decode cX9_see 24 = .ok (.ifnonnull 5, 3) := by decide +kernel
theorem dX9_see_27 : decode cX9_see 27 = .ok (.iconst (-1), 1) := by decide +kernel
theorem dX9_see_28 : decode cX9_see 28 = .ok (.ireturn, 1) := by decide +kernel
theorem dX9_see_29 : decode cX9_see 29 = .ok (.aload_n 0, 1) := by decide +kernel
theorem dX9_see_30 : decode cX9_see 30 = .ok (.getfield 33, 3) := by decide +kernel
theorem dX9_see_33 : decode cX9_see 33 = .ok (.getfield 215, 3) := by decide +kernel
theorem dX9_see_36 : decode cX9_see 36 = .ok (.iload_n 1, 1) := by decide +kernel
theorem dX9_see_37 : decode cX9_see 37 = .ok (.iload_n 2, 1) := by decide +kernel
theorem dX9_see_38 : decode cX9_see 38 = .ok (.ifCond .eq 7, 3) := by decide +kernel
theorem dX9_see_41 : decode cX9_see 41 = .ok (.iconst 1, 1) := by decide +kernel
theorem dX9_see_42 : decode cX9_see 42 = .ok (.goto 4, 3) := by decide +kernel
theorem dX9_see_45 : decode cX9_see 45 = .ok (.iconst 0, 1) := by decide +kernel
theorem dX9_see_46 : decode cX9_see 46 = .ok (.invokevirtual 223, 3) := by decide +kernel
theorem dX9_see_49 : decode cX9_see 49 = .ok (.ireturn, 1) := by decide +kernel
set_option maxRecDepth 20000 in
theorem ggX9_fits_X7_rehearse : GoodIn wsX9_fits wsX7_rehearse := goodIn_r _ [7, 8, 9, 10, 11, 12, 13, 14, 15, 16, 17, 18, 19, 20, 21, 22, 23, 24, 25, 6, 26, 27, 28, 29, 30, 31, 32, 33, 34, 35, 36, 37, 38, 39, 40, 41, 42, 43, 44, 45, 46, 47, 48, 49, 50, 51, 52, 53, 54, 55, 56, 57, 58, 59, 60, 61, 62, 63, 64, 65, 66, 67, 68, 69, 70, 71, 72, 73, 74, 75, 76, 77, 78, 79, 80, 81, 82, 83, 84, 85, 86, 87, 88, 89, 90, 91, 92, 93, 94, 95, 96, 97, 98, 99, 100, 101, 102, 103, 104, 105, 106, 107, 108, 145, 146, 147, 148, 149, 150, 151, 152, 153, 154, 155, 156, 157, 158, 159, 160, 161, 162, 163, 164, 165, 166, 167, 168, 169] (by decide +kernel) (by decide +kernel)
set_option maxRecDepth 20000 in
theorem gX9_fits_X7_rehearse : GoodIn wsX9_fits (wsV RX9 211 RX7 yX7_rehearse wsX7_rehearse) := goodIn_app (goodIn_of _ (by decide +kernel)) ggX9_fits_X7_rehearse
set_option maxRecDepth 20000 in
theorem ggX9_fits_X9_isSeenSo : GoodIn wsX9_fits wsX9_isSeenSo := goodIn_r _ [113, 1, 114, 115, 116, 117, 118, 119, 120, 121, 122, 123, 124, 125, 14, 126, 70, 71, 72, 127, 128, 129, 130, 16, 131, 132, 133, 134, 135, 136, 137, 138, 139, 140, 141, 142, 143, 144, 145, 146, 147, 148, 149, 150, 151, 152, 153, 154, 155, 170, 171, 172, 156, 157, 158, 159, 160, 161, 162, 163, 164] (by decide +kernel) (by decide +kernel)
set_option maxRecDepth 20000 in
theorem gX9_fits_X9_isSeenSo : GoodIn wsX9_fits (wsV RX9 226 RX9 yX9_isSeenSo wsX9_isSeenSo) := goodIn_app (goodIn_of _ (by decide +kernel)) ggX9_fits_X9_isSeenSo
theorem dX9_fits_0 : decode cX9_fits 0 = .ok (.iload_n 1, 1) := by decide +kernel
theorem dX9_fits_1 : decode cX9_fits 1 = .ok (.ifCond .eq 10, 3) := by decide +kernel
theorem dX9_fits_4 : decode cX9_fits 4 = .ok (.iload_n 1, 1) := by decide +kernel
theorem dX9_fits_5 : decode cX9_fits 5 = .ok (.iconst 1, 1) := by decide +kernel
theorem dX9_fits_6 : decode cX9_fits 6 = .ok (.if_icmp .eq 5, 3) := by decide +kernel
theorem dX9_fits_9 : decode cX9_fits 9 = .ok (.iconst (-1), 1) := by decide +kernel
theorem dX9_fits_10 : decode cX9_fits 10 = .ok (.ireturn, 1) := by decide +kernel
theorem dX9_fits_11 : decode cX9_fits 11 = .ok (.iconst 0, 1) := by decide +kernel
theorem dX9_fits_12 : decode cX9_fits 12 = .ok (.istore_n 2, 1) := by decide +kernel
theorem dX9_fits_13 : decode cX9_fits 13 = .ok (.bipush (-5), 2) := by decide +kernel
theorem dX9_fits_15 : decode cX9_fits 15 = .ok (.istore_n 3, 1) := by decide +kernel
theorem dX9_fits_16 : decode cX9_fits 16 = .ok (.iconst 1, 1) := by decide +kernel
theorem dX9_fits_17 : decode cX9_fits 17 = .ok (.istore 4, 2) := by decide +kernel
theorem dX9_fits_19 : decode cX9_fits 19 = .ok (.iload 4, 2) := by decide +kernel
theorem dX9_fits_21 : decode cX9_fits 21 = .ok (.bipush 24, 2) := by decide +kernel
theorem dX9_fits_23 : decode cX9_fits 23 = .ok (.if_icmp .gt 47, 3) := by decide +kernel
theorem dX9_fits_26 : decode cX9_fits 26 = .ok (.aload_n 0, 1) := by decide +kernel
theorem dX9_fits_27 : decode cX9_fits 27 = .ok (.getfield 33, 3) := by decide +kernel
theorem dX9_fits_30 : decode cX9_fits 30 = .ok (.aload_n 0, 1) := by decide +kernel
theorem dX9_fits_31 : decode cX9_fits 31 = .ok (.getfield 43, 3) := by decide +kernel
theorem dX9_fits_34 : decode cX9_fits 34 = .ok (.iload 4, 2) := by decide +kernel
theorem dX9_fits_36 : decode cX9_fits 36 = .ok (.iconst (-1), 1) := by decide +kernel
theorem dX9_fits_37 : decode cX9_fits 37 = .ok (.iconst 0, 1) := by decide +kernel
theorem dX9_fits_38 : decode cX9_fits 38 = .ok (.invokevirtual 211, 3) := by decide +kernel
theorem dX9_fits_41 : decode cX9_fits 41 = .ok (.aload_n 0, 1) := by decide +kernel
theorem dX9_fits_42 : decode cX9_fits 42 = .ok (.aload_n 0, 1) := by decide +kernel
theorem dX9_fits_43 : decode cX9_fits 43 = .ok (.getfield 43, 3) := by decide +kernel
theorem dX9_fits_46 : decode cX9_fits 46 = .ok (.invokevirtual 226, 3) := by decide +kernel
theorem dX9_fits_49 : decode cX9_fits 49 = .ok (.ifCond .eq 15, 3) := by decide +kernel
theorem dX9_fits_52 : decode cX9_fits 52 = .ok (.iinc 2 1, 3) := by decide +kernel
theorem dX9_fits_55 : decode cX9_fits 55 = .ok (.iload_n 3, 1) := by decide +kernel
theorem dX9_fits_56 : decode cX9_fits 56 = .ok (.bipush (-5), 2) := by decide +kernel
theorem dX9_fits_58 : decode cX9_fits 58 = .ok (.if_icmp .ne 6, 3) := by decide +kernel
theorem dX9_fits_61 : decode cX9_fits 61 = .ok (.iload 4, 2) := by decide +kernel
theorem dX9_fits_63 : decode cX9_fits 63 = .ok (.istore_n 3, 1) := by decide +kernel
theorem dX9_fits_64 : decode cX9_fits 64 = .ok (.iinc 4 1, 3) := by decide +kernel
theorem dX9_fits_67 : decode cX9_fits 67 = .ok (.goto (-48), 3) := by decide +kernel
theorem dX9_fits_70 : decode cX9_fits 70 = .ok (.iload_n 1, 1) := by decide +kernel
theorem dX9_fits_71 : decode cX9_fits 71 = .ok (.ifCond .ne 7, 3) := by decide +kernel
theorem dX9_fits_74 : decode cX9_fits 74 = .ok (.iload_n 2, 1) := by decide +kernel
theorem dX9_fits_75 : decode cX9_fits 75 = .ok (.goto 4, 3) := by decide +kernel
theorem dX9_fits_78 : decode cX9_fits 78 = .ok (.iload_n 3, 1) := by decide +kernel
theorem dX9_fits_79 : decode cX9_fits 79 = .ok (.ireturn, 1) := by decide +kernel
set_option maxRecDepth 20000 in
theorem ggX9_odds_X5_faultyLines : GoodIn wsX9_odds wsX5_faultyLines := goodIn_r _ [8, 9, 10, 36, 37, 38, 39, 40, 41, 42, 43, 44] (by decide +kernel) (by decide +kernel)
set_option maxRecDepth 20000 in
theorem gX9_odds_X5_faultyLines : GoodIn wsX9_odds (wsV RX9 176 RX5 yX5_faultyLines wsX5_faultyLines) := goodIn_app (goodIn_of _ (by decide +kernel)) ggX9_odds_X5_faultyLines
set_option maxRecDepth 20000 in
theorem ggX9_odds_X9_lowestTerms : GoodIn wsX9_odds wsX9_lowestTerms := goodIn_r _ [14, 15] (by decide +kernel) (by decide +kernel)
set_option maxRecDepth 20000 in
theorem gX9_odds_X9_lowestTerms : GoodIn wsX9_odds (va_wsS RX9 230 yX9_lowestTerms wsX9_lowestTerms) := goodIn_app (goodIn_of _ (by decide +kernel)) ggX9_odds_X9_lowestTerms
theorem dX9_odds_0 : decode cX9_odds 0 = .ok (.aload_n 0, 1) := by decide +kernel
theorem dX9_odds_1 : decode cX9_odds 1 = .ok (.getfield 33, 3) := by decide +kernel
theorem dX9_odds_4 : decode cX9_odds 4 = .ok (.getfield 109, 3) := by decide +kernel
theorem dX9_odds_7 : decode cX9_odds 7 = .ok (.invokevirtual 176, 3) := by decide +kernel
theorem dX9_odds_10 : decode cX9_odds 10 = .ok (.i2l, 1) := by decide +kernel
theorem dX9_odds_11 : decode cX9_odds 11 = .ok (.aload_n 0, 1) := by decide +kernel
theorem dX9_odds_12 : decode cX9_odds 12 = .ok (.getfield 33, 3) := by decide +kernel
theorem dX9_odds_15 : decode cX9_odds 15 = .ok (.getfield 109, 3) := by decide +kernel
theorem dX9_odds_18 : decode cX9_odds 18 = .ok (.getfield 112, 3) := by decide +kernel
theorem dX9_odds_21 : decode cX9_odds 21 = .ok (.iload_n 1, 1) := by decide +kernel
theorem dX9_odds_22 : decode cX9_odds 22 = .ok (.invokestatic 230, 3) := by decide +kernel
theorem dX9_odds_25 : decode cX9_odds 25 = .ok (.lreturn, 1) := by decide +kernel
set_option maxRecDepth 20000 in
theorem ggX9_mean_X7_hasColumn : GoodIn wsX9_mean wsX7_hasColumn := goodIn_r _ [8, 9, 91, 92, 93, 94, 95, 96, 97, 98, 99, 100, 101] (by decide +kernel) (by decide +kernel)
set_option maxRecDepth 20000 in
theorem gX9_mean_X7_hasColumn : GoodIn wsX9_mean (wsV RX9 101 RX7 yX7_hasColumn wsX7_hasColumn) := goodIn_app (goodIn_of _ (by decide +kernel)) ggX9_mean_X7_hasColumn
set_option maxRecDepth 20000 in
theorem ggX9_mean_X7_typeOf : GoodIn wsX9_mean wsX7_typeOf := goodIn_r _ [13, 14, 15, 16, 17, 5, 6, 7, 8, 9, 18, 19, 20, 21, 22, 23, 24, 25, 26, 27, 28, 29, 30, 31, 32, 33, 34, 35, 36, 37, 38, 39, 40, 41, 42, 43, 44, 45, 46, 47, 48, 91, 92, 93, 94, 95, 96, 97, 98, 99, 100, 101, 102, 103, 104, 105, 106, 107, 108, 109, 110, 111, 112, 113, 114, 115] (by decide +kernel) (by decide +kernel)
set_option maxRecDepth 20000 in
theorem gX9_mean_X7_typeOf : GoodIn wsX9_mean (wsV RX9 122 RX7 yX7_typeOf wsX7_typeOf) := goodIn_app (goodIn_of _ (by decide +kernel)) ggX9_mean_X7_typeOf
set_option maxRecDepth 20000 in
theorem ggX9_mean_X9_gatherValues : GoodIn wsX9_mean wsX9_gatherValues := goodIn_r _ [53, 1, 54, 55, 56, 3, 57, 58, 59, 52, 60, 4, 5, 6, 7, 8, 9, 61, 62, 63, 64, 65, 66, 67, 68, 39, 40, 41, 32, 42, 69, 44, 45, 46, 47, 48, 10, 11, 12, 13, 14, 15, 16, 17, 18, 19, 20, 21, 22, 23, 24, 25, 26, 27, 28, 29, 30, 31, 33, 34, 35, 36, 37, 38, 43, 70, 71, 72, 73, 74, 75, 76, 77, 78, 82, 83, 84, 85, 86, 87, 88, 89, 90, 91, 92, 93, 94, 95, 96, 97, 98, 99, 100, 101, 102, 103, 104, 105, 106, 107, 108, 109, 110, 111, 112, 113, 114, 115] (by decide +kernel) (by decide +kernel)
set_option maxRecDepth 20000 in
theorem gX9_mean_X9_gatherValues : GoodIn wsX9_mean (wsV RX9 199 RX9 yX9_gatherValues wsX9_gatherValues) := goodIn_app (goodIn_of _ (by decide +kernel)) ggX9_mean_X9_gatherValues
set_option maxRecDepth 20000 in
theorem ggX9_mean_X9_lowestTerms : GoodIn wsX9_mean wsX9_lowestTerms := goodIn_r _ [81, 2] (by decide +kernel) (by decide +kernel)
set_option maxRecDepth 20000 in
theorem gX9_mean_X9_lowestTerms : GoodIn wsX9_mean (va_wsS RX9 230 yX9_lowestTerms wsX9_lowestTerms) := goodIn_app (goodIn_of _ (by decide +kernel)) ggX9_mean_X9_lowestTerms
theorem dX9_mean_0 : decode cX9_mean 0 = .ok (.aload_n 0, 1) := by decide +kernel
theorem dX9_mean_1 : decode cX9_mean 1 = .ok (.getfield 33, 3) := by decide +kernel
theorem dX9_mean_4 : decode cX9_mean 4 = .ok (.iload_n 1, 1) := by decide +kernel
theorem dX9_mean_5 : decode cX9_mean 5 = .ok (.invokevirtual 101, 3) := by decide +kernel
theorem dX9_mean_8 : decode cX9_mean 8 = .ok (.ifCond .eq 15, 3) := by decide +kernel
theorem dX9_mean_11 : decode cX9_mean 11 = .ok (.aload_n 0, 1) := by decide +kernel
theorem dX9_mean_12 : decode cX9_mean 12 = .ok (.getfield 33, 3) := by decide +kernel
theorem dX9_mean_15 : decode cX9_mean 15 = .ok (.iload_n 1, 1) := by decide +kernel
theorem dX9_mean_16 : decode cX9_mean 16 = .ok (.invokevirtual 122, 3) := by decide +kernel
theorem dX9_mean_19 : decode cX9_mean 19 = .ok (.iconst 4, 1) := by decide +kernel
theorem dX9_mean_20 : decode cX9_mean 20 = .ok (.if_icmp .ne 7, 3) := by decide +kernel
theorem dX9_mean_23 : decode cX9_mean 23 = .ok (.ldc2_w 186, 3) := by decide +kernel
theorem dX9_mean_26 : decode cX9_mean 26 = .ok (.lreturn, 1) := by decide +kernel
theorem dX9_mean_27 : decode cX9_mean 27 = .ok (.aload_n 0, 1) := by decide +kernel
theorem dX9_mean_28 : decode cX9_mean 28 = .ok (.iload_n 1, 1) := by decide +kernel
theorem dX9_mean_29 : decode cX9_mean 29 = .ok (.invokevirtual 199, 3) := by decide +kernel
theorem dX9_mean_32 : decode cX9_mean 32 = .ok (.istore_n 3, 1) := by decide +kernel
theorem dX9_mean_33 : decode cX9_mean 33 = .ok (.lconst 0, 1) := by decide +kernel
theorem dX9_mean_34 : decode cX9_mean 34 = .ok (.lstore 4, 2) := by decide +kernel
theorem dX9_mean_36 : decode cX9_mean 36 = .ok (.iconst 0, 1) := by decide +kernel
theorem dX9_mean_37 : decode cX9_mean 37 = .ok (.istore 6, 2) := by decide +kernel
theorem dX9_mean_39 : decode cX9_mean 39 = .ok (.iload 6, 2) := by decide +kernel
theorem dX9_mean_41 : decode cX9_mean 41 = .ok (.iload_n 3, 1) := by decide +kernel
theorem dX9_mean_42 : decode cX9_mean 42 = .ok (.if_icmp .ge 31, 3) := by decide +kernel
theorem dX9_mean_45 : decode cX9_mean 45 = .ok (.iload 6, 2) := by decide +kernel
theorem dX9_mean_47 : decode cX9_mean 47 = .ok (.aload_n 0, 1) := by decide +kernel
theorem dX9_mean_48 : decode cX9_mean 48 = .ok (.getfield 47, 3) := by decide +kernel
theorem dX9_mean_51 : decode cX9_mean 51 = .ok (.arraylength, 1) := by decide +kernel
theorem dX9_mean_52 : decode cX9_mean 52 = .ok (.if_icmp .ge 21, 3) := by decide +kernel
theorem dX9_mean_55 : decode cX9_mean 55 = .ok (.lload 4, 2) := by decide +kernel
theorem dX9_mean_57 : decode cX9_mean 57 = .ok (.aload_n 0, 1) := by decide +kernel
theorem dX9_mean_58 : decode cX9_mean 58 = .ok (.getfield 47, 3) := by decide +kernel
theorem dX9_mean_61 : decode cX9_mean 61 = .ok (.iload 6, 2) := by decide +kernel
theorem dX9_mean_63 : decode cX9_mean 63 = .ok (.laload, 1) := by decide +kernel
theorem dX9_mean_64 : decode cX9_mean 64 = .ok (.ladd, 1) := by decide +kernel
theorem dX9_mean_65 : decode cX9_mean 65 = .ok (.lstore 4, 2) := by decide +kernel
theorem dX9_mean_67 : decode cX9_mean 67 = .ok (.iinc 6 1, 3) := by decide +kernel
theorem dX9_mean_70 : decode cX9_mean 70 = .ok (.goto (-31), 3) := by decide +kernel
theorem dX9_mean_73 : decode cX9_mean 73 = .ok (.lload 4, 2) := by decide +kernel
theorem dX9_mean_75 : decode cX9_mean 75 = .ok (.iload_n 3, 1) := by decide +kernel
theorem dX9_mean_76 : decode cX9_mean 76 = .ok (.iload_n 2, 1) := by decide +kernel
theorem dX9_mean_77 : decode cX9_mean 77 = .ok (.invokestatic 230, 3) := by decide +kernel
theorem dX9_mean_80 : decode cX9_mean 80 = .ok (.lreturn, 1) := by decide +kernel
set_option maxRecDepth 20000 in
theorem ggX9_plan_X2_clear : GoodIn wsX9_plan wsX2_clear := goodIn_r _ [7, 8, 41, 42, 43] (by decide +kernel) (by decide +kernel)
set_option maxRecDepth 20000 in
theorem gX9_plan_X2_clear : GoodIn wsX9_plan (wsV RX9 219 RX2 yX2_clear wsX2_clear) := goodIn_app (goodIn_of _ (by decide +kernel)) ggX9_plan_X2_clear
set_option maxRecDepth 20000 in
theorem ggX9_plan_X7_hasColumn : GoodIn wsX9_plan wsX7_hasColumn := goodIn_r _ [13, 14, 30, 31, 32, 33, 34, 35, 36, 37, 38, 39, 40] (by decide +kernel) (by decide +kernel)
set_option maxRecDepth 20000 in
theorem gX9_plan_X7_hasColumn : GoodIn wsX9_plan (wsV RX9 101 RX7 yX7_hasColumn wsX7_hasColumn) := goodIn_app (goodIn_of _ (by decide +kernel)) ggX9_plan_X7_hasColumn
set_option maxRecDepth 20000 in
theorem ggX9_plan_X2_enter : GoodIn wsX9_plan wsX2_enter := goodIn_r _ [18, 8, 19, 20, 41, 42, 43] (by decide +kernel) (by decide +kernel)
set_option maxRecDepth 20000 in
theorem gX9_plan_X2_enter : GoodIn wsX9_plan (wsV RX9 223 RX2 yX2_enter wsX2_enter) := goodIn_app (goodIn_of _ (by decide +kernel)) ggX9_plan_X2_enter
theorem dX9_plan_0 : decode cX9_plan 0 = .ok (.iload_n 1, 1) := by decide +kernel
theorem dX9_plan_1 : decode cX9_plan 1 = .ok (.iconst (-1), 1) := by decide +kernel
theorem dX9_plan_2 : decode cX9_plan 2 = .ok (.if_icmp .ne 14, 3) := by decide +kernel
theorem dX9_plan_5 : decode cX9_plan 5 = .ok (.aload_n 0, 1) := by decide +kernel
theorem dX9_plan_6 : decode cX9_plan 6 = .ok (.getfield 33, 3) := by decide +kernel
theorem dX9_plan_9 : decode cX9_plan 9 = .ok (.getfield 234, 3) := by decide +kernel
theorem dX9_plan_12 : decode cX9_plan 12 = .ok (.invokevirtual 219, 3) := by decide +kernel
theorem dX9_plan_15 : decode cX9_plan 15 = .ok (.ireturn, 1) := by decide +kernel
theorem dX9_plan_16 : decode cX9_plan 16 = .ok (.iload_n 1, 1) := by decide +kernel
theorem dX9_plan_17 : decode cX9_plan 17 = .ok (.ifCond .lt 8, 3) := by decide +kernel
theorem dX9_plan_20 : decode cX9_plan 20 = .ok (.iload_n 1, 1) := by decide +kernel
theorem dX9_plan_21 : decode cX9_plan 21 = .ok (.iconst 2, 1) := by decide +kernel
theorem dX9_plan_22 : decode cX9_plan 22 = .ok (.if_icmp .le 5, 3) := by decide +kernel
theorem dX9_plan_25 : decode cX9_plan 25 = .ok (.iconst (-1), 1) := by decide +kernel
theorem dX9_plan_26 : decode cX9_plan 26 = .ok (.ireturn, 1) := by decide +kernel
theorem dX9_plan_27 : decode cX9_plan 27 = .ok (.iload_n 1, 1) := by decide +kernel
theorem dX9_plan_28 : decode cX9_plan 28 = .ok (.iconst 1, 1) := by decide +kernel
theorem dX9_plan_29 : decode cX9_plan 29 = .ok (.if_icmp .ne 21, 3) := by decide +kernel
theorem dX9_plan_32 : decode cX9_plan 32 = .ok (.iload_n 2, 1) := by decide +kernel
theorem dX9_plan_33 : decode cX9_plan 33 = .ok (.iconst (-1), 1) := by decide +kernel
theorem dX9_plan_34 : decode cX9_plan 34 = .ok (.if_icmp .eq 16, 3) := by decide +kernel
theorem dX9_plan_37 : decode cX9_plan 37 = .ok (.aload_n 0, 1) := by decide +kernel
theorem dX9_plan_38 : decode cX9_plan 38 = .ok (.getfield 33, 3) := by decide +kernel
theorem dX9_plan_41 : decode cX9_plan 41 = .ok (.iload_n 2, 1) := by decide +kernel
theorem dX9_plan_42 : decode cX9_plan 42 = .ok (.invokevirtual 101, 3) := by decide +kernel
theorem dX9_plan_45 : decode cX9_plan 45 = .ok (.ifCond .ne 5, 3) := by decide +kernel
theorem dX9_plan_48 : decode cX9_plan 48 = .ok (.iconst (-1), 1) := by decide +kernel
theorem dX9_plan_49 : decode cX9_plan 49 = .ok (.ireturn, 1) := by decide +kernel
theorem dX9_plan_50 : decode cX9_plan 50 = .ok (.iload_n 1, 1) := by decide +kernel
theorem dX9_plan_51 : decode cX9_plan 51 = .ok (.ifCond .ne 16, 3) := by decide +kernel
theorem dX9_plan_54 : decode cX9_plan 54 = .ok (.iload_n 2, 1) := by decide +kernel
theorem dX9_plan_55 : decode cX9_plan 55 = .ok (.ifCond .lt 9, 3) := by decide +kernel
theorem dX9_plan_58 : decode cX9_plan 58 = .ok (.iload_n 2, 1) := by decide +kernel
theorem dX9_plan_59 : decode cX9_plan 59 = .ok (.bipush 24, 2) := by decide +kernel
theorem dX9_plan_61 : decode cX9_plan 61 = .ok (.if_icmp .le 6, 3) := by decide +kernel
theorem dX9_plan_64 : decode cX9_plan 64 = .ok (.bipush (-2), 2) := by decide +kernel
theorem dX9_plan_66 : decode cX9_plan 66 = .ok (.ireturn, 1) := by decide +kernel
theorem dX9_plan_67 : decode cX9_plan 67 = .ok (.aload_n 0, 1) := by decide +kernel
theorem dX9_plan_68 : decode cX9_plan 68 = .ok (.getfield 33, 3) := by decide +kernel
theorem dX9_plan_71 : decode cX9_plan 71 = .ok (.getfield 234, 3) := by decide +kernel
theorem dX9_plan_74 : decode cX9_plan 74 = .ok (.iload_n 1, 1) := by decide +kernel
theorem dX9_plan_75 : decode cX9_plan 75 = .ok (.iload_n 2, 1) := by decide +kernel
theorem dX9_plan_76 : decode cX9_plan 76 = .ok (.invokevirtual 223, 3) := by decide +kernel
theorem dX9_plan_79 : decode cX9_plan 79 = .ok (.ireturn, 1) := by decide +kernel
set_option maxRecDepth 20000 in
theorem ggX9_ends_X5_copyFrom : GoodIn wsX9_ends wsX5_copyFrom := goodIn_r _ [9, 10, 11, 12, 13, 14, 15, 16, 17, 18, 19, 20, 21, 22, 162, 163, 164, 165, 166, 167, 168, 169, 170] (by decide +kernel) (by decide +kernel)
set_option maxRecDepth 20000 in
theorem gX9_ends_X5_copyFrom : GoodIn wsX9_ends (wsV RX9 237 RX5 yX5_copyFrom wsX5_copyFrom) := goodIn_app (goodIn_of _ (by decide +kernel)) ggX9_ends_X5_copyFrom
set_option maxRecDepth 20000 in
theorem ggX9_ends_X7_carryOutPlan : GoodIn wsX9_ends wsX7_carryOutPlan := goodIn_r _ [27, 28, 29, 30, 31, 32, 33, 34, 35, 36, 37, 38, 39, 40, 41, 42, 43, 44, 45, 26, 46, 47, 48, 49, 50, 51, 52, 53, 54, 55, 56, 57, 58, 59, 60, 61, 62, 63, 64, 65, 66, 67, 68, 69, 70, 71, 72, 73, 74, 75, 76, 77, 78, 79, 80, 81, 82, 83, 84, 85, 86, 87, 88, 89, 90, 91, 92, 93, 94, 95, 96, 97, 8, 98, 20, 15, 16, 17, 18, 99, 100, 101, 102, 103, 104, 105, 106, 107, 108, 109, 110, 111, 112, 113, 114, 115, 116, 117, 118, 119, 120, 121, 21, 19, 122, 123, 124, 125, 126, 127, 128, 129, 130, 131, 132, 133, 134, 135, 136, 10, 137, 151, 152, 153, 154, 155, 156, 157, 158, 159, 160, 161, 171, 172, 173, 162, 163, 164, 165, 166, 167, 168, 169, 170, 174, 175, 176, 177, 178] (by decide +kernel) (by decide +kernel)
set_option maxRecDepth 20000 in
theorem gX9_ends_X7_carryOutPlan : GoodIn wsX9_ends (wsV RX9 241 RX7 yX7_carryOutPlan wsX7_carryOutPlan) := goodIn_app (goodIn_of _ (by decide +kernel)) ggX9_ends_X7_carryOutPlan
set_option maxRecDepth 20000 in
theorem ggX9_ends_X5_faultyLines : GoodIn wsX9_ends wsX5_faultyLines := goodIn_r _ [141, 20, 21, 162, 163, 164, 165, 166, 167, 168, 169, 170] (by decide +kernel) (by decide +kernel)
set_option maxRecDepth 20000 in
theorem gX9_ends_X5_faultyLines : GoodIn wsX9_ends (wsV RX9 176 RX5 yX5_faultyLines wsX5_faultyLines) := goodIn_app (goodIn_of _ (by decide +kernel)) ggX9_ends_X5_faultyLines
theorem dX9_ends_0 : decode cX9_ends 0 = .ok (.iload_n 1, 1) := by decide +kernel
theorem dX9_ends_1 : decode cX9_ends 1 = .ok (.ifCond .eq 10, 3) := by decide +kernel
theorem dX9_ends_4 : decode cX9_ends 4 = .ok (.iload_n 1, 1) := by decide +kernel
theorem dX9_ends_5 : decode cX9_ends 5 = .ok (.iconst 1, 1) := by decide +kernel
theorem dX9_ends_6 : decode cX9_ends 6 = .ok (.if_icmp .eq 5, 3) := by decide +kernel
theorem dX9_ends_9 : decode cX9_ends 9 = .ok (.iconst (-1), 1) := by decide +kernel
theorem dX9_ends_10 : decode cX9_ends 10 = .ok (.ireturn, 1) := by decide +kernel
theorem dX9_ends_11 : decode cX9_ends 11 = .ok (.aload_n 0, 1) := by decide +kernel
theorem dX9_ends_12 : decode cX9_ends 12 = .ok (.getfield 43, 3) := by decide +kernel
theorem dX9_ends_15 : decode cX9_ends 15 = .ok (.aload_n 0, 1) := by decide +kernel
theorem dX9_ends_16 : decode cX9_ends 16 = .ok (.getfield 33, 3) := by decide +kernel
theorem dX9_ends_19 : decode cX9_ends 19 = .ok (.getfield 109, 3) := by decide +kernel
theorem dX9_ends_22 : decode cX9_ends 22 = .ok (.invokevirtual 237, 3) := by decide +kernel
theorem dX9_ends_25 : decode cX9_ends 25 = .ok (.aload_n 0, 1) := by decide +kernel
theorem dX9_ends_26 : decode cX9_ends 26 = .ok (.getfield 33, 3) := by decide +kernel
theorem dX9_ends_29 : decode cX9_ends 29 = .ok (.aload_n 0, 1) := by decide +kernel
theorem dX9_ends_30 : decode cX9_ends 30 = .ok (.getfield 43, 3) := by decide +kernel
theorem dX9_ends_33 : decode cX9_ends 33 = .ok (.invokevirtual 241, 3) := by decide +kernel
theorem dX9_ends_36 : decode cX9_ends 36 = .ok (.iload_n 1, 1) := by decide +kernel
theorem dX9_ends_37 : decode cX9_ends 37 = .ok (.ifCond .ne 13, 3) := by decide +kernel
theorem dX9_ends_40 : decode cX9_ends 40 = .ok (.aload_n 0, 1) := by decide +kernel
theorem dX9_ends_41 : decode cX9_ends 41 = .ok (.getfield 43, 3) := by decide +kernel
theorem dX9_ends_44 : decode cX9_ends 44 = .ok (.getfield 173, 3) := by decide +kernel
theorem dX9_ends_47 : decode cX9_ends 47 = .ok (.goto 10, 3) := by decide +kernel
theorem dX9_ends_50 : decode cX9_ends 50 = .ok (.aload_n 0, 1) := by decide +kernel
theorem dX9_ends_51 : decode cX9_ends 51 = .ok (.getfield 43, 3) := by decide +kernel
theorem dX9_ends_54 : decode cX9_ends 54 = .ok (.invokevirtual 176, 3) := by decide +kernel
theorem dX9_ends_57 : decode cX9_ends 57 = .ok (.ireturn, 1) := by decide +kernel
set_option maxRecDepth 20000 in
theorem ggX9_book_X2_clear : GoodIn wsX9_book wsX2_clear := goodIn_r _ [7, 8, 41, 42, 43] (by decide +kernel) (by decide +kernel)
set_option maxRecDepth 20000 in
theorem gX9_book_X2_clear : GoodIn wsX9_book (wsV RX9 219 RX2 yX2_clear wsX2_clear) := goodIn_app (goodIn_of _ (by decide +kernel)) ggX9_book_X2_clear
set_option maxRecDepth 20000 in
theorem ggX9_book_X7_hasColumn : GoodIn wsX9_book wsX7_hasColumn := goodIn_r _ [13, 14, 30, 31, 32, 33, 34, 35, 36, 37, 38, 39, 40] (by decide +kernel) (by decide +kernel)
set_option maxRecDepth 20000 in
theorem gX9_book_X7_hasColumn : GoodIn wsX9_book (wsV RX9 101 RX7 yX7_hasColumn wsX7_hasColumn) := goodIn_app (goodIn_of _ (by decide +kernel)) ggX9_book_X7_hasColumn
set_option maxRecDepth 20000 in
theorem ggX9_book_X2_enter : GoodIn wsX9_book wsX2_enter := goodIn_r _ [18, 8, 19, 20, 41, 42, 43] (by decide +kernel) (by decide +kernel)
set_option maxRecDepth 20000 in
theorem gX9_book_X2_enter : GoodIn wsX9_book (wsV RX9 223 RX2 yX2_enter wsX2_enter) := goodIn_app (goodIn_of _ (by decide +kernel)) ggX9_book_X2_enter
theorem dX9_book_0 : decode cX9_book 0 = .ok (.iload_n 1, 1) := by decide +kernel
theorem dX9_book_1 : decode cX9_book 1 = .ok (.iconst (-1), 1) := by decide +kernel
theorem dX9_book_2 : decode cX9_book 2 = .ok (.if_icmp .ne 14, 3) := by decide +kernel
theorem dX9_book_5 : decode cX9_book 5 = .ok (.aload_n 0, 1) := by decide +kernel
theorem dX9_book_6 : decode cX9_book 6 = .ok (.getfield 33, 3) := by decide +kernel
theorem dX9_book_9 : decode cX9_book 9 = .ok (.getfield 244, 3) := by decide +kernel
theorem dX9_book_12 : decode cX9_book 12 = .ok (.invokevirtual 219, 3) := by decide +kernel
theorem dX9_book_15 : decode cX9_book 15 = .ok (.ireturn, 1) := by decide +kernel
theorem dX9_book_16 : decode cX9_book 16 = .ok (.aload_n 0, 1) := by decide +kernel
theorem dX9_book_17 : decode cX9_book 17 = .ok (.getfield 33, 3) := by decide +kernel
theorem dX9_book_20 : decode cX9_book 20 = .ok (.iload_n 1, 1) := by decide +kernel
theorem dX9_book_21 : decode cX9_book 21 = .ok (.invokevirtual 101, 3) := by decide +kernel
theorem dX9_book_24 : decode cX9_book 24 = .ok (.ifCond .ne 5, 3) := by decide +kernel
theorem dX9_book_27 : decode cX9_book 27 = .ok (.iconst (-1), 1) := by decide +kernel
theorem dX9_book_28 : decode cX9_book 28 = .ok (.ireturn, 1) := by decide +kernel
theorem dX9_book_29 : decode cX9_book 29 = .ok (.iload_n 2, 1) := by decide +kernel
theorem dX9_book_30 : decode cX9_book 30 = .ok (.iconst 1, 1) := by decide +kernel
theorem dX9_book_31 : decode cX9_book 31 = .ok (.if_icmp .lt 8, 3) := by decide +kernel
theorem dX9_book_34 : decode cX9_book 34 = .ok (.iload_n 2, 1) := by decide +kernel
theorem dX9_book_35 : decode cX9_book 35 = .ok (.iconst 4, 1) := by decide +kernel
theorem dX9_book_36 : decode cX9_book 36 = .ok (.if_icmp .le 6, 3) := by decide +kernel
theorem dX9_book_39 : decode cX9_book 39 = .ok (.bipush (-2), 2) := by decide +kernel
theorem dX9_book_41 : decode cX9_book 41 = .ok (.ireturn, 1) := by decide +kernel
theorem dX9_book_42 : decode cX9_book 42 = .ok (.aload_n 0, 1) := by decide +kernel
theorem dX9_book_43 : decode cX9_book 43 = .ok (.getfield 33, 3) := by decide +kernel
theorem dX9_book_46 : decode cX9_book 46 = .ok (.getfield 244, 3) := by decide +kernel
theorem dX9_book_49 : decode cX9_book 49 = .ok (.iload_n 1, 1) := by decide +kernel
theorem dX9_book_50 : decode cX9_book 50 = .ok (.iload_n 2, 1) := by decide +kernel
theorem dX9_book_51 : decode cX9_book 51 = .ok (.invokevirtual 223, 3) := by decide +kernel
theorem dX9_book_54 : decode cX9_book 54 = .ok (.ireturn, 1) := by decide +kernel
set_option maxRecDepth 20000 in
theorem ggX9_looked_X2_firstOf : GoodIn wsX9_looked wsX2_firstOf := goodIn_r _ [8, 9, 10, 81, 82, 83] (by decide +kernel) (by decide +kernel)
set_option maxRecDepth 20000 in
theorem gX9_looked_X2_firstOf : GoodIn wsX9_looked (wsV RX9 248 RX2 yX2_firstOf wsX2_firstOf) := goodIn_app (goodIn_of _ (by decide +kernel)) ggX9_looked_X2_firstOf
set_option maxRecDepth 20000 in
theorem ggX9_looked_X7_hasColumn : GoodIn wsX9_looked wsX7_hasColumn := goodIn_r _ [15, 16, 70, 71, 72, 73, 74, 75, 76, 77, 78, 79, 80] (by decide +kernel) (by decide +kernel)
set_option maxRecDepth 20000 in
theorem gX9_looked_X7_hasColumn : GoodIn wsX9_looked (wsV RX9 101 RX7 yX7_hasColumn wsX7_hasColumn) := goodIn_app (goodIn_of _ (by decide +kernel)) ggX9_looked_X7_hasColumn
set_option maxRecDepth 20000 in
theorem ggX9_looked_X7_typeOf : GoodIn wsX9_looked wsX7_typeOf := goodIn_r _ [20, 21, 22, 23, 24, 12, 13, 14, 15, 16, 25, 26, 27, 28, 29, 30, 31, 32, 33, 34, 35, 36, 37, 38, 39, 40, 41, 42, 43, 44, 45, 46, 47, 48, 49, 50, 51, 52, 53, 54, 55, 70, 71, 72, 73, 74, 75, 76, 77, 78, 79, 80, 84, 85, 86, 87, 88, 89, 90, 91, 92, 93, 94, 95, 96, 97] (by decide +kernel) (by decide +kernel)
set_option maxRecDepth 20000 in
theorem gX9_looked_X7_typeOf : GoodIn wsX9_looked (wsV RX9 122 RX7 yX7_typeOf wsX7_typeOf) := goodIn_app (goodIn_of _ (by decide +kernel)) ggX9_looked_X7_typeOf
set_option maxRecDepth 20000 in
theorem ggX9_looked_X2_secondOf : GoodIn wsX9_looked wsX2_secondOf := goodIn_r _ [59, 9, 60, 81, 82, 83] (by decide +kernel) (by decide +kernel)
set_option maxRecDepth 20000 in
theorem gX9_looked_X2_secondOf : GoodIn wsX9_looked (wsV RX9 251 RX2 yX2_secondOf wsX2_secondOf) := goodIn_app (goodIn_of _ (by decide +kernel)) ggX9_looked_X2_secondOf
theorem dX9_looked_0 : decode cX9_looked 0 = .ok (.aload_n 0, 1) := by decide +kernel
theorem dX9_looked_1 : decode cX9_looked 1 = .ok (.getfield 33, 3) := by decide +kernel
theorem dX9_looked_4 : decode cX9_looked 4 = .ok (.getfield 244, 3) := by decide +kernel
theorem dX9_looked_7 : decode cX9_looked 7 = .ok (.astore_n 1, 1) := by decide +kernel
theorem dX9_looked_8 : decode cX9_looked 8 = .ok (.iconst 0, 1) := by decide +kernel
theorem dX9_looked_9 : decode cX9_looked 9 = .ok (.istore_n 2, 1) := by decide +kernel
theorem dX9_looked_10 : decode cX9_looked 10 = .ok (.iload_n 2, 1) := by decide +kernel
theorem dX9_looked_11 : decode cX9_looked 11 = .ok (.aload_n 1, 1) := by decide +kernel
theorem dX9_looked_12 : decode cX9_looked 12 = .ok (.getfield 247, 3) := by decide +kernel
theorem dX9_looked_15 : decode cX9_looked 15 = .ok (.if_icmp .ge 44, 3) := by decide +kernel
theorem dX9_looked_18 : decode cX9_looked 18 = .ok (.aload_n 1, 1) := by decide +kernel
theorem dX9_looked_19 : decode cX9_looked 19 = .ok (.iload_n 2, 1) := by decide +kernel
theorem dX9_looked_20 : decode cX9_looked 20 = .ok (.invokevirtual 248, 3) := by decide +kernel
theorem dX9_looked_23 : decode cX9_looked 23 = .ok (.istore_n 3, 1) := by decide +kernel
theorem dX9_looked_24 : decode cX9_looked 24 = .ok (.aload_n 0, 1) := by decide +kernel
theorem dX9_looked_25 : decode cX9_looked 25 = .ok (.getfield 33, 3) := by decide +kernel
theorem dX9_looked_28 : decode cX9_looked 28 = .ok (.iload_n 3, 1) := by decide +kernel
theorem dX9_looked_29 : decode cX9_looked 29 = .ok (.invokevirtual 101, 3) := by decide +kernel
theorem dX9_looked_32 : decode cX9_looked 32 = .ok (.ifCond .eq 19, 3) := by decide +kernel
theorem dX9_looked_35 : decode cX9_looked 35 = .ok (.aload_n 0, 1) := by decide +kernel
theorem dX9_looked_36 : decode cX9_looked 36 = .ok (.getfield 33, 3) := by decide +kernel
theorem dX9_looked_39 : decode cX9_looked 39 = .ok (.iload_n 3, 1) := by decide +kernel
theorem dX9_looked_40 : decode cX9_looked 40 = .ok (.invokevirtual 122, 3) := by decide +kernel
theorem dX9_looked_43 : decode cX9_looked 43 = .ok (.aload_n 1, 1) := by decide +kernel
theorem dX9_looked_44 : decode cX9_looked 44 = .ok (.iload_n 2, 1) := by decide +kernel
theorem dX9_looked_45 : decode cX9_looked 45 = .ok (.invokevirtual 251, 3) := by decide +kernel
theorem dX9_looked_48 : decode cX9_looked 48 = .ok (.if_icmp .eq 5, 3) := by decide +kernel
theorem dX9_looked_51 : decode cX9_looked 51 = .ok (.iload_n 2, 1) := by decide +kernel
theorem dX9_looked_52 : decode cX9_looked 52 = .ok (.ireturn, 1) := by decide +kernel
theorem dX9_looked_53 : decode cX9_looked 53 = .ok (.iinc 2 1, 3) := by decide +kernel
theorem dX9_looked_56 : decode cX9_looked 56 = .ok (.goto (-46), 3) := by decide +kernel
theorem dX9_looked_59 : decode cX9_looked 59 = .ok (.bipush (-5), 2) := by decide +kernel
theorem dX9_looked_61 : decode cX9_looked 61 = .ok (.ireturn, 1) := by decide +kernel
set_option maxRecDepth 20000 in
theorem ggX9_judge_X9_tapeAt : GoodIn wsX9_judge wsX9_tapeAt := goodIn_r _ [9, 10, 97, 98, 99, 100, 101, 102, 103, 104, 105] (by decide +kernel) (by decide +kernel)
set_option maxRecDepth 20000 in
theorem gX9_judge_X9_tapeAt : GoodIn wsX9_judge (wsV RX9 254 RX9 yX9_tapeAt wsX9_tapeAt) := goodIn_app (goodIn_of _ (by decide +kernel)) ggX9_judge_X9_tapeAt
set_option maxRecDepth 20000 in
theorem ggX9_judge_X7_hasColumn : GoodIn wsX9_judge wsX7_hasColumn := goodIn_r _ [15, 16, 109, 110, 111, 112, 113, 114, 115, 116, 117, 118, 119] (by decide +kernel) (by decide +kernel)
set_option maxRecDepth 20000 in
theorem gX9_judge_X7_hasColumn : GoodIn wsX9_judge (wsV RX9 101 RX7 yX7_hasColumn wsX7_hasColumn) := goodIn_app (goodIn_of _ (by decide +kernel)) ggX9_judge_X7_hasColumn
set_option maxRecDepth 20000 in
theorem ggX9_judge_X9_gatherValues : GoodIn wsX9_judge wsX9_gatherValues := goodIn_r _ [20, 1, 21, 22, 23, 3, 24, 25, 26, 8, 27, 11, 12, 13, 14, 15, 16, 28, 29, 30, 31, 32, 33, 34, 35, 36, 37, 38, 39, 40, 41, 42, 43, 44, 45, 46, 47, 48, 49, 50, 51, 52, 53, 54, 55, 56, 57, 58, 59, 60, 61, 62, 63, 64, 65, 66, 67, 68, 69, 70, 71, 72, 73, 74, 75, 76, 77, 78, 79, 80, 81, 82, 83, 84, 97, 98, 99, 100, 101, 102, 103, 104, 105, 109, 110, 111, 112, 113, 114, 115, 116, 117, 118, 119, 120, 121, 122, 123, 124, 125, 126, 127, 128, 129, 130, 131, 132, 133] (by decide +kernel) (by decide +kernel)
set_option maxRecDepth 20000 in
theorem gX9_judge_X9_gatherValues : GoodIn wsX9_judge (wsV RX9 199 RX9 yX9_gatherValues wsX9_gatherValues) := goodIn_app (goodIn_of _ (by decide +kernel)) ggX9_judge_X9_gatherValues
set_option maxRecDepth 20000 in
theorem ggX9_judge_X8_itemAt : GoodIn wsX9_judge wsX8_itemAt := goodIn_r _ [89, 90, 91, 92, 93, 94, 88, 95, 96, 106, 107, 108] (by decide +kernel) (by decide +kernel)
set_option maxRecDepth 20000 in
theorem gX9_judge_X8_itemAt : GoodIn wsX9_judge (wsV RX9 262 RX8 yX8_itemAt wsX8_itemAt) := goodIn_app (goodIn_of _ (by decide +kernel)) ggX9_judge_X8_itemAt
theorem dX9_judge_0 : decode cX9_judge 0 = .ok (.aload_n 0, 1) := by decide +kernel
theorem dX9_judge_1 : decode cX9_judge 1 = .ok (.iload_n 2, 1) := by decide +kernel
theorem dX9_judge_2 : decode cX9_judge 2 = .ok (.invokevirtual 254, 3) := by decide +kernel
theorem dX9_judge_5 : decode cX9_judge 5 = .ok (.astore 4, 2) := by decide +kernel
theorem dX9_judge_7 : decode cX9_judge 7 = .ok (.aload_n 0, 1) := by decide +kernel
theorem dX9_judge_8 : decode cX9_judge 8 = .ok (.getfield 33, 3) := by decide +kernel
theorem dX9_judge_11 : decode cX9_judge 11 = .ok (.iload_n 1, 1) := by decide +kernel
theorem dX9_judge_12 : decode cX9_judge 12 = .ok (.invokevirtual 101, 3) := by decide +kernel
theorem dX9_judge_15 : decode cX9_judge 15 = .ok (.ifCond .eq 8, 3) := by decide +kernel
theorem dX9_judge_18 : decode cX9_judge 18 = .ok (.aload 4, 2) := by decide +kernel
theorem dX9_judge_20 : decode cX9_judge 20 = .ok (.ifnonnull 5, 3) := by decide +kernel
theorem dX9_judge_23 : decode cX9_judge 23 = .ok (.iconst (-1), 1) := by decide +kernel
theorem dX9_judge_24 : decode cX9_judge 24 = .ok (.ireturn, 1) := by decide +kernel
theorem dX9_judge_25 : decode cX9_judge 25 = .ok (.aload 4, 2) := by decide +kernel
theorem dX9_judge_27 : decode cX9_judge 27 = .ok (.getfield 258, 3) := by decide +kernel
theorem dX9_judge_30 : decode cX9_judge 30 = .ok (.iconst (-1), 1) := by decide +kernel
theorem dX9_judge_31 : decode cX9_judge 31 = .ok (.if_icmp .eq 15, 3) := by decide +kernel
theorem dX9_judge_34 : decode cX9_judge 34 = .ok (.aload 4, 2) := by decide +kernel
theorem dX9_judge_36 : decode cX9_judge 36 = .ok (.getfield 258, 3) := by decide +kernel
theorem dX9_judge_39 : decode cX9_judge 39 = .ok (.iconst 3, 1) := by decide +kernel
theorem dX9_judge_40 : decode cX9_judge 40 = .ok (.if_icmp .eq 6, 3) := by decide +kernel
theorem dX9_judge_43 : decode cX9_judge 43 = .ok (.bipush (-12), 2) := by decide +kernel
theorem dX9_judge_45 : decode cX9_judge 45 = .ok (.ireturn, 1) := by decide +kernel
theorem dX9_judge_46 : decode cX9_judge 46 = .ok (.aload_n 0, 1) := by decide +kernel
theorem dX9_judge_47 : decode cX9_judge 47 = .ok (.iload_n 1, 1) := by decide +kernel
theorem dX9_judge_48 : decode cX9_judge 48 = .ok (.invokevirtual 199, 3) := by decide +kernel
theorem dX9_judge_51 : decode cX9_judge 51 = .ok (.istore 5, 2) := by decide +kernel
theorem dX9_judge_53 : decode cX9_judge 53 = .ok (.iconst 0, 1) := by decide +kernel
theorem dX9_judge_54 : decode cX9_judge 54 = .ok (.istore 6, 2) := by decide +kernel
theorem dX9_judge_56 : decode cX9_judge 56 = .ok (.iload 6, 2) := by decide +kernel
theorem dX9_judge_58 : decode cX9_judge 58 = .ok (.iload 5, 2) := by decide +kernel
theorem dX9_judge_60 : decode cX9_judge 60 = .ok (.if_icmp .ge 64, 3) := by decide +kernel
theorem dX9_judge_63 : decode cX9_judge 63 = .ok (.iload 6, 2) := by decide +kernel
theorem dX9_judge_65 : decode cX9_judge 65 = .ok (.aload_n 0, 1) := by decide +kernel
theorem dX9_judge_66 : decode cX9_judge 66 = .ok (.getfield 47, 3) := by decide +kernel
theorem dX9_judge_69 : decode cX9_judge 69 = .ok (.arraylength, 1) := by decide +kernel
theorem dX9_judge_70 : decode cX9_judge 70 = .ok (.if_icmp .ge 54, 3) := by decide +kernel
theorem dX9_judge_73 : decode cX9_judge 73 = .ok (.iload_n 3, 1) := by decide +kernel
theorem dX9_judge_74 : decode cX9_judge 74 = .ok (.ifCond .lt 15, 3) := by decide +kernel
theorem dX9_judge_77 : decode cX9_judge 77 = .ok (.iload_n 3, 1) := by decide +kernel
theorem dX9_judge_78 : decode cX9_judge 78 = .ok (.aload 4, 2) := by decide +kernel
theorem dX9_judge_80 : decode cX9_judge 80 = .ok (.getfield 261, 3) := by decide +kernel
theorem dX9_judge_83 : decode cX9_judge 83 = .ok (.iload 6, 2) := by decide +kernel
theorem dX9_judge_85 : decode cX9_judge 85 = .ok (.isub, 1) := by decide +kernel
theorem dX9_judge_86 : decode cX9_judge 86 = .ok (.if_icmp .lt 9, 3) := by decide +kernel
theorem dX9_judge_89 : decode cX9_judge 89 = .ok (.bipush 100, 2) := by decide +kernel
theorem dX9_judge_91 : decode cX9_judge 91 = .ok (.iload 6, 2) := by decide +kernel
theorem dX9_judge_93 : decode cX9_judge 93 = .ok (.iadd, 1) := by decide +kernel
theorem dX9_judge_94 : decode cX9_judge 94 = .ok (.ireturn, 1) := by decide +kernel
theorem dX9_judge_95 : decode cX9_judge 95 = .ok (.aload 4, 2) := by decide +kernel
theorem dX9_judge_97 : decode cX9_judge 97 = .ok (.iload_n 3, 1) := by decide +kernel
theorem dX9_judge_98 : decode cX9_judge 98 = .ok (.iload 6, 2) := by decide +kernel
theorem dX9_judge_100 : decode cX9_judge 100 = .ok (.iadd, 1) := by decide +kernel
theorem dX9_judge_101 : decode cX9_judge 101 = .ok (.invokevirtual 262, 3) := by decide +kernel
theorem dX9_judge_104 : decode cX9_judge 104 = .ok (.aload_n 0, 1) := by decide +kernel
theorem dX9_judge_105 : decode cX9_judge 105 = .ok (.getfield 47, 3) := by decide +kernel
theorem dX9_judge_108 : decode cX9_judge 108 = .ok (.iload 6, 2) := by decide +kernel
theorem dX9_judge_110 : decode cX9_judge 110 = .ok (.laload, 1) := by decide +kernel
theorem dX9_judge_111 : decode cX9_judge 111 = .ok (.lcmp, 1) := by decide +kernel
theorem dX9_judge_112 : decode cX9_judge 112 = .ok (.ifCond .eq 6, 3) := by decide +kernel
theorem dX9_judge_115 : decode cX9_judge 115 = .ok (.iload 6, 2) := by decide +kernel
theorem dX9_judge_117 : decode cX9_judge 117 = .ok (.ireturn, 1) := by decide +kernel
theorem dX9_judge_118 : decode cX9_judge 118 = .ok (.iinc 6 1, 3) := by decide +kernel
theorem dX9_judge_121 : decode cX9_judge 121 = .ok (.goto (-65), 3) := by decide +kernel
theorem dX9_judge_124 : decode cX9_judge 124 = .ok (.bipush (-5), 2) := by decide +kernel
theorem dX9_judge_126 : decode cX9_judge 126 = .ok (.ireturn, 1) := by decide +kernel
set_option maxRecDepth 20000 in
theorem ggX9_image_X7_copyFrom : GoodIn wsX9_image wsX7_copyFrom := goodIn_r _ [9, 10, 11, 12, 13, 14, 15, 16, 17, 18, 19, 20, 21, 22, 23, 24, 25, 26, 27, 28, 29, 30, 31, 32, 33, 34, 35, 36, 37, 38, 39, 40, 41, 42, 43, 44, 45, 46, 47, 48, 49, 50, 51, 52, 53, 54, 55, 56, 57, 58, 59, 60, 61, 62, 72, 73, 74, 75, 76, 77, 78, 79, 80, 81, 82, 83, 84, 85, 86, 87, 88, 89, 90, 91, 92, 93, 94] (by decide +kernel) (by decide +kernel)
set_option maxRecDepth 20000 in
theorem gX9_image_X7_copyFrom : GoodIn wsX9_image (wsV RX9 265 RX7 yX7_copyFrom wsX7_copyFrom) := goodIn_app (goodIn_of _ (by decide +kernel)) ggX9_image_X7_copyFrom
theorem dX9_image_0 : decode cX9_image 0 = .ok (.aload_n 0, 1) := by decide +kernel
theorem dX9_image_1 : decode cX9_image 1 = .ok (.getfield 37, 3) := by decide +kernel
theorem dX9_image_4 : decode cX9_image 4 = .ok (.aload_n 0, 1) := by decide +kernel
theorem dX9_image_5 : decode cX9_image 5 = .ok (.getfield 33, 3) := by decide +kernel
theorem dX9_image_8 : decode cX9_image 8 = .ok (.invokevirtual 265, 3) := by decide +kernel
theorem dX9_image_11 : decode cX9_image 11 = .ok (.aload_n 0, 1) := by decide +kernel
theorem dX9_image_12 : decode cX9_image 12 = .ok (.iconst 1, 1) := by decide +kernel
theorem dX9_image_13 : decode cX9_image 13 = .ok (.putfield 57, 3) := by decide +kernel
theorem dX9_image_16 : decode cX9_image 16 = .ok (.aload_n 0, 1) := by decide +kernel
theorem dX9_image_17 : decode cX9_image 17 = .ok (.getfield 33, 3) := by decide +kernel
theorem dX9_image_20 : decode cX9_image 20 = .ok (.getfield 83, 3) := by decide +kernel
theorem dX9_image_23 : decode cX9_image 23 = .ok (.ireturn, 1) := by decide +kernel
set_option maxRecDepth 20000 in
theorem ggX9_undo_X7_copyFrom : GoodIn wsX9_undo wsX7_copyFrom := goodIn_r _ [9, 10, 11, 12, 13, 14, 15, 16, 17, 18, 19, 20, 21, 22, 23, 24, 25, 26, 27, 28, 29, 30, 31, 32, 33, 34, 35, 36, 37, 38, 39, 40, 41, 42, 43, 44, 45, 46, 47, 48, 49, 50, 51, 52, 53, 54, 55, 56, 57, 58, 59, 60, 61, 62, 72, 73, 74, 75, 76, 77, 78, 79, 80, 81, 82, 83, 84, 85, 86, 87, 88, 89, 90, 91, 92, 93, 94] (by decide +kernel) (by decide +kernel)
set_option maxRecDepth 20000 in
theorem gX9_undo_X7_copyFrom : GoodIn wsX9_undo (wsV RX9 265 RX7 yX7_copyFrom wsX7_copyFrom) := goodIn_app (goodIn_of _ (by decide +kernel)) ggX9_undo_X7_copyFrom
theorem dX9_undo_0 : decode cX9_undo 0 = .ok (.aload_n 0, 1) := by decide +kernel
theorem dX9_undo_1 : decode cX9_undo 1 = .ok (.getfield 57, 3) := by decide +kernel
theorem dX9_undo_4 : decode cX9_undo 4 = .ok (.ifCond .ne 6, 3) := by decide +kernel
theorem dX9_undo_7 : decode cX9_undo 7 = .ok (.bipush (-3), 2) := by decide +kernel
theorem dX9_undo_9 : decode cX9_undo 9 = .ok (.ireturn, 1) := by decide +kernel
theorem dX9_undo_10 : decode cX9_undo 10 = .ok (.aload_n 0, 1) := by decide +kernel
theorem dX9_undo_11 : decode cX9_undo 11 = .ok (.getfield 33, 3) := by decide +kernel
theorem dX9_undo_14 : decode cX9_undo 14 = .ok (.aload_n 0, 1) := by decide +kernel
theorem dX9_undo_15 : decode cX9_undo 15 = .ok (.getfield 37, 3) := by decide +kernel
theorem dX9_undo_18 : decode cX9_undo 18 = .ok (.invokevirtual 265, 3) := by decide +kernel
theorem dX9_undo_21 : decode cX9_undo 21 = .ok (.aload_n 0, 1) := by decide +kernel
theorem dX9_undo_22 : decode cX9_undo 22 = .ok (.getfield 33, 3) := by decide +kernel
theorem dX9_undo_25 : decode cX9_undo 25 = .ok (.getfield 83, 3) := by decide +kernel
theorem dX9_undo_28 : decode cX9_undo 28 = .ok (.ireturn, 1) := by decide +kernel
set_option maxRecDepth 20000 in
theorem ggX9_taken_X9_rowField : GoodIn wsX9_taken wsX9_rowField := goodIn_r _ [7, 2, 8, 9, 10, 11, 12, 13, 14, 15, 16, 17, 18, 19, 20, 21, 22, 23, 24, 25, 26, 27, 28, 29, 30, 31, 32, 33, 67, 68, 69, 70, 71, 72, 73, 74, 75, 76, 77, 78, 79, 80, 81, 82, 83, 84, 85, 86, 87, 88, 89, 90, 91, 92, 93, 94, 95, 96] (by decide +kernel) (by decide +kernel)
set_option maxRecDepth 20000 in
theorem gX9_taken_X9_rowField : GoodIn wsX9_taken (wsV RX9 182 RX9 yX9_rowField wsX9_rowField) := goodIn_app (goodIn_of _ (by decide +kernel)) ggX9_taken_X9_rowField
set_option maxRecDepth 20000 in
theorem ggX9_taken_X7_typeOf : GoodIn wsX9_taken wsX7_typeOf := goodIn_r _ [37, 38, 39, 40, 41, 10, 11, 12, 13, 14, 42, 43, 44, 45, 46, 47, 48, 49, 50, 51, 52, 53, 54, 55, 26, 56, 57, 58, 59, 60, 61, 23, 24, 25, 27, 62, 29, 30, 31, 32, 33, 76, 77, 78, 79, 80, 81, 82, 83, 84, 85, 86, 87, 88, 89, 90, 91, 92, 93, 94, 95, 63, 64, 65, 66, 96] (by decide +kernel) (by decide +kernel)
set_option maxRecDepth 20000 in
theorem gX9_taken_X7_typeOf : GoodIn wsX9_taken (wsV RX9 122 RX7 yX7_typeOf wsX7_typeOf) := goodIn_app (goodIn_of _ (by decide +kernel)) ggX9_taken_X7_typeOf
theorem dX9_taken_0 : decode cX9_taken 0 = .ok (.iload_n 3, 1) := by decide +kernel
theorem dX9_taken_1 : decode cX9_taken 1 = .ok (.ifCond .lt 8, 3) := by decide +kernel
theorem dX9_taken_4 : decode cX9_taken 4 = .ok (.iload_n 3, 1) := by decide +kernel
theorem dX9_taken_5 : decode cX9_taken 5 = .ok (.iconst 4, 1) := by decide +kernel
theorem dX9_taken_6 : decode cX9_taken 6 = .ok (.if_icmp .le 6, 3) := by decide +kernel
theorem dX9_taken_9 : decode cX9_taken 9 = .ok (.bipush (-2), 2) := by decide +kernel
theorem dX9_taken_11 : decode cX9_taken 11 = .ok (.ireturn, 1) := by decide +kernel
theorem dX9_taken_12 : decode cX9_taken 12 = .ok (.aload_n 0, 1) := by decide +kernel
theorem dX9_taken_13 : decode cX9_taken 13 = .ok (.iload_n 1, 1) := by decide +kernel
theorem dX9_taken_14 : decode cX9_taken 14 = .ok (.iload_n 2, 1) := by decide +kernel
theorem dX9_taken_15 : decode cX9_taken 15 = .ok (.invokevirtual 182, 3) := by decide +kernel
theorem dX9_taken_18 : decode cX9_taken 18 = .ok (.astore 4, 2) := by decide +kernel
theorem dX9_taken_20 : decode cX9_taken 20 = .ok (.aload 4, 2) := by decide +kernel
theorem dX9_taken_22 : decode cX9_taken 22 = .ok (.ifnull 11, 3) := by decide +kernel
theorem dX9_taken_25 : decode cX9_taken 25 = .ok (.aload 4, 2) := by decide +kernel
theorem dX9_taken_27 : decode cX9_taken 27 = .ok (.getfield 154, 3) := by decide +kernel
theorem dX9_taken_30 : decode cX9_taken 30 = .ok (.ifCond .ne 6, 3) := by decide +kernel
theorem dX9_taken_33 : decode cX9_taken 33 = .ok (.bipush (-11), 2) := by decide +kernel
theorem dX9_taken_35 : decode cX9_taken 35 = .ok (.ireturn, 1) := by decide +kernel
theorem dX9_taken_36 : decode cX9_taken 36 = .ok (.aload_n 0, 1) := by decide +kernel
theorem dX9_taken_37 : decode cX9_taken 37 = .ok (.getfield 33, 3) := by decide +kernel
theorem dX9_taken_40 : decode cX9_taken 40 = .ok (.iload_n 2, 1) := by decide +kernel
theorem dX9_taken_41 : decode cX9_taken 41 = .ok (.invokevirtual 122, 3) := by decide +kernel
theorem dX9_taken_44 : decode cX9_taken 44 = .ok (.istore 5, 2) := by decide +kernel
theorem dX9_taken_46 : decode cX9_taken 46 = .ok (.iload_n 3, 1) := by decide +kernel
theorem dX9_taken_47 : decode cX9_taken 47 = .ok (.ifCond .ne 17, 3) := by decide +kernel
theorem dX9_taken_50 : decode cX9_taken 50 = .ok (.iload 5, 2) := by decide +kernel
theorem dX9_taken_52 : decode cX9_taken 52 = .ok (.iconst 4, 1) := by decide +kernel
theorem dX9_taken_53 : decode cX9_taken 53 = .ok (.if_icmp .eq 7, 3) := by decide +kernel
theorem dX9_taken_56 : decode cX9_taken 56 = .ok (.iconst 1, 1) := by decide +kernel
theorem dX9_taken_57 : decode cX9_taken 57 = .ok (.goto 18, 3) := by decide +kernel
theorem dX9_taken_60 : decode cX9_taken 60 = .ok (.iconst 0, 1) := by decide +kernel
theorem dX9_taken_61 : decode cX9_taken 61 = .ok (.goto 14, 3) := by decide +kernel
theorem dX9_taken_64 : decode cX9_taken 64 = .ok (.iload 5, 2) := by decide +kernel
theorem dX9_taken_66 : decode cX9_taken 66 = .ok (.iload_n 3, 1) := by decide +kernel
theorem dX9_taken_67 : decode cX9_taken 67 = .ok (.if_icmp .ne 7, 3) := by decide +kernel
theorem dX9_taken_70 : decode cX9_taken 70 = .ok (.iconst 1, 1) := by decide +kernel
theorem dX9_taken_71 : decode cX9_taken 71 = .ok (.goto 4, 3) := by decide +kernel
theorem dX9_taken_74 : decode cX9_taken 74 = .ok (.iconst 0, 1) := by decide +kernel
theorem dX9_taken_75 : decode cX9_taken 75 = .ok (.istore 6, 2) := by decide +kernel
theorem dX9_taken_77 : decode cX9_taken 77 = .ok (.iload 6, 2) := by decide +kernel
theorem dX9_taken_79 : decode cX9_taken 79 = .ok (.ifCond .eq 8, 3) := by decide +kernel
theorem dX9_taken_82 : decode cX9_taken 82 = .ok (.iload 5, 2) := by decide +kernel
theorem dX9_taken_84 : decode cX9_taken 84 = .ok (.goto 5, 3) := by decide +kernel
theorem dX9_taken_87 : decode cX9_taken 87 = .ok (.bipush (-12), 2) := by decide +kernel
theorem dX9_taken_89 : decode cX9_taken 89 = .ok (.ireturn, 1) := by decide +kernel
theorem dX9_count_0 : decode cX9_count 0 = .ok (.iload_n 1, 1) := by decide +kernel
theorem dX9_count_1 : decode cX9_count 1 = .ok (.tableswitch 84 0 4 #[35, 43, 54, 65, 76], 35) := by decide +kernel
theorem dX9_count_36 : decode cX9_count 36 = .ok (.aload_n 0, 1) := by decide +kernel
theorem dX9_count_37 : decode cX9_count 37 = .ok (.getfield 33, 3) := by decide +kernel
theorem dX9_count_40 : decode cX9_count 40 = .ok (.getfield 83, 3) := by decide +kernel
theorem dX9_count_43 : decode cX9_count 43 = .ok (.ireturn, 1) := by decide +kernel
theorem dX9_count_44 : decode cX9_count 44 = .ok (.aload_n 0, 1) := by decide +kernel
theorem dX9_count_45 : decode cX9_count 45 = .ok (.getfield 33, 3) := by decide +kernel
theorem dX9_count_48 : decode cX9_count 48 = .ok (.getfield 215, 3) := by decide +kernel
theorem dX9_count_51 : decode cX9_count 51 = .ok (.getfield 247, 3) := by decide +kernel
theorem dX9_count_54 : decode cX9_count 54 = .ok (.ireturn, 1) := by decide +kernel
theorem dX9_count_55 : decode cX9_count 55 = .ok (.aload_n 0, 1) := by decide +kernel
theorem dX9_count_56 : decode cX9_count 56 = .ok (.getfield 33, 3) := by decide +kernel
theorem dX9_count_59 : decode cX9_count 59 = .ok (.getfield 234, 3) := by decide +kernel
theorem dX9_count_62 : decode cX9_count 62 = .ok (.getfield 247, 3) := by decide +kernel
theorem dX9_count_65 : decode cX9_count 65 = .ok (.ireturn, 1) := by decide +kernel
theorem dX9_count_66 : decode cX9_count 66 = .ok (.aload_n 0, 1) := by decide +kernel
