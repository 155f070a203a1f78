theorem dX9_count_67 : decode cX9_count 67 = .ok (.getfield 33, 3) := by decide +kernel
theorem dX9_count_70 : decode cX9_count 70 = .ok (.getfield 244, 3) := by decide +kernel
theorem dX9_count_73 : decode cX9_count 73 = .ok (.getfield 247, 3) := by decide +kernel
theorem dX9_count_76 : decode cX9_count 76 = .ok (.ireturn, 1) := by decide +kernel
theorem dX9_count_77 : decode cX9_count 77 = .ok (.aload_n 0, 1) := by decide +kernel
theorem dX9_count_78 : decode cX9_count 78 = .ok (.getfield 16, 3) := by decide +kernel
theorem dX9_count_81 : decode cX9_count 81 = .ok (.getfield 62, 3) := by decide +kernel
theorem dX9_count_84 : decode cX9_count 84 = .ok (.ireturn, 1) := by decide +kernel
theorem dX9_count_85 : decode cX9_count 85 = .ok (.bipush (-2), 2) := by decide +kernel
theorem dX9_count_87 : decode cX9_count 87 = .ok (.ireturn, 1) := by decide +kernel
set_option maxRecDepth 20000 in
theorem ggX9_tape_X9_tapeAt : GoodIn wsX9_tape wsX9_tapeAt := goodIn_r _ [5, 6, 26, 27, 28, 29, 30, 31, 32, 33, 34] (by decide +kernel) (by decide +kernel)
set_option maxRecDepth 20000 in
theorem gX9_tape_X9_tapeAt : GoodIn wsX9_tape (wsV RX9 254 RX9 yX9_tapeAt wsX9_tapeAt) := goodIn_app (goodIn_of _ (by decide +kernel)) ggX9_tape_X9_tapeAt
set_option maxRecDepth 20000 in
theorem ggX9_tape_X8_become : GoodIn wsX9_tape wsX8_become := goodIn_r _ [11, 12, 13, 14, 15, 16, 17, 18, 19, 20, 21, 22, 23, 24, 25, 35, 36, 37] (by decide +kernel) (by decide +kernel)
set_option maxRecDepth 20000 in
theorem gX9_tape_X8_become : GoodIn wsX9_tape (wsV RX9 268 RX8 yX8_become wsX8_become) := goodIn_app (goodIn_of _ (by decide +kernel)) ggX9_tape_X8_become
theorem dX9_tape_0 : decode cX9_tape 0 = .ok (.aload_n 0, 1) := by decide +kernel
theorem dX9_tape_1 : decode cX9_tape 1 = .ok (.iload_n 1, 1) := by decide +kernel
theorem dX9_tape_2 : decode cX9_tape 2 = .ok (.invokevirtual 254, 3) := by decide +kernel
theorem dX9_tape_5 : decode cX9_tape 5 = .ok (.astore 4, 2) := by decide +kernel
theorem dX9_tape_7 : decode cX9_tape 7 = .ok (.aload 4, 2) := by decide +kernel
theorem dX9_tape_9 : decode cX9_tape 9 = .ok (.ifnonnull 5, 3) := by decide +kernel
theorem dX9_tape_12 : decode cX9_tape 12 = .ok (.iconst (-1), 1) := by decide +kernel
theorem dX9_tape_13 : decode cX9_tape 13 = .ok (.ireturn, 1) := by decide +kernel
theorem dX9_tape_14 : decode cX9_tape 14 = .ok (.iload_n 2, 1) := by decide +kernel
theorem dX9_tape_15 : decode cX9_tape 15 = .ok (.iconst (-1), 1) := by decide +kernel
theorem dX9_tape_16 : decode cX9_tape 16 = .ok (.if_icmp .lt 8, 3) := by decide +kernel
theorem dX9_tape_19 : decode cX9_tape 19 = .ok (.iload_n 2, 1) := by decide +kernel
theorem dX9_tape_20 : decode cX9_tape 20 = .ok (.iconst 4, 1) := by decide +kernel
theorem dX9_tape_21 : decode cX9_tape 21 = .ok (.if_icmp .le 6, 3) := by decide +kernel
theorem dX9_tape_24 : decode cX9_tape 24 = .ok (.bipush (-2), 2) := by decide +kernel
theorem dX9_tape_26 : decode cX9_tape 26 = .ok (.ireturn, 1) := by decide +kernel
theorem dX9_tape_27 : decode cX9_tape 27 = .ok (.iload_n 2, 1) := by decide +kernel
theorem dX9_tape_28 : decode cX9_tape 28 = .ok (.iconst (-1), 1) := by decide +kernel
theorem dX9_tape_29 : decode cX9_tape 29 = .ok (.if_icmp .eq 12, 3) := by decide +kernel
theorem dX9_tape_32 : decode cX9_tape 32 = .ok (.iload_n 3, 1) := by decide +kernel
theorem dX9_tape_33 : decode cX9_tape 33 = .ok (.bipush 60, 2) := by decide +kernel
theorem dX9_tape_35 : decode cX9_tape 35 = .ok (.if_icmp .le 6, 3) := by decide +kernel
theorem dX9_tape_38 : decode cX9_tape 38 = .ok (.bipush (-2), 2) := by decide +kernel
theorem dX9_tape_40 : decode cX9_tape 40 = .ok (.ireturn, 1) := by decide +kernel
theorem dX9_tape_41 : decode cX9_tape 41 = .ok (.iload_n 2, 1) := by decide +kernel
theorem dX9_tape_42 : decode cX9_tape 42 = .ok (.iconst (-1), 1) := by decide +kernel
theorem dX9_tape_43 : decode cX9_tape 43 = .ok (.if_icmp .eq 10, 3) := by decide +kernel
theorem dX9_tape_46 : decode cX9_tape 46 = .ok (.iload_n 3, 1) := by decide +kernel
theorem dX9_tape_47 : decode cX9_tape 47 = .ok (.ifCond .ge 6, 3) := by decide +kernel
theorem dX9_tape_50 : decode cX9_tape 50 = .ok (.bipush (-14), 2) := by decide +kernel
theorem dX9_tape_52 : decode cX9_tape 52 = .ok (.ireturn, 1) := by decide +kernel
theorem dX9_tape_53 : decode cX9_tape 53 = .ok (.aload 4, 2) := by decide +kernel
theorem dX9_tape_55 : decode cX9_tape 55 = .ok (.iload_n 2, 1) := by decide +kernel
theorem dX9_tape_56 : decode cX9_tape 56 = .ok (.iload_n 2, 1) := by decide +kernel
theorem dX9_tape_57 : decode cX9_tape 57 = .ok (.iconst (-1), 1) := by decide +kernel
theorem dX9_tape_58 : decode cX9_tape 58 = .ok (.if_icmp .ne 7, 3) := by decide +kernel
theorem dX9_tape_61 : decode cX9_tape 61 = .ok (.iconst 0, 1) := by decide +kernel
theorem dX9_tape_62 : decode cX9_tape 62 = .ok (.goto 4, 3) := by decide +kernel
theorem dX9_tape_65 : decode cX9_tape 65 = .ok (.iload_n 3, 1) := by decide +kernel
theorem dX9_tape_66 : decode cX9_tape 66 = .ok (.invokevirtual 268, 3) := by decide +kernel
theorem dX9_tape_69 : decode cX9_tape 69 = .ok (.iconst 1, 1) := by decide +kernel
theorem dX9_tape_70 : decode cX9_tape 70 = .ok (.ireturn, 1) := by decide +kernel
set_option maxRecDepth 20000 in
theorem ggX9_item_X9_tapeAt : GoodIn wsX9_item wsX9_tapeAt := goodIn_r _ [6, 7, 28, 29, 30, 31, 32, 33, 34, 35, 36] (by decide +kernel) (by decide +kernel)
set_option maxRecDepth 20000 in
theorem gX9_item_X9_tapeAt : GoodIn wsX9_item (wsV RX9 254 RX9 yX9_tapeAt wsX9_tapeAt) := goodIn_app (goodIn_of _ (by decide +kernel)) ggX9_item_X9_tapeAt
set_option maxRecDepth 20000 in
theorem ggX9_item_X8_hasPlace : GoodIn wsX9_item wsX8_hasPlace := goodIn_r _ [12, 13, 14, 25, 26, 27] (by decide +kernel) (by decide +kernel)
set_option maxRecDepth 20000 in
theorem gX9_item_X8_hasPlace : GoodIn wsX9_item (wsV RX9 272 RX8 yX8_hasPlace wsX8_hasPlace) := goodIn_app (goodIn_of _ (by decide +kernel)) ggX9_item_X8_hasPlace
set_option maxRecDepth 20000 in
theorem ggX9_item_X8_put : GoodIn wsX9_item wsX8_put := goodIn_r _ [18, 14, 19, 9, 10, 11, 12, 13, 20, 21, 22, 23, 24, 25, 26, 27] (by decide +kernel) (by decide +kernel)
set_option maxRecDepth 20000 in
theorem gX9_item_X8_put : GoodIn wsX9_item (wsV RX9 275 RX8 yX8_put wsX8_put) := goodIn_app (goodIn_of _ (by decide +kernel)) ggX9_item_X8_put
theorem dX9_item_0 : decode cX9_item 0 = .ok (.aload_n 0, 1) := by decide +kernel
theorem dX9_item_1 : decode cX9_item 1 = .ok (.iload_n 1, 1) := by decide +kernel
theorem dX9_item_2 : decode cX9_item 2 = .ok (.invokevirtual 254, 3) := by decide +kernel
theorem dX9_item_5 : decode cX9_item 5 = .ok (.astore 5, 2) := by decide +kernel
theorem dX9_item_7 : decode cX9_item 7 = .ok (.aload 5, 2) := by decide +kernel
theorem dX9_item_9 : decode cX9_item 9 = .ok (.ifnonnull 5, 3) := by decide +kernel
theorem dX9_item_12 : decode cX9_item 12 = .ok (.iconst (-1), 1) := by decide +kernel
theorem dX9_item_13 : decode cX9_item 13 = .ok (.ireturn, 1) := by decide +kernel
theorem dX9_item_14 : decode cX9_item 14 = .ok (.aload 5, 2) := by decide +kernel
theorem dX9_item_16 : decode cX9_item 16 = .ok (.getfield 258, 3) := by decide +kernel
theorem dX9_item_19 : decode cX9_item 19 = .ok (.iconst (-1), 1) := by decide +kernel
theorem dX9_item_20 : decode cX9_item 20 = .ok (.if_icmp .ne 6, 3) := by decide +kernel
theorem dX9_item_23 : decode cX9_item 23 = .ok (.bipush (-11), 2) := by decide +kernel
theorem dX9_item_25 : decode cX9_item 25 = .ok (.ireturn, 1) := by decide +kernel
theorem dX9_item_26 : decode cX9_item 26 = .ok (.aload 5, 2) := by decide +kernel
theorem dX9_item_28 : decode cX9_item 28 = .ok (.iload_n 2, 1) := by decide +kernel
theorem dX9_item_29 : decode cX9_item 29 = .ok (.invokevirtual 272, 3) := by decide +kernel
theorem dX9_item_32 : decode cX9_item 32 = .ok (.ifCond .ne 6, 3) := by decide +kernel
theorem dX9_item_35 : decode cX9_item 35 = .ok (.bipush (-13), 2) := by decide +kernel
theorem dX9_item_37 : decode cX9_item 37 = .ok (.ireturn, 1) := by decide +kernel
theorem dX9_item_38 : decode cX9_item 38 = .ok (.aload 5, 2) := by decide +kernel
theorem dX9_item_40 : decode cX9_item 40 = .ok (.iload_n 2, 1) := by decide +kernel
theorem dX9_item_41 : decode cX9_item 41 = .ok (.lload_n 3, 1) := by decide +kernel
theorem dX9_item_42 : decode cX9_item 42 = .ok (.invokevirtual 275, 3) := by decide +kernel
theorem dX9_item_45 : decode cX9_item 45 = .ok (.iconst 1, 1) := by decide +kernel
theorem dX9_item_46 : decode cX9_item 46 = .ok (.ireturn, 1) := by decide +kernel
set_option maxRecDepth 20000 in
theorem ggX9_read_X9_tapeAt : GoodIn wsX9_read wsX9_tapeAt := goodIn_r _ [6, 7, 21, 22, 23, 24, 25, 26, 27, 28, 29] (by decide +kernel) (by decide +kernel)
set_option maxRecDepth 20000 in
theorem gX9_read_X9_tapeAt : GoodIn wsX9_read (wsV RX9 254 RX9 yX9_tapeAt wsX9_tapeAt) := goodIn_app (goodIn_of _ (by decide +kernel)) ggX9_read_X9_tapeAt
set_option maxRecDepth 20000 in
theorem ggX9_read_X8_hasPlace : GoodIn wsX9_read wsX8_hasPlace := goodIn_r _ [12, 13, 14, 30, 31, 32] (by decide +kernel) (by decide +kernel)
set_option maxRecDepth 20000 in
theorem gX9_read_X8_hasPlace : GoodIn wsX9_read (wsV RX9 272 RX8 yX8_hasPlace wsX8_hasPlace) := goodIn_app (goodIn_of _ (by decide +kernel)) ggX9_read_X8_hasPlace
set_option maxRecDepth 20000 in
theorem ggX9_read_X8_itemAt : GoodIn wsX9_read wsX8_itemAt := goodIn_r _ [18, 14, 19, 20, 9, 10, 11, 12, 13, 30, 31, 32] (by decide +kernel) (by decide +kernel)
set_option maxRecDepth 20000 in
theorem gX9_read_X8_itemAt : GoodIn wsX9_read (wsV RX9 262 RX8 yX8_itemAt wsX8_itemAt) := goodIn_app (goodIn_of _ (by decide +kernel)) ggX9_read_X8_itemAt
theorem dX9_read_0 : decode cX9_read 0 = .ok (.aload_n 0, 1) := by decide +kernel
theorem dX9_read_1 : decode cX9_read 1 = .ok (.iload_n 1, 1) := by decide +kernel
theorem dX9_read_2 : decode cX9_read 2 = .ok (.invokevirtual 254, 3) := by decide +kernel
theorem dX9_read_5 : decode cX9_read 5 = .ok (.astore_n 3, 1) := by decide +kernel
theorem dX9_read_6 : decode cX9_read 6 = .ok (.aload_n 3, 1) := by decide +kernel
theorem dX9_read_7 : decode cX9_read 7 = .ok (.ifnull 19, 3) := by decide +kernel
theorem dX9_read_10 : decode cX9_read 10 = .ok (.aload_n 3, 1) := by decide +kernel
theorem dX9_read_11 : decode cX9_read 11 = .ok (.iload_n 2, 1) := by decide +kernel
theorem dX9_read_12 : decode cX9_read 12 = .ok (.invokevirtual 272, 3) := by decide +kernel
theorem dX9_read_15 : decode cX9_read 15 = .ok (.ifCond .eq 11, 3) := by decide +kernel
theorem dX9_read_18 : decode cX9_read 18 = .ok (.aload_n 3, 1) := by decide +kernel
theorem dX9_read_19 : decode cX9_read 19 = .ok (.iload_n 2, 1) := by decide +kernel
theorem dX9_read_20 : decode cX9_read 20 = .ok (.invokevirtual 262, 3) := by decide +kernel
theorem dX9_read_23 : decode cX9_read 23 = .ok (.goto 6, 3) := by decide +kernel
theorem dX9_read_26 : decode cX9_read 26 = .ok (.ldc2_w 186, 3) := by decide +kernel
theorem dX9_read_29 : decode cX9_read 29 = .ok (.lreturn, 1) := by decide +kernel
set_option maxRecDepth 20000 in
theorem ggX9_shift_X9_tapeAt : GoodIn wsX9_shift wsX9_tapeAt := goodIn_r _ [11, 12, 22, 23, 24, 25, 26, 27, 28, 29, 30] (by decide +kernel) (by decide +kernel)
set_option maxRecDepth 20000 in
theorem gX9_shift_X9_tapeAt : GoodIn wsX9_shift (wsV RX9 254 RX9 yX9_tapeAt wsX9_tapeAt) := goodIn_app (goodIn_of _ (by decide +kernel)) ggX9_shift_X9_tapeAt
set_option maxRecDepth 20000 in
theorem ggX9_shift_X8_hasStretch : GoodIn wsX9_shift wsX8_hasStretch := goodIn_r _ [17, 18, 19, 20, 21] (by decide +kernel) (by decide +kernel)
set_option maxRecDepth 20000 in
theorem gX9_shift_X8_hasStretch : GoodIn wsX9_shift (wsV RX9 279 RX8 yX8_hasStretch wsX8_hasStretch) := goodIn_app (goodIn_of _ (by decide +kernel)) ggX9_shift_X8_hasStretch
theorem dX9_shift_0 : decode cX9_shift 0 = .ok (.aload_n 0, 1) := by decide +kernel
theorem dX9_shift_1 : decode cX9_shift 1 = .ok (.iload_n 1, 1) := by decide +kernel
theorem dX9_shift_2 : decode cX9_shift 2 = .ok (.invokevirtual 254, 3) := by decide +kernel
theorem dX9_shift_5 : decode cX9_shift 5 = .ok (.astore 6, 2) := by decide +kernel
theorem dX9_shift_7 : decode cX9_shift 7 = .ok (.aload_n 0, 1) := by decide +kernel
theorem dX9_shift_8 : decode cX9_shift 8 = .ok (.iload_n 3, 1) := by decide +kernel
theorem dX9_shift_9 : decode cX9_shift 9 = .ok (.invokevirtual 254, 3) := by decide +kernel
theorem dX9_shift_12 : decode cX9_shift 12 = .ok (.astore 7, 2) := by decide +kernel
theorem dX9_shift_14 : decode cX9_shift 14 = .ok (.aload 6, 2) := by decide +kernel
theorem dX9_shift_16 : decode cX9_shift 16 = .ok (.ifnull 8, 3) := by decide +kernel
theorem dX9_shift_19 : decode cX9_shift 19 = .ok (.aload 7, 2) := by decide +kernel
theorem dX9_shift_21 : decode cX9_shift 21 = .ok (.ifnonnull 5, 3) := by decide +kernel
theorem dX9_shift_24 : decode cX9_shift 24 = .ok (.iconst (-1), 1) := by decide +kernel
theorem dX9_shift_25 : decode cX9_shift 25 = .ok (.ireturn, 1) := by decide +kernel
theorem dX9_shift_26 : decode cX9_shift 26 = .ok (.aload 6, 2) := by decide +kernel
theorem dX9_shift_28 : decode cX9_shift 28 = .ok (.getfield 258, 3) := by decide +kernel
theorem dX9_shift_31 : decode cX9_shift 31 = .ok (.iconst (-1), 1) := by decide +kernel
theorem dX9_shift_32 : decode cX9_shift 32 = .ok (.if_icmp .eq 12, 3) := by decide +kernel
theorem dX9_shift_35 : decode cX9_shift 35 = .ok (.aload 7, 2) := by decide +kernel
theorem dX9_shift_37 : decode cX9_shift 37 = .ok (.getfield 258, 3) := by decide +kernel
theorem dX9_shift_40 : decode cX9_shift 40 = .ok (.iconst (-1), 1) := by decide +kernel
theorem dX9_shift_41 : decode cX9_shift 41 = .ok (.if_icmp .ne 6, 3) := by decide +kernel
theorem dX9_shift_44 : decode cX9_shift 44 = .ok (.bipush (-11), 2) := by decide +kernel
theorem dX9_shift_46 : decode cX9_shift 46 = .ok (.ireturn, 1) := by decide +kernel
theorem dX9_shift_47 : decode cX9_shift 47 = .ok (.aload 6, 2) := by decide +kernel
theorem dX9_shift_49 : decode cX9_shift 49 = .ok (.getfield 258, 3) := by decide +kernel
theorem dX9_shift_52 : decode cX9_shift 52 = .ok (.aload 7, 2) := by decide +kernel
theorem dX9_shift_54 : decode cX9_shift 54 = .ok (.getfield 258, 3) := by decide +kernel
theorem dX9_shift_57 : decode cX9_shift 57 = .ok (.if_icmp .eq 6, 3) := by decide +kernel
theorem dX9_shift_60 : decode cX9_shift 60 = .ok (.bipush (-12), 2) := by decide +kernel
theorem dX9_shift_62 : decode cX9_shift 62 = .ok (.ireturn, 1) := by decide +kernel
theorem dX9_shift_63 : decode cX9_shift 63 = .ok (.aload 6, 2) := by decide +kernel
theorem dX9_shift_65 : decode cX9_shift 65 = .ok (.iload_n 2, 1) := by decide +kernel
theorem dX9_shift_66 : decode cX9_shift 66 = .ok (.iload 5, 2) := by decide +kernel
theorem dX9_shift_68 : decode cX9_shift 68 = .ok (.invokevirtual 279, 3) := by decide +kernel
theorem dX9_shift_71 : decode cX9_shift 71 = .ok (.ifCond .eq 15, 3) := by decide +kernel
theorem dX9_shift_74 : decode cX9_shift 74 = .ok (.aload 7, 2) := by decide +kernel
theorem dX9_shift_76 : decode cX9_shift 76 = .ok (.iload 4, 2) := by decide +kernel
theorem dX9_shift_78 : decode cX9_shift 78 = .ok (.iload 5, 2) := by decide +kernel
theorem dX9_shift_80 : decode cX9_shift 80 = .ok (.invokevirtual 279, 3) := by decide +kernel
theorem dX9_shift_83 : decode cX9_shift 83 = .ok (.ifCond .ne 6, 3) := by decide +kernel
theorem dX9_shift_86 : decode cX9_shift 86 = .ok (.bipush (-13), 2) := by decide +kernel
theorem dX9_shift_88 : decode cX9_shift 88 = .ok (.ireturn, 1) := by decide +kernel
theorem dX9_shift_89 : decode cX9_shift 89 = .ok (.aload 6, 2) := by decide +kernel
theorem dX9_shift_91 : decode cX9_shift 91 = .ok (.getfield 283, 3) := by decide +kernel
theorem dX9_shift_94 : decode cX9_shift 94 = .ok (.iload_n 2, 1) := by decide +kernel
theorem dX9_shift_95 : decode cX9_shift 95 = .ok (.aload 7, 2) := by decide +kernel
theorem dX9_shift_97 : decode cX9_shift 97 = .ok (.getfield 283, 3) := by decide +kernel
theorem dX9_shift_100 : decode cX9_shift 100 = .ok (.iload 4, 2) := by decide +kernel
theorem dX9_shift_102 : decode cX9_shift 102 = .ok (.iload 5, 2) := by decide +kernel
theorem dX9_shift_104 : decode cX9_shift 104 = .ok (.invokestatic 286, 3) := by decide +kernel
theorem dX9_shift_107 : decode cX9_shift 107 = .ok (.iload 5, 2) := by decide +kernel
theorem dX9_shift_109 : decode cX9_shift 109 = .ok (.ireturn, 1) := by decide +kernel
theorem dX9_keyOrAbsent_0 : decode cX9_keyOrAbsent 0 = .ok (.aload_n 0, 1) := by decide +kernel
theorem dX9_keyOrAbsent_1 : decode cX9_keyOrAbsent 1 = .ok (.getfield 33, 3) := by decide +kernel
theorem dX9_keyOrAbsent_4 : decode cX9_keyOrAbsent 4 = .ok (.getfield 109, 3) := by decide +kernel
theorem dX9_keyOrAbsent_7 : decode cX9_keyOrAbsent 7 = .ok (.getfield 119, 3) := by decide +kernel
theorem dX9_keyOrAbsent_10 : decode cX9_keyOrAbsent 10 = .ok (.iconst (-1), 1) := by decide +kernel
theorem dX9_keyOrAbsent_11 : decode cX9_keyOrAbsent 11 = .ok (.if_icmp .ne 8, 3) := by decide +kernel
theorem dX9_keyOrAbsent_14 : decode cX9_keyOrAbsent 14 = .ok (.bipush (-5), 2) := by decide +kernel
theorem dX9_keyOrAbsent_16 : decode cX9_keyOrAbsent 16 = .ok (.goto 13, 3) := by decide +kernel
theorem dX9_keyOrAbsent_19 : decode cX9_keyOrAbsent 19 = .ok (.aload_n 0, 1) := by decide +kernel
theorem dX9_keyOrAbsent_20 : decode cX9_keyOrAbsent 20 = .ok (.getfield 33, 3) := by decide +kernel
theorem dX9_keyOrAbsent_23 : decode cX9_keyOrAbsent 23 = .ok (.getfield 109, 3) := by decide +kernel
theorem dX9_keyOrAbsent_26 : decode cX9_keyOrAbsent 26 = .ok (.getfield 119, 3) := by decide +kernel
theorem dX9_keyOrAbsent_29 : decode cX9_keyOrAbsent 29 = .ok (.ireturn, 1) := by decide +kernel
theorem dX9_tapeAt_0 : decode cX9_tapeAt 0 = .ok (.iload_n 1, 1) := by decide +kernel
theorem dX9_tapeAt_1 : decode cX9_tapeAt 1 = .ok (.ifCond .lt 21, 3) := by decide +kernel
theorem dX9_tapeAt_4 : decode cX9_tapeAt 4 = .ok (.iload_n 1, 1) := by decide +kernel
theorem dX9_tapeAt_5 : decode cX9_tapeAt 5 = .ok (.aload_n 0, 1) := by decide +kernel
theorem dX9_tapeAt_6 : decode cX9_tapeAt 6 = .ok (.getfield 53, 3) := by decide +kernel
theorem dX9_tapeAt_9 : decode cX9_tapeAt 9 = .ok (.arraylength, 1) := by decide +kernel
theorem dX9_tapeAt_10 : decode cX9_tapeAt 10 = .ok (.if_icmp .ge 12, 3) := by decide +kernel
theorem dX9_tapeAt_13 : decode cX9_tapeAt 13 = .ok (.aload_n 0, 1) := by decide +kernel
theorem dX9_tapeAt_14 : decode cX9_tapeAt 14 = .ok (.getfield 53, 3) := by decide +kernel
theorem dX9_tapeAt_17 : decode cX9_tapeAt 17 = .ok (.iload_n 1, 1) := by decide +kernel
theorem dX9_tapeAt_18 : decode cX9_tapeAt 18 = .ok (.aaload, 1) := by decide +kernel
theorem dX9_tapeAt_19 : decode cX9_tapeAt 19 = .ok (.goto 4, 3) := by decide +kernel
theorem dX9_tapeAt_22 : decode cX9_tapeAt 22 = .ok (.aconst_null, 1) := by decide +kernel
theorem dX9_tapeAt_23 : decode cX9_tapeAt 23 = .ok (.areturn, 1) := by decide +kernel
set_option maxRecDepth 20000 in
theorem ggX9_rowField_X7_hasColumn : GoodIn wsX9_rowField wsX7_hasColumn := goodIn_r _ [7, 8, 37, 38, 39, 40, 41, 42, 43, 44, 45, 46, 47] (by decide +kernel) (by decide +kernel)
set_option maxRecDepth 20000 in
theorem gX9_rowField_X7_hasColumn : GoodIn wsX9_rowField (wsV RX9 101 RX7 yX7_hasColumn wsX7_hasColumn) := goodIn_app (goodIn_of _ (by decide +kernel)) ggX9_rowField_X7_hasColumn
set_option maxRecDepth 20000 in
theorem ggX9_rowField_X5_lineOf : GoodIn wsX9_rowField wsX5_lineOf := goodIn_r _ [13, 14, 15, 48, 49, 50, 51, 52, 53, 54, 55, 56] (by decide +kernel) (by decide +kernel)
set_option maxRecDepth 20000 in
theorem gX9_rowField_X5_lineOf : GoodIn wsX9_rowField (wsV RX9 292 RX5 yX5_lineOf wsX5_lineOf) := goodIn_app (goodIn_of _ (by decide +kernel)) ggX9_rowField_X5_lineOf
set_option maxRecDepth 20000 in
theorem ggX9_rowField_X7_lineAt : GoodIn wsX9_rowField wsX7_lineAt := goodIn_r _ [19, 20, 21, 37, 38, 39, 40, 41, 42, 43, 44, 45, 46, 47] (by decide +kernel) (by decide +kernel)
set_option maxRecDepth 20000 in
theorem gX9_rowField_X7_lineAt : GoodIn wsX9_rowField (wsV RX9 136 RX7 yX7_lineAt wsX7_lineAt) := goodIn_app (goodIn_of _ (by decide +kernel)) ggX9_rowField_X7_lineAt
set_option maxRecDepth 20000 in
theorem ggX9_rowField_X4_fieldAt : GoodIn wsX9_rowField wsX4_fieldAt := goodIn_r _ [26, 27, 57] (by decide +kernel) (by decide +kernel)
set_option maxRecDepth 20000 in
theorem gX9_rowField_X4_fieldAt : GoodIn wsX9_rowField (wsV RX9 150 RX4 yX4_fieldAt wsX4_fieldAt) := goodIn_app (goodIn_of _ (by decide +kernel)) ggX9_rowField_X4_fieldAt
theorem dX9_rowField_0 : decode cX9_rowField 0 = .ok (.aload_n 0, 1) := by decide +kernel
theorem dX9_rowField_1 : decode cX9_rowField 1 = .ok (.getfield 33, 3) := by decide +kernel
theorem dX9_rowField_4 : decode cX9_rowField 4 = .ok (.iload_n 2, 1) := by decide +kernel
theorem dX9_rowField_5 : decode cX9_rowField 5 = .ok (.invokevirtual 101, 3) := by decide +kernel
theorem dX9_rowField_8 : decode cX9_rowField 8 = .ok (.ifCond .ne 5, 3) := by decide +kernel
theorem dX9_rowField_11 : decode cX9_rowField 11 = .ok (.aconst_null, 1) := by decide +kernel
theorem dX9_rowField_12 : decode cX9_rowField 12 = .ok (.areturn, 1) := by decide +kernel
theorem dX9_rowField_13 : decode cX9_rowField 13 = .ok (.aload_n 0, 1) := by decide +kernel
theorem dX9_rowField_14 : decode cX9_rowField 14 = .ok (.getfield 33, 3) := by decide +kernel
theorem dX9_rowField_17 : decode cX9_rowField 17 = .ok (.aload_n 0, 1) := by decide +kernel
theorem dX9_rowField_18 : decode cX9_rowField 18 = .ok (.getfield 33, 3) := by decide +kernel
theorem dX9_rowField_21 : decode cX9_rowField 21 = .ok (.getfield 109, 3) := by decide +kernel
theorem dX9_rowField_24 : decode cX9_rowField 24 = .ok (.iload_n 1, 1) := by decide +kernel
theorem dX9_rowField_25 : decode cX9_rowField 25 = .ok (.invokevirtual 292, 3) := by decide +kernel
theorem dX9_rowField_28 : decode cX9_rowField 28 = .ok (.invokevirtual 136, 3) := by decide +kernel
theorem dX9_rowField_31 : decode cX9_rowField 31 = .ok (.astore_n 3, 1) := by decide +kernel
theorem dX9_rowField_32 : decode cX9_rowField 32 = .ok (.aload_n 3, 1) := by decide +kernel
theorem dX9_rowField_33 : decode cX9_rowField 33 = .ok (.ifnonnull 7, 3) := by decide +kernel
theorem dX9_rowField_36 : decode cX9_rowField 36 = .ok (.aconst_null, 1) := by decide +kernel
theorem dX9_rowField_37 : decode cX9_rowField 37 = .ok (.goto 8, 3) := by decide +kernel
theorem dX9_rowField_40 : decode cX9_rowField 40 = .ok (.aload_n 3, 1) := by decide +kernel
theorem dX9_rowField_41 : decode cX9_rowField 41 = .ok (.iload_n 2, 1) := by decide +kernel
theorem dX9_rowField_42 : decode cX9_rowField 42 = .ok (.invokevirtual 150, 3) := by decide +kernel
theorem dX9_rowField_45 : decode cX9_rowField 45 = .ok (.areturn, 1) := by decide +kernel
set_option maxRecDepth 20000 in
theorem ggX9_lineFaultPlace_X6_at : GoodIn wsX9_lineFaultPlace wsX6_at := goodIn_r _ [6, 7, 8, 9, 10] (by decide +kernel) (by decide +kernel)
set_option maxRecDepth 20000 in
theorem gX9_lineFaultPlace_X6_at : GoodIn wsX9_lineFaultPlace (wsV RX9 196 RX6 yX6_at wsX6_at) := goodIn_app (goodIn_of _ (by decide +kernel)) ggX9_lineFaultPlace_X6_at
theorem dX9_lineFaultPlace_0 : decode cX9_lineFaultPlace 0 = .ok (.iconst 0, 1) := by decide +kernel
theorem dX9_lineFaultPlace_1 : decode cX9_lineFaultPlace 1 = .ok (.istore_n 1, 1) := by decide +kernel
theorem dX9_lineFaultPlace_2 : decode cX9_lineFaultPlace 2 = .ok (.iconst 0, 1) := by decide +kernel
theorem dX9_lineFaultPlace_3 : decode cX9_lineFaultPlace 3 = .ok (.istore_n 2, 1) := by decide +kernel
theorem dX9_lineFaultPlace_4 : decode cX9_lineFaultPlace 4 = .ok (.iload_n 2, 1) := by decide +kernel
theorem dX9_lineFaultPlace_5 : decode cX9_lineFaultPlace 5 = .ok (.aload_n 0, 1) := by decide +kernel
theorem dX9_lineFaultPlace_6 : decode cX9_lineFaultPlace 6 = .ok (.getfield 62, 3) := by decide +kernel
theorem dX9_lineFaultPlace_9 : decode cX9_lineFaultPlace 9 = .ok (.if_icmp .ge 49, 3) := by decide +kernel
theorem dX9_lineFaultPlace_12 : decode cX9_lineFaultPlace 12 = .ok (.aload_n 0, 1) := by decide +kernel
theorem dX9_lineFaultPlace_13 : decode cX9_lineFaultPlace 13 = .ok (.iload_n 2, 1) := by decide +kernel
theorem dX9_lineFaultPlace_14 : decode cX9_lineFaultPlace 14 = .ok (.invokevirtual 196, 3) := by decide +kernel
theorem dX9_lineFaultPlace_17 : decode cX9_lineFaultPlace 17 = .ok (.istore_n 3, 1) := by decide +kernel
theorem dX9_lineFaultPlace_18 : decode cX9_lineFaultPlace 18 = .ok (.iload_n 3, 1) := by decide +kernel
theorem dX9_lineFaultPlace_19 : decode cX9_lineFaultPlace 19 = .ok (.bipush 44, 2) := by decide +kernel
theorem dX9_lineFaultPlace_21 : decode cX9_lineFaultPlace 21 = .ok (.if_icmp .ne 8, 3) := by decide +kernel
theorem dX9_lineFaultPlace_24 : decode cX9_lineFaultPlace 24 = .ok (.iconst 0, 1) := by decide +kernel
theorem dX9_lineFaultPlace_25 : decode cX9_lineFaultPlace 25 = .ok (.istore_n 1, 1) := by decide +kernel
theorem dX9_lineFaultPlace_26 : decode cX9_lineFaultPlace 26 = .ok (.goto 26, 3) := by decide +kernel
theorem dX9_lineFaultPlace_29 : decode cX9_lineFaultPlace 29 = .ok (.iload_n 3, 1) := by decide +kernel
theorem dX9_lineFaultPlace_30 : decode cX9_lineFaultPlace 30 = .ok (.bipush 32, 2) := by decide +kernel
theorem dX9_lineFaultPlace_32 : decode cX9_lineFaultPlace 32 = .ok (.if_icmp .lt 15, 3) := by decide +kernel
theorem dX9_lineFaultPlace_35 : decode cX9_lineFaultPlace 35 = .ok (.iload_n 3, 1) := by decide +kernel
theorem dX9_lineFaultPlace_36 : decode cX9_lineFaultPlace 36 = .ok (.bipush 126, 2) := by decide +kernel
theorem dX9_lineFaultPlace_38 : decode cX9_lineFaultPlace 38 = .ok (.if_icmp .gt 9, 3) := by decide +kernel
theorem dX9_lineFaultPlace_41 : decode cX9_lineFaultPlace 41 = .ok (.iload_n 1, 1) := by decide +kernel
theorem dX9_lineFaultPlace_42 : decode cX9_lineFaultPlace 42 = .ok (.bipush 12, 2) := by decide +kernel
theorem dX9_lineFaultPlace_44 : decode cX9_lineFaultPlace 44 = .ok (.if_icmp .ne 5, 3) := by decide +kernel
theorem dX9_lineFaultPlace_47 : decode cX9_lineFaultPlace 47 = .ok (.iload_n 2, 1) := by decide +kernel
theorem dX9_lineFaultPlace_48 : decode cX9_lineFaultPlace 48 = .ok (.ireturn, 1) := by decide +kernel
theorem dX9_lineFaultPlace_49 : decode cX9_lineFaultPlace 49 = .ok (.iinc 1 1, 3) := by decide +kernel
theorem dX9_lineFaultPlace_52 : decode cX9_lineFaultPlace 52 = .ok (.iinc 2 1, 3) := by decide +kernel
theorem dX9_lineFaultPlace_55 : decode cX9_lineFaultPlace 55 = .ok (.goto (-51), 3) := by decide +kernel
theorem dX9_lineFaultPlace_58 : decode cX9_lineFaultPlace 58 = .ok (.iconst (-1), 1) := by decide +kernel
theorem dX9_lineFaultPlace_59 : decode cX9_lineFaultPlace 59 = .ok (.ireturn, 1) := by decide +kernel
set_option maxRecDepth 20000 in
theorem ggX9_writeShown_X6_add : GoodIn wsX9_writeShown wsX6_add := goodIn_r _ [8, 9, 10, 65, 66] (by decide +kernel) (by decide +kernel)
set_option maxRecDepth 20000 in
theorem gX9_writeShown_X6_add : GoodIn wsX9_writeShown (wsV RX9 66 RX6 yX6_add wsX6_add) := goodIn_app (goodIn_of _ (by decide +kernel)) ggX9_writeShown_X6_add
set_option maxRecDepth 20000 in
theorem ggX9_writeShown_X0_yearIn : GoodIn wsX9_writeShown wsX0_yearIn := goodIn_r _ [14, 15, 16, 13, 17, 18, 19, 20] (by decide +kernel) (by decide +kernel)
set_option maxRecDepth 20000 in
theorem gX9_writeShown_X0_yearIn : GoodIn wsX9_writeShown (va_wsS RX9 299 yX0_yearIn wsX0_yearIn) := goodIn_app (goodIn_of _ (by decide +kernel)) ggX9_writeShown_X0_yearIn
set_option maxRecDepth 20000 in
theorem ggX9_writeShown_X6_addDigits : GoodIn wsX9_writeShown wsX6_addDigits := goodIn_r _ [24, 25, 26, 5, 6, 7, 8, 9, 10, 65, 66] (by decide +kernel) (by decide +kernel)
set_option maxRecDepth 20000 in
theorem gX9_writeShown_X6_addDigits : GoodIn wsX9_writeShown (wsV RX9 305 RX6 yX6_addDigits wsX6_addDigits) := goodIn_app (goodIn_of _ (by decide +kernel)) ggX9_writeShown_X6_addDigits
set_option maxRecDepth 20000 in
theorem ggX9_writeShown_X0_monthIn : GoodIn wsX9_writeShown wsX0_monthIn := goodIn_r _ [29, 15, 16, 13, 17, 18, 19, 20] (by decide +kernel) (by decide +kernel)
set_option maxRecDepth 20000 in
theorem gX9_writeShown_X0_monthIn : GoodIn wsX9_writeShown (va_wsS RX9 309 yX0_monthIn wsX0_monthIn) := goodIn_app (goodIn_of _ (by decide +kernel)) ggX9_writeShown_X0_monthIn
set_option maxRecDepth 20000 in
theorem ggX9_writeShown_X0_dayIn : GoodIn wsX9_writeShown wsX0_dayIn := goodIn_r _ [32, 15, 16, 13, 17, 18, 19, 20] (by decide +kernel) (by decide +kernel)
set_option maxRecDepth 20000 in
theorem gX9_writeShown_X0_dayIn : GoodIn wsX9_writeShown (va_wsS RX9 312 yX0_dayIn wsX0_dayIn) := goodIn_app (goodIn_of _ (by decide +kernel)) ggX9_writeShown_X0_dayIn
set_option maxRecDepth 20000 in
theorem ggX9_writeShown_X1_valueAs : GoodIn wsX9_writeShown wsX1_valueAs := goodIn_r _ [37, 38, 39, 40, 41, 52, 53, 54, 55] (by decide +kernel) (by decide +kernel)
set_option maxRecDepth 20000 in
theorem gX9_writeShown_X1_valueAs : GoodIn wsX9_writeShown (wsV RX9 188 RX1 yX1_valueAs wsX1_valueAs) := goodIn_app (goodIn_of _ (by decide +kernel)) ggX9_writeShown_X1_valueAs
set_option maxRecDepth 20000 in
theorem ggX9_writeShown_X9_writeNumber : GoodIn wsX9_writeShown wsX9_writeNumber := goodIn_r _ [46, 3, 47, 48, 49, 50, 51, 4, 5, 6, 7, 8, 9, 10, 21, 22, 23, 24, 25, 26, 56, 57, 58, 59, 60, 61, 62, 63, 64, 65, 66] (by decide +kernel) (by decide +kernel)
set_option maxRecDepth 20000 in
theorem gX9_writeShown_X9_writeNumber : GoodIn wsX9_writeShown (wsV RX9 315 RX9 yX9_writeNumber wsX9_writeNumber) := goodIn_app (goodIn_of _ (by decide +kernel)) ggX9_writeShown_X9_writeNumber
theorem dX9_writeShown_0 : decode cX9_writeShown 0 = .ok (.aload_n 1, 1) := by decide +kernel
theorem dX9_writeShown_1 : decode cX9_writeShown 1 = .ok (.getfield 154, 3) := by decide +kernel
theorem dX9_writeShown_4 : decode cX9_writeShown 4 = .ok (.ifCond .ne 4, 3) := by decide +kernel
theorem dX9_writeShown_7 : decode cX9_writeShown 7 = .ok (.return_, 1) := by decide +kernel
theorem dX9_writeShown_8 : decode cX9_writeShown 8 = .ok (.iload_n 2, 1) := by decide +kernel
theorem dX9_writeShown_9 : decode cX9_writeShown 9 = .ok (.iconst 4, 1) := by decide +kernel
theorem dX9_writeShown_10 : decode cX9_writeShown 10 = .ok (.if_icmp .ne 36, 3) := by decide +kernel
theorem dX9_writeShown_13 : decode cX9_writeShown 13 = .ok (.iconst 0, 1) := by decide +kernel
theorem dX9_writeShown_14 : decode cX9_writeShown 14 = .ok (.istore_n 3, 1) := by decide +kernel
theorem dX9_writeShown_15 : decode cX9_writeShown 15 = .ok (.iload_n 3, 1) := by decide +kernel
theorem dX9_writeShown_16 : decode cX9_writeShown 16 = .ok (.aload_n 1, 1) := by decide +kernel
theorem dX9_writeShown_17 : decode cX9_writeShown 17 = .ok (.getfield 295, 3) := by decide +kernel
theorem dX9_writeShown_20 : decode cX9_writeShown 20 = .ok (.arraylength, 1) := by decide +kernel
theorem dX9_writeShown_21 : decode cX9_writeShown 21 = .ok (.if_icmp .ge 22, 3) := by decide +kernel
theorem dX9_writeShown_24 : decode cX9_writeShown 24 = .ok (.aload_n 0, 1) := by decide +kernel
theorem dX9_writeShown_25 : decode cX9_writeShown 25 = .ok (.getfield 20, 3) := by decide +kernel
theorem dX9_writeShown_28 : decode cX9_writeShown 28 = .ok (.aload_n 1, 1) := by decide +kernel
theorem dX9_writeShown_29 : decode cX9_writeShown 29 = .ok (.getfield 295, 3) := by decide +kernel
theorem dX9_writeShown_32 : decode cX9_writeShown 32 = .ok (.iload_n 3, 1) := by decide +kernel
theorem dX9_writeShown_33 : decode cX9_writeShown 33 = .ok (.baload, 1) := by decide +kernel
theorem dX9_writeShown_34 : decode cX9_writeShown 34 = .ok (.invokevirtual 66, 3) := by decide +kernel
theorem dX9_writeShown_37 : decode cX9_writeShown 37 = .ok (.iinc 3 1, 3) := by decide +kernel
theorem dX9_writeShown_40 : decode cX9_writeShown 40 = .ok (.goto (-25), 3) := by decide +kernel
theorem dX9_writeShown_43 : decode cX9_writeShown 43 = .ok (.goto 96, 3) := by decide +kernel
theorem dX9_writeShown_46 : decode cX9_writeShown 46 = .ok (.iload_n 2, 1) := by decide +kernel
theorem dX9_writeShown_47 : decode cX9_writeShown 47 = .ok (.iconst 3, 1) := by decide +kernel
theorem dX9_writeShown_48 : decode cX9_writeShown 48 = .ok (.if_icmp .ne 72, 3) := by decide +kernel
theorem dX9_writeShown_51 : decode cX9_writeShown 51 = .ok (.aload_n 0, 1) := by decide +kernel
theorem dX9_writeShown_52 : decode cX9_writeShown 52 = .ok (.getfield 20, 3) := by decide +kernel
theorem dX9_writeShown_55 : decode cX9_writeShown 55 = .ok (.aload_n 1, 1) := by decide +kernel
theorem dX9_writeShown_56 : decode cX9_writeShown 56 = .ok (.getfield 295, 3) := by decide +kernel
theorem dX9_writeShown_59 : decode cX9_writeShown 59 = .ok (.invokestatic 299, 3) := by decide +kernel
theorem dX9_writeShown_62 : decode cX9_writeShown 62 = .ok (.i2l, 1) := by decide +kernel
theorem dX9_writeShown_63 : decode cX9_writeShown 63 = .ok (.iconst 4, 1) := by decide +kernel
theorem dX9_writeShown_64 : decode cX9_writeShown 64 = .ok (.invokevirtual 305, 3) := by decide +kernel
theorem dX9_writeShown_67 : decode cX9_writeShown 67 = .ok (.aload_n 0, 1) := by decide +kernel
theorem dX9_writeShown_68 : decode cX9_writeShown 68 = .ok (.getfield 20, 3) := by decide +kernel
theorem dX9_writeShown_71 : decode cX9_writeShown 71 = .ok (.bipush 45, 2) := by decide +kernel
theorem dX9_writeShown_73 : decode cX9_writeShown 73 = .ok (.invokevirtual 66, 3) := by decide +kernel
theorem dX9_writeShown_76 : decode cX9_writeShown 76 = .ok (.aload_n 0, 1) := by decide +kernel
theorem dX9_writeShown_77 : decode cX9_writeShown 77 = .ok (.getfield 20, 3) := by decide +kernel
theorem dX9_writeShown_80 : decode cX9_writeShown 80 = .ok (.aload_n 1, 1) := by decide +kernel
theorem dX9_writeShown_81 : decode cX9_writeShown 81 = .ok (.getfield 295, 3) := by decide +kernel
theorem dX9_writeShown_84 : decode cX9_writeShown 84 = .ok (.invokestatic 309, 3) := by decide +kernel
theorem dX9_writeShown_87 : decode cX9_writeShown 87 = .ok (.i2l, 1) := by decide +kernel
theorem dX9_writeShown_88 : decode cX9_writeShown 88 = .ok (.iconst 2, 1) := by decide +kernel
theorem dX9_writeShown_89 : decode cX9_writeShown 89 = .ok (.invokevirtual 305, 3) := by decide +kernel
theorem dX9_writeShown_92 : decode cX9_writeShown 92 = .ok (.aload_n 0, 1) := by decide +kernel
theorem dX9_writeShown_93 : decode cX9_writeShown 93 = .ok (.getfield 20, 3) := by decide +kernel
theorem dX9_writeShown_96 : decode cX9_writeShown 96 = .ok (.bipush 45, 2) := by decide +kernel
theorem dX9_writeShown_98 : decode cX9_writeShown 98 = .ok (.invokevirtual 66, 3) := by decide +kernel
theorem dX9_writeShown_101 : decode cX9_writeShown 101 = .ok (.aload_n 0, 1) := by decide +kernel
theorem dX9_writeShown_102 : decode cX9_writeShown 102 = .ok (.getfield 20, 3) := by decide +kernel
theorem dX9_writeShown_105 : decode cX9_writeShown 105 = .ok (.aload_n 1, 1) := by decide +kernel
theorem dX9_writeShown_106 : decode cX9_writeShown 106 = .ok (.getfield 295, 3) := by decide +kernel
theorem dX9_writeShown_109 : decode cX9_writeShown 109 = .ok (.invokestatic 312, 3) := by decide +kernel
theorem dX9_writeShown_112 : decode cX9_writeShown 112 = .ok (.i2l, 1) := by decide +kernel
theorem dX9_writeShown_113 : decode cX9_writeShown 113 = .ok (.iconst 2, 1) := by decide +kernel
theorem dX9_writeShown_114 : decode cX9_writeShown 114 = .ok (.invokevirtual 305, 3) := by decide +kernel
theorem dX9_writeShown_117 : decode cX9_writeShown 117 = .ok (.goto 22, 3) := by decide +kernel
theorem dX9_writeShown_120 : decode cX9_writeShown 120 = .ok (.aload_n 0, 1) := by decide +kernel
theorem dX9_writeShown_121 : decode cX9_writeShown 121 = .ok (.aload_n 1, 1) := by decide +kernel
theorem dX9_writeShown_122 : decode cX9_writeShown 122 = .ok (.iload_n 2, 1) := by decide +kernel
theorem dX9_writeShown_123 : decode cX9_writeShown 123 = .ok (.invokevirtual 188, 3) := by decide +kernel
theorem dX9_writeShown_126 : decode cX9_writeShown 126 = .ok (.iload_n 2, 1) := by decide +kernel
theorem dX9_writeShown_127 : decode cX9_writeShown 127 = .ok (.iconst 2, 1) := by decide +kernel
theorem dX9_writeShown_128 : decode cX9_writeShown 128 = .ok (.if_icmp .ne 7, 3) := by decide +kernel
theorem dX9_writeShown_131 : decode cX9_writeShown 131 = .ok (.iconst 1, 1) := by decide +kernel
theorem dX9_writeShown_132 : decode cX9_writeShown 132 = .ok (.goto 4, 3) := by decide +kernel
theorem dX9_writeShown_135 : decode cX9_writeShown 135 = .ok (.iconst 0, 1) := by decide +kernel
theorem dX9_writeShown_136 : decode cX9_writeShown 136 = .ok (.invokevirtual 315, 3) := by decide +kernel
theorem dX9_writeShown_139 : decode cX9_writeShown 139 = .ok (.return_, 1) := by decide +kernel
set_option maxRecDepth 20000 in
theorem ggX9_writeNumber_X6_add : GoodIn wsX9_writeNumber wsX6_add := goodIn_r _ [11, 12, 13, 29, 30] (by decide +kernel) (by decide +kernel)
set_option maxRecDepth 20000 in
theorem gX9_writeNumber_X6_add : GoodIn wsX9_writeNumber (wsV RX9 66 RX6 yX6_add wsX6_add) := goodIn_app (goodIn_of _ (by decide +kernel)) ggX9_writeNumber_X6_add
set_option maxRecDepth 20000 in
theorem ggX9_writeNumber_X6_addDigits : GoodIn wsX9_writeNumber wsX6_addDigits := goodIn_r _ [17, 18, 19, 8, 9, 10, 11, 12, 13, 29, 30] (by decide +kernel) (by decide +kernel)
set_option maxRecDepth 20000 in
theorem gX9_writeNumber_X6_addDigits : GoodIn wsX9_writeNumber (wsV RX9 305 RX6 yX6_addDigits wsX6_addDigits) := goodIn_app (goodIn_of _ (by decide +kernel)) ggX9_writeNumber_X6_addDigits
theorem dX9_writeNumber_0 : decode cX9_writeNumber 0 = .ok (.lload_n 1, 1) := by decide +kernel
theorem dX9_writeNumber_1 : decode cX9_writeNumber 1 = .ok (.lconst 0, 1) := by decide +kernel
theorem dX9_writeNumber_2 : decode cX9_writeNumber 2 = .ok (.lcmp, 1) := by decide +kernel
theorem dX9_writeNumber_3 : decode cX9_writeNumber 3 = .ok (.ifCond .ge 12, 3) := by decide +kernel
theorem dX9_writeNumber_6 : decode cX9_writeNumber 6 = .ok (.aload_n 0, 1) := by decide +kernel
theorem dX9_writeNumber_7 : decode cX9_writeNumber 7 = .ok (.getfield 20, 3) := by decide +kernel
theorem dX9_writeNumber_10 : decode cX9_writeNumber 10 = .ok (.bipush 45, 2) := by decide +kernel
theorem dX9_writeNumber_12 : decode cX9_writeNumber 12 = .ok (.invokevirtual 66, 3) := by decide +kernel
theorem dX9_writeNumber_15 : decode cX9_writeNumber 15 = .ok (.lload_n 1, 1) := by decide +kernel
theorem dX9_writeNumber_16 : decode cX9_writeNumber 16 = .ok (.invokestatic 319, 3) := by decide +kernel
theorem dX9_writeNumber_19 : decode cX9_writeNumber 19 = .ok (.lstore 4, 2) := by decide +kernel
theorem dX9_writeNumber_21 : decode cX9_writeNumber 21 = .ok (.iload_n 3, 1) := by decide +kernel
theorem dX9_writeNumber_22 : decode cX9_writeNumber 22 = .ok (.ifCond .eq 43, 3) := by decide +kernel
theorem dX9_writeNumber_25 : decode cX9_writeNumber 25 = .ok (.aload_n 0, 1) := by decide +kernel
theorem dX9_writeNumber_26 : decode cX9_writeNumber 26 = .ok (.getfield 20, 3) := by decide +kernel
theorem dX9_writeNumber_29 : decode cX9_writeNumber 29 = .ok (.lload 4, 2) := by decide +kernel
theorem dX9_writeNumber_31 : decode cX9_writeNumber 31 = .ok (.ldc2_w 325, 3) := by decide +kernel
theorem dX9_writeNumber_34 : decode cX9_writeNumber 34 = .ok (.ldiv, 1) := by decide +kernel
theorem dX9_writeNumber_35 : decode cX9_writeNumber 35 = .ok (.iconst 1, 1) := by decide +kernel
theorem dX9_writeNumber_36 : decode cX9_writeNumber 36 = .ok (.invokevirtual 305, 3) := by decide +kernel
theorem dX9_writeNumber_39 : decode cX9_writeNumber 39 = .ok (.aload_n 0, 1) := by decide +kernel
theorem dX9_writeNumber_40 : decode cX9_writeNumber 40 = .ok (.getfield 20, 3) := by decide +kernel
theorem dX9_writeNumber_43 : decode cX9_writeNumber 43 = .ok (.bipush 46, 2) := by decide +kernel
theorem dX9_writeNumber_45 : decode cX9_writeNumber 45 = .ok (.invokevirtual 66, 3) := by decide +kernel
theorem dX9_writeNumber_48 : decode cX9_writeNumber 48 = .ok (.aload_n 0, 1) := by decide +kernel
theorem dX9_writeNumber_49 : decode cX9_writeNumber 49 = .ok (.getfield 20, 3) := by decide +kernel
theorem dX9_writeNumber_52 : decode cX9_writeNumber 52 = .ok (.lload 4, 2) := by decide +kernel
theorem dX9_writeNumber_54 : decode cX9_writeNumber 54 = .ok (.ldc2_w 325, 3) := by decide +kernel
theorem dX9_writeNumber_57 : decode cX9_writeNumber 57 = .ok (.lrem, 1) := by decide +kernel
theorem dX9_writeNumber_58 : decode cX9_writeNumber 58 = .ok (.iconst 3, 1) := by decide +kernel
theorem dX9_writeNumber_59 : decode cX9_writeNumber 59 = .ok (.invokevirtual 305, 3) := by decide +kernel
theorem dX9_writeNumber_62 : decode cX9_writeNumber 62 = .ok (.goto 13, 3) := by decide +kernel
theorem dX9_writeNumber_65 : decode cX9_writeNumber 65 = .ok (.aload_n 0, 1) := by decide +kernel
theorem dX9_writeNumber_66 : decode cX9_writeNumber 66 = .ok (.getfield 20, 3) := by decide +kernel
theorem dX9_writeNumber_69 : decode cX9_writeNumber 69 = .ok (.lload 4, 2) := by decide +kernel
theorem dX9_writeNumber_71 : decode cX9_writeNumber 71 = .ok (.iconst 1, 1) := by decide +kernel
theorem dX9_writeNumber_72 : decode cX9_writeNumber 72 = .ok (.invokevirtual 305, 3) := by decide +kernel
theorem dX9_writeNumber_75 : decode cX9_writeNumber 75 = .ok (.return_, 1) := by decide +kernel
set_option maxRecDepth 20000 in
theorem ggX9_gatherValues_X9_rowField : GoodIn wsX9_gatherValues wsX9_rowField := goodIn_r _ [10, 1, 2, 11, 12, 13, 14, 15, 16, 17, 18, 19, 20, 21, 22, 23, 24, 25, 26, 27, 28, 29, 30, 31, 32, 33, 34, 35, 74, 75, 76, 77, 78, 79, 80, 81, 82, 83, 84, 85, 86, 87, 88, 89, 90, 91, 92, 93, 94, 95, 96, 97, 98, 99, 100, 101, 102, 107] (by decide +kernel) (by decide +kernel)
set_option maxRecDepth 20000 in
theorem gX9_gatherValues_X9_rowField : GoodIn wsX9_gatherValues (wsV RX9 182 RX9 yX9_rowField wsX9_rowField) := goodIn_app (goodIn_of _ (by decide +kernel)) ggX9_gatherValues_X9_rowField
set_option maxRecDepth 20000 in
theorem ggX9_gatherValues_X7_typeOf : GoodIn wsX9_gatherValues wsX7_typeOf := goodIn_r _ [39, 40, 41, 42, 43, 12, 13, 14, 15, 16, 44, 45, 46, 47, 48, 49, 50, 51, 52, 53, 54, 55, 56, 57, 28, 58, 59, 60, 61, 62, 63, 25, 26, 27, 29, 64, 31, 32, 33, 34, 35, 83, 84, 85, 86, 87, 88, 89, 90, 91, 92, 93, 94, 95, 96, 97, 98, 99, 100, 101, 102, 103, 104, 105, 106, 107] (by decide +kernel) (by decide +kernel)
set_option maxRecDepth 20000 in
theorem gX9_gatherValues_X7_typeOf : GoodIn wsX9_gatherValues (wsV RX9 122 RX7 yX7_typeOf wsX7_typeOf) := goodIn_app (goodIn_of _ (by decide +kernel)) ggX9_gatherValues_X7_typeOf
set_option maxRecDepth 20000 in
theorem ggX9_gatherValues_X1_valueAs : GoodIn wsX9_gatherValues wsX1_valueAs := goodIn_r _ [69, 70, 71, 72, 73, 103, 104, 105, 106] (by decide +kernel) (by decide +kernel)
set_option maxRecDepth 20000 in
theorem gX9_gatherValues_X1_valueAs : GoodIn wsX9_gatherValues (wsV RX9 188 RX1 yX1_valueAs wsX1_valueAs) := goodIn_app (goodIn_of _ (by decide +kernel)) ggX9_gatherValues_X1_valueAs
theorem dX9_gatherValues_0 : decode cX9_gatherValues 0 = .ok (.iconst 0, 1) := by decide +kernel
theorem dX9_gatherValues_1 : decode cX9_gatherValues 1 = .ok (.istore_n 2, 1) := by decide +kernel
theorem dX9_gatherValues_2 : decode cX9_gatherValues 2 = .ok (.iconst 0, 1) := by decide +kernel
theorem dX9_gatherValues_3 : decode cX9_gatherValues 3 = .ok (.istore_n 3, 1) := by decide +kernel
theorem dX9_gatherValues_4 : decode cX9_gatherValues 4 = .ok (.iload_n 3, 1) := by decide +kernel
theorem dX9_gatherValues_5 : decode cX9_gatherValues 5 = .ok (.aload_n 0, 1) := by decide +kernel
theorem dX9_gatherValues_6 : decode cX9_gatherValues 6 = .ok (.getfield 33, 3) := by decide +kernel
theorem dX9_gatherValues_9 : decode cX9_gatherValues 9 = .ok (.getfield 109, 3) := by decide +kernel
theorem dX9_gatherValues_12 : decode cX9_gatherValues 12 = .ok (.getfield 173, 3) := by decide +kernel
theorem dX9_gatherValues_15 : decode cX9_gatherValues 15 = .ok (.if_icmp .ge 61, 3) := by decide +kernel
theorem dX9_gatherValues_18 : decode cX9_gatherValues 18 = .ok (.aload_n 0, 1) := by decide +kernel
theorem dX9_gatherValues_19 : decode cX9_gatherValues 19 = .ok (.iload_n 3, 1) := by decide +kernel
theorem dX9_gatherValues_20 : decode cX9_gatherValues 20 = .ok (.iload_n 1, 1) := by decide +kernel
theorem dX9_gatherValues_21 : decode cX9_gatherValues 21 = .ok (.invokevirtual 182, 3) := by decide +kernel
theorem dX9_gatherValues_24 : decode cX9_gatherValues 24 = .ok (.astore 4, 2) := by decide +kernel
theorem dX9_gatherValues_26 : decode cX9_gatherValues 26 = .ok (.aload 4, 2) := by decide +kernel
theorem dX9_gatherValues_28 : decode cX9_gatherValues 28 = .ok (.ifnull 42, 3) := by decide +kernel
theorem dX9_gatherValues_31 : decode cX9_gatherValues 31 = .ok (.aload 4, 2) := by decide +kernel
theorem dX9_gatherValues_33 : decode cX9_gatherValues 33 = .ok (.getfield 154, 3) := by decide +kernel
theorem dX9_gatherValues_36 : decode cX9_gatherValues 36 = .ok (.ifCond .eq 34, 3) := by decide +kernel
theorem dX9_gatherValues_39 : decode cX9_gatherValues 39 = .ok (.iload_n 2, 1) := by decide +kernel
theorem dX9_gatherValues_40 : decode cX9_gatherValues 40 = .ok (.aload_n 0, 1) := by decide +kernel
theorem dX9_gatherValues_41 : decode cX9_gatherValues 41 = .ok (.getfield 47, 3) := by decide +kernel
theorem dX9_gatherValues_44 : decode cX9_gatherValues 44 = .ok (.arraylength, 1) := by decide +kernel
theorem dX9_gatherValues_45 : decode cX9_gatherValues 45 = .ok (.if_icmp .ge 25, 3) := by decide +kernel
theorem dX9_gatherValues_48 : decode cX9_gatherValues 48 = .ok (.aload_n 0, 1) := by decide +kernel
theorem dX9_gatherValues_49 : decode cX9_gatherValues 49 = .ok (.getfield 47, 3) := by decide +kernel
theorem dX9_gatherValues_52 : decode cX9_gatherValues 52 = .ok (.iload_n 2, 1) := by decide +kernel
theorem dX9_gatherValues_53 : decode cX9_gatherValues 53 = .ok (.aload 4, 2) := by decide +kernel
theorem dX9_gatherValues_55 : decode cX9_gatherValues 55 = .ok (.aload_n 0, 1) := by decide +kernel
theorem dX9_gatherValues_56 : decode cX9_gatherValues 56 = .ok (.getfield 33, 3) := by decide +kernel
theorem dX9_gatherValues_59 : decode cX9_gatherValues 59 = .ok (.iload_n 1, 1) := by decide +kernel
theorem dX9_gatherValues_60 : decode cX9_gatherValues 60 = .ok (.invokevirtual 122, 3) := by decide +kernel
theorem dX9_gatherValues_63 : decode cX9_gatherValues 63 = .ok (.invokevirtual 188, 3) := by decide +kernel
theorem dX9_gatherValues_66 : decode cX9_gatherValues 66 = .ok (.lastore, 1) := by decide +kernel
theorem dX9_gatherValues_67 : decode cX9_gatherValues 67 = .ok (.iinc 2 1, 3) := by decide +kernel
theorem dX9_gatherValues_70 : decode cX9_gatherValues 70 = .ok (.iinc 3 1, 3) := by decide +kernel
theorem dX9_gatherValues_73 : decode cX9_gatherValues 73 = .ok (.goto (-69), 3) := by decide +kernel
theorem dX9_gatherValues_76 : decode cX9_gatherValues 76 = .ok (.iload_n 2, 1) := by decide +kernel
theorem dX9_gatherValues_77 : decode cX9_gatherValues 77 = .ok (.ireturn, 1) := by decide +kernel
theorem dX9_leastGathered_0 : decode cX9_leastGathered 0 = .ok (.ldc2_w 327, 3) := by decide +kernel
theorem dX9_leastGathered_3 : decode cX9_leastGathered 3 = .ok (.lstore_n 2, 1) := by decide +kernel
theorem dX9_leastGathered_4 : decode cX9_leastGathered 4 = .ok (.iconst 0, 1) := by decide +kernel
theorem dX9_leastGathered_5 : decode cX9_leastGathered 5 = .ok (.istore 4, 2) := by decide +kernel
theorem dX9_leastGathered_7 : decode cX9_leastGathered 7 = .ok (.iload 4, 2) := by decide +kernel
theorem dX9_leastGathered_9 : decode cX9_leastGathered 9 = .ok (.iload_n 1, 1) := by decide +kernel
theorem dX9_leastGathered_10 : decode cX9_leastGathered 10 = .ok (.if_icmp .ge 31, 3) := by decide +kernel
theorem dX9_leastGathered_13 : decode cX9_leastGathered 13 = .ok (.iload 4, 2) := by decide +kernel
theorem dX9_leastGathered_15 : decode cX9_leastGathered 15 = .ok (.aload_n 0, 1) := by decide +kernel
theorem dX9_leastGathered_16 : decode cX9_leastGathered 16 = .ok (.getfield 47, 3) := by decide +kernel
theorem dX9_leastGathered_19 : decode cX9_leastGathered 19 = .ok (.arraylength, 1) := by decide +kernel
theorem dX9_leastGathered_20 : decode cX9_leastGathered 20 = .ok (.if_icmp .ge 21, 3) := by decide +kernel
theorem dX9_leastGathered_23 : decode cX9_leastGathered 23 = .ok (.lload_n 2, 1) := by decide +kernel
theorem dX9_leastGathered_24 : decode cX9_leastGathered 24 = .ok (.aload_n 0, 1) := by decide +kernel
theorem dX9_leastGathered_25 : decode cX9_leastGathered 25 = .ok (.getfield 47, 3) := by decide +kernel
theorem dX9_leastGathered_28 : decode cX9_leastGathered 28 = .ok (.iload 4, 2) := by decide +kernel
theorem dX9_leastGathered_30 : decode cX9_leastGathered 30 = .ok (.laload, 1) := by decide +kernel
theorem dX9_leastGathered_31 : decode cX9_leastGathered 31 = .ok (.invokestatic 329, 3) := by decide +kernel
theorem dX9_leastGathered_34 : decode cX9_leastGathered 34 = .ok (.lstore_n 2, 1) := by decide +kernel
theorem dX9_leastGathered_35 : decode cX9_leastGathered 35 = .ok (.iinc 4 1, 3) := by decide +kernel
theorem dX9_leastGathered_38 : decode cX9_leastGathered 38 = .ok (.goto (-31), 3) := by decide +kernel
theorem dX9_leastGathered_41 : decode cX9_leastGathered 41 = .ok (.lload_n 2, 1) := by decide +kernel
theorem dX9_leastGathered_42 : decode cX9_leastGathered 42 = .ok (.lreturn, 1) := by decide +kernel
theorem dX9_greatestGathered_0 : decode cX9_greatestGathered 0 = .ok (.ldc2_w 186, 3) := by decide +kernel
theorem dX9_greatestGathered_3 : decode cX9_greatestGathered 3 = .ok (.lstore_n 2, 1) := by decide +kernel
theorem dX9_greatestGathered_4 : decode cX9_greatestGathered 4 = .ok (.iconst 0, 1) := by decide +kernel
theorem dX9_greatestGathered_5 : decode cX9_greatestGathered 5 = .ok (.istore 4, 2) := by decide +kernel
theorem dX9_greatestGathered_7 : decode cX9_greatestGathered 7 = .ok (.iload 4, 2) := by decide +kernel
theorem dX9_greatestGathered_9 : decode cX9_greatestGathered 9 = .ok (.iload_n 1, 1) := by decide +kernel
theorem dX9_greatestGathered_10 : decode cX9_greatestGathered 10 = .ok (.if_icmp .ge 31, 3) := by decide +kernel
theorem dX9_greatestGathered_13 : decode cX9_greatestGathered 13 = .ok (.iload 4, 2) := by decide +kernel
theorem dX9_greatestGathered_15 : decode cX9_greatestGathered 15 = .ok (.aload_n 0, 1) := by decide +kernel
theorem dX9_greatestGathered_16 : decode cX9_greatestGathered 16 = .ok (.getfield 47, 3) := by decide +kernel
theorem dX9_greatestGathered_19 : decode cX9_greatestGathered 19 = .ok (.arraylength, 1) := by decide +kernel
theorem dX9_greatestGathered_20 : decode cX9_greatestGathered 20 = .ok (.if_icmp .ge 21, 3) := by decide +kernel
theorem dX9_greatestGathered_23 : decode cX9_greatestGathered 23 = .ok (.lload_n 2, 1) := by decide +kernel
theorem dX9_greatestGathered_24 : decode cX9_greatestGathered 24 = .ok (.aload_n 0, 1) := by decide +kernel
theorem dX9_greatestGathered_25 : decode cX9_greatestGathered 25 = .ok (.getfield 47, 3) := by decide +kernel
theorem dX9_greatestGathered_28 : decode cX9_greatestGathered 28 = .ok (.iload 4, 2) := by decide +kernel
theorem dX9_greatestGathered_30 : decode cX9_greatestGathered 30 = .ok (.laload, 1) := by decide +kernel
theorem dX9_greatestGathered_31 : decode cX9_greatestGathered 31 = .ok (.invokestatic 333, 3) := by decide +kernel
theorem dX9_greatestGathered_34 : decode cX9_greatestGathered 34 = .ok (.lstore_n 2, 1) := by decide +kernel
theorem dX9_greatestGathered_35 : decode cX9_greatestGathered 35 = .ok (.iinc 4 1, 3) := by decide +kernel
theorem dX9_greatestGathered_38 : decode cX9_greatestGathered 38 = .ok (.goto (-31), 3) := by decide +kernel
theorem dX9_greatestGathered_41 : decode cX9_greatestGathered 41 = .ok (.lload_n 2, 1) := by decide +kernel
theorem dX9_greatestGathered_42 : decode cX9_greatestGathered 42 = .ok (.lreturn, 1) := by decide +kernel
theorem dX9_unlikeGathered_0 : decode cX9_unlikeGathered 0 = .ok (.iconst 0, 1) := by decide +kernel
theorem dX9_unlikeGathered_1 : decode cX9_unlikeGathered 1 = .ok (.istore_n 2, 1) := by decide +kernel
theorem dX9_unlikeGathered_2 : decode cX9_unlikeGathered 2 = .ok (.iconst 0, 1) := by decide +kernel
theorem dX9_unlikeGathered_3 : decode cX9_unlikeGathered 3 = .ok (.istore_n 3, 1) := by decide +kernel
theorem dX9_unlikeGathered_4 : decode cX9_unlikeGathered 4 = .ok (.iload_n 3, 1) := by decide +kernel
theorem dX9_unlikeGathered_5 : decode cX9_unlikeGathered 5 = .ok (.iload_n 1, 1) := by decide +kernel
theorem dX9_unlikeGathered_6 : decode cX9_unlikeGathered 6 = .ok (.if_icmp .ge 64, 3) := by decide +kernel
theorem dX9_unlikeGathered_9 : decode cX9_unlikeGathered 9 = .ok (.iload_n 3, 1) := by decide +kernel
theorem dX9_unlikeGathered_10 : decode cX9_unlikeGathered 10 = .ok (.aload_n 0, 1) := by decide +kernel
theorem dX9_unlikeGathered_11 : decode cX9_unlikeGathered 11 = .ok (.getfield 47, 3) := by decide +kernel
theorem dX9_unlikeGathered_14 : decode cX9_unlikeGathered 14 = .ok (.arraylength, 1) := by decide +kernel
theorem dX9_unlikeGathered_15 : decode cX9_unlikeGathered 15 = .ok (.if_icmp .ge 55, 3) := by decide +kernel
theorem dX9_unlikeGathered_18 : decode cX9_unlikeGathered 18 = .ok (.iconst 1, 1) := by decide +kernel
theorem dX9_unlikeGathered_19 : decode cX9_unlikeGathered 19 = .ok (.istore 4, 2) := by decide +kernel
theorem dX9_unlikeGathered_21 : decode cX9_unlikeGathered 21 = .ok (.iconst 0, 1) := by decide +kernel
theorem dX9_unlikeGathered_22 : decode cX9_unlikeGathered 22 = .ok (.istore 5, 2) := by decide +kernel
theorem dX9_unlikeGathered_24 : decode cX9_unlikeGathered 24 = .ok (.iload 5, 2) := by decide +kernel
theorem dX9_unlikeGathered_26 : decode cX9_unlikeGathered 26 = .ok (.iload_n 3, 1) := by decide +kernel
theorem dX9_unlikeGathered_27 : decode cX9_unlikeGathered 27 = .ok (.if_icmp .ge 29, 3) := by decide +kernel
theorem dX9_unlikeGathered_30 : decode cX9_unlikeGathered 30 = .ok (.aload_n 0, 1) := by decide +kernel
theorem dX9_unlikeGathered_31 : decode cX9_unlikeGathered 31 = .ok (.getfield 47, 3) := by decide +kernel
theorem dX9_unlikeGathered_34 : decode cX9_unlikeGathered 34 = .ok (.iload 5, 2) := by decide +kernel
theorem dX9_unlikeGathered_36 : decode cX9_unlikeGathered 36 = .ok (.laload, 1) := by decide +kernel
theorem dX9_unlikeGathered_37 : decode cX9_unlikeGathered 37 = .ok (.aload_n 0, 1) := by decide +kernel
theorem dX9_unlikeGathered_38 : decode cX9_unlikeGathered 38 = .ok (.getfield 47, 3) := by decide +kernel
theorem dX9_unlikeGathered_41 : decode cX9_unlikeGathered 41 = .ok (.iload_n 3, 1) := by decide +kernel
theorem dX9_unlikeGathered_42 : decode cX9_unlikeGathered 42 = .ok (.laload, 1) := by decide +kernel
theorem dX9_unlikeGathered_43 : decode cX9_unlikeGathered 43 = .ok (.lcmp, 1) := by decide +kernel
theorem dX9_unlikeGathered_44 : decode cX9_unlikeGathered 44 = .ok (.ifCond .ne 6, 3) := by decide +kernel
theorem dX9_unlikeGathered_47 : decode cX9_unlikeGathered 47 = .ok (.iconst 0, 1) := by decide +kernel
theorem dX9_unlikeGathered_48 : decode cX9_unlikeGathered 48 = .ok (.istore 4, 2) := by decide +kernel
theorem dX9_unlikeGathered_50 : decode cX9_unlikeGathered 50 = .ok (.iinc 5 1, 3) := by decide +kernel
theorem dX9_unlikeGathered_53 : decode cX9_unlikeGathered 53 = .ok (.goto (-29), 3) := by decide +kernel
theorem dX9_unlikeGathered_56 : decode cX9_unlikeGathered 56 = .ok (.iload 4, 2) := by decide +kernel
theorem dX9_unlikeGathered_58 : decode cX9_unlikeGathered 58 = .ok (.ifCond .eq 6, 3) := by decide +kernel
theorem dX9_unlikeGathered_61 : decode cX9_unlikeGathered 61 = .ok (.iinc 2 1, 3) := by decide +kernel
theorem dX9_unlikeGathered_64 : decode cX9_unlikeGathered 64 = .ok (.iinc 3 1, 3) := by decide +kernel
theorem dX9_unlikeGathered_67 : decode cX9_unlikeGathered 67 = .ok (.goto (-63), 3) := by decide +kernel
theorem dX9_unlikeGathered_70 : decode cX9_unlikeGathered 70 = .ok (.iload_n 2, 1) := by decide +kernel
theorem dX9_unlikeGathered_71 : decode cX9_unlikeGathered 71 = .ok (.ireturn, 1) := by decide +kernel
set_option maxRecDepth 20000 in
theorem ggX9_isSeenSo_X2_firstOf : GoodIn wsX9_isSeenSo wsX2_firstOf := goodIn_r _ [8, 9, 10, 49, 50, 51] (by decide +kernel) (by decide +kernel)
set_option maxRecDepth 20000 in
theorem gX9_isSeenSo_X2_firstOf : GoodIn wsX9_isSeenSo (wsV RX9 248 RX2 yX2_firstOf wsX2_firstOf) := goodIn_app (goodIn_of _ (by decide +kernel)) ggX9_isSeenSo_X2_firstOf
set_option maxRecDepth 20000 in
theorem ggX9_isSeenSo_X5_faultPart : GoodIn wsX9_isSeenSo wsX5_faultPart := goodIn_r _ [15, 16, 17, 18, 19, 20, 21, 14, 22, 23, 52, 53, 54, 55, 56, 57, 58, 59, 60] (by decide +kernel) (by decide +kernel)
set_option maxRecDepth 20000 in
theorem gX9_isSeenSo_X5_faultPart : GoodIn wsX9_isSeenSo (wsV RX9 170 RX5 yX5_faultPart wsX5_faultPart) := goodIn_app (goodIn_of _ (by decide +kernel)) ggX9_isSeenSo_X5_faultPart
set_option maxRecDepth 20000 in
theorem ggX9_isSeenSo_X2_secondOf : GoodIn wsX9_isSeenSo wsX2_secondOf := goodIn_r _ [27, 9, 28, 49, 50, 51] (by decide +kernel) (by decide +kernel)
set_option maxRecDepth 20000 in
theorem gX9_isSeenSo_X2_secondOf : GoodIn wsX9_isSeenSo (wsV RX9 251 RX2 yX2_secondOf wsX2_secondOf) := goodIn_app (goodIn_of _ (by decide +kernel)) ggX9_isSeenSo_X2_secondOf
theorem dX9_isSeenSo_0 : decode cX9_isSeenSo 0 = .ok (.aload_n 0, 1) := by decide +kernel
theorem dX9_isSeenSo_1 : decode cX9_isSeenSo 1 = .ok (.getfield 33, 3) := by decide +kernel
theorem dX9_isSeenSo_4 : decode cX9_isSeenSo 4 = .ok (.getfield 215, 3) := by decide +kernel
theorem dX9_isSeenSo_7 : decode cX9_isSeenSo 7 = .ok (.astore_n 2, 1) := by decide +kernel
theorem dX9_isSeenSo_8 : decode cX9_isSeenSo 8 = .ok (.iconst 0, 1) := by decide +kernel
theorem dX9_isSeenSo_9 : decode cX9_isSeenSo 9 = .ok (.istore_n 3, 1) := by decide +kernel
theorem dX9_isSeenSo_10 : decode cX9_isSeenSo 10 = .ok (.iload_n 3, 1) := by decide +kernel
theorem dX9_isSeenSo_11 : decode cX9_isSeenSo 11 = .ok (.aload_n 2, 1) := by decide +kernel
theorem dX9_isSeenSo_12 : decode cX9_isSeenSo 12 = .ok (.getfield 247, 3) := by decide +kernel
theorem dX9_isSeenSo_15 : decode cX9_isSeenSo 15 = .ok (.if_icmp .ge 52, 3) := by decide +kernel
theorem dX9_isSeenSo_18 : decode cX9_isSeenSo 18 = .ok (.aload_n 1, 1) := by decide +kernel
theorem dX9_isSeenSo_19 : decode cX9_isSeenSo 19 = .ok (.aload_n 2, 1) := by decide +kernel
theorem dX9_isSeenSo_20 : decode cX9_isSeenSo 20 = .ok (.iload_n 3, 1) := by decide +kernel
theorem dX9_isSeenSo_21 : decode cX9_isSeenSo 21 = .ok (.invokevirtual 248, 3) := by decide +kernel
theorem dX9_isSeenSo_24 : decode cX9_isSeenSo 24 = .ok (.iconst 0, 1) := by decide +kernel
theorem dX9_isSeenSo_25 : decode cX9_isSeenSo 25 = .ok (.invokevirtual 170, 3) := by decide +kernel
theorem dX9_isSeenSo_28 : decode cX9_isSeenSo 28 = .ok (.bipush (-5), 2) := by decide +kernel
theorem dX9_isSeenSo_30 : decode cX9_isSeenSo 30 = .ok (.if_icmp .eq 7, 3) := by decide +kernel
theorem dX9_isSeenSo_33 : decode cX9_isSeenSo 33 = .ok (.iconst 1, 1) := by decide +kernel
theorem dX9_isSeenSo_34 : decode cX9_isSeenSo 34 = .ok (.goto 4, 3) := by decide +kernel
theorem dX9_isSeenSo_37 : decode cX9_isSeenSo 37 = .ok (.iconst 0, 1) := by decide +kernel
theorem dX9_isSeenSo_38 : decode cX9_isSeenSo 38 = .ok (.istore 4, 2) := by decide +kernel
theorem dX9_isSeenSo_40 : decode cX9_isSeenSo 40 = .ok (.iload 4, 2) := by decide +kernel
theorem dX9_isSeenSo_42 : decode cX9_isSeenSo 42 = .ok (.aload_n 2, 1) := by decide +kernel
theorem dX9_isSeenSo_43 : decode cX9_isSeenSo 43 = .ok (.iload_n 3, 1) := by decide +kernel
theorem dX9_isSeenSo_44 : decode cX9_isSeenSo 44 = .ok (.invokevirtual 251, 3) := by decide +kernel
theorem dX9_isSeenSo_47 : decode cX9_isSeenSo 47 = .ok (.iconst 1, 1) := by decide +kernel
theorem dX9_isSeenSo_48 : decode cX9_isSeenSo 48 = .ok (.if_icmp .ne 7, 3) := by decide +kernel
theorem dX9_isSeenSo_51 : decode cX9_isSeenSo 51 = .ok (.iconst 1, 1) := by decide +kernel
theorem dX9_isSeenSo_52 : decode cX9_isSeenSo 52 = .ok (.goto 4, 3) := by decide +kernel
theorem dX9_isSeenSo_55 : decode cX9_isSeenSo 55 = .ok (.iconst 0, 1) := by decide +kernel
theorem dX9_isSeenSo_56 : decode cX9_isSeenSo 56 = .ok (.if_icmp .eq 5, 3) := by decide +kernel
theorem dX9_isSeenSo_59 : decode cX9_isSeenSo 59 = .ok (.iconst 0, 1) := by decide +kernel
theorem dX9_isSeenSo_60 : decode cX9_isSeenSo 60 = .ok (.ireturn, 1) := by decide +kernel
theorem dX9_isSeenSo_61 : decode cX9_isSeenSo 61 = .ok (.iinc 3 1, 3) := by decide +kernel
theorem dX9_isSeenSo_64 : decode cX9_isSeenSo 64 = .ok (.goto (-54), 3) := by decide +kernel
theorem dX9_isSeenSo_67 : decode cX9_isSeenSo 67 = .ok (.iconst 1, 1) := by decide +kernel
theorem dX9_isSeenSo_68 : decode cX9_isSeenSo 68 = .ok (.ireturn, 1) := by decide +kernel
theorem dX9_lowestTerms_0 : decode cX9_lowestTerms 0 = .ok (.iload_n 2, 1) := by decide +kernel
theorem dX9_lowestTerms_1 : decode cX9_lowestTerms 1 = .ok (.ifCond .le 12, 3) := by decide +kernel
theorem dX9_lowestTerms_4 : decode cX9_lowestTerms 4 = .ok (.iload_n 3, 1) := by decide +kernel
theorem dX9_lowestTerms_5 : decode cX9_lowestTerms 5 = .ok (.ifCond .eq 12, 3) := by decide +kernel
theorem dX9_lowestTerms_8 : decode cX9_lowestTerms 8 = .ok (.iload_n 3, 1) := by decide +kernel
theorem dX9_lowestTerms_9 : decode cX9_lowestTerms 9 = .ok (.iconst 1, 1) := by decide +kernel
theorem dX9_lowestTerms_10 : decode cX9_lowestTerms 10 = .ok (.if_icmp .eq 7, 3) := by decide +kernel
theorem dX9_lowestTerms_13 : decode cX9_lowestTerms 13 = .ok (.ldc2_w 186, 3) := by decide +kernel
theorem dX9_lowestTerms_16 : decode cX9_lowestTerms 16 = .ok (.lreturn, 1) := by decide +kernel
theorem dX9_lowestTerms_17 : decode cX9_lowestTerms 17 = .ok (.iload_n 2, 1) := by decide +kernel
theorem dX9_lowestTerms_18 : decode cX9_lowestTerms 18 = .ok (.istore 4, 2) := by decide +kernel
theorem dX9_lowestTerms_20 : decode cX9_lowestTerms 20 = .ok (.iload 4, 2) := by decide +kernel
theorem dX9_lowestTerms_22 : decode cX9_lowestTerms 22 = .ok (.iconst 1, 1) := by decide +kernel
theorem dX9_lowestTerms_23 : decode cX9_lowestTerms 23 = .ok (.if_icmp .le 26, 3) := by decide +kernel
theorem dX9_lowestTerms_26 : decode cX9_lowestTerms 26 = .ok (.lload_n 0, 1) := by decide +kernel
theorem dX9_lowestTerms_27 : decode cX9_lowestTerms 27 = .ok (.iload 4, 2) := by decide +kernel
theorem dX9_lowestTerms_29 : decode cX9_lowestTerms 29 = .ok (.i2l, 1) := by decide +kernel
theorem dX9_lowestTerms_30 : decode cX9_lowestTerms 30 = .ok (.lrem, 1) := by decide +kernel
theorem dX9_lowestTerms_31 : decode cX9_lowestTerms 31 = .ok (.lconst 0, 1) := by decide +kernel
theorem dX9_lowestTerms_32 : decode cX9_lowestTerms 32 = .ok (.lcmp, 1) := by decide +kernel
theorem dX9_lowestTerms_33 : decode cX9_lowestTerms 33 = .ok (.ifCond .ne 10, 3) := by decide +kernel
theorem dX9_lowestTerms_36 : decode cX9_lowestTerms 36 = .ok (.iload_n 2, 1) := by decide +kernel
theorem dX9_lowestTerms_37 : decode cX9_lowestTerms 37 = .ok (.iload 4, 2) := by decide +kernel
theorem dX9_lowestTerms_39 : decode cX9_lowestTerms 39 = .ok (.irem, 1) := by decide +kernel
theorem dX9_lowestTerms_40 : decode cX9_lowestTerms 40 = .ok (.ifCond .eq 9, 3) := by decide +kernel
theorem dX9_lowestTerms_43 : decode cX9_lowestTerms 43 = .ok (.iinc 4 (-1), 3) := by decide +kernel
theorem dX9_lowestTerms_46 : decode cX9_lowestTerms 46 = .ok (.goto (-26), 3) := by decide +kernel
theorem dX9_lowestTerms_49 : decode cX9_lowestTerms 49 = .ok (.iload_n 3, 1) := by decide +kernel
theorem dX9_lowestTerms_50 : decode cX9_lowestTerms 50 = .ok (.ifCond .ne 11, 3) := by decide +kernel
theorem dX9_lowestTerms_53 : decode cX9_lowestTerms 53 = .ok (.lload_n 0, 1) := by decide +kernel
theorem dX9_lowestTerms_54 : decode cX9_lowestTerms 54 = .ok (.iload 4, 2) := by decide +kernel
theorem dX9_lowestTerms_56 : decode cX9_lowestTerms 56 = .ok (.i2l, 1) := by decide +kernel
theorem dX9_lowestTerms_57 : decode cX9_lowestTerms 57 = .ok (.ldiv, 1) := by decide +kernel
theorem dX9_lowestTerms_58 : decode cX9_lowestTerms 58 = .ok (.goto 8, 3) := by decide +kernel
theorem dX9_lowestTerms_61 : decode cX9_lowestTerms 61 = .ok (.iload_n 2, 1) := by decide +kernel
theorem dX9_lowestTerms_62 : decode cX9_lowestTerms 62 = .ok (.iload 4, 2) := by decide +kernel
theorem dX9_lowestTerms_64 : decode cX9_lowestTerms 64 = .ok (.idiv, 1) := by decide +kernel
theorem dX9_lowestTerms_65 : decode cX9_lowestTerms 65 = .ok (.i2l, 1) := by decide +kernel
theorem dX9_lowestTerms_66 : decode cX9_lowestTerms 66 = .ok (.lreturn, 1) := by decide +kernel
set_option maxRecDepth 20000 in
theorem ggX10_init_X10_afresh : GoodIn wsX10_init wsX10_afresh := goodIn_r _ [44, 45, 46, 19, 20, 21, 22, 10, 47, 48, 49, 50, 51, 52, 53, 54, 55, 56, 57, 58, 59, 60, 61, 62, 63, 64, 65, 66, 67, 68, 69, 70, 71, 72, 73, 74, 75, 76, 77, 78, 79, 80, 81, 82, 83, 84, 85, 86, 87, 88, 89, 90, 91, 92, 93] (by decide +kernel) (by decide +kernel)
set_option maxRecDepth 20000 in
theorem gX10_init_X10_afresh : GoodIn wsX10_init (wsV RX10 115 RX10 yX10_afresh wsX10_afresh) := goodIn_app (goodIn_of _ (by decide +kernel)) ggX10_init_X10_afresh
theorem dX10_init_0 : decode cX10_init 0 = .ok (.aload_n 0, 1) := by decide +kernel
theorem dX10_init_1 : decode cX10_init 1 = .ok (.invokespecial 3, 3) := by decide +kernel
theorem dX10_init_4 : decode cX10_init 4 = .ok (.aload_n 0, 1) := by decide +kernel
theorem dX10_init_5 : decode cX10_init 5 = .ok (.bipush 8, 2) := by decide +kernel
theorem dX10_init_7 : decode cX10_init 7 = .ok (.putfield 9, 3) := by decide +kernel
theorem dX10_init_10 : decode cX10_init 10 = .ok (.aload_n 0, 1) := by decide +kernel
theorem dX10_init_11 : decode cX10_init 11 = .ok (.iconst (-1), 1) := by decide +kernel
theorem dX10_init_12 : decode cX10_init 12 = .ok (.putfield 15, 3) := by decide +kernel
theorem dX10_init_15 : decode cX10_init 15 = .ok (.aload_n 0, 1) := by decide +kernel
theorem dX10_init_16 : decode cX10_init 16 = .ok (.bipush 20, 2) := by decide +kernel
theorem dX10_init_18 : decode cX10_init 18 = .ok (.newarray .int, 2) := by decide +kernel
theorem dX10_init_20 : decode cX10_init 20 = .ok (.putfield 18, 3) := by decide +kernel
theorem dX10_init_23 : decode cX10_init 23 = .ok (.aload_n 0, 1) := by decide +kernel
theorem dX10_init_24 : decode cX10_init 24 = .ok (.iconst 5, 1) := by decide +kernel
theorem dX10_init_25 : decode cX10_init 25 = .ok (.newarray .int, 2) := by decide +kernel
theorem dX10_init_27 : decode cX10_init 27 = .ok (.putfield 22, 3) := by decide +kernel
theorem dX10_init_30 : decode cX10_init 30 = .ok (.aload_n 0, 1) := by decide +kernel
theorem dX10_init_31 : decode cX10_init 31 = .ok (.iconst 5, 1) := by decide +kernel
theorem dX10_init_32 : decode cX10_init 32 = .ok (.newarray .int, 2) := by decide +kernel
theorem dX10_init_34 : decode cX10_init 34 = .ok (.putfield 25, 3) := by decide +kernel
theorem dX10_init_37 : decode cX10_init 37 = .ok (.aload_n 0, 1) := by decide +kernel
theorem dX10_init_38 : decode cX10_init 38 = .ok (.iconst 5, 1) := by decide +kernel
theorem dX10_init_39 : decode cX10_init 39 = .ok (.newarray .int, 2) := by decide +kernel
theorem dX10_init_41 : decode cX10_init 41 = .ok (.putfield 28, 3) := by decide +kernel
theorem dX10_init_44 : decode cX10_init 44 = .ok (.aload_n 0, 1) := by decide +kernel
theorem dX10_init_45 : decode cX10_init 45 = .ok (.sipush 1440, 3) := by decide +kernel
theorem dX10_init_48 : decode cX10_init 48 = .ok (.newarray .int, 2) := by decide +kernel
theorem dX10_init_50 : decode cX10_init 50 = .ok (.putfield 31, 3) := by decide +kernel
theorem dX10_init_53 : decode cX10_init 53 = .ok (.aload_n 0, 1) := by decide +kernel
theorem dX10_init_54 : decode cX10_init 54 = .ok (.bipush 24, 2) := by decide +kernel
theorem dX10_init_56 : decode cX10_init 56 = .ok (.newarray .int, 2) := by decide +kernel
theorem dX10_init_58 : decode cX10_init 58 = .ok (.putfield 34, 3) := by decide +kernel
theorem dX10_init_61 : decode cX10_init 61 = .ok (.aload_n 0, 1) := by decide +kernel
theorem dX10_init_62 : decode cX10_init 62 = .ok (.bipush 24, 2) := by decide +kernel
theorem dX10_init_64 : decode cX10_init 64 = .ok (.newarray .int, 2) := by decide +kernel
theorem dX10_init_66 : decode cX10_init 66 = .ok (.putfield 37, 3) := by decide +kernel
theorem dX10_init_69 : decode cX10_init 69 = .ok (.aload_n 0, 1) := by decide +kernel
theorem dX10_init_70 : decode cX10_init 70 = .ok (.bipush 120, 2) := by decide +kernel
theorem dX10_init_72 : decode cX10_init 72 = .ok (.newarray .int, 2) := by decide +kernel
theorem dX10_init_74 : decode cX10_init 74 = .ok (.putfield 40, 3) := by decide +kernel
theorem dX10_init_77 : decode cX10_init 77 = .ok (.aload_n 0, 1) := by decide +kernel
theorem dX10_init_78 : decode cX10_init 78 = .ok (.bipush 120, 2) := by decide +kernel
theorem dX10_init_80 : decode cX10_init 80 = .ok (.newarray .long, 2) := by decide +kernel
theorem dX10_init_82 : decode cX10_init 82 = .ok (.putfield 43, 3) := by decide +kernel
theorem dX10_init_85 : decode cX10_init 85 = .ok (.aload_n 0, 1) := by decide +kernel
theorem dX10_init_86 : decode cX10_init 86 = .ok (.bipush 120, 2) := by decide +kernel
theorem dX10_init_88 : decode cX10_init 88 = .ok (.newarray .long, 2) := by decide +kernel
theorem dX10_init_90 : decode cX10_init 90 = .ok (.putfield 47, 3) := by decide +kernel
theorem dX10_init_93 : decode cX10_init 93 = .ok (.aload_n 0, 1) := by decide +kernel
theorem dX10_init_94 : decode cX10_init 94 = .ok (.bipush 24, 2) := by decide +kernel
theorem dX10_init_96 : decode cX10_init 96 = .ok (.newarray .int, 2) := by decide +kernel
theorem dX10_init_98 : decode cX10_init 98 = .ok (.putfield 50, 3) := by decide +kernel
theorem dX10_init_101 : decode cX10_init 101 = .ok (.aload_n 0, 1) := by decide +kernel
theorem dX10_init_102 : decode cX10_init 102 = .ok (.bipush 24, 2) := by decide +kernel
theorem dX10_init_104 : decode cX10_init 104 = .ok (.newarray .int, 2) := by decide +kernel
theorem dX10_init_106 : decode cX10_init 106 = .ok (.putfield 53, 3) := by decide +kernel
theorem dX10_init_109 : decode cX10_init 109 = .ok (.aload_n 0, 1) := by decide +kernel
theorem dX10_init_110 : decode cX10_init 110 = .ok (.bipush 24, 2) := by decide +kernel
theorem dX10_init_112 : decode cX10_init 112 = .ok (.newarray .int, 2) := by decide +kernel
theorem dX10_init_114 : decode cX10_init 114 = .ok (.putfield 56, 3) := by decide +kernel
theorem dX10_init_117 : decode cX10_init 117 = .ok (.aload_n 0, 1) := by decide +kernel
theorem dX10_init_118 : decode cX10_init 118 = .ok (.bipush 24, 2) := by decide +kernel
theorem dX10_init_120 : decode cX10_init 120 = .ok (.newarray .int, 2) := by decide +kernel
theorem dX10_init_122 : decode cX10_init 122 = .ok (.putfield 59, 3) := by decide +kernel
theorem dX10_init_125 : decode cX10_init 125 = .ok (.aload_n 0, 1) := by decide +kernel
theorem dX10_init_126 : decode cX10_init 126 = .ok (.bipush 24, 2) := by decide +kernel
theorem dX10_init_128 : decode cX10_init 128 = .ok (.newarray .int, 2) := by decide +kernel
theorem dX10_init_130 : decode cX10_init 130 = .ok (.putfield 62, 3) := by decide +kernel
theorem dX10_init_133 : decode cX10_init 133 = .ok (.aload_n 0, 1) := by decide +kernel
theorem dX10_init_134 : decode cX10_init 134 = .ok (.bipush 6, 2) := by decide +kernel
theorem dX10_init_136 : decode cX10_init 136 = .ok (.newarray .int, 2) := by decide +kernel
theorem dX10_init_138 : decode cX10_init 138 = .ok (.putfield 65, 3) := by decide +kernel
theorem dX10_init_141 : decode cX10_init 141 = .ok (.aload_n 0, 1) := by decide +kernel
theorem dX10_init_142 : decode cX10_init 142 = .ok (.bipush 6, 2) := by decide +kernel
theorem dX10_init_144 : decode cX10_init 144 = .ok (.newarray .int, 2) := by decide +kernel
theorem dX10_init_146 : decode cX10_init 146 = .ok (.putfield 68, 3) := by decide +kernel
theorem dX10_init_149 : decode cX10_init 149 = .ok (.aload_n 0, 1) := by decide +kernel
theorem dX10_init_150 : decode cX10_init 150 = .ok (.bipush 8, 2) := by decide +kernel
theorem dX10_init_152 : decode cX10_init 152 = .ok (.newarray .int, 2) := by decide +kernel
theorem dX10_init_154 : decode cX10_init 154 = .ok (.putfield 71, 3) := by decide +kernel
theorem dX10_init_157 : decode cX10_init 157 = .ok (.aload_n 0, 1) := by decide +kernel
theorem dX10_init_158 : decode cX10_init 158 = .ok (.bipush 8, 2) := by decide +kernel
theorem dX10_init_160 : decode cX10_init 160 = .ok (.newarray .int, 2) := by decide +kernel
theorem dX10_init_162 : decode cX10_init 162 = .ok (.putfield 74, 3) := by decide +kernel
theorem dX10_init_165 : decode cX10_init 165 = .ok (.aload_n 0, 1) := by decide +kernel
theorem dX10_init_166 : decode cX10_init 166 = .ok (.bipush 8, 2) := by decide +kernel
theorem dX10_init_168 : decode cX10_init 168 = .ok (.newarray .int, 2) := by decide +kernel
theorem dX10_init_170 : decode cX10_init 170 = .ok (.putfield 77, 3) := by decide +kernel
theorem dX10_init_173 : decode cX10_init 173 = .ok (.aload_n 0, 1) := by decide +kernel
theorem dX10_init_174 : decode cX10_init 174 = .ok (.bipush 8, 2) := by decide +kernel
theorem dX10_init_176 : decode cX10_init 176 = .ok (.newarray .int, 2) := by decide +kernel
theorem dX10_init_178 : decode cX10_init 178 = .ok (.putfield 80, 3) := by decide +kernel
theorem dX10_init_181 : decode cX10_init 181 = .ok (.aload_n 0, 1) := by decide +kernel
theorem dX10_init_182 : decode cX10_init 182 = .ok (.bipush 60, 2) := by decide +kernel
theorem dX10_init_184 : decode cX10_init 184 = .ok (.newarray .int, 2) := by decide +kernel
theorem dX10_init_186 : decode cX10_init 186 = .ok (.putfield 83, 3) := by decide +kernel
theorem dX10_init_189 : decode cX10_init 189 = .ok (.aload_n 0, 1) := by decide +kernel
theorem dX10_init_190 : decode cX10_init 190 = .ok (.sipush 2400, 3) := by decide +kernel
theorem dX10_init_193 : decode cX10_init 193 = .ok (.newarray .long, 2) := by decide +kernel
theorem dX10_init_195 : decode cX10_init 195 = .ok (.putfield 86, 3) := by decide +kernel
theorem dX10_init_198 : decode cX10_init 198 = .ok (.aload_n 0, 1) := by decide +kernel
theorem dX10_init_199 : decode cX10_init 199 = .ok (.sipush 134, 3) := by decide +kernel
theorem dX10_init_202 : decode cX10_init 202 = .ok (.newarray .int, 2) := by decide +kernel
theorem dX10_init_204 : decode cX10_init 204 = .ok (.putfield 89, 3) := by decide +kernel
theorem dX10_init_207 : decode cX10_init 207 = .ok (.aload_n 0, 1) := by decide +kernel
theorem dX10_init_208 : decode cX10_init 208 = .ok (.bipush 20, 2) := by decide +kernel
theorem dX10_init_210 : decode cX10_init 210 = .ok (.newarray .int, 2) := by decide +kernel
theorem dX10_init_212 : decode cX10_init 212 = .ok (.putfield 92, 3) := by decide +kernel
theorem dX10_init_215 : decode cX10_init 215 = .ok (.aload_n 0, 1) := by decide +kernel
theorem dX10_init_216 : decode cX10_init 216 = .ok (.iconst 5, 1) := by decide +kernel
theorem dX10_init_217 : decode cX10_init 217 = .ok (.newarray .int, 2) := by decide +kernel
theorem dX10_init_219 : decode cX10_init 219 = .ok (.putfield 95, 3) := by decide +kernel
theorem dX10_init_222 : decode cX10_init 222 = .ok (.aload_n 0, 1) := by decide +kernel
theorem dX10_init_223 : decode cX10_init 223 = .ok (.bipush 24, 2) := by decide +kernel
theorem dX10_init_225 : decode cX10_init 225 = .ok (.newarray .int, 2) := by decide +kernel
theorem dX10_init_227 : decode cX10_init 227 = .ok (.putfield 98, 3) := by decide +kernel
theorem dX10_init_230 : decode cX10_init 230 = .ok (.aload_n 0, 1) := by decide +kernel
theorem dX10_init_231 : decode cX10_init 231 = .ok (.bipush 6, 2) := by decide +kernel
theorem dX10_init_233 : decode cX10_init 233 = .ok (.bipush 60, 2) := by decide +kernel
theorem dX10_init_235 : decode cX10_init 235 = .ok (.multianewarray 101 2, 4) := by decide +kernel
theorem dX10_init_239 : decode cX10_init 239 = .ok (.putfield 103, 3) := by decide +kernel
theorem dX10_init_242 : decode cX10_init 242 = .ok (.aload_n 0, 1) := by decide +kernel
theorem dX10_init_243 : decode cX10_init 243 = .ok (.bipush 6, 2) := by decide +kernel
theorem dX10_init_245 : decode cX10_init 245 = .ok (.newarray .int, 2) := by decide +kernel
theorem dX10_init_247 : decode cX10_init 247 = .ok (.dup, 1) := by decide +kernel
theorem dX10_init_248 : decode cX10_init 248 = .ok (.iconst 0, 1) := by decide +kernel
theorem dX10_init_249 : decode cX10_init 249 = .ok (.iconst (-1), 1) := by decide +kernel
theorem dX10_init_250 : decode cX10_init 250 = .ok (.iastore, 1) := by decide +kernel
theorem dX10_init_251 : decode cX10_init 251 = .ok (.dup, 1) := by decide +kernel
theorem dX10_init_252 : decode cX10_init 252 = .ok (.iconst 1, 1) := by decide +kernel
theorem dX10_init_253 : decode cX10_init 253 = .ok (.iconst (-1), 1) := by decide +kernel
theorem dX10_init_254 : decode cX10_init 254 = .ok (.iastore, 1) := by decide +kernel
theorem dX10_init_255 : decode cX10_init 255 = .ok (.dup, 1) := by decide +kernel
theorem dX10_init_256 : decode cX10_init 256 = .ok (.iconst 2, 1) := by decide +kernel
theorem dX10_init_257 : decode cX10_init 257 = .ok (.iconst (-1), 1) := by decide +kernel
theorem dX10_init_258 : decode cX10_init 258 = .ok (.iastore, 1) := by decide +kernel
theorem dX10_init_259 : decode cX10_init 259 = .ok (.dup, 1) := by decide +kernel
theorem dX10_init_260 : decode cX10_init 260 = .ok (.iconst 3, 1) := by decide +kernel
theorem dX10_init_261 : decode cX10_init 261 = .ok (.iconst (-1), 1) := by decide +kernel
theorem dX10_init_262 : decode cX10_init 262 = .ok (.iastore, 1) := by decide +kernel
theorem dX10_init_263 : decode cX10_init 263 = .ok (.dup, 1) := by decide +kernel
theorem dX10_init_264 : decode cX10_init 264 = .ok (.iconst 4, 1) := by decide +kernel
theorem dX10_init_265 : decode cX10_init 265 = .ok (.iconst (-1), 1) := by decide +kernel
theorem dX10_init_266 : decode cX10_init 266 = .ok (.iastore, 1) := by decide +kernel
theorem dX10_init_267 : decode cX10_init 267 = .ok (.dup, 1) := by decide +kernel
theorem dX10_init_268 : decode cX10_init 268 = .ok (.iconst 5, 1) := by decide +kernel
theorem dX10_init_269 : decode cX10_init 269 = .ok (.iconst (-1), 1) := by decide +kernel
theorem dX10_init_270 : decode cX10_init 270 = .ok (.iastore, 1) := by decide +kernel
theorem dX10_init_271 : decode cX10_init 271 = .ok (.putfield 106, 3) := by decide +kernel
theorem dX10_init_274 : decode cX10_init 274 = .ok (.aload_n 0, 1) := by decide +kernel
theorem dX10_init_275 : decode cX10_init 275 = .ok (.bipush 6, 2) := by decide +kernel
theorem dX10_init_277 : decode cX10_init 277 = .ok (.newarray .int, 2) := by decide +kernel
theorem dX10_init_279 : decode cX10_init 279 = .ok (.putfield 109, 3) := by decide +kernel
theorem dX10_init_282 : decode cX10_init 282 = .ok (.aload_n 0, 1) := by decide +kernel
theorem dX10_init_283 : decode cX10_init 283 = .ok (.bipush 60, 2) := by decide +kernel
theorem dX10_init_285 : decode cX10_init 285 = .ok (.newarray .long, 2) := by decide +kernel
theorem dX10_init_287 : decode cX10_init 287 = .ok (.putfield 112, 3) := by decide +kernel
theorem dX10_init_290 : decode cX10_init 290 = .ok (.aload_n 0, 1) := by decide +kernel
theorem dX10_init_291 : decode cX10_init 291 = .ok (.invokevirtual 115, 3) := by decide +kernel
theorem dX10_init_294 : decode cX10_init 294 = .ok (.return_, 1) := by decide +kernel
theorem dX10_in_0 : decode cX10_in 0 = .ok (.lload_n 0, 1) := by decide +kernel
theorem dX10_in_1 : decode cX10_in 1 = .ok (.lload_n 2, 1) := by decide +kernel
theorem dX10_in_2 : decode cX10_in 2 = .ok (.lcmp, 1) := by decide +kernel
theorem dX10_in_3 : decode cX10_in 3 = .ok (.ifCond .lt 14, 3) := by decide +kernel
theorem dX10_in_6 : decode cX10_in 6 = .ok (.lload_n 0, 1) := by decide +kernel
theorem dX10_in_7 : decode cX10_in 7 = .ok (.lload 4, 2) := by decide +kernel
theorem dX10_in_9 : decode cX10_in 9 = .ok (.lcmp, 1) := by decide +kernel
theorem dX10_in_10 : decode cX10_in 10 = .ok (.ifCond .gt 7, 3) := by decide +kernel
theorem dX10_in_13 : decode cX10_in 13 = .ok (.iconst 1, 1) := by decide +kernel
theorem dX10_in_14 : decode cX10_in 14 = .ok (.goto 4, 3) := by decide +kernel
theorem dX10_in_17 : decode cX10_in 17 = .ok (.iconst 0, 1) := by decide +kernel
theorem dX10_in_18 : decode cX10_in 18 = .ok (.ireturn, 1) := by decide +kernel
set_option maxRecDepth 20000 in
theorem ggX10_isColumn_X10_in : GoodIn wsX10_isColumn wsX10_in := goodIn_r _ [5] (by decide +kernel) (by decide +kernel)
set_option maxRecDepth 20000 in
theorem gX10_isColumn_X10_in : GoodIn wsX10_isColumn (va_wsS RX10 121 yX10_in wsX10_in) := goodIn_app (goodIn_of _ (by decide +kernel)) ggX10_isColumn_X10_in
theorem dX10_isColumn_0 : decode cX10_isColumn 0 = .ok (.iload_n 1, 1) := by decide +kernel
theorem dX10_isColumn_1 : decode cX10_isColumn 1 = .ok (.i2l, 1) := by decide +kernel
theorem dX10_isColumn_2 : decode cX10_isColumn 2 = .ok (.lconst 0, 1) := by decide +kernel
theorem dX10_isColumn_3 : decode cX10_isColumn 3 = .ok (.aload_n 0, 1) := by decide +kernel
theorem dX10_isColumn_4 : decode cX10_isColumn 4 = .ok (.getfield 118, 3) := by decide +kernel
theorem dX10_isColumn_7 : decode cX10_isColumn 7 = .ok (.iconst 1, 1) := by decide +kernel
theorem dX10_isColumn_8 : decode cX10_isColumn 8 = .ok (.isub, 1) := by decide +kernel
theorem dX10_isColumn_9 : decode cX10_isColumn 9 = .ok (.i2l, 1) := by decide +kernel
theorem dX10_isColumn_10 : decode cX10_isColumn 10 = .ok (.invokestatic 121, 3) := by decide +kernel
theorem dX10_isColumn_13 : decode cX10_isColumn 13 = .ok (.ireturn, 1) := by decide +kernel
set_option maxRecDepth 20000 in
theorem ggX10_isLine_X10_in : GoodIn wsX10_isLine wsX10_in := goodIn_r _ [5] (by decide +kernel) (by decide +kernel)
set_option maxRecDepth 20000 in
theorem gX10_isLine_X10_in : GoodIn wsX10_isLine (va_wsS RX10 121 yX10_in wsX10_in) := goodIn_app (goodIn_of _ (by decide +kernel)) ggX10_isLine_X10_in
theorem dX10_isLine_0 : decode cX10_isLine 0 = .ok (.iload_n 1, 1) := by decide +kernel
theorem dX10_isLine_1 : decode cX10_isLine 1 = .ok (.i2l, 1) := by decide +kernel
theorem dX10_isLine_2 : decode cX10_isLine 2 = .ok (.lconst 0, 1) := by decide +kernel
theorem dX10_isLine_3 : decode cX10_isLine 3 = .ok (.aload_n 0, 1) := by decide +kernel
theorem dX10_isLine_4 : decode cX10_isLine 4 = .ok (.getfield 125, 3) := by decide +kernel
theorem dX10_isLine_7 : decode cX10_isLine 7 = .ok (.iconst 1, 1) := by decide +kernel
theorem dX10_isLine_8 : decode cX10_isLine 8 = .ok (.isub, 1) := by decide +kernel
theorem dX10_isLine_9 : decode cX10_isLine 9 = .ok (.i2l, 1) := by decide +kernel
theorem dX10_isLine_10 : decode cX10_isLine 10 = .ok (.invokestatic 121, 3) := by decide +kernel
theorem dX10_isLine_13 : decode cX10_isLine 13 = .ok (.ireturn, 1) := by decide +kernel
set_option maxRecDepth 20000 in
theorem ggX10_isRow_X10_in : GoodIn wsX10_isRow wsX10_in := goodIn_r _ [5] (by decide +kernel) (by decide +kernel)
set_option maxRecDepth 20000 in
theorem gX10_isRow_X10_in : GoodIn wsX10_isRow (va_wsS RX10 121 yX10_in wsX10_in) := goodIn_app (goodIn_of _ (by decide +kernel)) ggX10_isRow_X10_in
theorem dX10_isRow_0 : decode cX10_isRow 0 = .ok (.iload_n 1, 1) := by decide +kernel
theorem dX10_isRow_1 : decode cX10_isRow 1 = .ok (.i2l, 1) := by decide +kernel
theorem dX10_isRow_2 : decode cX10_isRow 2 = .ok (.lconst 0, 1) := by decide +kernel
theorem dX10_isRow_3 : decode cX10_isRow 3 = .ok (.aload_n 0, 1) := by decide +kernel
theorem dX10_isRow_4 : decode cX10_isRow 4 = .ok (.getfield 128, 3) := by decide +kernel
theorem dX10_isRow_7 : decode cX10_isRow 7 = .ok (.iconst 1, 1) := by decide +kernel
theorem dX10_isRow_8 : decode cX10_isRow 8 = .ok (.isub, 1) := by decide +kernel
theorem dX10_isRow_9 : decode cX10_isRow 9 = .ok (.i2l, 1) := by decide +kernel
theorem dX10_isRow_10 : decode cX10_isRow 10 = .ok (.invokestatic 121, 3) := by decide +kernel
theorem dX10_isRow_13 : decode cX10_isRow 13 = .ok (.ireturn, 1) := by decide +kernel
theorem dX10_passes_0 : decode cX10_passes 0 = .ok (.aload_n 0, 1) := by decide +kernel
theorem dX10_passes_1 : decode cX10_passes 1 = .ok (.getfield 131, 3) := by decide +kernel
theorem dX10_passes_4 : decode cX10_passes 4 = .ok (.ifCond .eq 7, 3) := by decide +kernel
theorem dX10_passes_7 : decode cX10_passes 7 = .ok (.lload_n 1, 1) := by decide +kernel
theorem dX10_passes_8 : decode cX10_passes 8 = .ok (.goto 12, 3) := by decide +kernel
theorem dX10_passes_11 : decode cX10_passes 11 = .ok (.aload_n 0, 1) := by decide +kernel
theorem dX10_passes_12 : decode cX10_passes 12 = .ok (.getfield 86, 3) := by decide +kernel
theorem dX10_passes_15 : decode cX10_passes 15 = .ok (.aload_n 0, 1) := by decide +kernel
theorem dX10_passes_16 : decode cX10_passes 16 = .ok (.getfield 135, 3) := by decide +kernel
theorem dX10_passes_19 : decode cX10_passes 19 = .ok (.laload, 1) := by decide +kernel
theorem dX10_passes_20 : decode cX10_passes 20 = .ok (.lstore_n 3, 1) := by decide +kernel
theorem dX10_passes_21 : decode cX10_passes 21 = .ok (.aload_n 0, 1) := by decide +kernel
theorem dX10_passes_22 : decode cX10_passes 22 = .ok (.getfield 86, 3) := by decide +kernel
theorem dX10_passes_25 : decode cX10_passes 25 = .ok (.aload_n 0, 1) := by decide +kernel
theorem dX10_passes_26 : decode cX10_passes 26 = .ok (.getfield 135, 3) := by decide +kernel
theorem dX10_passes_29 : decode cX10_passes 29 = .ok (.lload_n 3, 1) := by decide +kernel
theorem dX10_passes_30 : decode cX10_passes 30 = .ok (.lastore, 1) := by decide +kernel
theorem dX10_passes_31 : decode cX10_passes 31 = .ok (.aload_n 0, 1) := by decide +kernel
theorem dX10_passes_32 : decode cX10_passes 32 = .ok (.dup, 1) := by decide +kernel
theorem dX10_passes_33 : decode cX10_passes 33 = .ok (.getfield 135, 3) := by decide +kernel
theorem dX10_passes_36 : decode cX10_passes 36 = .ok (.iconst 1, 1) := by decide +kernel
theorem dX10_passes_37 : decode cX10_passes 37 = .ok (.iadd, 1) := by decide +kernel
theorem dX10_passes_38 : decode cX10_passes 38 = .ok (.putfield 135, 3) := by decide +kernel
theorem dX10_passes_41 : decode cX10_passes 41 = .ok (.lload_n 3, 1) := by decide +kernel
theorem dX10_passes_42 : decode cX10_passes 42 = .ok (.lreturn, 1) := by decide +kernel
set_option maxRecDepth 20000 in
theorem ggX10_passesRow_X10_passes : GoodIn wsX10_passesRow wsX10_passes := goodIn_r _ [5, 6, 7, 8, 9, 10, 11, 12, 13, 14, 15, 16, 17, 18, 19, 20, 21, 22, 23, 24, 25, 26, 27, 28, 29, 30, 31, 32, 33, 34, 35, 36, 37, 38, 39, 40, 41, 42, 43, 44, 45, 46, 47, 48, 49, 50, 51, 52, 53, 54, 55] (by decide +kernel) (by decide +kernel)
set_option maxRecDepth 20000 in
theorem gX10_passesRow_X10_passes : GoodIn wsX10_passesRow (wsV RX10 138 RX10 yX10_passes wsX10_passes) := goodIn_app (goodIn_of _ (by decide +kernel)) ggX10_passesRow_X10_passes
theorem dX10_passesRow_0 : decode cX10_passesRow 0 = .ok (.iconst 0, 1) := by decide +kernel
theorem dX10_passesRow_1 : decode cX10_passesRow 1 = .ok (.istore_n 2, 1) := by decide +kernel
theorem dX10_passesRow_2 : decode cX10_passesRow 2 = .ok (.iload_n 2, 1) := by decide +kernel
theorem dX10_passesRow_3 : decode cX10_passesRow 3 = .ok (.aload_n 1, 1) := by decide +kernel
theorem dX10_passesRow_4 : decode cX10_passesRow 4 = .ok (.arraylength, 1) := by decide +kernel
theorem dX10_passesRow_5 : decode cX10_passesRow 5 = .ok (.if_icmp .ge 21, 3) := by decide +kernel
theorem dX10_passesRow_8 : decode cX10_passesRow 8 = .ok (.aload_n 1, 1) := by decide +kernel
theorem dX10_passesRow_9 : decode cX10_passesRow 9 = .ok (.iload_n 2, 1) := by decide +kernel
theorem dX10_passesRow_10 : decode cX10_passesRow 10 = .ok (.aload_n 0, 1) := by decide +kernel
theorem dX10_passesRow_11 : decode cX10_passesRow 11 = .ok (.aload_n 1, 1) := by decide +kernel
theorem dX10_passesRow_12 : decode cX10_passesRow 12 = .ok (.iload_n 2, 1) := by decide +kernel
theorem dX10_passesRow_13 : decode cX10_passesRow 13 = .ok (.iaload, 1) := by decide +kernel
theorem dX10_passesRow_14 : decode cX10_passesRow 14 = .ok (.i2l, 1) := by decide +kernel
theorem dX10_passesRow_15 : decode cX10_passesRow 15 = .ok (.invokevirtual 138, 3) := by decide +kernel
theorem dX10_passesRow_18 : decode cX10_passesRow 18 = .ok (.l2i, 1) := by decide +kernel
theorem dX10_passesRow_19 : decode cX10_passesRow 19 = .ok (.iastore, 1) := by decide +kernel
theorem dX10_passesRow_20 : decode cX10_passesRow 20 = .ok (.iinc 2 1, 3) := by decide +kernel
theorem dX10_passesRow_23 : decode cX10_passesRow 23 = .ok (.goto (-21), 3) := by decide +kernel
theorem dX10_passesRow_26 : decode cX10_passesRow 26 = .ok (.return_, 1) := by decide +kernel
set_option maxRecDepth 20000 in
theorem ggX10_passesLongs_X10_passes : GoodIn wsX10_passesLongs wsX10_passes := goodIn_r _ [5, 6, 7, 8, 9, 10, 11, 12, 13, 14, 15, 16, 17, 18, 19, 20, 21, 22, 23, 24, 25, 26, 27, 28, 29, 30, 31, 32, 33, 34, 35, 36, 37, 38, 39, 40, 41, 42, 43, 44, 45, 46, 47, 48, 49, 50, 51, 52, 53, 54, 55] (by decide +kernel) (by decide +kernel)
set_option maxRecDepth 20000 in
theorem gX10_passesLongs_X10_passes : GoodIn wsX10_passesLongs (wsV RX10 138 RX10 yX10_passes wsX10_passes) := goodIn_app (goodIn_of _ (by decide +kernel)) ggX10_passesLongs_X10_passes
theorem dX10_passesLongs_0 : decode cX10_passesLongs 0 = .ok (.iconst 0, 1) := by decide +kernel
theorem dX10_passesLongs_1 : decode cX10_passesLongs 1 = .ok (.istore_n 2, 1) := by decide +kernel
theorem dX10_passesLongs_2 : decode cX10_passesLongs 2 = .ok (.iload_n 2, 1) := by decide +kernel
theorem dX10_passesLongs_3 : decode cX10_passesLongs 3 = .ok (.aload_n 1, 1) := by decide +kernel
theorem dX10_passesLongs_4 : decode cX10_passesLongs 4 = .ok (.arraylength, 1) := by decide +kernel
theorem dX10_passesLongs_5 : decode cX10_passesLongs 5 = .ok (.if_icmp .ge 19, 3) := by decide +kernel
theorem dX10_passesLongs_8 : decode cX10_passesLongs 8 = .ok (.aload_n 1, 1) := by decide +kernel
theorem dX10_passesLongs_9 : decode cX10_passesLongs 9 = .ok (.iload_n 2, 1) := by decide +kernel
theorem dX10_passesLongs_10 : decode cX10_passesLongs 10 = .ok (.aload_n 0, 1) := by decide +kernel
theorem dX10_passesLongs_11 : decode cX10_passesLongs 11 = .ok (.aload_n 1, 1) := by decide +kernel
theorem dX10_passesLongs_12 : decode cX10_passesLongs 12 = .ok (.iload_n 2, 1) := by decide +kernel
theorem dX10_passesLongs_13 : decode cX10_passesLongs 13 = .ok (.laload, 1) := by decide +kernel
theorem dX10_passesLongs_14 : decode cX10_passesLongs 14 = .ok (.invokevirtual 138, 3) := by decide +kernel
theorem dX10_passesLongs_17 : decode cX10_passesLongs 17 = .ok (.lastore, 1) := by decide +kernel
theorem dX10_passesLongs_18 : decode cX10_passesLongs 18 = .ok (.iinc 2 1, 3) := by decide +kernel
theorem dX10_passesLongs_21 : decode cX10_passesLongs 21 = .ok (.goto (-19), 3) := by decide +kernel
theorem dX10_passesLongs_24 : decode cX10_passesLongs 24 = .ok (.return_, 1) := by decide +kernel
set_option maxRecDepth 20000 in
theorem ggX10_passesAll_X10_passes : GoodIn wsX10_passesAll wsX10_passes := goodIn_r _ [37, 1, 38, 2, 47, 48, 49, 50, 51, 52, 53, 54, 55, 56, 57, 58, 59, 60, 61, 62, 63, 64, 65, 66, 67, 68, 69, 70, 71, 72, 73, 74, 75, 76, 77, 78, 79, 80, 81, 82, 83, 84, 85, 86, 87, 88, 89, 90, 91, 92, 93] (by decide +kernel) (by decide +kernel)
set_option maxRecDepth 20000 in
theorem gX10_passesAll_X10_passes : GoodIn wsX10_passesAll (wsV RX10 138 RX10 yX10_passes wsX10_passes) := goodIn_app (goodIn_of _ (by decide +kernel)) ggX10_passesAll_X10_passes
set_option maxRecDepth 20000 in
theorem ggX10_passesAll_X10_passesRow : GoodIn wsX10_passesAll wsX10_passesRow := goodIn_r _ [42, 33, 34, 35, 36, 37, 1, 38, 2, 47, 48, 49, 50, 51, 52, 53, 54, 55, 56, 57, 58, 59, 60, 61, 62, 63, 64, 65, 66, 67, 68, 69, 70, 71, 72, 73, 74, 75, 76, 77, 78, 79, 80, 81, 82, 83, 84, 85, 86, 87, 88, 89, 90, 91, 92, 93] (by decide +kernel) (by decide +kernel)
set_option maxRecDepth 20000 in
theorem gX10_passesAll_X10_passesRow : GoodIn wsX10_passesAll (wsV RX10 154 RX10 yX10_passesRow wsX10_passesRow) := goodIn_app (goodIn_of _ (by decide +kernel)) ggX10_passesAll_X10_passesRow
set_option maxRecDepth 20000 in
theorem ggX10_passesAll_X10_passesLongs : GoodIn wsX10_passesAll wsX10_passesLongs := goodIn_r _ [46, 33, 34, 35, 36, 37, 1, 38, 2, 47, 48, 49, 50, 51, 52, 53, 54, 55, 56, 57, 58, 59, 60, 61, 62, 63, 64, 65, 66, 67, 68, 69, 70, 71, 72, 73, 74, 75, 76, 77, 78, 79, 80, 81, 82, 83, 84, 85, 86, 87, 88, 89, 90, 91, 92, 93] (by decide +kernel) (by decide +kernel)
set_option maxRecDepth 20000 in
theorem gX10_passesAll_X10_passesLongs : GoodIn wsX10_passesAll (wsV RX10 158 RX10 yX10_passesLongs wsX10_passesLongs) := goodIn_app (goodIn_of _ (by decide +kernel)) ggX10_passesAll_X10_passesLongs
theorem dX10_passesAll_0 : decode cX10_passesAll 0 = .ok (.aload_n 0, 1) := by decide +kernel
theorem dX10_passesAll_1 : decode cX10_passesAll 1 = .ok (.iload_n 1, 1) := by decide +kernel
theorem dX10_passesAll_2 : decode cX10_passesAll 2 = .ok (.putfield 131, 3) := by decide +kernel
theorem dX10_passesAll_5 : decode cX10_passesAll 5 = .ok (.aload_n 0, 1) := by decide +kernel
theorem dX10_passesAll_6 : decode cX10_passesAll 6 = .ok (.iconst 0, 1) := by decide +kernel
theorem dX10_passesAll_7 : decode cX10_passesAll 7 = .ok (.putfield 135, 3) := by decide +kernel
theorem dX10_passesAll_10 : decode cX10_passesAll 10 = .ok (.aload_n 0, 1) := by decide +kernel
theorem dX10_passesAll_11 : decode cX10_passesAll 11 = .ok (.aload_n 0, 1) := by decide +kernel
theorem dX10_passesAll_12 : decode cX10_passesAll 12 = .ok (.aload_n 0, 1) := by decide +kernel
theorem dX10_passesAll_13 : decode cX10_passesAll 13 = .ok (.getfield 118, 3) := by decide +kernel
theorem dX10_passesAll_16 : decode cX10_passesAll 16 = .ok (.i2l, 1) := by decide +kernel
theorem dX10_passesAll_17 : decode cX10_passesAll 17 = .ok (.invokevirtual 138, 3) := by decide +kernel
theorem dX10_passesAll_20 : decode cX10_passesAll 20 = .ok (.l2i, 1) := by decide +kernel
theorem dX10_passesAll_21 : decode cX10_passesAll 21 = .ok (.putfield 118, 3) := by decide +kernel
theorem dX10_passesAll_24 : decode cX10_passesAll 24 = .ok (.aload_n 0, 1) := by decide +kernel
theorem dX10_passesAll_25 : decode cX10_passesAll 25 = .ok (.aload_n 0, 1) := by decide +kernel
theorem dX10_passesAll_26 : decode cX10_passesAll 26 = .ok (.aload_n 0, 1) := by decide +kernel
theorem dX10_passesAll_27 : decode cX10_passesAll 27 = .ok (.getfield 125, 3) := by decide +kernel
theorem dX10_passesAll_30 : decode cX10_passesAll 30 = .ok (.i2l, 1) := by decide +kernel
theorem dX10_passesAll_31 : decode cX10_passesAll 31 = .ok (.invokevirtual 138, 3) := by decide +kernel
theorem dX10_passesAll_34 : decode cX10_passesAll 34 = .ok (.l2i, 1) := by decide +kernel
theorem dX10_passesAll_35 : decode cX10_passesAll 35 = .ok (.putfield 125, 3) := by decide +kernel
theorem dX10_passesAll_38 : decode cX10_passesAll 38 = .ok (.aload_n 0, 1) := by decide +kernel
theorem dX10_passesAll_39 : decode cX10_passesAll 39 = .ok (.aload_n 0, 1) := by decide +kernel
theorem dX10_passesAll_40 : decode cX10_passesAll 40 = .ok (.aload_n 0, 1) := by decide +kernel
theorem dX10_passesAll_41 : decode cX10_passesAll 41 = .ok (.getfield 9, 3) := by decide +kernel
theorem dX10_passesAll_44 : decode cX10_passesAll 44 = .ok (.i2l, 1) := by decide +kernel
theorem dX10_passesAll_45 : decode cX10_passesAll 45 = .ok (.invokevirtual 138, 3) := by decide +kernel
theorem dX10_passesAll_48 : decode cX10_passesAll 48 = .ok (.l2i, 1) := by decide +kernel
theorem dX10_passesAll_49 : decode cX10_passesAll 49 = .ok (.putfield 9, 3) := by decide +kernel
theorem dX10_passesAll_52 : decode cX10_passesAll 52 = .ok (.aload_n 0, 1) := by decide +kernel
theorem dX10_passesAll_53 : decode cX10_passesAll 53 = .ok (.aload_n 0, 1) := by decide +kernel
theorem dX10_passesAll_54 : decode cX10_passesAll 54 = .ok (.aload_n 0, 1) := by decide +kernel
theorem dX10_passesAll_55 : decode cX10_passesAll 55 = .ok (.getfield 15, 3) := by decide +kernel
theorem dX10_passesAll_58 : decode cX10_passesAll 58 = .ok (.i2l, 1) := by decide +kernel
theorem dX10_passesAll_59 : decode cX10_passesAll 59 = .ok (.invokevirtual 138, 3) := by decide +kernel
theorem dX10_passesAll_62 : decode cX10_passesAll 62 = .ok (.l2i, 1) := by decide +kernel
theorem dX10_passesAll_63 : decode cX10_passesAll 63 = .ok (.putfield 15, 3) := by decide +kernel
theorem dX10_passesAll_66 : decode cX10_passesAll 66 = .ok (.aload_n 0, 1) := by decide +kernel
theorem dX10_passesAll_67 : decode cX10_passesAll 67 = .ok (.aload_n 0, 1) := by decide +kernel
theorem dX10_passesAll_68 : decode cX10_passesAll 68 = .ok (.aload_n 0, 1) := by decide +kernel
theorem dX10_passesAll_69 : decode cX10_passesAll 69 = .ok (.getfield 142, 3) := by decide +kernel
theorem dX10_passesAll_72 : decode cX10_passesAll 72 = .ok (.i2l, 1) := by decide +kernel
theorem dX10_passesAll_73 : decode cX10_passesAll 73 = .ok (.invokevirtual 138, 3) := by decide +kernel
theorem dX10_passesAll_76 : decode cX10_passesAll 76 = .ok (.l2i, 1) := by decide +kernel
theorem dX10_passesAll_77 : decode cX10_passesAll 77 = .ok (.putfield 142, 3) := by decide +kernel
theorem dX10_passesAll_80 : decode cX10_passesAll 80 = .ok (.aload_n 0, 1) := by decide +kernel
theorem dX10_passesAll_81 : decode cX10_passesAll 81 = .ok (.aload_n 0, 1) := by decide +kernel
theorem dX10_passesAll_82 : decode cX10_passesAll 82 = .ok (.aload_n 0, 1) := by decide +kernel
theorem dX10_passesAll_83 : decode cX10_passesAll 83 = .ok (.getfield 128, 3) := by decide +kernel
theorem dX10_passesAll_86 : decode cX10_passesAll 86 = .ok (.i2l, 1) := by decide +kernel
theorem dX10_passesAll_87 : decode cX10_passesAll 87 = .ok (.invokevirtual 138, 3) := by decide +kernel
theorem dX10_passesAll_90 : decode cX10_passesAll 90 = .ok (.l2i, 1) := by decide +kernel
theorem dX10_passesAll_91 : decode cX10_passesAll 91 = .ok (.putfield 128, 3) := by decide +kernel
theorem dX10_passesAll_94 : decode cX10_passesAll 94 = .ok (.aload_n 0, 1) := by decide +kernel
theorem dX10_passesAll_95 : decode cX10_passesAll 95 = .ok (.aload_n 0, 1) := by decide +kernel
theorem dX10_passesAll_96 : decode cX10_passesAll 96 = .ok (.aload_n 0, 1) := by decide +kernel
theorem dX10_passesAll_97 : decode cX10_passesAll 97 = .ok (.getfield 145, 3) := by decide +kernel
theorem dX10_passesAll_100 : decode cX10_passesAll 100 = .ok (.i2l, 1) := by decide +kernel
theorem dX10_passesAll_101 : decode cX10_passesAll 101 = .ok (.invokevirtual 138, 3) := by decide +kernel
theorem dX10_passesAll_104 : decode cX10_passesAll 104 = .ok (.l2i, 1) := by decide +kernel
theorem dX10_passesAll_105 : decode cX10_passesAll 105 = .ok (.putfield 145, 3) := by decide +kernel
theorem dX10_passesAll_108 : decode cX10_passesAll 108 = .ok (.aload_n 0, 1) := by decide +kernel
theorem dX10_passesAll_109 : decode cX10_passesAll 109 = .ok (.aload_n 0, 1) := by decide +kernel
theorem dX10_passesAll_110 : decode cX10_passesAll 110 = .ok (.aload_n 0, 1) := by decide +kernel
theorem dX10_passesAll_111 : decode cX10_passesAll 111 = .ok (.getfield 148, 3) := by decide +kernel
theorem dX10_passesAll_114 : decode cX10_passesAll 114 = .ok (.i2l, 1) := by decide +kernel
theorem dX10_passesAll_115 : decode cX10_passesAll 115 = .ok (.invokevirtual 138, 3) := by decide +kernel
theorem dX10_passesAll_118 : decode cX10_passesAll 118 = .ok (.l2i, 1) := by decide +kernel
theorem dX10_passesAll_119 : decode cX10_passesAll 119 = .ok (.putfield 148, 3) := by decide +kernel
theorem dX10_passesAll_122 : decode cX10_passesAll 122 = .ok (.aload_n 0, 1) := by decide +kernel
theorem dX10_passesAll_123 : decode cX10_passesAll 123 = .ok (.aload_n 0, 1) := by decide +kernel
theorem dX10_passesAll_124 : decode cX10_passesAll 124 = .ok (.aload_n 0, 1) := by decide +kernel
theorem dX10_passesAll_125 : decode cX10_passesAll 125 = .ok (.getfield 151, 3) := by decide +kernel
theorem dX10_passesAll_128 : decode cX10_passesAll 128 = .ok (.i2l, 1) := by decide +kernel
theorem dX10_passesAll_129 : decode cX10_passesAll 129 = .ok (.invokevirtual 138, 3) := by decide +kernel
theorem dX10_passesAll_132 : decode cX10_passesAll 132 = .ok (.l2i, 1) := by decide +kernel
theorem dX10_passesAll_133 : decode cX10_passesAll 133 = .ok (.putfield 151, 3) := by decide +kernel
theorem dX10_passesAll_136 : decode cX10_passesAll 136 = .ok (.aload_n 0, 1) := by decide +kernel
theorem dX10_passesAll_137 : decode cX10_passesAll 137 = .ok (.aload_n 0, 1) := by decide +kernel
theorem dX10_passesAll_138 : decode cX10_passesAll 138 = .ok (.getfield 18, 3) := by decide +kernel
theorem dX10_passesAll_141 : decode cX10_passesAll 141 = .ok (.invokevirtual 154, 3) := by decide +kernel
theorem dX10_passesAll_144 : decode cX10_passesAll 144 = .ok (.aload_n 0, 1) := by decide +kernel
theorem dX10_passesAll_145 : decode cX10_passesAll 145 = .ok (.aload_n 0, 1) := by decide +kernel
theorem dX10_passesAll_146 : decode cX10_passesAll 146 = .ok (.getfield 22, 3) := by decide +kernel
theorem dX10_passesAll_149 : decode cX10_passesAll 149 = .ok (.invokevirtual 154, 3) := by decide +kernel
theorem dX10_passesAll_152 : decode cX10_passesAll 152 = .ok (.aload_n 0, 1) := by decide +kernel
theorem dX10_passesAll_153 : decode cX10_passesAll 153 = .ok (.aload_n 0, 1) := by decide +kernel
theorem dX10_passesAll_154 : decode cX10_passesAll 154 = .ok (.getfield 25, 3) := by decide +kernel
theorem dX10_passesAll_157 : decode cX10_passesAll 157 = .ok (.invokevirtual 154, 3) := by decide +kernel
theorem dX10_passesAll_160 : decode cX10_passesAll 160 = .ok (.aload_n 0, 1) := by decide +kernel
theorem dX10_passesAll_161 : decode cX10_passesAll 161 = .ok (.aload_n 0, 1) := by decide +kernel
theorem dX10_passesAll_162 : decode cX10_passesAll 162 = .ok (.getfield 28, 3) := by decide +kernel
theorem dX10_passesAll_165 : decode cX10_passesAll 165 = .ok (.invokevirtual 154, 3) := by decide +kernel
theorem dX10_passesAll_168 : decode cX10_passesAll 168 = .ok (.aload_n 0, 1) := by decide +kernel
theorem dX10_passesAll_169 : decode cX10_passesAll 169 = .ok (.aload_n 0, 1) := by decide +kernel
theorem dX10_passesAll_170 : decode cX10_passesAll 170 = .ok (.getfield 31, 3) := by decide +kernel
theorem dX10_passesAll_173 : decode cX10_passesAll 173 = .ok (.invokevirtual 154, 3) := by decide +kernel
theorem dX10_passesAll_176 : decode cX10_passesAll 176 = .ok (.aload_n 0, 1) := by decide +kernel
theorem dX10_passesAll_177 : decode cX10_passesAll 177 = .ok (.aload_n 0, 1) := by decide +kernel
theorem dX10_passesAll_178 : decode cX10_passesAll 178 = .ok (.getfield 34, 3) := by decide +kernel
theorem dX10_passesAll_181 : decode cX10_passesAll 181 = .ok (.invokevirtual 154, 3) := by decide +kernel
theorem dX10_passesAll_184 : decode cX10_passesAll 184 = .ok (.aload_n 0, 1) := by decide +kernel
theorem dX10_passesAll_185 : decode cX10_passesAll 185 = .ok (.aload_n 0, 1) := by decide +kernel
theorem dX10_passesAll_186 : decode cX10_passesAll 186 = .ok (.getfield 37, 3) := by decide +kernel
theorem dX10_passesAll_189 : decode cX10_passesAll 189 = .ok (.invokevirtual 154, 3) := by decide +kernel
theorem dX10_passesAll_192 : decode cX10_passesAll 192 = .ok (.aload_n 0, 1) := by decide +kernel
theorem dX10_passesAll_193 : decode cX10_passesAll 193 = .ok (.aload_n 0, 1) := by decide +kernel
theorem dX10_passesAll_194 : decode cX10_passesAll 194 = .ok (.getfield 40, 3) := by decide +kernel
theorem dX10_passesAll_197 : decode cX10_passesAll 197 = .ok (.invokevirtual 154, 3) := by decide +kernel
theorem dX10_passesAll_200 : decode cX10_passesAll 200 = .ok (.aload_n 0, 1) := by decide +kernel
theorem dX10_passesAll_201 : decode cX10_passesAll 201 = .ok (.aload_n 0, 1) := by decide +kernel
theorem dX10_passesAll_202 : decode cX10_passesAll 202 = .ok (.getfield 43, 3) := by decide +kernel
theorem dX10_passesAll_205 : decode cX10_passesAll 205 = .ok (.invokevirtual 158, 3) := by decide +kernel
theorem dX10_passesAll_208 : decode cX10_passesAll 208 = .ok (.aload_n 0, 1) := by decide +kernel
theorem dX10_passesAll_209 : decode cX10_passesAll 209 = .ok (.aload_n 0, 1) := by decide +kernel
theorem dX10_passesAll_210 : decode cX10_passesAll 210 = .ok (.getfield 47, 3) := by decide +kernel
theorem dX10_passesAll_213 : decode cX10_passesAll 213 = .ok (.invokevirtual 158, 3) := by decide +kernel
theorem dX10_passesAll_216 : decode cX10_passesAll 216 = .ok (.aload_n 0, 1) := by decide +kernel
theorem dX10_passesAll_217 : decode cX10_passesAll 217 = .ok (.aload_n 0, 1) := by decide +kernel
theorem dX10_passesAll_218 : decode cX10_passesAll 218 = .ok (.getfield 50, 3) := by decide +kernel
theorem dX10_passesAll_221 : decode cX10_passesAll 221 = .ok (.invokevirtual 154, 3) := by decide +kernel
theorem dX10_passesAll_224 : decode cX10_passesAll 224 = .ok (.aload_n 0, 1) := by decide +kernel
theorem dX10_passesAll_225 : decode cX10_passesAll 225 = .ok (.aload_n 0, 1) := by decide +kernel
theorem dX10_passesAll_226 : decode cX10_passesAll 226 = .ok (.getfield 53, 3) := by decide +kernel
theorem dX10_passesAll_229 : decode cX10_passesAll 229 = .ok (.invokevirtual 154, 3) := by decide +kernel
theorem dX10_passesAll_232 : decode cX10_passesAll 232 = .ok (.aload_n 0, 1) := by decide +kernel
theorem dX10_passesAll_233 : decode cX10_passesAll 233 = .ok (.aload_n 0, 1) := by decide +kernel
theorem dX10_passesAll_234 : decode cX10_passesAll 234 = .ok (.getfield 56, 3) := by decide +kernel
theorem dX10_passesAll_237 : decode cX10_passesAll 237 = .ok (.invokevirtual 154, 3) := by decide +kernel
theorem dX10_passesAll_240 : decode cX10_passesAll 240 = .ok (.aload_n 0, 1) := by decide +kernel
theorem dX10_passesAll_241 : decode cX10_passesAll 241 = .ok (.aload_n 0, 1) := by decide +kernel
theorem dX10_passesAll_242 : decode cX10_passesAll 242 = .ok (.getfield 59, 3) := by decide +kernel
theorem dX10_passesAll_245 : decode cX10_passesAll 245 = .ok (.invokevirtual 154, 3) := by decide +kernel
theorem dX10_passesAll_248 : decode cX10_passesAll 248 = .ok (.aload_n 0, 1) := by decide +kernel
theorem dX10_passesAll_249 : decode cX10_passesAll 249 = .ok (.aload_n 0, 1) := by decide +kernel
theorem dX10_passesAll_250 : decode cX10_passesAll 250 = .ok (.getfield 62, 3) := by decide +kernel
theorem dX10_passesAll_253 : decode cX10_passesAll 253 = .ok (.invokevirtual 154, 3) := by decide +kernel
theorem dX10_passesAll_256 : decode cX10_passesAll 256 = .ok (.aload_n 0, 1) := by decide +kernel
theorem dX10_passesAll_257 : decode cX10_passesAll 257 = .ok (.aload_n 0, 1) := by decide +kernel
theorem dX10_passesAll_258 : decode cX10_passesAll 258 = .ok (.getfield 65, 3) := by decide +kernel
theorem dX10_passesAll_261 : decode cX10_passesAll 261 = .ok (.invokevirtual 154, 3) := by decide +kernel
theorem dX10_passesAll_264 : decode cX10_passesAll 264 = .ok (.aload_n 0, 1) := by decide +kernel
theorem dX10_passesAll_265 : decode cX10_passesAll 265 = .ok (.aload_n 0, 1) := by decide +kernel
theorem dX10_passesAll_266 : decode cX10_passesAll 266 = .ok (.getfield 68, 3) := by decide +kernel
theorem dX10_passesAll_269 : decode cX10_passesAll 269 = .ok (.invokevirtual 154, 3) := by decide +kernel
theorem dX10_passesAll_272 : decode cX10_passesAll 272 = .ok (.aload_n 0, 1) := by decide +kernel
theorem dX10_passesAll_273 : decode cX10_passesAll 273 = .ok (.aload_n 0, 1) := by decide +kernel
theorem dX10_passesAll_274 : decode cX10_passesAll 274 = .ok (.getfield 71, 3) := by decide +kernel
theorem dX10_passesAll_277 : decode cX10_passesAll 277 = .ok (.invokevirtual 154, 3) := by decide +kernel
theorem dX10_passesAll_280 : decode cX10_passesAll 280 = .ok (.aload_n 0, 1) := by decide +kernel
theorem dX10_passesAll_281 : decode cX10_passesAll 281 = .ok (.aload_n 0, 1) := by decide +kernel
theorem dX10_passesAll_282 : decode cX10_passesAll 282 = .ok (.getfield 74, 3) := by decide +kernel
theorem dX10_passesAll_285 : decode cX10_passesAll 285 = .ok (.invokevirtual 154, 3) := by decide +kernel
theorem dX10_passesAll_288 : decode cX10_passesAll 288 = .ok (.aload_n 0, 1) := by decide +kernel
theorem dX10_passesAll_289 : decode cX10_passesAll 289 = .ok (.aload_n 0, 1) := by decide +kernel
theorem dX10_passesAll_290 : decode cX10_passesAll 290 = .ok (.getfield 77, 3) := by decide +kernel
theorem dX10_passesAll_293 : decode cX10_passesAll 293 = .ok (.invokevirtual 154, 3) := by decide +kernel
theorem dX10_passesAll_296 : decode cX10_passesAll 296 = .ok (.aload_n 0, 1) := by decide +kernel
theorem dX10_passesAll_297 : decode cX10_passesAll 297 = .ok (.aload_n 0, 1) := by decide +kernel
theorem dX10_passesAll_298 : decode cX10_passesAll 298 = .ok (.getfield 80, 3) := by decide +kernel
theorem dX10_passesAll_301 : decode cX10_passesAll 301 = .ok (.invokevirtual 154, 3) := by decide +kernel
theorem dX10_passesAll_304 : decode cX10_passesAll 304 = .ok (.aload_n 0, 1) := by decide +kernel
theorem dX10_passesAll_305 : decode cX10_passesAll 305 = .ok (.getfield 125, 3) := by decide +kernel
theorem dX10_passesAll_308 : decode cX10_passesAll 308 = .ok (.ireturn, 1) := by decide +kernel
set_option maxRecDepth 20000 in
theorem ggX10_image_X10_passesAll : GoodIn wsX10_image wsX10_passesAll := goodIn_r _ [6, 7, 8, 9, 10, 11, 12, 13, 14, 15, 16, 17, 18, 19, 20, 21, 22, 23, 24, 25, 26, 27, 28, 29, 30, 31, 32, 33, 34, 35, 36, 37, 38, 39, 40, 41, 5, 42, 43, 44, 45, 46, 47, 48, 49, 50, 51, 52, 53, 54, 55, 56, 57, 58, 59, 60, 61, 62, 63, 64, 65, 66, 67, 68, 69, 70, 71, 72, 73, 74, 75, 76, 77, 78, 79, 80, 81, 82, 83, 84, 85, 86, 87, 88, 89, 90, 91, 92, 93, 94, 95, 96, 97, 98] (by decide +kernel) (by decide +kernel)
set_option maxRecDepth 20000 in
theorem gX10_image_X10_passesAll : GoodIn wsX10_image (wsV RX10 165 RX10 yX10_passesAll wsX10_passesAll) := goodIn_app (goodIn_of _ (by decide +kernel)) ggX10_image_X10_passesAll
theorem dX10_image_0 : decode cX10_image 0 = .ok (.aload_n 0, 1) := by decide +kernel
theorem dX10_image_1 : decode cX10_image 1 = .ok (.iconst 1, 1) := by decide +kernel
theorem dX10_image_2 : decode cX10_image 2 = .ok (.putfield 162, 3) := by decide +kernel
theorem dX10_image_5 : decode cX10_image 5 = .ok (.aload_n 0, 1) := by decide +kernel
theorem dX10_image_6 : decode cX10_image 6 = .ok (.iconst 1, 1) := by decide +kernel
theorem dX10_image_7 : decode cX10_image 7 = .ok (.invokevirtual 165, 3) := by decide +kernel
theorem dX10_image_10 : decode cX10_image 10 = .ok (.ireturn, 1) := by decide +kernel
set_option maxRecDepth 20000 in
theorem ggX10_undo_X10_passesAll : GoodIn wsX10_undo wsX10_passesAll := goodIn_r _ [6, 7, 8, 9, 10, 11, 12, 13, 14, 15, 16, 17, 18, 19, 20, 21, 22, 23, 24, 25, 26, 27, 28, 29, 30, 31, 32, 33, 34, 35, 36, 37, 38, 39, 40, 41, 5, 42, 43, 44, 45, 46, 47, 48, 49, 50, 51, 52, 53, 54, 55, 56, 57, 58, 59, 60, 61, 62, 63, 64, 65, 66, 67, 68, 69, 70, 71, 72, 73, 74, 75, 76, 77, 78, 79, 80, 81, 82, 83, 84, 85, 86, 87, 88, 89, 90, 91, 92, 93, 94, 95, 96, 97, 98] (by decide +kernel) (by decide +kernel)
set_option maxRecDepth 20000 in
theorem gX10_undo_X10_passesAll : GoodIn wsX10_undo (wsV RX10 165 RX10 yX10_passesAll wsX10_passesAll) := goodIn_app (goodIn_of _ (by decide +kernel)) ggX10_undo_X10_passesAll
theorem dX10_undo_0 : decode cX10_undo 0 = .ok (.aload_n 0, 1) := by decide +kernel
theorem dX10_undo_1 : decode cX10_undo 1 = .ok (.getfield 162, 3) := by decide +kernel
theorem dX10_undo_4 : decode cX10_undo 4 = .ok (.ifCond .eq 11, 3) := by decide +kernel
theorem dX10_undo_7 : decode cX10_undo 7 = .ok (.aload_n 0, 1) := by decide +kernel
theorem dX10_undo_8 : decode cX10_undo 8 = .ok (.iconst 0, 1) := by decide +kernel
theorem dX10_undo_9 : decode cX10_undo 9 = .ok (.invokevirtual 165, 3) := by decide +kernel
theorem dX10_undo_12 : decode cX10_undo 12 = .ok (.goto 5, 3) := by decide +kernel
theorem dX10_undo_15 : decode cX10_undo 15 = .ok (.bipush (-3), 2) := by decide +kernel
theorem dX10_undo_17 : decode cX10_undo 17 = .ok (.ireturn, 1) := by decide +kernel
theorem dX10_lays_0 : decode cX10_lays 0 = .ok (.iconst 0, 1) := by decide +kernel
theorem dX10_lays_1 : decode cX10_lays 1 = .ok (.istore_n 2, 1) := by decide +kernel
theorem dX10_lays_2 : decode cX10_lays 2 = .ok (.iload_n 2, 1) := by decide +kernel
theorem dX10_lays_3 : decode cX10_lays 3 = .ok (.aload_n 1, 1) := by decide +kernel
theorem dX10_lays_4 : decode cX10_lays 4 = .ok (.arraylength, 1) := by decide +kernel
theorem dX10_lays_5 : decode cX10_lays 5 = .ok (.if_icmp .ge 31, 3) := by decide +kernel
theorem dX10_lays_8 : decode cX10_lays 8 = .ok (.aload_n 0, 1) := by decide +kernel
theorem dX10_lays_9 : decode cX10_lays 9 = .ok (.getfield 89, 3) := by decide +kernel
theorem dX10_lays_12 : decode cX10_lays 12 = .ok (.aload_n 0, 1) := by decide +kernel
theorem dX10_lays_13 : decode cX10_lays 13 = .ok (.getfield 169, 3) := by decide +kernel
theorem dX10_lays_16 : decode cX10_lays 16 = .ok (.aload_n 1, 1) := by decide +kernel
theorem dX10_lays_17 : decode cX10_lays 17 = .ok (.iload_n 2, 1) := by decide +kernel
theorem dX10_lays_18 : decode cX10_lays 18 = .ok (.iaload, 1) := by decide +kernel
theorem dX10_lays_19 : decode cX10_lays 19 = .ok (.iastore, 1) := by decide +kernel
theorem dX10_lays_20 : decode cX10_lays 20 = .ok (.aload_n 0, 1) := by decide +kernel
theorem dX10_lays_21 : decode cX10_lays 21 = .ok (.dup, 1) := by decide +kernel
theorem dX10_lays_22 : decode cX10_lays 22 = .ok (.getfield 169, 3) := by decide +kernel
theorem dX10_lays_25 : decode cX10_lays 25 = .ok (.iconst 1, 1) := by decide +kernel
theorem dX10_lays_26 : decode cX10_lays 26 = .ok (.iadd, 1) := by decide +kernel
theorem dX10_lays_27 : decode cX10_lays 27 = .ok (.putfield 169, 3) := by decide +kernel
theorem dX10_lays_30 : decode cX10_lays 30 = .ok (.iinc 2 1, 3) := by decide +kernel
theorem dX10_lays_33 : decode cX10_lays 33 = .ok (.goto (-31), 3) := by decide +kernel
theorem dX10_lays_36 : decode cX10_lays 36 = .ok (.return_, 1) := by decide +kernel
theorem dX10_takesBack_0 : decode cX10_takesBack 0 = .ok (.iconst 0, 1) := by decide +kernel
theorem dX10_takesBack_1 : decode cX10_takesBack 1 = .ok (.istore_n 2, 1) := by decide +kernel
theorem dX10_takesBack_2 : decode cX10_takesBack 2 = .ok (.iload_n 2, 1) := by decide +kernel
theorem dX10_takesBack_3 : decode cX10_takesBack 3 = .ok (.aload_n 1, 1) := by decide +kernel
theorem dX10_takesBack_4 : decode cX10_takesBack 4 = .ok (.arraylength, 1) := by decide +kernel
theorem dX10_takesBack_5 : decode cX10_takesBack 5 = .ok (.if_icmp .ge 31, 3) := by decide +kernel
theorem dX10_takesBack_8 : decode cX10_takesBack 8 = .ok (.aload_n 1, 1) := by decide +kernel
theorem dX10_takesBack_9 : decode cX10_takesBack 9 = .ok (.iload_n 2, 1) := by decide +kernel
theorem dX10_takesBack_10 : decode cX10_takesBack 10 = .ok (.aload_n 0, 1) := by decide +kernel
theorem dX10_takesBack_11 : decode cX10_takesBack 11 = .ok (.getfield 89, 3) := by decide +kernel
theorem dX10_takesBack_14 : decode cX10_takesBack 14 = .ok (.aload_n 0, 1) := by decide +kernel
theorem dX10_takesBack_15 : decode cX10_takesBack 15 = .ok (.getfield 169, 3) := by decide +kernel
theorem dX10_takesBack_18 : decode cX10_takesBack 18 = .ok (.iaload, 1) := by decide +kernel
theorem dX10_takesBack_19 : decode cX10_takesBack 19 = .ok (.iastore, 1) := by decide +kernel
theorem dX10_takesBack_20 : decode cX10_takesBack 20 = .ok (.aload_n 0, 1) := by decide +kernel
theorem dX10_takesBack_21 : decode cX10_takesBack 21 = .ok (.dup, 1) := by decide +kernel
theorem dX10_takesBack_22 : decode cX10_takesBack 22 = .ok (.getfield 169, 3) := by decide +kernel
theorem dX10_takesBack_25 : decode cX10_takesBack 25 = .ok (.iconst 1, 1) := by decide +kernel
theorem dX10_takesBack_26 : decode cX10_takesBack 26 = .ok (.iadd, 1) := by decide +kernel
theorem dX10_takesBack_27 : decode cX10_takesBack 27 = .ok (.putfield 169, 3) := by decide +kernel
theorem dX10_takesBack_30 : decode cX10_takesBack 30 = .ok (.iinc 2 1, 3) := by decide +kernel
theorem dX10_takesBack_33 : decode cX10_takesBack 33 = .ok (.goto (-31), 3) := by decide +kernel
theorem dX10_takesBack_36 : decode cX10_takesBack 36 = .ok (.return_, 1) := by decide +kernel
set_option maxRecDepth 20000 in
theorem ggX10_minds_X10_lays : GoodIn wsX10_minds wsX10_lays := goodIn_r _ [18, 1, 6, 19, 20, 21, 22, 23, 24, 25, 26, 27, 28, 29, 30, 31, 32, 33, 34, 35, 36, 37, 38, 39, 40, 41, 42, 43, 44, 45, 46, 47, 48, 49, 50, 51, 52, 53, 54, 55, 56, 57, 58, 59, 60, 61, 62, 63, 64, 65] (by decide +kernel) (by decide +kernel)
set_option maxRecDepth 20000 in
theorem gX10_minds_X10_lays : GoodIn wsX10_minds (wsV RX10 172 RX10 yX10_lays wsX10_lays) := goodIn_app (goodIn_of _ (by decide +kernel)) ggX10_minds_X10_lays
theorem dX10_minds_0 : decode cX10_minds 0 = .ok (.aload_n 0, 1) := by decide +kernel
theorem dX10_minds_1 : decode cX10_minds 1 = .ok (.getfield 89, 3) := by decide +kernel
theorem dX10_minds_4 : decode cX10_minds 4 = .ok (.iconst 0, 1) := by decide +kernel
theorem dX10_minds_5 : decode cX10_minds 5 = .ok (.aload_n 0, 1) := by decide +kernel
theorem dX10_minds_6 : decode cX10_minds 6 = .ok (.getfield 142, 3) := by decide +kernel
theorem dX10_minds_9 : decode cX10_minds 9 = .ok (.iastore, 1) := by decide +kernel
theorem dX10_minds_10 : decode cX10_minds 10 = .ok (.aload_n 0, 1) := by decide +kernel
theorem dX10_minds_11 : decode cX10_minds 11 = .ok (.getfield 89, 3) := by decide +kernel
theorem dX10_minds_14 : decode cX10_minds 14 = .ok (.iconst 1, 1) := by decide +kernel
theorem dX10_minds_15 : decode cX10_minds 15 = .ok (.aload_n 0, 1) := by decide +kernel
theorem dX10_minds_16 : decode cX10_minds 16 = .ok (.getfield 128, 3) := by decide +kernel
theorem dX10_minds_19 : decode cX10_minds 19 = .ok (.iastore, 1) := by decide +kernel
theorem dX10_minds_20 : decode cX10_minds 20 = .ok (.aload_n 0, 1) := by decide +kernel
theorem dX10_minds_21 : decode cX10_minds 21 = .ok (.getfield 89, 3) := by decide +kernel
theorem dX10_minds_24 : decode cX10_minds 24 = .ok (.iconst 2, 1) := by decide +kernel
theorem dX10_minds_25 : decode cX10_minds 25 = .ok (.aload_n 0, 1) := by decide +kernel
theorem dX10_minds_26 : decode cX10_minds 26 = .ok (.getfield 15, 3) := by decide +kernel
theorem dX10_minds_29 : decode cX10_minds 29 = .ok (.iastore, 1) := by decide +kernel
theorem dX10_minds_30 : decode cX10_minds 30 = .ok (.aload_n 0, 1) := by decide +kernel
theorem dX10_minds_31 : decode cX10_minds 31 = .ok (.getfield 89, 3) := by decide +kernel
theorem dX10_minds_34 : decode cX10_minds 34 = .ok (.iconst 3, 1) := by decide +kernel
theorem dX10_minds_35 : decode cX10_minds 35 = .ok (.aload_n 0, 1) := by decide +kernel
theorem dX10_minds_36 : decode cX10_minds 36 = .ok (.getfield 9, 3) := by decide +kernel
theorem dX10_minds_39 : decode cX10_minds 39 = .ok (.iastore, 1) := by decide +kernel
theorem dX10_minds_40 : decode cX10_minds 40 = .ok (.aload_n 0, 1) := by decide +kernel
theorem dX10_minds_41 : decode cX10_minds 41 = .ok (.iconst 4, 1) := by decide +kernel
theorem dX10_minds_42 : decode cX10_minds 42 = .ok (.putfield 169, 3) := by decide +kernel
theorem dX10_minds_45 : decode cX10_minds 45 = .ok (.aload_n 0, 1) := by decide +kernel
theorem dX10_minds_46 : decode cX10_minds 46 = .ok (.aload_n 0, 1) := by decide +kernel
theorem dX10_minds_47 : decode cX10_minds 47 = .ok (.getfield 25, 3) := by decide +kernel
theorem dX10_minds_50 : decode cX10_minds 50 = .ok (.invokevirtual 172, 3) := by decide +kernel
theorem dX10_minds_53 : decode cX10_minds 53 = .ok (.aload_n 0, 1) := by decide +kernel
theorem dX10_minds_54 : decode cX10_minds 54 = .ok (.aload_n 0, 1) := by decide +kernel
theorem dX10_minds_55 : decode cX10_minds 55 = .ok (.getfield 28, 3) := by decide +kernel
theorem dX10_minds_58 : decode cX10_minds 58 = .ok (.invokevirtual 172, 3) := by decide +kernel
theorem dX10_minds_61 : decode cX10_minds 61 = .ok (.aload_n 0, 1) := by decide +kernel
theorem dX10_minds_62 : decode cX10_minds 62 = .ok (.aload_n 0, 1) := by decide +kernel
theorem dX10_minds_63 : decode cX10_minds 63 = .ok (.getfield 50, 3) := by decide +kernel
theorem dX10_minds_66 : decode cX10_minds 66 = .ok (.invokevirtual 172, 3) := by decide +kernel
theorem dX10_minds_69 : decode cX10_minds 69 = .ok (.aload_n 0, 1) := by decide +kernel
theorem dX10_minds_70 : decode cX10_minds 70 = .ok (.aload_n 0, 1) := by decide +kernel
theorem dX10_minds_71 : decode cX10_minds 71 = .ok (.getfield 53, 3) := by decide +kernel
theorem dX10_minds_74 : decode cX10_minds 74 = .ok (.invokevirtual 172, 3) := by decide +kernel
theorem dX10_minds_77 : decode cX10_minds 77 = .ok (.aload_n 0, 1) := by decide +kernel
theorem dX10_minds_78 : decode cX10_minds 78 = .ok (.aload_n 0, 1) := by decide +kernel
theorem dX10_minds_79 : decode cX10_minds 79 = .ok (.getfield 56, 3) := by decide +kernel
theorem dX10_minds_82 : decode cX10_minds 82 = .ok (.invokevirtual 172, 3) := by decide +kernel
