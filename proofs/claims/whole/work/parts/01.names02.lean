theorem dX5_passRow_20 : decode cX5_passRow 20 = .ok (.getfield 15, 3) := by decide +kernel
theorem dX5_passRow_23 : decode cX5_passRow 23 = .ok (.aload_n 0, 1) := by decide +kernel
theorem dX5_passRow_24 : decode cX5_passRow 24 = .ok (.getfield 30, 3) := by decide +kernel
theorem dX5_passRow_27 : decode cX5_passRow 27 = .ok (.bipush (-5), 2) := by decide +kernel
theorem dX5_passRow_29 : decode cX5_passRow 29 = .ok (.iastore, 1) := by decide +kernel
theorem dX5_passRow_30 : decode cX5_passRow 30 = .ok (.aload_n 0, 1) := by decide +kernel
theorem dX5_passRow_31 : decode cX5_passRow 31 = .ok (.getfield 18, 3) := by decide +kernel
theorem dX5_passRow_34 : decode cX5_passRow 34 = .ok (.aload_n 0, 1) := by decide +kernel
theorem dX5_passRow_35 : decode cX5_passRow 35 = .ok (.getfield 30, 3) := by decide +kernel
theorem dX5_passRow_38 : decode cX5_passRow 38 = .ok (.bipush (-5), 2) := by decide +kernel
theorem dX5_passRow_40 : decode cX5_passRow 40 = .ok (.iastore, 1) := by decide +kernel
theorem dX5_passRow_41 : decode cX5_passRow 41 = .ok (.aload_n 0, 1) := by decide +kernel
theorem dX5_passRow_42 : decode cX5_passRow 42 = .ok (.getfield 21, 3) := by decide +kernel
theorem dX5_passRow_45 : decode cX5_passRow 45 = .ok (.aload_n 0, 1) := by decide +kernel
theorem dX5_passRow_46 : decode cX5_passRow 46 = .ok (.getfield 30, 3) := by decide +kernel
theorem dX5_passRow_49 : decode cX5_passRow 49 = .ok (.bipush (-5), 2) := by decide +kernel
theorem dX5_passRow_51 : decode cX5_passRow 51 = .ok (.iastore, 1) := by decide +kernel
theorem dX5_passRow_52 : decode cX5_passRow 52 = .ok (.aload_n 0, 1) := by decide +kernel
theorem dX5_passRow_53 : decode cX5_passRow 53 = .ok (.getfield 24, 3) := by decide +kernel
theorem dX5_passRow_56 : decode cX5_passRow 56 = .ok (.aload_n 0, 1) := by decide +kernel
theorem dX5_passRow_57 : decode cX5_passRow 57 = .ok (.getfield 30, 3) := by decide +kernel
theorem dX5_passRow_60 : decode cX5_passRow 60 = .ok (.aload_n 0, 1) := by decide +kernel
theorem dX5_passRow_61 : decode cX5_passRow 61 = .ok (.getfield 34, 3) := by decide +kernel
theorem dX5_passRow_64 : decode cX5_passRow 64 = .ok (.iastore, 1) := by decide +kernel
theorem dX5_passRow_65 : decode cX5_passRow 65 = .ok (.aload_n 0, 1) := by decide +kernel
theorem dX5_passRow_66 : decode cX5_passRow 66 = .ok (.getfield 27, 3) := by decide +kernel
theorem dX5_passRow_69 : decode cX5_passRow 69 = .ok (.aload_n 0, 1) := by decide +kernel
theorem dX5_passRow_70 : decode cX5_passRow 70 = .ok (.getfield 34, 3) := by decide +kernel
theorem dX5_passRow_73 : decode cX5_passRow 73 = .ok (.aload_n 0, 1) := by decide +kernel
theorem dX5_passRow_74 : decode cX5_passRow 74 = .ok (.getfield 30, 3) := by decide +kernel
theorem dX5_passRow_77 : decode cX5_passRow 77 = .ok (.iastore, 1) := by decide +kernel
theorem dX5_passRow_78 : decode cX5_passRow 78 = .ok (.aload_n 0, 1) := by decide +kernel
theorem dX5_passRow_79 : decode cX5_passRow 79 = .ok (.dup, 1) := by decide +kernel
theorem dX5_passRow_80 : decode cX5_passRow 80 = .ok (.getfield 34, 3) := by decide +kernel
theorem dX5_passRow_83 : decode cX5_passRow 83 = .ok (.iconst 1, 1) := by decide +kernel
theorem dX5_passRow_84 : decode cX5_passRow 84 = .ok (.iadd, 1) := by decide +kernel
theorem dX5_passRow_85 : decode cX5_passRow 85 = .ok (.putfield 34, 3) := by decide +kernel
theorem dX5_passRow_88 : decode cX5_passRow 88 = .ok (.aload_n 0, 1) := by decide +kernel
theorem dX5_passRow_89 : decode cX5_passRow 89 = .ok (.dup, 1) := by decide +kernel
theorem dX5_passRow_90 : decode cX5_passRow 90 = .ok (.getfield 30, 3) := by decide +kernel
theorem dX5_passRow_93 : decode cX5_passRow 93 = .ok (.iconst 1, 1) := by decide +kernel
theorem dX5_passRow_94 : decode cX5_passRow 94 = .ok (.iadd, 1) := by decide +kernel
theorem dX5_passRow_95 : decode cX5_passRow 95 = .ok (.putfield 30, 3) := by decide +kernel
theorem dX5_passRow_98 : decode cX5_passRow 98 = .ok (.return_, 1) := by decide +kernel
theorem dX5_isImported_0 : decode cX5_isImported 0 = .ok (.iload_n 1, 1) := by decide +kernel
theorem dX5_isImported_1 : decode cX5_isImported 1 = .ok (.ifCond .lt 21, 3) := by decide +kernel
theorem dX5_isImported_4 : decode cX5_isImported 4 = .ok (.iload_n 1, 1) := by decide +kernel
theorem dX5_isImported_5 : decode cX5_isImported 5 = .ok (.aload_n 0, 1) := by decide +kernel
theorem dX5_isImported_6 : decode cX5_isImported 6 = .ok (.getfield 30, 3) := by decide +kernel
theorem dX5_isImported_9 : decode cX5_isImported 9 = .ok (.if_icmp .ge 13, 3) := by decide +kernel
theorem dX5_isImported_12 : decode cX5_isImported 12 = .ok (.iload_n 1, 1) := by decide +kernel
theorem dX5_isImported_13 : decode cX5_isImported 13 = .ok (.bipush 24, 2) := by decide +kernel
theorem dX5_isImported_15 : decode cX5_isImported 15 = .ok (.if_icmp .ge 7, 3) := by decide +kernel
theorem dX5_isImported_18 : decode cX5_isImported 18 = .ok (.iconst 1, 1) := by decide +kernel
theorem dX5_isImported_19 : decode cX5_isImported 19 = .ok (.goto 4, 3) := by decide +kernel
theorem dX5_isImported_22 : decode cX5_isImported 22 = .ok (.iconst 0, 1) := by decide +kernel
theorem dX5_isImported_23 : decode cX5_isImported 23 = .ok (.ireturn, 1) := by decide +kernel
set_option maxRecDepth 20000 in
theorem ggX5_rowOf_X5_isImported : GoodIn wsX5_rowOf wsX5_isImported := goodIn_r _ [6, 7, 8, 9, 10, 11, 12, 13, 14, 15, 16] (by decide +kernel) (by decide +kernel)
set_option maxRecDepth 20000 in
theorem gX5_rowOf_X5_isImported : GoodIn wsX5_rowOf (wsV RX5 52 RX5 yX5_isImported wsX5_isImported) := goodIn_app (goodIn_of _ (by decide +kernel)) ggX5_rowOf_X5_isImported
theorem dX5_rowOf_0 : decode cX5_rowOf 0 = .ok (.aload_n 0, 1) := by decide +kernel
theorem dX5_rowOf_1 : decode cX5_rowOf 1 = .ok (.iload_n 1, 1) := by decide +kernel
theorem dX5_rowOf_2 : decode cX5_rowOf 2 = .ok (.invokevirtual 52, 3) := by decide +kernel
theorem dX5_rowOf_5 : decode cX5_rowOf 5 = .ok (.ifCond .eq 12, 3) := by decide +kernel
theorem dX5_rowOf_8 : decode cX5_rowOf 8 = .ok (.aload_n 0, 1) := by decide +kernel
theorem dX5_rowOf_9 : decode cX5_rowOf 9 = .ok (.getfield 24, 3) := by decide +kernel
theorem dX5_rowOf_12 : decode cX5_rowOf 12 = .ok (.iload_n 1, 1) := by decide +kernel
theorem dX5_rowOf_13 : decode cX5_rowOf 13 = .ok (.iaload, 1) := by decide +kernel
theorem dX5_rowOf_14 : decode cX5_rowOf 14 = .ok (.goto 5, 3) := by decide +kernel
theorem dX5_rowOf_17 : decode cX5_rowOf 17 = .ok (.bipush (-5), 2) := by decide +kernel
theorem dX5_rowOf_19 : decode cX5_rowOf 19 = .ok (.ireturn, 1) := by decide +kernel
theorem dX5_lineOf_0 : decode cX5_lineOf 0 = .ok (.iload_n 1, 1) := by decide +kernel
theorem dX5_lineOf_1 : decode cX5_lineOf 1 = .ok (.ifCond .lt 26, 3) := by decide +kernel
theorem dX5_lineOf_4 : decode cX5_lineOf 4 = .ok (.iload_n 1, 1) := by decide +kernel
theorem dX5_lineOf_5 : decode cX5_lineOf 5 = .ok (.aload_n 0, 1) := by decide +kernel
theorem dX5_lineOf_6 : decode cX5_lineOf 6 = .ok (.getfield 34, 3) := by decide +kernel
theorem dX5_lineOf_9 : decode cX5_lineOf 9 = .ok (.if_icmp .ge 18, 3) := by decide +kernel
theorem dX5_lineOf_12 : decode cX5_lineOf 12 = .ok (.iload_n 1, 1) := by decide +kernel
theorem dX5_lineOf_13 : decode cX5_lineOf 13 = .ok (.bipush 24, 2) := by decide +kernel
theorem dX5_lineOf_15 : decode cX5_lineOf 15 = .ok (.if_icmp .ge 12, 3) := by decide +kernel
theorem dX5_lineOf_18 : decode cX5_lineOf 18 = .ok (.aload_n 0, 1) := by decide +kernel
theorem dX5_lineOf_19 : decode cX5_lineOf 19 = .ok (.getfield 27, 3) := by decide +kernel
theorem dX5_lineOf_22 : decode cX5_lineOf 22 = .ok (.iload_n 1, 1) := by decide +kernel
theorem dX5_lineOf_23 : decode cX5_lineOf 23 = .ok (.iaload, 1) := by decide +kernel
theorem dX5_lineOf_24 : decode cX5_lineOf 24 = .ok (.goto 5, 3) := by decide +kernel
theorem dX5_lineOf_27 : decode cX5_lineOf 27 = .ok (.bipush (-5), 2) := by decide +kernel
theorem dX5_lineOf_29 : decode cX5_lineOf 29 = .ok (.ireturn, 1) := by decide +kernel
set_option maxRecDepth 20000 in
theorem ggX5_faultPart_X5_isImported : GoodIn wsX5_faultPart wsX5_isImported := goodIn_r _ [8, 9, 10, 11, 12, 13, 14, 15, 16, 17, 18] (by decide +kernel) (by decide +kernel)
set_option maxRecDepth 20000 in
theorem gX5_faultPart_X5_isImported : GoodIn wsX5_faultPart (wsV RX5 52 RX5 yX5_isImported wsX5_isImported) := goodIn_app (goodIn_of _ (by decide +kernel)) ggX5_faultPart_X5_isImported
theorem dX5_faultPart_0 : decode cX5_faultPart 0 = .ok (.aload_n 0, 1) := by decide +kernel
theorem dX5_faultPart_1 : decode cX5_faultPart 1 = .ok (.iload_n 1, 1) := by decide +kernel
theorem dX5_faultPart_2 : decode cX5_faultPart 2 = .ok (.invokevirtual 52, 3) := by decide +kernel
theorem dX5_faultPart_5 : decode cX5_faultPart 5 = .ok (.ifCond .ne 6, 3) := by decide +kernel
theorem dX5_faultPart_8 : decode cX5_faultPart 8 = .ok (.bipush (-5), 2) := by decide +kernel
theorem dX5_faultPart_10 : decode cX5_faultPart 10 = .ok (.ireturn, 1) := by decide +kernel
theorem dX5_faultPart_11 : decode cX5_faultPart 11 = .ok (.iload_n 2, 1) := by decide +kernel
theorem dX5_faultPart_12 : decode cX5_faultPart 12 = .ok (.tableswitch 49 0 2 #[28, 35, 42], 28) := by decide +kernel
theorem dX5_faultPart_40 : decode cX5_faultPart 40 = .ok (.aload_n 0, 1) := by decide +kernel
theorem dX5_faultPart_41 : decode cX5_faultPart 41 = .ok (.getfield 15, 3) := by decide +kernel
theorem dX5_faultPart_44 : decode cX5_faultPart 44 = .ok (.iload_n 1, 1) := by decide +kernel
theorem dX5_faultPart_45 : decode cX5_faultPart 45 = .ok (.iaload, 1) := by decide +kernel
theorem dX5_faultPart_46 : decode cX5_faultPart 46 = .ok (.ireturn, 1) := by decide +kernel
theorem dX5_faultPart_47 : decode cX5_faultPart 47 = .ok (.aload_n 0, 1) := by decide +kernel
theorem dX5_faultPart_48 : decode cX5_faultPart 48 = .ok (.getfield 18, 3) := by decide +kernel
theorem dX5_faultPart_51 : decode cX5_faultPart 51 = .ok (.iload_n 1, 1) := by decide +kernel
theorem dX5_faultPart_52 : decode cX5_faultPart 52 = .ok (.iaload, 1) := by decide +kernel
theorem dX5_faultPart_53 : decode cX5_faultPart 53 = .ok (.ireturn, 1) := by decide +kernel
theorem dX5_faultPart_54 : decode cX5_faultPart 54 = .ok (.aload_n 0, 1) := by decide +kernel
theorem dX5_faultPart_55 : decode cX5_faultPart 55 = .ok (.getfield 21, 3) := by decide +kernel
theorem dX5_faultPart_58 : decode cX5_faultPart 58 = .ok (.iload_n 1, 1) := by decide +kernel
theorem dX5_faultPart_59 : decode cX5_faultPart 59 = .ok (.iaload, 1) := by decide +kernel
theorem dX5_faultPart_60 : decode cX5_faultPart 60 = .ok (.ireturn, 1) := by decide +kernel
theorem dX5_faultPart_61 : decode cX5_faultPart 61 = .ok (.bipush (-5), 2) := by decide +kernel
theorem dX5_faultPart_63 : decode cX5_faultPart 63 = .ok (.ireturn, 1) := by decide +kernel
theorem dX5_faultyLines_0 : decode cX5_faultyLines 0 = .ok (.aload_n 0, 1) := by decide +kernel
theorem dX5_faultyLines_1 : decode cX5_faultyLines 1 = .ok (.getfield 30, 3) := by decide +kernel
theorem dX5_faultyLines_4 : decode cX5_faultyLines 4 = .ok (.aload_n 0, 1) := by decide +kernel
theorem dX5_faultyLines_5 : decode cX5_faultyLines 5 = .ok (.getfield 34, 3) := by decide +kernel
theorem dX5_faultyLines_8 : decode cX5_faultyLines 8 = .ok (.isub, 1) := by decide +kernel
theorem dX5_faultyLines_9 : decode cX5_faultyLines 9 = .ok (.ireturn, 1) := by decide +kernel
theorem dX5_linesWith_0 : decode cX5_linesWith 0 = .ok (.iconst 0, 1) := by decide +kernel
theorem dX5_linesWith_1 : decode cX5_linesWith 1 = .ok (.istore_n 2, 1) := by decide +kernel
theorem dX5_linesWith_2 : decode cX5_linesWith 2 = .ok (.iconst 0, 1) := by decide +kernel
theorem dX5_linesWith_3 : decode cX5_linesWith 3 = .ok (.istore_n 3, 1) := by decide +kernel
theorem dX5_linesWith_4 : decode cX5_linesWith 4 = .ok (.iload_n 3, 1) := by decide +kernel
theorem dX5_linesWith_5 : decode cX5_linesWith 5 = .ok (.aload_n 0, 1) := by decide +kernel
theorem dX5_linesWith_6 : decode cX5_linesWith 6 = .ok (.getfield 30, 3) := by decide +kernel
theorem dX5_linesWith_9 : decode cX5_linesWith 9 = .ok (.if_icmp .ge 28, 3) := by decide +kernel
theorem dX5_linesWith_12 : decode cX5_linesWith 12 = .ok (.iload_n 3, 1) := by decide +kernel
theorem dX5_linesWith_13 : decode cX5_linesWith 13 = .ok (.bipush 24, 2) := by decide +kernel
theorem dX5_linesWith_15 : decode cX5_linesWith 15 = .ok (.if_icmp .ge 22, 3) := by decide +kernel
theorem dX5_linesWith_18 : decode cX5_linesWith 18 = .ok (.aload_n 0, 1) := by decide +kernel
theorem dX5_linesWith_19 : decode cX5_linesWith 19 = .ok (.getfield 15, 3) := by decide +kernel
theorem dX5_linesWith_22 : decode cX5_linesWith 22 = .ok (.iload_n 3, 1) := by decide +kernel
theorem dX5_linesWith_23 : decode cX5_linesWith 23 = .ok (.iaload, 1) := by decide +kernel
theorem dX5_linesWith_24 : decode cX5_linesWith 24 = .ok (.iload_n 1, 1) := by decide +kernel
theorem dX5_linesWith_25 : decode cX5_linesWith 25 = .ok (.if_icmp .ne 6, 3) := by decide +kernel
theorem dX5_linesWith_28 : decode cX5_linesWith 28 = .ok (.iinc 2 1, 3) := by decide +kernel
theorem dX5_linesWith_31 : decode cX5_linesWith 31 = .ok (.iinc 3 1, 3) := by decide +kernel
theorem dX5_linesWith_34 : decode cX5_linesWith 34 = .ok (.goto (-30), 3) := by decide +kernel
theorem dX5_linesWith_37 : decode cX5_linesWith 37 = .ok (.iload_n 2, 1) := by decide +kernel
theorem dX5_linesWith_38 : decode cX5_linesWith 38 = .ok (.ireturn, 1) := by decide +kernel
theorem dX6_init_0 : decode cX6_init 0 = .ok (.aload_n 0, 1) := by decide +kernel
theorem dX6_init_1 : decode cX6_init 1 = .ok (.invokespecial 1, 3) := by decide +kernel
theorem dX6_init_4 : decode cX6_init 4 = .ok (.aload_n 0, 1) := by decide +kernel
theorem dX6_init_5 : decode cX6_init 5 = .ok (.iconst 0, 1) := by decide +kernel
theorem dX6_init_6 : decode cX6_init 6 = .ok (.putfield 7, 3) := by decide +kernel
theorem dX6_init_9 : decode cX6_init 9 = .ok (.aload_n 0, 1) := by decide +kernel
theorem dX6_init_10 : decode cX6_init 10 = .ok (.iconst 0, 1) := by decide +kernel
theorem dX6_init_11 : decode cX6_init 11 = .ok (.iload_n 1, 1) := by decide +kernel
theorem dX6_init_12 : decode cX6_init 12 = .ok (.invokestatic 13, 3) := by decide +kernel
theorem dX6_init_15 : decode cX6_init 15 = .ok (.newarray .byte, 2) := by decide +kernel
theorem dX6_init_17 : decode cX6_init 17 = .ok (.putfield 19, 3) := by decide +kernel
theorem dX6_init_20 : decode cX6_init 20 = .ok (.return_, 1) := by decide +kernel
theorem dX6_clear_0 : decode cX6_clear 0 = .ok (.aload_n 0, 1) := by decide +kernel
theorem dX6_clear_1 : decode cX6_clear 1 = .ok (.iconst 0, 1) := by decide +kernel
theorem dX6_clear_2 : decode cX6_clear 2 = .ok (.putfield 7, 3) := by decide +kernel
theorem dX6_clear_5 : decode cX6_clear 5 = .ok (.return_, 1) := by decide +kernel
theorem dX6_add_0 : decode cX6_add 0 = .ok (.aload_n 0, 1) := by decide +kernel
theorem dX6_add_1 : decode cX6_add 1 = .ok (.getfield 7, 3) := by decide +kernel
theorem dX6_add_4 : decode cX6_add 4 = .ok (.aload_n 0, 1) := by decide +kernel
theorem dX6_add_5 : decode cX6_add 5 = .ok (.getfield 19, 3) := by decide +kernel
theorem dX6_add_8 : decode cX6_add 8 = .ok (.arraylength, 1) := by decide +kernel
theorem dX6_add_9 : decode cX6_add 9 = .ok (.if_icmp .ge 24, 3) := by decide +kernel
theorem dX6_add_12 : decode cX6_add 12 = .ok (.aload_n 0, 1) := by decide +kernel
theorem dX6_add_13 : decode cX6_add 13 = .ok (.getfield 19, 3) := by decide +kernel
theorem dX6_add_16 : decode cX6_add 16 = .ok (.aload_n 0, 1) := by decide +kernel
theorem dX6_add_17 : decode cX6_add 17 = .ok (.getfield 7, 3) := by decide +kernel
theorem dX6_add_20 : decode cX6_add 20 = .ok (.iload_n 1, 1) := by decide +kernel
theorem dX6_add_21 : decode cX6_add 21 = .ok (.i2b, 1) := by decide +kernel
theorem dX6_add_22 : decode cX6_add 22 = .ok (.bastore, 1) := by decide +kernel
theorem dX6_add_23 : decode cX6_add 23 = .ok (.aload_n 0, 1) := by decide +kernel
theorem dX6_add_24 : decode cX6_add 24 = .ok (.dup, 1) := by decide +kernel
theorem dX6_add_25 : decode cX6_add 25 = .ok (.getfield 7, 3) := by decide +kernel
theorem dX6_add_28 : decode cX6_add 28 = .ok (.iconst 1, 1) := by decide +kernel
theorem dX6_add_29 : decode cX6_add 29 = .ok (.iadd, 1) := by decide +kernel
theorem dX6_add_30 : decode cX6_add 30 = .ok (.putfield 7, 3) := by decide +kernel
theorem dX6_add_33 : decode cX6_add 33 = .ok (.return_, 1) := by decide +kernel
set_option maxRecDepth 20000 in
theorem ggX6_addDigits_X6_add : GoodIn wsX6_addDigits wsX6_add := goodIn_r _ [6, 7, 8, 9, 10] (by decide +kernel) (by decide +kernel)
set_option maxRecDepth 20000 in
theorem gX6_addDigits_X6_add : GoodIn wsX6_addDigits (wsV RX6 25 RX6 yX6_add wsX6_add) := goodIn_app (goodIn_of _ (by decide +kernel)) ggX6_addDigits_X6_add
theorem dX6_addDigits_0 : decode cX6_addDigits 0 = .ok (.lconst 1, 1) := by decide +kernel
theorem dX6_addDigits_1 : decode cX6_addDigits 1 = .ok (.lstore 4, 2) := by decide +kernel
theorem dX6_addDigits_3 : decode cX6_addDigits 3 = .ok (.iconst 1, 1) := by decide +kernel
theorem dX6_addDigits_4 : decode cX6_addDigits 4 = .ok (.istore 6, 2) := by decide +kernel
theorem dX6_addDigits_6 : decode cX6_addDigits 6 = .ok (.iload 6, 2) := by decide +kernel
theorem dX6_addDigits_8 : decode cX6_addDigits 8 = .ok (.bipush 18, 2) := by decide +kernel
theorem dX6_addDigits_10 : decode cX6_addDigits 10 = .ok (.if_icmp .ge 37, 3) := by decide +kernel
theorem dX6_addDigits_13 : decode cX6_addDigits 13 = .ok (.iload 6, 2) := by decide +kernel
theorem dX6_addDigits_15 : decode cX6_addDigits 15 = .ok (.iload_n 3, 1) := by decide +kernel
theorem dX6_addDigits_16 : decode cX6_addDigits 16 = .ok (.if_icmp .lt 17, 3) := by decide +kernel
theorem dX6_addDigits_19 : decode cX6_addDigits 19 = .ok (.lload 4, 2) := by decide +kernel
theorem dX6_addDigits_21 : decode cX6_addDigits 21 = .ok (.ldc2_w 23, 3) := by decide +kernel
theorem dX6_addDigits_24 : decode cX6_addDigits 24 = .ok (.lmul, 1) := by decide +kernel
theorem dX6_addDigits_25 : decode cX6_addDigits 25 = .ok (.lload_n 1, 1) := by decide +kernel
theorem dX6_addDigits_26 : decode cX6_addDigits 26 = .ok (.lcmp, 1) := by decide +kernel
theorem dX6_addDigits_27 : decode cX6_addDigits 27 = .ok (.ifCond .le 6, 3) := by decide +kernel
theorem dX6_addDigits_30 : decode cX6_addDigits 30 = .ok (.goto 17, 3) := by decide +kernel
theorem dX6_addDigits_33 : decode cX6_addDigits 33 = .ok (.lload 4, 2) := by decide +kernel
theorem dX6_addDigits_35 : decode cX6_addDigits 35 = .ok (.ldc2_w 23, 3) := by decide +kernel
theorem dX6_addDigits_38 : decode cX6_addDigits 38 = .ok (.lmul, 1) := by decide +kernel
theorem dX6_addDigits_39 : decode cX6_addDigits 39 = .ok (.lstore 4, 2) := by decide +kernel
theorem dX6_addDigits_41 : decode cX6_addDigits 41 = .ok (.iinc 6 1, 3) := by decide +kernel
theorem dX6_addDigits_44 : decode cX6_addDigits 44 = .ok (.goto (-38), 3) := by decide +kernel
theorem dX6_addDigits_47 : decode cX6_addDigits 47 = .ok (.lload 4, 2) := by decide +kernel
theorem dX6_addDigits_49 : decode cX6_addDigits 49 = .ok (.lconst 0, 1) := by decide +kernel
theorem dX6_addDigits_50 : decode cX6_addDigits 50 = .ok (.lcmp, 1) := by decide +kernel
theorem dX6_addDigits_51 : decode cX6_addDigits 51 = .ok (.ifCond .le 30, 3) := by decide +kernel
theorem dX6_addDigits_54 : decode cX6_addDigits 54 = .ok (.aload_n 0, 1) := by decide +kernel
theorem dX6_addDigits_55 : decode cX6_addDigits 55 = .ok (.bipush 48, 2) := by decide +kernel
theorem dX6_addDigits_57 : decode cX6_addDigits 57 = .ok (.lload_n 1, 1) := by decide +kernel
theorem dX6_addDigits_58 : decode cX6_addDigits 58 = .ok (.lload 4, 2) := by decide +kernel
theorem dX6_addDigits_60 : decode cX6_addDigits 60 = .ok (.ldiv, 1) := by decide +kernel
theorem dX6_addDigits_61 : decode cX6_addDigits 61 = .ok (.ldc2_w 23, 3) := by decide +kernel
theorem dX6_addDigits_64 : decode cX6_addDigits 64 = .ok (.lrem, 1) := by decide +kernel
theorem dX6_addDigits_65 : decode cX6_addDigits 65 = .ok (.l2i, 1) := by decide +kernel
theorem dX6_addDigits_66 : decode cX6_addDigits 66 = .ok (.iadd, 1) := by decide +kernel
theorem dX6_addDigits_67 : decode cX6_addDigits 67 = .ok (.invokevirtual 25, 3) := by decide +kernel
theorem dX6_addDigits_70 : decode cX6_addDigits 70 = .ok (.lload 4, 2) := by decide +kernel
theorem dX6_addDigits_72 : decode cX6_addDigits 72 = .ok (.ldc2_w 23, 3) := by decide +kernel
theorem dX6_addDigits_75 : decode cX6_addDigits 75 = .ok (.ldiv, 1) := by decide +kernel
theorem dX6_addDigits_76 : decode cX6_addDigits 76 = .ok (.lstore 4, 2) := by decide +kernel
theorem dX6_addDigits_78 : decode cX6_addDigits 78 = .ok (.goto (-31), 3) := by decide +kernel
theorem dX6_addDigits_81 : decode cX6_addDigits 81 = .ok (.return_, 1) := by decide +kernel
theorem dX6_at_0 : decode cX6_at 0 = .ok (.iload_n 1, 1) := by decide +kernel
theorem dX6_at_1 : decode cX6_at 1 = .ok (.ifCond .lt 29, 3) := by decide +kernel
theorem dX6_at_4 : decode cX6_at 4 = .ok (.iload_n 1, 1) := by decide +kernel
theorem dX6_at_5 : decode cX6_at 5 = .ok (.aload_n 0, 1) := by decide +kernel
theorem dX6_at_6 : decode cX6_at 6 = .ok (.getfield 7, 3) := by decide +kernel
theorem dX6_at_9 : decode cX6_at 9 = .ok (.if_icmp .ge 21, 3) := by decide +kernel
theorem dX6_at_12 : decode cX6_at 12 = .ok (.iload_n 1, 1) := by decide +kernel
theorem dX6_at_13 : decode cX6_at 13 = .ok (.aload_n 0, 1) := by decide +kernel
theorem dX6_at_14 : decode cX6_at 14 = .ok (.getfield 19, 3) := by decide +kernel
theorem dX6_at_17 : decode cX6_at 17 = .ok (.arraylength, 1) := by decide +kernel
theorem dX6_at_18 : decode cX6_at 18 = .ok (.if_icmp .ge 12, 3) := by decide +kernel
theorem dX6_at_21 : decode cX6_at 21 = .ok (.aload_n 0, 1) := by decide +kernel
theorem dX6_at_22 : decode cX6_at 22 = .ok (.getfield 19, 3) := by decide +kernel
theorem dX6_at_25 : decode cX6_at 25 = .ok (.iload_n 1, 1) := by decide +kernel
theorem dX6_at_26 : decode cX6_at 26 = .ok (.baload, 1) := by decide +kernel
theorem dX6_at_27 : decode cX6_at 27 = .ok (.goto 4, 3) := by decide +kernel
theorem dX6_at_30 : decode cX6_at 30 = .ok (.iconst (-1), 1) := by decide +kernel
theorem dX6_at_31 : decode cX6_at 31 = .ok (.ireturn, 1) := by decide +kernel
set_option maxRecDepth 20000 in
theorem ggX7_init_X5_init : GoodIn wsX7_init wsX5_init := goodIn_r _ [24, 25, 2, 3, 4, 26, 27, 28, 29, 30, 31, 32, 33, 34, 57, 58, 59, 60, 61, 62, 63, 64, 65] (by decide +kernel) (by decide +kernel)
set_option maxRecDepth 20000 in
theorem gX7_init_X5_init_n20 : GoodIn wsX7_init (wsX5_init) := ggX7_init_X5_init
set_option maxRecDepth 20000 in
theorem ggX7_init_X2_init : GoodIn wsX7_init wsX2_init := goodIn_r _ [37, 38, 2, 3, 39, 40, 41, 42, 43, 4, 44, 45, 66, 67, 68] (by decide +kernel) (by decide +kernel)
set_option maxRecDepth 20000 in
theorem gX7_init_X2_init : GoodIn wsX7_init (wsX2_init) := ggX7_init_X2_init
theorem dX7_init_0 : decode cX7_init 0 = .ok (.aload_n 0, 1) := by decide +kernel
theorem dX7_init_1 : decode cX7_init 1 = .ok (.invokespecial 3, 3) := by decide +kernel
theorem dX7_init_4 : decode cX7_init 4 = .ok (.aload_n 0, 1) := by decide +kernel
theorem dX7_init_5 : decode cX7_init 5 = .ok (.iconst 5, 1) := by decide +kernel
theorem dX7_init_6 : decode cX7_init 6 = .ok (.newarray .int, 2) := by decide +kernel
theorem dX7_init_8 : decode cX7_init 8 = .ok (.putfield 9, 3) := by decide +kernel
theorem dX7_init_11 : decode cX7_init 11 = .ok (.aload_n 0, 1) := by decide +kernel
theorem dX7_init_12 : decode cX7_init 12 = .ok (.iconst 5, 1) := by decide +kernel
theorem dX7_init_13 : decode cX7_init 13 = .ok (.newarray .int, 2) := by decide +kernel
theorem dX7_init_15 : decode cX7_init 15 = .ok (.putfield 15, 3) := by decide +kernel
theorem dX7_init_18 : decode cX7_init 18 = .ok (.aload_n 0, 1) := by decide +kernel
theorem dX7_init_19 : decode cX7_init 19 = .ok (.new 18, 3) := by decide +kernel
theorem dX7_init_22 : decode cX7_init 22 = .ok (.dup, 1) := by decide +kernel
theorem dX7_init_23 : decode cX7_init 23 = .ok (.invokespecial 20, 3) := by decide +kernel
theorem dX7_init_26 : decode cX7_init 26 = .ok (.putfield 21, 3) := by decide +kernel
theorem dX7_init_29 : decode cX7_init 29 = .ok (.aload_n 0, 1) := by decide +kernel
theorem dX7_init_30 : decode cX7_init 30 = .ok (.new 25, 3) := by decide +kernel
theorem dX7_init_33 : decode cX7_init 33 = .ok (.dup, 1) := by decide +kernel
theorem dX7_init_34 : decode cX7_init 34 = .ok (.bipush 6, 2) := by decide +kernel
theorem dX7_init_36 : decode cX7_init 36 = .ok (.invokespecial 27, 3) := by decide +kernel
theorem dX7_init_39 : decode cX7_init 39 = .ok (.putfield 30, 3) := by decide +kernel
theorem dX7_init_42 : decode cX7_init 42 = .ok (.aload_n 0, 1) := by decide +kernel
theorem dX7_init_43 : decode cX7_init 43 = .ok (.new 25, 3) := by decide +kernel
theorem dX7_init_46 : decode cX7_init 46 = .ok (.dup, 1) := by decide +kernel
theorem dX7_init_47 : decode cX7_init 47 = .ok (.bipush 8, 2) := by decide +kernel
theorem dX7_init_49 : decode cX7_init 49 = .ok (.invokespecial 27, 3) := by decide +kernel
theorem dX7_init_52 : decode cX7_init 52 = .ok (.putfield 34, 3) := by decide +kernel
theorem dX7_init_55 : decode cX7_init 55 = .ok (.aload_n 0, 1) := by decide +kernel
theorem dX7_init_56 : decode cX7_init 56 = .ok (.new 25, 3) := by decide +kernel
theorem dX7_init_59 : decode cX7_init 59 = .ok (.dup, 1) := by decide +kernel
theorem dX7_init_60 : decode cX7_init 60 = .ok (.bipush 8, 2) := by decide +kernel
theorem dX7_init_62 : decode cX7_init 62 = .ok (.invokespecial 27, 3) := by decide +kernel
theorem dX7_init_65 : decode cX7_init 65 = .ok (.putfield 37, 3) := by decide +kernel
theorem dX7_init_68 : decode cX7_init 68 = .ok (.aload_n 0, 1) := by decide +kernel
theorem dX7_init_69 : decode cX7_init 69 = .ok (.bipush 24, 2) := by decide +kernel
theorem dX7_init_71 : decode cX7_init 71 = .ok (.anewarray 40, 3) := by decide +kernel
theorem dX7_init_74 : decode cX7_init 74 = .ok (.putfield 42, 3) := by decide +kernel
theorem dX7_init_77 : decode cX7_init 77 = .ok (.aload_n 0, 1) := by decide +kernel
theorem dX7_init_78 : decode cX7_init 78 = .ok (.iconst 5, 1) := by decide +kernel
theorem dX7_init_79 : decode cX7_init 79 = .ok (.newarray .int, 2) := by decide +kernel
theorem dX7_init_81 : decode cX7_init 81 = .ok (.putfield 46, 3) := by decide +kernel
theorem dX7_init_84 : decode cX7_init 84 = .ok (.aload_n 0, 1) := by decide +kernel
theorem dX7_init_85 : decode cX7_init 85 = .ok (.iconst 0, 1) := by decide +kernel
theorem dX7_init_86 : decode cX7_init 86 = .ok (.putfield 49, 3) := by decide +kernel
theorem dX7_init_89 : decode cX7_init 89 = .ok (.aload_n 0, 1) := by decide +kernel
theorem dX7_init_90 : decode cX7_init 90 = .ok (.iconst 0, 1) := by decide +kernel
theorem dX7_init_91 : decode cX7_init 91 = .ok (.putfield 53, 3) := by decide +kernel
theorem dX7_init_94 : decode cX7_init 94 = .ok (.aload_n 0, 1) := by decide +kernel
theorem dX7_init_95 : decode cX7_init 95 = .ok (.bipush 8, 2) := by decide +kernel
theorem dX7_init_97 : decode cX7_init 97 = .ok (.putfield 56, 3) := by decide +kernel
theorem dX7_init_100 : decode cX7_init 100 = .ok (.return_, 1) := by decide +kernel
set_option maxRecDepth 20000 in
theorem ggX7_begin_J7_fill_53178 : GoodIn wsX7_begin wsJ7_fill_53178 := goodIn_r _ [19] (by decide +kernel) (by decide +kernel)
set_option maxRecDepth 20000 in
theorem gX7_begin_J7_fill_53178 : GoodIn wsX7_begin (va_wsS RX7 73 yJ7_fill_53178 wsJ7_fill_53178) := goodIn_app (goodIn_of _ (by decide +kernel)) ggX7_begin_J7_fill_53178
set_option maxRecDepth 20000 in
theorem ggX7_begin_X5_restart : GoodIn wsX7_begin wsX5_restart := goodIn_r _ [24, 25, 26, 27, 28, 17, 18, 19, 49, 50, 51, 52, 53, 54, 55, 56, 57] (by decide +kernel) (by decide +kernel)
set_option maxRecDepth 20000 in
theorem gX7_begin_X5_restart : GoodIn wsX7_begin (wsV RX7 79 RX5 yX5_restart wsX5_restart) := goodIn_app (goodIn_of _ (by decide +kernel)) ggX7_begin_X5_restart
set_option maxRecDepth 20000 in
theorem ggX7_begin_X2_clear : GoodIn wsX7_begin wsX2_clear := goodIn_r _ [33, 34, 58, 59, 60] (by decide +kernel) (by decide +kernel)
set_option maxRecDepth 20000 in
theorem gX7_begin_X2_clear : GoodIn wsX7_begin (wsV RX7 85 RX2 yX2_clear wsX2_clear) := goodIn_app (goodIn_of _ (by decide +kernel)) ggX7_begin_X2_clear
theorem dX7_begin_0 : decode cX7_begin 0 = .ok (.aload_n 0, 1) := by decide +kernel
theorem dX7_begin_1 : decode cX7_begin 1 = .ok (.aload_n 1, 1) := by decide +kernel
theorem dX7_begin_2 : decode cX7_begin 2 = .ok (.getfield 59, 3) := by decide +kernel
theorem dX7_begin_5 : decode cX7_begin 5 = .ok (.putfield 49, 3) := by decide +kernel
theorem dX7_begin_8 : decode cX7_begin 8 = .ok (.aload_n 1, 1) := by decide +kernel
theorem dX7_begin_9 : decode cX7_begin 9 = .ok (.getfield 64, 3) := by decide +kernel
theorem dX7_begin_12 : decode cX7_begin 12 = .ok (.iconst 0, 1) := by decide +kernel
theorem dX7_begin_13 : decode cX7_begin 13 = .ok (.aload_n 0, 1) := by decide +kernel
theorem dX7_begin_14 : decode cX7_begin 14 = .ok (.getfield 9, 3) := by decide +kernel
theorem dX7_begin_17 : decode cX7_begin 17 = .ok (.iconst 0, 1) := by decide +kernel
theorem dX7_begin_18 : decode cX7_begin 18 = .ok (.iconst 5, 1) := by decide +kernel
theorem dX7_begin_19 : decode cX7_begin 19 = .ok (.invokestatic 67, 3) := by decide +kernel
theorem dX7_begin_22 : decode cX7_begin 22 = .ok (.aload_n 0, 1) := by decide +kernel
theorem dX7_begin_23 : decode cX7_begin 23 = .ok (.getfield 15, 3) := by decide +kernel
theorem dX7_begin_26 : decode cX7_begin 26 = .ok (.iconst 0, 1) := by decide +kernel
theorem dX7_begin_27 : decode cX7_begin 27 = .ok (.invokestatic 73, 3) := by decide +kernel
theorem dX7_begin_30 : decode cX7_begin 30 = .ok (.aload_n 0, 1) := by decide +kernel
theorem dX7_begin_31 : decode cX7_begin 31 = .ok (.iconst 0, 1) := by decide +kernel
theorem dX7_begin_32 : decode cX7_begin 32 = .ok (.putfield 53, 3) := by decide +kernel
theorem dX7_begin_35 : decode cX7_begin 35 = .ok (.aload_n 0, 1) := by decide +kernel
theorem dX7_begin_36 : decode cX7_begin 36 = .ok (.getfield 21, 3) := by decide +kernel
theorem dX7_begin_39 : decode cX7_begin 39 = .ok (.invokevirtual 79, 3) := by decide +kernel
theorem dX7_begin_42 : decode cX7_begin 42 = .ok (.aload_n 0, 1) := by decide +kernel
theorem dX7_begin_43 : decode cX7_begin 43 = .ok (.getfield 21, 3) := by decide +kernel
theorem dX7_begin_46 : decode cX7_begin 46 = .ok (.iconst (-1), 1) := by decide +kernel
theorem dX7_begin_47 : decode cX7_begin 47 = .ok (.putfield 82, 3) := by decide +kernel
theorem dX7_begin_50 : decode cX7_begin 50 = .ok (.aload_n 0, 1) := by decide +kernel
theorem dX7_begin_51 : decode cX7_begin 51 = .ok (.getfield 30, 3) := by decide +kernel
theorem dX7_begin_54 : decode cX7_begin 54 = .ok (.invokevirtual 85, 3) := by decide +kernel
theorem dX7_begin_57 : decode cX7_begin 57 = .ok (.pop, 1) := by decide +kernel
theorem dX7_begin_58 : decode cX7_begin 58 = .ok (.aload_n 0, 1) := by decide +kernel
theorem dX7_begin_59 : decode cX7_begin 59 = .ok (.getfield 34, 3) := by decide +kernel
theorem dX7_begin_62 : decode cX7_begin 62 = .ok (.invokevirtual 85, 3) := by decide +kernel
theorem dX7_begin_65 : decode cX7_begin 65 = .ok (.pop, 1) := by decide +kernel
theorem dX7_begin_66 : decode cX7_begin 66 = .ok (.aload_n 0, 1) := by decide +kernel
theorem dX7_begin_67 : decode cX7_begin 67 = .ok (.getfield 37, 3) := by decide +kernel
theorem dX7_begin_70 : decode cX7_begin 70 = .ok (.invokevirtual 85, 3) := by decide +kernel
theorem dX7_begin_73 : decode cX7_begin 73 = .ok (.pop, 1) := by decide +kernel
theorem dX7_begin_74 : decode cX7_begin 74 = .ok (.return_, 1) := by decide +kernel
set_option maxRecDepth 20000 in
theorem ggX7_copyFrom_X5_copyFrom : GoodIn wsX7_copyFrom wsX5_copyFrom := goodIn_r _ [19, 20, 21, 3, 4, 5, 22, 23, 24, 25, 26, 27, 28, 29, 65, 66, 67, 68, 69, 70, 71, 72, 73] (by decide +kernel) (by decide +kernel)
set_option maxRecDepth 20000 in
theorem gX7_copyFrom_X5_copyFrom : GoodIn wsX7_copyFrom (wsV RX7 89 RX5 yX5_copyFrom wsX5_copyFrom) := goodIn_app (goodIn_of _ (by decide +kernel)) ggX7_copyFrom_X5_copyFrom
set_option maxRecDepth 20000 in
theorem ggX7_copyFrom_X2_copyFrom : GoodIn wsX7_copyFrom wsX2_copyFrom := goodIn_r _ [34, 35, 36, 37, 38, 33, 39, 40, 41, 42, 43, 44, 45, 46, 47, 48, 49, 50, 51, 52, 53, 74, 75, 76] (by decide +kernel) (by decide +kernel)
set_option maxRecDepth 20000 in
theorem gX7_copyFrom_X2_copyFrom : GoodIn wsX7_copyFrom (wsV RX7 93 RX2 yX2_copyFrom wsX2_copyFrom) := goodIn_app (goodIn_of _ (by decide +kernel)) ggX7_copyFrom_X2_copyFrom
theorem dX7_copyFrom_0 : decode cX7_copyFrom 0 = .ok (.aload_n 1, 1) := by decide +kernel
theorem dX7_copyFrom_1 : decode cX7_copyFrom 1 = .ok (.getfield 9, 3) := by decide +kernel
theorem dX7_copyFrom_4 : decode cX7_copyFrom 4 = .ok (.iconst 0, 1) := by decide +kernel
theorem dX7_copyFrom_5 : decode cX7_copyFrom 5 = .ok (.aload_n 0, 1) := by decide +kernel
theorem dX7_copyFrom_6 : decode cX7_copyFrom 6 = .ok (.getfield 9, 3) := by decide +kernel
theorem dX7_copyFrom_9 : decode cX7_copyFrom 9 = .ok (.iconst 0, 1) := by decide +kernel
theorem dX7_copyFrom_10 : decode cX7_copyFrom 10 = .ok (.iconst 5, 1) := by decide +kernel
theorem dX7_copyFrom_11 : decode cX7_copyFrom 11 = .ok (.invokestatic 67, 3) := by decide +kernel
theorem dX7_copyFrom_14 : decode cX7_copyFrom 14 = .ok (.aload_n 1, 1) := by decide +kernel
theorem dX7_copyFrom_15 : decode cX7_copyFrom 15 = .ok (.getfield 15, 3) := by decide +kernel
theorem dX7_copyFrom_18 : decode cX7_copyFrom 18 = .ok (.iconst 0, 1) := by decide +kernel
theorem dX7_copyFrom_19 : decode cX7_copyFrom 19 = .ok (.aload_n 0, 1) := by decide +kernel
theorem dX7_copyFrom_20 : decode cX7_copyFrom 20 = .ok (.getfield 15, 3) := by decide +kernel
theorem dX7_copyFrom_23 : decode cX7_copyFrom 23 = .ok (.iconst 0, 1) := by decide +kernel
theorem dX7_copyFrom_24 : decode cX7_copyFrom 24 = .ok (.iconst 5, 1) := by decide +kernel
theorem dX7_copyFrom_25 : decode cX7_copyFrom 25 = .ok (.invokestatic 67, 3) := by decide +kernel
theorem dX7_copyFrom_28 : decode cX7_copyFrom 28 = .ok (.iconst 0, 1) := by decide +kernel
theorem dX7_copyFrom_29 : decode cX7_copyFrom 29 = .ok (.istore_n 2, 1) := by decide +kernel
theorem dX7_copyFrom_30 : decode cX7_copyFrom 30 = .ok (.iload_n 2, 1) := by decide +kernel
theorem dX7_copyFrom_31 : decode cX7_copyFrom 31 = .ok (.bipush 24, 2) := by decide +kernel
theorem dX7_copyFrom_33 : decode cX7_copyFrom 33 = .ok (.if_icmp .ge 21, 3) := by decide +kernel
theorem dX7_copyFrom_36 : decode cX7_copyFrom 36 = .ok (.aload_n 0, 1) := by decide +kernel
theorem dX7_copyFrom_37 : decode cX7_copyFrom 37 = .ok (.getfield 42, 3) := by decide +kernel
theorem dX7_copyFrom_40 : decode cX7_copyFrom 40 = .ok (.iload_n 2, 1) := by decide +kernel
theorem dX7_copyFrom_41 : decode cX7_copyFrom 41 = .ok (.aload_n 1, 1) := by decide +kernel
theorem dX7_copyFrom_42 : decode cX7_copyFrom 42 = .ok (.getfield 42, 3) := by decide +kernel
theorem dX7_copyFrom_45 : decode cX7_copyFrom 45 = .ok (.iload_n 2, 1) := by decide +kernel
theorem dX7_copyFrom_46 : decode cX7_copyFrom 46 = .ok (.aaload, 1) := by decide +kernel
theorem dX7_copyFrom_47 : decode cX7_copyFrom 47 = .ok (.aastore, 1) := by decide +kernel
theorem dX7_copyFrom_48 : decode cX7_copyFrom 48 = .ok (.iinc 2 1, 3) := by decide +kernel
theorem dX7_copyFrom_51 : decode cX7_copyFrom 51 = .ok (.goto (-21), 3) := by decide +kernel
theorem dX7_copyFrom_54 : decode cX7_copyFrom 54 = .ok (.aload_n 0, 1) := by decide +kernel
theorem dX7_copyFrom_55 : decode cX7_copyFrom 55 = .ok (.aload_n 1, 1) := by decide +kernel
theorem dX7_copyFrom_56 : decode cX7_copyFrom 56 = .ok (.getfield 49, 3) := by decide +kernel
theorem dX7_copyFrom_59 : decode cX7_copyFrom 59 = .ok (.putfield 49, 3) := by decide +kernel
theorem dX7_copyFrom_62 : decode cX7_copyFrom 62 = .ok (.aload_n 0, 1) := by decide +kernel
theorem dX7_copyFrom_63 : decode cX7_copyFrom 63 = .ok (.aload_n 1, 1) := by decide +kernel
theorem dX7_copyFrom_64 : decode cX7_copyFrom 64 = .ok (.getfield 53, 3) := by decide +kernel
theorem dX7_copyFrom_67 : decode cX7_copyFrom 67 = .ok (.putfield 53, 3) := by decide +kernel
theorem dX7_copyFrom_70 : decode cX7_copyFrom 70 = .ok (.aload_n 0, 1) := by decide +kernel
theorem dX7_copyFrom_71 : decode cX7_copyFrom 71 = .ok (.aload_n 1, 1) := by decide +kernel
theorem dX7_copyFrom_72 : decode cX7_copyFrom 72 = .ok (.getfield 56, 3) := by decide +kernel
theorem dX7_copyFrom_75 : decode cX7_copyFrom 75 = .ok (.putfield 56, 3) := by decide +kernel
theorem dX7_copyFrom_78 : decode cX7_copyFrom 78 = .ok (.aload_n 0, 1) := by decide +kernel
theorem dX7_copyFrom_79 : decode cX7_copyFrom 79 = .ok (.getfield 21, 3) := by decide +kernel
theorem dX7_copyFrom_82 : decode cX7_copyFrom 82 = .ok (.aload_n 1, 1) := by decide +kernel
theorem dX7_copyFrom_83 : decode cX7_copyFrom 83 = .ok (.getfield 21, 3) := by decide +kernel
theorem dX7_copyFrom_86 : decode cX7_copyFrom 86 = .ok (.invokevirtual 89, 3) := by decide +kernel
theorem dX7_copyFrom_89 : decode cX7_copyFrom 89 = .ok (.aload_n 0, 1) := by decide +kernel
theorem dX7_copyFrom_90 : decode cX7_copyFrom 90 = .ok (.getfield 30, 3) := by decide +kernel
theorem dX7_copyFrom_93 : decode cX7_copyFrom 93 = .ok (.aload_n 1, 1) := by decide +kernel
theorem dX7_copyFrom_94 : decode cX7_copyFrom 94 = .ok (.getfield 30, 3) := by decide +kernel
theorem dX7_copyFrom_97 : decode cX7_copyFrom 97 = .ok (.invokevirtual 93, 3) := by decide +kernel
theorem dX7_copyFrom_100 : decode cX7_copyFrom 100 = .ok (.aload_n 0, 1) := by decide +kernel
theorem dX7_copyFrom_101 : decode cX7_copyFrom 101 = .ok (.getfield 34, 3) := by decide +kernel
theorem dX7_copyFrom_104 : decode cX7_copyFrom 104 = .ok (.aload_n 1, 1) := by decide +kernel
theorem dX7_copyFrom_105 : decode cX7_copyFrom 105 = .ok (.getfield 34, 3) := by decide +kernel
theorem dX7_copyFrom_108 : decode cX7_copyFrom 108 = .ok (.invokevirtual 93, 3) := by decide +kernel
theorem dX7_copyFrom_111 : decode cX7_copyFrom 111 = .ok (.aload_n 0, 1) := by decide +kernel
theorem dX7_copyFrom_112 : decode cX7_copyFrom 112 = .ok (.getfield 37, 3) := by decide +kernel
theorem dX7_copyFrom_115 : decode cX7_copyFrom 115 = .ok (.aload_n 1, 1) := by decide +kernel
theorem dX7_copyFrom_116 : decode cX7_copyFrom 116 = .ok (.getfield 37, 3) := by decide +kernel
theorem dX7_copyFrom_119 : decode cX7_copyFrom 119 = .ok (.invokevirtual 93, 3) := by decide +kernel
theorem dX7_copyFrom_122 : decode cX7_copyFrom 122 = .ok (.return_, 1) := by decide +kernel
theorem dX7_addLine_0 : decode cX7_addLine 0 = .ok (.aload_n 0, 1) := by decide +kernel
theorem dX7_addLine_1 : decode cX7_addLine 1 = .ok (.getfield 53, 3) := by decide +kernel
theorem dX7_addLine_4 : decode cX7_addLine 4 = .ok (.bipush 24, 2) := by decide +kernel
theorem dX7_addLine_6 : decode cX7_addLine 6 = .ok (.if_icmp .lt 4, 3) := by decide +kernel
theorem dX7_addLine_9 : decode cX7_addLine 9 = .ok (.return_, 1) := by decide +kernel
theorem dX7_addLine_10 : decode cX7_addLine 10 = .ok (.aload_n 0, 1) := by decide +kernel
theorem dX7_addLine_11 : decode cX7_addLine 11 = .ok (.getfield 42, 3) := by decide +kernel
theorem dX7_addLine_14 : decode cX7_addLine 14 = .ok (.aload_n 0, 1) := by decide +kernel
theorem dX7_addLine_15 : decode cX7_addLine 15 = .ok (.getfield 53, 3) := by decide +kernel
theorem dX7_addLine_18 : decode cX7_addLine 18 = .ok (.aload_n 1, 1) := by decide +kernel
theorem dX7_addLine_19 : decode cX7_addLine 19 = .ok (.aastore, 1) := by decide +kernel
theorem dX7_addLine_20 : decode cX7_addLine 20 = .ok (.aload_n 0, 1) := by decide +kernel
theorem dX7_addLine_21 : decode cX7_addLine 21 = .ok (.dup, 1) := by decide +kernel
theorem dX7_addLine_22 : decode cX7_addLine 22 = .ok (.getfield 53, 3) := by decide +kernel
theorem dX7_addLine_25 : decode cX7_addLine 25 = .ok (.iconst 1, 1) := by decide +kernel
theorem dX7_addLine_26 : decode cX7_addLine 26 = .ok (.iadd, 1) := by decide +kernel
theorem dX7_addLine_27 : decode cX7_addLine 27 = .ok (.putfield 53, 3) := by decide +kernel
theorem dX7_addLine_30 : decode cX7_addLine 30 = .ok (.return_, 1) := by decide +kernel
theorem dX7_hasColumn_0 : decode cX7_hasColumn 0 = .ok (.iload_n 1, 1) := by decide +kernel
theorem dX7_hasColumn_1 : decode cX7_hasColumn 1 = .ok (.ifCond .lt 20, 3) := by decide +kernel
theorem dX7_hasColumn_4 : decode cX7_hasColumn 4 = .ok (.iload_n 1, 1) := by decide +kernel
theorem dX7_hasColumn_5 : decode cX7_hasColumn 5 = .ok (.aload_n 0, 1) := by decide +kernel
theorem dX7_hasColumn_6 : decode cX7_hasColumn 6 = .ok (.getfield 49, 3) := by decide +kernel
theorem dX7_hasColumn_9 : decode cX7_hasColumn 9 = .ok (.if_icmp .ge 12, 3) := by decide +kernel
theorem dX7_hasColumn_12 : decode cX7_hasColumn 12 = .ok (.iload_n 1, 1) := by decide +kernel
theorem dX7_hasColumn_13 : decode cX7_hasColumn 13 = .ok (.iconst 5, 1) := by decide +kernel
theorem dX7_hasColumn_14 : decode cX7_hasColumn 14 = .ok (.if_icmp .ge 7, 3) := by decide +kernel
theorem dX7_hasColumn_17 : decode cX7_hasColumn 17 = .ok (.iconst 1, 1) := by decide +kernel
theorem dX7_hasColumn_18 : decode cX7_hasColumn 18 = .ok (.goto 4, 3) := by decide +kernel
theorem dX7_hasColumn_21 : decode cX7_hasColumn 21 = .ok (.iconst 0, 1) := by decide +kernel
theorem dX7_hasColumn_22 : decode cX7_hasColumn 22 = .ok (.ireturn, 1) := by decide +kernel
theorem dX7_lineAt_0 : decode cX7_lineAt 0 = .ok (.iload_n 1, 1) := by decide +kernel
theorem dX7_lineAt_1 : decode cX7_lineAt 1 = .ok (.ifCond .lt 26, 3) := by decide +kernel
theorem dX7_lineAt_4 : decode cX7_lineAt 4 = .ok (.iload_n 1, 1) := by decide +kernel
theorem dX7_lineAt_5 : decode cX7_lineAt 5 = .ok (.aload_n 0, 1) := by decide +kernel
theorem dX7_lineAt_6 : decode cX7_lineAt 6 = .ok (.getfield 53, 3) := by decide +kernel
theorem dX7_lineAt_9 : decode cX7_lineAt 9 = .ok (.if_icmp .ge 18, 3) := by decide +kernel
theorem dX7_lineAt_12 : decode cX7_lineAt 12 = .ok (.iload_n 1, 1) := by decide +kernel
theorem dX7_lineAt_13 : decode cX7_lineAt 13 = .ok (.bipush 24, 2) := by decide +kernel
theorem dX7_lineAt_15 : decode cX7_lineAt 15 = .ok (.if_icmp .ge 12, 3) := by decide +kernel
theorem dX7_lineAt_18 : decode cX7_lineAt 18 = .ok (.aload_n 0, 1) := by decide +kernel
theorem dX7_lineAt_19 : decode cX7_lineAt 19 = .ok (.getfield 42, 3) := by decide +kernel
theorem dX7_lineAt_22 : decode cX7_lineAt 22 = .ok (.iload_n 1, 1) := by decide +kernel
theorem dX7_lineAt_23 : decode cX7_lineAt 23 = .ok (.aaload, 1) := by decide +kernel
theorem dX7_lineAt_24 : decode cX7_lineAt 24 = .ok (.goto 4, 3) := by decide +kernel
theorem dX7_lineAt_27 : decode cX7_lineAt 27 = .ok (.aconst_null, 1) := by decide +kernel
theorem dX7_lineAt_28 : decode cX7_lineAt 28 = .ok (.areturn, 1) := by decide +kernel
set_option maxRecDepth 20000 in
theorem ggX7_typeOf_X7_hasColumn : GoodIn wsX7_typeOf wsX7_hasColumn := goodIn_r _ [8, 9, 41, 42, 43, 44, 45, 46, 47, 48, 49, 50, 51] (by decide +kernel) (by decide +kernel)
set_option maxRecDepth 20000 in
theorem gX7_typeOf_X7_hasColumn : GoodIn wsX7_typeOf (wsV RX7 96 RX7 yX7_hasColumn wsX7_hasColumn) := goodIn_app (goodIn_of _ (by decide +kernel)) ggX7_typeOf_X7_hasColumn
set_option maxRecDepth 20000 in
theorem ggX7_typeOf_X7_toldOrGuess : GoodIn wsX7_typeOf wsX7_toldOrGuess := goodIn_r _ [13, 14, 4, 5, 6, 7, 8, 9, 15, 16, 17, 18, 19, 20, 21, 22, 23, 24, 25, 26, 27, 28, 29, 30, 31, 32, 33, 34, 35, 36, 37, 38, 39, 40, 41, 42, 43, 44, 45, 46, 47, 48, 49, 50, 51, 61, 62, 63, 64, 65] (by decide +kernel) (by decide +kernel)
set_option maxRecDepth 20000 in
theorem gX7_typeOf_X7_toldOrGuess : GoodIn wsX7_typeOf (wsV RX7 103 RX7 yX7_toldOrGuess wsX7_toldOrGuess) := goodIn_app (goodIn_of _ (by decide +kernel)) ggX7_typeOf_X7_toldOrGuess
theorem dX7_typeOf_0 : decode cX7_typeOf 0 = .ok (.aload_n 0, 1) := by decide +kernel
theorem dX7_typeOf_1 : decode cX7_typeOf 1 = .ok (.iload_n 1, 1) := by decide +kernel
theorem dX7_typeOf_2 : decode cX7_typeOf 2 = .ok (.invokevirtual 96, 3) := by decide +kernel
theorem dX7_typeOf_5 : decode cX7_typeOf 5 = .ok (.ifCond .ne 5, 3) := by decide +kernel
theorem dX7_typeOf_8 : decode cX7_typeOf 8 = .ok (.iconst 4, 1) := by decide +kernel
theorem dX7_typeOf_9 : decode cX7_typeOf 9 = .ok (.ireturn, 1) := by decide +kernel
theorem dX7_typeOf_10 : decode cX7_typeOf 10 = .ok (.aload_n 0, 1) := by decide +kernel
theorem dX7_typeOf_11 : decode cX7_typeOf 11 = .ok (.getfield 21, 3) := by decide +kernel
theorem dX7_typeOf_14 : decode cX7_typeOf 14 = .ok (.getfield 100, 3) := by decide +kernel
theorem dX7_typeOf_17 : decode cX7_typeOf 17 = .ok (.iload_n 1, 1) := by decide +kernel
theorem dX7_typeOf_18 : decode cX7_typeOf 18 = .ok (.iaload, 1) := by decide +kernel
theorem dX7_typeOf_19 : decode cX7_typeOf 19 = .ok (.istore_n 2, 1) := by decide +kernel
theorem dX7_typeOf_20 : decode cX7_typeOf 20 = .ok (.iload_n 2, 1) := by decide +kernel
theorem dX7_typeOf_21 : decode cX7_typeOf 21 = .ok (.ifCond .eq 7, 3) := by decide +kernel
theorem dX7_typeOf_24 : decode cX7_typeOf 24 = .ok (.iload_n 2, 1) := by decide +kernel
theorem dX7_typeOf_25 : decode cX7_typeOf 25 = .ok (.goto 12, 3) := by decide +kernel
theorem dX7_typeOf_28 : decode cX7_typeOf 28 = .ok (.aload_n 0, 1) := by decide +kernel
theorem dX7_typeOf_29 : decode cX7_typeOf 29 = .ok (.iload_n 1, 1) := by decide +kernel
theorem dX7_typeOf_30 : decode cX7_typeOf 30 = .ok (.aload_n 0, 1) := by decide +kernel
theorem dX7_typeOf_31 : decode cX7_typeOf 31 = .ok (.getfield 56, 3) := by decide +kernel
theorem dX7_typeOf_34 : decode cX7_typeOf 34 = .ok (.invokevirtual 103, 3) := by decide +kernel
theorem dX7_typeOf_37 : decode cX7_typeOf 37 = .ok (.ireturn, 1) := by decide +kernel
set_option maxRecDepth 20000 in
theorem ggX7_toldOrGuess_X7_hasColumn : GoodIn wsX7_toldOrGuess wsX7_hasColumn := goodIn_r _ [6, 7, 34, 35, 36, 37, 38, 39, 40, 41, 42, 43, 44] (by decide +kernel) (by decide +kernel)
set_option maxRecDepth 20000 in
theorem gX7_toldOrGuess_X7_hasColumn : GoodIn wsX7_toldOrGuess (wsV RX7 96 RX7 yX7_hasColumn wsX7_hasColumn) := goodIn_app (goodIn_of _ (by decide +kernel)) ggX7_toldOrGuess_X7_hasColumn
set_option maxRecDepth 20000 in
theorem ggX7_toldOrGuess_X7_guessBy : GoodIn wsX7_toldOrGuess wsX7_guessBy := goodIn_r _ [11, 12, 13, 14, 15, 5, 16, 17, 18, 19, 20, 21, 22, 23, 24, 25, 26, 27, 28, 29, 30, 31, 32, 33, 34, 35, 36, 37, 38, 39, 40, 41, 42, 43, 44, 45, 46, 47, 48, 49] (by decide +kernel) (by decide +kernel)
set_option maxRecDepth 20000 in
theorem gX7_toldOrGuess_X7_guessBy : GoodIn wsX7_toldOrGuess (wsV RX7 107 RX7 yX7_guessBy wsX7_guessBy) := goodIn_app (goodIn_of _ (by decide +kernel)) ggX7_toldOrGuess_X7_guessBy
theorem dX7_toldOrGuess_0 : decode cX7_toldOrGuess 0 = .ok (.aload_n 0, 1) := by decide +kernel
theorem dX7_toldOrGuess_1 : decode cX7_toldOrGuess 1 = .ok (.iload_n 1, 1) := by decide +kernel
theorem dX7_toldOrGuess_2 : decode cX7_toldOrGuess 2 = .ok (.invokevirtual 96, 3) := by decide +kernel
theorem dX7_toldOrGuess_5 : decode cX7_toldOrGuess 5 = .ok (.ifCond .ne 5, 3) := by decide +kernel
theorem dX7_toldOrGuess_8 : decode cX7_toldOrGuess 8 = .ok (.iconst 4, 1) := by decide +kernel
theorem dX7_toldOrGuess_9 : decode cX7_toldOrGuess 9 = .ok (.ireturn, 1) := by decide +kernel
theorem dX7_toldOrGuess_10 : decode cX7_toldOrGuess 10 = .ok (.aload_n 0, 1) := by decide +kernel
theorem dX7_toldOrGuess_11 : decode cX7_toldOrGuess 11 = .ok (.getfield 15, 3) := by decide +kernel
theorem dX7_toldOrGuess_14 : decode cX7_toldOrGuess 14 = .ok (.iload_n 1, 1) := by decide +kernel
theorem dX7_toldOrGuess_15 : decode cX7_toldOrGuess 15 = .ok (.iaload, 1) := by decide +kernel
theorem dX7_toldOrGuess_16 : decode cX7_toldOrGuess 16 = .ok (.ifCond .eq 12, 3) := by decide +kernel
theorem dX7_toldOrGuess_19 : decode cX7_toldOrGuess 19 = .ok (.aload_n 0, 1) := by decide +kernel
theorem dX7_toldOrGuess_20 : decode cX7_toldOrGuess 20 = .ok (.getfield 15, 3) := by decide +kernel
theorem dX7_toldOrGuess_23 : decode cX7_toldOrGuess 23 = .ok (.iload_n 1, 1) := by decide +kernel
theorem dX7_toldOrGuess_24 : decode cX7_toldOrGuess 24 = .ok (.iaload, 1) := by decide +kernel
theorem dX7_toldOrGuess_25 : decode cX7_toldOrGuess 25 = .ok (.goto 9, 3) := by decide +kernel
theorem dX7_toldOrGuess_28 : decode cX7_toldOrGuess 28 = .ok (.aload_n 0, 1) := by decide +kernel
theorem dX7_toldOrGuess_29 : decode cX7_toldOrGuess 29 = .ok (.iload_n 1, 1) := by decide +kernel
theorem dX7_toldOrGuess_30 : decode cX7_toldOrGuess 30 = .ok (.iload_n 2, 1) := by decide +kernel
theorem dX7_toldOrGuess_31 : decode cX7_toldOrGuess 31 = .ok (.invokevirtual 107, 3) := by decide +kernel
theorem dX7_toldOrGuess_34 : decode cX7_toldOrGuess 34 = .ok (.ireturn, 1) := by decide +kernel
set_option maxRecDepth 20000 in
theorem ggX7_guessBy_X7_countForms : GoodIn wsX7_guessBy wsX7_countForms := goodIn_r _ [6, 1, 7, 8, 9, 10, 11, 12, 13, 14, 15, 5, 16, 17, 18, 19, 20, 21, 22, 23, 24, 25, 26, 27, 28, 29, 30, 31, 32, 33, 34, 35, 36, 37, 38, 39] (by decide +kernel) (by decide +kernel)
set_option maxRecDepth 20000 in
theorem gX7_guessBy_X7_countForms : GoodIn wsX7_guessBy (wsV RX7 110 RX7 yX7_countForms wsX7_countForms) := goodIn_app (goodIn_of _ (by decide +kernel)) ggX7_guessBy_X7_countForms
theorem dX7_guessBy_0 : decode cX7_guessBy 0 = .ok (.aload_n 0, 1) := by decide +kernel
theorem dX7_guessBy_1 : decode cX7_guessBy 1 = .ok (.iload_n 1, 1) := by decide +kernel
theorem dX7_guessBy_2 : decode cX7_guessBy 2 = .ok (.iload_n 2, 1) := by decide +kernel
theorem dX7_guessBy_3 : decode cX7_guessBy 3 = .ok (.invokevirtual 110, 3) := by decide +kernel
theorem dX7_guessBy_6 : decode cX7_guessBy 6 = .ok (.iconst 4, 1) := by decide +kernel
theorem dX7_guessBy_7 : decode cX7_guessBy 7 = .ok (.istore_n 3, 1) := by decide +kernel
theorem dX7_guessBy_8 : decode cX7_guessBy 8 = .ok (.iconst 3, 1) := by decide +kernel
theorem dX7_guessBy_9 : decode cX7_guessBy 9 = .ok (.istore 4, 2) := by decide +kernel
theorem dX7_guessBy_11 : decode cX7_guessBy 11 = .ok (.iload 4, 2) := by decide +kernel
theorem dX7_guessBy_13 : decode cX7_guessBy 13 = .ok (.iconst 1, 1) := by decide +kernel
theorem dX7_guessBy_14 : decode cX7_guessBy 14 = .ok (.if_icmp .lt 28, 3) := by decide +kernel
theorem dX7_guessBy_17 : decode cX7_guessBy 17 = .ok (.aload_n 0, 1) := by decide +kernel
theorem dX7_guessBy_18 : decode cX7_guessBy 18 = .ok (.getfield 46, 3) := by decide +kernel
theorem dX7_guessBy_21 : decode cX7_guessBy 21 = .ok (.iload 4, 2) := by decide +kernel
theorem dX7_guessBy_23 : decode cX7_guessBy 23 = .ok (.iaload, 1) := by decide +kernel
theorem dX7_guessBy_24 : decode cX7_guessBy 24 = .ok (.aload_n 0, 1) := by decide +kernel
theorem dX7_guessBy_25 : decode cX7_guessBy 25 = .ok (.getfield 46, 3) := by decide +kernel
theorem dX7_guessBy_28 : decode cX7_guessBy 28 = .ok (.iload_n 3, 1) := by decide +kernel
theorem dX7_guessBy_29 : decode cX7_guessBy 29 = .ok (.iaload, 1) := by decide +kernel
theorem dX7_guessBy_30 : decode cX7_guessBy 30 = .ok (.if_icmp .le 6, 3) := by decide +kernel
theorem dX7_guessBy_33 : decode cX7_guessBy 33 = .ok (.iload 4, 2) := by decide +kernel
theorem dX7_guessBy_35 : decode cX7_guessBy 35 = .ok (.istore_n 3, 1) := by decide +kernel
theorem dX7_guessBy_36 : decode cX7_guessBy 36 = .ok (.iinc 4 (-1), 3) := by decide +kernel
theorem dX7_guessBy_39 : decode cX7_guessBy 39 = .ok (.goto (-28), 3) := by decide +kernel
theorem dX7_guessBy_42 : decode cX7_guessBy 42 = .ok (.iload_n 3, 1) := by decide +kernel
theorem dX7_guessBy_43 : decode cX7_guessBy 43 = .ok (.ireturn, 1) := by decide +kernel
set_option maxRecDepth 20000 in
theorem ggX7_votesFor_X7_countForms : GoodIn wsX7_votesFor wsX7_countForms := goodIn_r _ [6, 1, 7, 8, 9, 10, 11, 12, 13, 14, 15, 5, 16, 17, 18, 19, 20, 21, 22, 23, 24, 25, 26, 27, 28, 29, 30, 31, 32, 33, 34, 35, 36, 37, 38, 39] (by decide +kernel) (by decide +kernel)
set_option maxRecDepth 20000 in
theorem gX7_votesFor_X7_countForms : GoodIn wsX7_votesFor (wsV RX7 110 RX7 yX7_countForms wsX7_countForms) := goodIn_app (goodIn_of _ (by decide +kernel)) ggX7_votesFor_X7_countForms
theorem dX7_votesFor_0 : decode cX7_votesFor 0 = .ok (.aload_n 0, 1) := by decide +kernel
theorem dX7_votesFor_1 : decode cX7_votesFor 1 = .ok (.iload_n 1, 1) := by decide +kernel
theorem dX7_votesFor_2 : decode cX7_votesFor 2 = .ok (.iload_n 3, 1) := by decide +kernel
theorem dX7_votesFor_3 : decode cX7_votesFor 3 = .ok (.invokevirtual 110, 3) := by decide +kernel
theorem dX7_votesFor_6 : decode cX7_votesFor 6 = .ok (.iload_n 2, 1) := by decide +kernel
theorem dX7_votesFor_7 : decode cX7_votesFor 7 = .ok (.ifCond .lt 21, 3) := by decide +kernel
theorem dX7_votesFor_10 : decode cX7_votesFor 10 = .ok (.iload_n 2, 1) := by decide +kernel
theorem dX7_votesFor_11 : decode cX7_votesFor 11 = .ok (.aload_n 0, 1) := by decide +kernel
theorem dX7_votesFor_12 : decode cX7_votesFor 12 = .ok (.getfield 46, 3) := by decide +kernel
theorem dX7_votesFor_15 : decode cX7_votesFor 15 = .ok (.arraylength, 1) := by decide +kernel
theorem dX7_votesFor_16 : decode cX7_votesFor 16 = .ok (.if_icmp .ge 12, 3) := by decide +kernel
theorem dX7_votesFor_19 : decode cX7_votesFor 19 = .ok (.aload_n 0, 1) := by decide +kernel
theorem dX7_votesFor_20 : decode cX7_votesFor 20 = .ok (.getfield 46, 3) := by decide +kernel
theorem dX7_votesFor_23 : decode cX7_votesFor 23 = .ok (.iload_n 2, 1) := by decide +kernel
theorem dX7_votesFor_24 : decode cX7_votesFor 24 = .ok (.iaload, 1) := by decide +kernel
theorem dX7_votesFor_25 : decode cX7_votesFor 25 = .ok (.goto 4, 3) := by decide +kernel
theorem dX7_votesFor_28 : decode cX7_votesFor 28 = .ok (.iconst 0, 1) := by decide +kernel
theorem dX7_votesFor_29 : decode cX7_votesFor 29 = .ok (.ireturn, 1) := by decide +kernel
set_option maxRecDepth 20000 in
theorem ggX7_countForms_J7_fill_53178 : GoodIn wsX7_countForms wsJ7_fill_53178 := goodIn_r _ [7] (by decide +kernel) (by decide +kernel)
set_option maxRecDepth 20000 in
theorem gX7_countForms_J7_fill_53178 : GoodIn wsX7_countForms (va_wsS RX7 73 yJ7_fill_53178 wsJ7_fill_53178) := goodIn_app (goodIn_of _ (by decide +kernel)) ggX7_countForms_J7_fill_53178
set_option maxRecDepth 20000 in
theorem ggX7_countForms_X7_lineAt : GoodIn wsX7_countForms wsX7_lineAt := goodIn_r _ [12, 2, 13, 20, 21, 22, 23, 24, 25, 26, 27, 28, 29, 30] (by decide +kernel) (by decide +kernel)
set_option maxRecDepth 20000 in
theorem gX7_countForms_X7_lineAt : GoodIn wsX7_countForms (wsV RX7 114 RX7 yX7_lineAt wsX7_lineAt) := goodIn_app (goodIn_of _ (by decide +kernel)) ggX7_countForms_X7_lineAt
set_option maxRecDepth 20000 in
theorem ggX7_countForms_X4_fieldAt : GoodIn wsX7_countForms wsX4_fieldAt := goodIn_r _ [18, 19, 35] (by decide +kernel) (by decide +kernel)
set_option maxRecDepth 20000 in
theorem gX7_countForms_X4_fieldAt : GoodIn wsX7_countForms (wsV RX7 118 RX4 yX4_fieldAt wsX4_fieldAt) := goodIn_app (goodIn_of _ (by decide +kernel)) ggX7_countForms_X4_fieldAt
theorem dX7_countForms_0 : decode cX7_countForms 0 = .ok (.aload_n 0, 1) := by decide +kernel
theorem dX7_countForms_1 : decode cX7_countForms 1 = .ok (.getfield 46, 3) := by decide +kernel
theorem dX7_countForms_4 : decode cX7_countForms 4 = .ok (.iconst 0, 1) := by decide +kernel
theorem dX7_countForms_5 : decode cX7_countForms 5 = .ok (.invokestatic 73, 3) := by decide +kernel
theorem dX7_countForms_8 : decode cX7_countForms 8 = .ok (.iconst 0, 1) := by decide +kernel
theorem dX7_countForms_9 : decode cX7_countForms 9 = .ok (.istore_n 3, 1) := by decide +kernel
theorem dX7_countForms_10 : decode cX7_countForms 10 = .ok (.iload_n 3, 1) := by decide +kernel
theorem dX7_countForms_11 : decode cX7_countForms 11 = .ok (.iload_n 2, 1) := by decide +kernel
theorem dX7_countForms_12 : decode cX7_countForms 12 = .ok (.if_icmp .ge 81, 3) := by decide +kernel
theorem dX7_countForms_15 : decode cX7_countForms 15 = .ok (.iload_n 3, 1) := by decide +kernel
theorem dX7_countForms_16 : decode cX7_countForms 16 = .ok (.aload_n 0, 1) := by decide +kernel
theorem dX7_countForms_17 : decode cX7_countForms 17 = .ok (.getfield 53, 3) := by decide +kernel
theorem dX7_countForms_20 : decode cX7_countForms 20 = .ok (.if_icmp .ge 73, 3) := by decide +kernel
theorem dX7_countForms_23 : decode cX7_countForms 23 = .ok (.aload_n 0, 1) := by decide +kernel
theorem dX7_countForms_24 : decode cX7_countForms 24 = .ok (.iload_n 3, 1) := by decide +kernel
theorem dX7_countForms_25 : decode cX7_countForms 25 = .ok (.invokevirtual 114, 3) := by decide +kernel
theorem dX7_countForms_28 : decode cX7_countForms 28 = .ok (.astore 4, 2) := by decide +kernel
theorem dX7_countForms_30 : decode cX7_countForms 30 = .ok (.aload 4, 2) := by decide +kernel
theorem dX7_countForms_32 : decode cX7_countForms 32 = .ok (.ifnonnull 7, 3) := by decide +kernel
theorem dX7_countForms_35 : decode cX7_countForms 35 = .ok (.aconst_null, 1) := by decide +kernel
theorem dX7_countForms_36 : decode cX7_countForms 36 = .ok (.goto 9, 3) := by decide +kernel
theorem dX7_countForms_39 : decode cX7_countForms 39 = .ok (.aload 4, 2) := by decide +kernel
theorem dX7_countForms_41 : decode cX7_countForms 41 = .ok (.iload_n 1, 1) := by decide +kernel
theorem dX7_countForms_42 : decode cX7_countForms 42 = .ok (.invokevirtual 118, 3) := by decide +kernel
theorem dX7_countForms_45 : decode cX7_countForms 45 = .ok (.astore 5, 2) := by decide +kernel
theorem dX7_countForms_47 : decode cX7_countForms 47 = .ok (.aload 5, 2) := by decide +kernel
theorem dX7_countForms_49 : decode cX7_countForms 49 = .ok (.ifnull 38, 3) := by decide +kernel
theorem dX7_countForms_52 : decode cX7_countForms 52 = .ok (.aload 5, 2) := by decide +kernel
theorem dX7_countForms_54 : decode cX7_countForms 54 = .ok (.getfield 122, 3) := by decide +kernel
theorem dX7_countForms_57 : decode cX7_countForms 57 = .ok (.ifCond .lt 30, 3) := by decide +kernel
theorem dX7_countForms_60 : decode cX7_countForms 60 = .ok (.aload 5, 2) := by decide +kernel
theorem dX7_countForms_62 : decode cX7_countForms 62 = .ok (.getfield 122, 3) := by decide +kernel
theorem dX7_countForms_65 : decode cX7_countForms 65 = .ok (.aload_n 0, 1) := by decide +kernel
theorem dX7_countForms_66 : decode cX7_countForms 66 = .ok (.getfield 46, 3) := by decide +kernel
theorem dX7_countForms_69 : decode cX7_countForms 69 = .ok (.arraylength, 1) := by decide +kernel
theorem dX7_countForms_70 : decode cX7_countForms 70 = .ok (.if_icmp .ge 17, 3) := by decide +kernel
theorem dX7_countForms_73 : decode cX7_countForms 73 = .ok (.aload_n 0, 1) := by decide +kernel
theorem dX7_countForms_74 : decode cX7_countForms 74 = .ok (.getfield 46, 3) := by decide +kernel
theorem dX7_countForms_77 : decode cX7_countForms 77 = .ok (.aload 5, 2) := by decide +kernel
theorem dX7_countForms_79 : decode cX7_countForms 79 = .ok (.getfield 122, 3) := by decide +kernel
theorem dX7_countForms_82 : decode cX7_countForms 82 = .ok (.dup2, 1) := by decide +kernel
theorem dX7_countForms_83 : decode cX7_countForms 83 = .ok (.iaload, 1) := by decide +kernel
theorem dX7_countForms_84 : decode cX7_countForms 84 = .ok (.iconst 1, 1) := by decide +kernel
theorem dX7_countForms_85 : decode cX7_countForms 85 = .ok (.iadd, 1) := by decide +kernel
theorem dX7_countForms_86 : decode cX7_countForms 86 = .ok (.iastore, 1) := by decide +kernel
theorem dX7_countForms_87 : decode cX7_countForms 87 = .ok (.iinc 3 1, 3) := by decide +kernel
theorem dX7_countForms_90 : decode cX7_countForms 90 = .ok (.goto (-80), 3) := by decide +kernel
theorem dX7_countForms_93 : decode cX7_countForms 93 = .ok (.return_, 1) := by decide +kernel
set_option maxRecDepth 20000 in
theorem ggX7_importLines_X7_settle : GoodIn wsX7_importLines wsX7_settle := goodIn_r _ [8, 9, 10, 11, 12, 13, 7, 14, 15, 16, 17, 18, 19, 20, 21, 22, 23, 24, 25, 26, 27, 28, 2, 29, 30, 31, 32, 33, 34, 35, 36, 37, 38, 39, 40, 41, 42, 43, 44, 106, 107, 108, 109, 110, 111, 112, 113, 114, 115, 116, 97, 98, 99, 100, 101, 102, 103, 104, 105, 117, 118, 119, 120, 121] (by decide +kernel) (by decide +kernel)
set_option maxRecDepth 20000 in
theorem gX7_importLines_X7_settle : GoodIn wsX7_importLines (wsV RX7 130 RX7 yX7_settle wsX7_settle) := goodIn_app (goodIn_of _ (by decide +kernel)) ggX7_importLines_X7_settle
set_option maxRecDepth 20000 in
theorem ggX7_importLines_X7_importNext : GoodIn wsX7_importLines wsX7_importNext := goodIn_r _ [48, 1, 49, 9, 34, 35, 36, 7, 37, 2, 38, 50, 51, 52, 53, 54, 55, 56, 57, 58, 59, 60, 61, 62, 63, 10, 29, 39, 40, 41, 42, 43, 44, 64, 65, 66, 67, 68, 69, 70, 71, 72, 73, 74, 16, 17, 18, 19, 75, 76, 77, 78, 79, 80, 81, 82, 83, 84, 85, 86, 87, 88, 89, 90, 91, 92, 93, 94, 95, 96, 97, 98, 99, 100, 101, 102, 103, 104, 105, 121, 106, 107, 108, 109, 110, 111, 112, 113, 114, 115, 116, 117, 118, 119, 120] (by decide +kernel) (by decide +kernel)
set_option maxRecDepth 20000 in
theorem gX7_importLines_X7_importNext : GoodIn wsX7_importLines (wsV RX7 134 RX7 yX7_importNext wsX7_importNext) := goodIn_app (goodIn_of _ (by decide +kernel)) ggX7_importLines_X7_importNext
theorem dX7_importLines_0 : decode cX7_importLines 0 = .ok (.iconst 0, 1) := by decide +kernel
theorem dX7_importLines_1 : decode cX7_importLines 1 = .ok (.istore_n 3, 1) := by decide +kernel
theorem dX7_importLines_2 : decode cX7_importLines 2 = .ok (.iload_n 3, 1) := by decide +kernel
theorem dX7_importLines_3 : decode cX7_importLines 3 = .ok (.iload_n 2, 1) := by decide +kernel
theorem dX7_importLines_4 : decode cX7_importLines 4 = .ok (.if_icmp .ge 52, 3) := by decide +kernel
theorem dX7_importLines_7 : decode cX7_importLines 7 = .ok (.aload_n 1, 1) := by decide +kernel
theorem dX7_importLines_8 : decode cX7_importLines 8 = .ok (.getfield 127, 3) := by decide +kernel
theorem dX7_importLines_11 : decode cX7_importLines 11 = .ok (.aload_n 0, 1) := by decide +kernel
theorem dX7_importLines_12 : decode cX7_importLines 12 = .ok (.getfield 53, 3) := by decide +kernel
theorem dX7_importLines_15 : decode cX7_importLines 15 = .ok (.if_icmp .ge 41, 3) := by decide +kernel
theorem dX7_importLines_18 : decode cX7_importLines 18 = .ok (.aload_n 1, 1) := by decide +kernel
theorem dX7_importLines_19 : decode cX7_importLines 19 = .ok (.getfield 127, 3) := by decide +kernel
theorem dX7_importLines_22 : decode cX7_importLines 22 = .ok (.bipush 24, 2) := by decide +kernel
theorem dX7_importLines_24 : decode cX7_importLines 24 = .ok (.if_icmp .ge 32, 3) := by decide +kernel
theorem dX7_importLines_27 : decode cX7_importLines 27 = .ok (.aload_n 1, 1) := by decide +kernel
theorem dX7_importLines_28 : decode cX7_importLines 28 = .ok (.getfield 127, 3) := by decide +kernel
theorem dX7_importLines_31 : decode cX7_importLines 31 = .ok (.ifCond .ne 14, 3) := by decide +kernel
theorem dX7_importLines_34 : decode cX7_importLines 34 = .ok (.aload_n 0, 1) := by decide +kernel
theorem dX7_importLines_35 : decode cX7_importLines 35 = .ok (.aload_n 1, 1) := by decide +kernel
theorem dX7_importLines_36 : decode cX7_importLines 36 = .ok (.aload_n 0, 1) := by decide +kernel
theorem dX7_importLines_37 : decode cX7_importLines 37 = .ok (.getfield 56, 3) := by decide +kernel
theorem dX7_importLines_40 : decode cX7_importLines 40 = .ok (.iconst (-1), 1) := by decide +kernel
theorem dX7_importLines_41 : decode cX7_importLines 41 = .ok (.iconst 0, 1) := by decide +kernel
theorem dX7_importLines_42 : decode cX7_importLines 42 = .ok (.invokevirtual 130, 3) := by decide +kernel
theorem dX7_importLines_45 : decode cX7_importLines 45 = .ok (.aload_n 0, 1) := by decide +kernel
theorem dX7_importLines_46 : decode cX7_importLines 46 = .ok (.aload_n 1, 1) := by decide +kernel
theorem dX7_importLines_47 : decode cX7_importLines 47 = .ok (.invokevirtual 134, 3) := by decide +kernel
theorem dX7_importLines_50 : decode cX7_importLines 50 = .ok (.iinc 3 1, 3) := by decide +kernel
theorem dX7_importLines_53 : decode cX7_importLines 53 = .ok (.goto (-51), 3) := by decide +kernel
theorem dX7_importLines_56 : decode cX7_importLines 56 = .ok (.iload_n 3, 1) := by decide +kernel
theorem dX7_importLines_57 : decode cX7_importLines 57 = .ok (.ireturn, 1) := by decide +kernel
set_option maxRecDepth 20000 in
theorem ggX7_rehearse_X5_restart : GoodIn wsX7_rehearse wsX5_restart := goodIn_r _ [8, 9, 10, 11, 12, 13, 14, 15, 114, 115, 116, 117, 118, 119, 120, 121, 122] (by decide +kernel) (by decide +kernel)
set_option maxRecDepth 20000 in
theorem gX7_rehearse_X5_restart : GoodIn wsX7_rehearse (wsV RX7 79 RX5 yX5_restart wsX5_restart) := goodIn_app (goodIn_of _ (by decide +kernel)) ggX7_rehearse_X5_restart
set_option maxRecDepth 20000 in
theorem ggX7_rehearse_X7_settle : GoodIn wsX7_rehearse wsX7_settle := goodIn_r _ [20, 21, 22, 23, 24, 25, 19, 26, 27, 28, 29, 30, 31, 32, 33, 34, 35, 36, 37, 38, 39, 40, 3, 41, 42, 13, 14, 15, 43, 44, 45, 46, 47, 48, 49, 50, 51, 52, 53, 103, 104, 105, 106, 107, 108, 109, 110, 111, 112, 113, 114, 115, 116, 117, 118, 119, 120, 121, 122, 123, 124, 125, 126, 127] (by decide +kernel) (by decide +kernel)
set_option maxRecDepth 20000 in
theorem gX7_rehearse_X7_settle : GoodIn wsX7_rehearse (wsV RX7 130 RX7 yX7_settle wsX7_settle) := goodIn_app (goodIn_of _ (by decide +kernel)) ggX7_rehearse_X7_settle
set_option maxRecDepth 20000 in
theorem ggX7_rehearse_X7_importNext : GoodIn wsX7_rehearse wsX7_importNext := goodIn_r _ [57, 58, 59, 21, 43, 44, 45, 19, 46, 3, 47, 60, 61, 62, 7, 63, 9, 64, 65, 66, 67, 68, 69, 70, 71, 22, 41, 48, 49, 50, 51, 52, 53, 72, 73, 74, 75, 76, 77, 78, 79, 80, 81, 2, 28, 29, 30, 31, 82, 83, 84, 85, 86, 87, 88, 89, 90, 10, 91, 92, 93, 94, 95, 96, 97, 98, 99, 100, 101, 102, 114, 115, 116, 117, 118, 119, 120, 121, 122, 127, 103, 104, 105, 106, 107, 108, 109, 110, 111, 112, 113, 123, 124, 125, 126] (by decide +kernel) (by decide +kernel)
set_option maxRecDepth 20000 in
theorem gX7_rehearse_X7_importNext : GoodIn wsX7_rehearse (wsV RX7 134 RX7 yX7_importNext wsX7_importNext) := goodIn_app (goodIn_of _ (by decide +kernel)) ggX7_rehearse_X7_importNext
theorem dX7_rehearse_0 : decode cX7_rehearse 0 = .ok (.aload_n 1, 1) := by decide +kernel
theorem dX7_rehearse_1 : decode cX7_rehearse 1 = .ok (.invokevirtual 79, 3) := by decide +kernel
theorem dX7_rehearse_4 : decode cX7_rehearse 4 = .ok (.aload_n 1, 1) := by decide +kernel
theorem dX7_rehearse_5 : decode cX7_rehearse 5 = .ok (.aload_n 0, 1) := by decide +kernel
theorem dX7_rehearse_6 : decode cX7_rehearse 6 = .ok (.getfield 21, 3) := by decide +kernel
theorem dX7_rehearse_9 : decode cX7_rehearse 9 = .ok (.getfield 82, 3) := by decide +kernel
theorem dX7_rehearse_12 : decode cX7_rehearse 12 = .ok (.putfield 82, 3) := by decide +kernel
theorem dX7_rehearse_15 : decode cX7_rehearse 15 = .ok (.aload_n 0, 1) := by decide +kernel
theorem dX7_rehearse_16 : decode cX7_rehearse 16 = .ok (.aload_n 1, 1) := by decide +kernel
theorem dX7_rehearse_17 : decode cX7_rehearse 17 = .ok (.iload_n 2, 1) := by decide +kernel
theorem dX7_rehearse_18 : decode cX7_rehearse 18 = .ok (.iload_n 3, 1) := by decide +kernel
theorem dX7_rehearse_19 : decode cX7_rehearse 19 = .ok (.iload 4, 2) := by decide +kernel
theorem dX7_rehearse_21 : decode cX7_rehearse 21 = .ok (.invokevirtual 130, 3) := by decide +kernel
theorem dX7_rehearse_24 : decode cX7_rehearse 24 = .ok (.iconst 0, 1) := by decide +kernel
theorem dX7_rehearse_25 : decode cX7_rehearse 25 = .ok (.istore 5, 2) := by decide +kernel
theorem dX7_rehearse_27 : decode cX7_rehearse 27 = .ok (.iload 5, 2) := by decide +kernel
theorem dX7_rehearse_29 : decode cX7_rehearse 29 = .ok (.aload_n 0, 1) := by decide +kernel
theorem dX7_rehearse_30 : decode cX7_rehearse 30 = .ok (.getfield 53, 3) := by decide +kernel
theorem dX7_rehearse_33 : decode cX7_rehearse 33 = .ok (.if_icmp .ge 14, 3) := by decide +kernel
theorem dX7_rehearse_36 : decode cX7_rehearse 36 = .ok (.aload_n 0, 1) := by decide +kernel
theorem dX7_rehearse_37 : decode cX7_rehearse 37 = .ok (.aload_n 1, 1) := by decide +kernel
theorem dX7_rehearse_38 : decode cX7_rehearse 38 = .ok (.invokevirtual 134, 3) := by decide +kernel
theorem dX7_rehearse_41 : decode cX7_rehearse 41 = .ok (.iinc 5 1, 3) := by decide +kernel
theorem dX7_rehearse_44 : decode cX7_rehearse 44 = .ok (.goto (-17), 3) := by decide +kernel
theorem dX7_rehearse_47 : decode cX7_rehearse 47 = .ok (.return_, 1) := by decide +kernel
set_option maxRecDepth 20000 in
theorem ggX7_carryOutPlan_X2_secondOf : GoodIn wsX7_carryOutPlan wsX2_secondOf := goodIn_r _ [8, 9, 10, 132, 133, 134] (by decide +kernel) (by decide +kernel)
set_option maxRecDepth 20000 in
theorem gX7_carryOutPlan_X2_secondOf : GoodIn wsX7_carryOutPlan (wsV RX7 140 RX2 yX2_secondOf wsX2_secondOf) := goodIn_app (goodIn_of _ (by decide +kernel)) ggX7_carryOutPlan_X2_secondOf
set_option maxRecDepth 20000 in
theorem ggX7_carryOutPlan_X2_firstOf : GoodIn wsX7_carryOutPlan wsX2_firstOf := goodIn_r _ [14, 9, 15, 132, 133, 134] (by decide +kernel) (by decide +kernel)
set_option maxRecDepth 20000 in
theorem gX7_carryOutPlan_X2_firstOf : GoodIn wsX7_carryOutPlan (wsV RX7 144 RX2 yX2_firstOf wsX2_firstOf) := goodIn_app (goodIn_of _ (by decide +kernel)) ggX7_carryOutPlan_X2_firstOf
set_option maxRecDepth 20000 in
theorem ggX7_carryOutPlan_X7_importLines : GoodIn wsX7_carryOutPlan wsX7_importLines := goodIn_r _ [20, 21, 22, 23, 24, 25, 26, 19, 27, 28, 29, 30, 31, 32, 33, 34, 35, 36, 37, 38, 39, 40, 41, 42, 43, 44, 45, 46, 47, 48, 49, 50, 51, 52, 53, 54, 55, 56, 57, 58, 59, 60, 61, 62, 63, 64, 65, 66, 67, 68, 69, 70, 71, 72, 73, 74, 75, 76, 77, 78, 79, 80, 81, 82, 83, 84, 85, 86, 87, 88, 89, 90, 91, 92, 3, 93, 94, 95, 96, 97, 98, 99, 100, 101, 102, 103, 104, 105, 106, 107, 108, 109, 110, 111, 112, 113, 114, 135, 136, 137, 138, 139, 140, 141, 142, 143, 121, 122, 123, 124, 125, 126, 127, 128, 129, 130, 131, 144, 145, 146, 147, 148] (by decide +kernel) (by decide +kernel)
set_option maxRecDepth 20000 in
theorem gX7_carryOutPlan_X7_importLines : GoodIn wsX7_carryOutPlan (wsV RX7 147 RX7 yX7_importLines wsX7_importLines) := goodIn_app (goodIn_of _ (by decide +kernel)) ggX7_carryOutPlan_X7_importLines
set_option maxRecDepth 20000 in
theorem ggX7_carryOutPlan_X5_restart : GoodIn wsX7_carryOutPlan wsX5_restart := goodIn_r _ [118, 74, 102, 119, 120, 50, 51, 52, 135, 136, 137, 138, 139, 140, 141, 142, 143] (by decide +kernel) (by decide +kernel)
set_option maxRecDepth 20000 in
theorem gX7_carryOutPlan_X5_restart : GoodIn wsX7_carryOutPlan (wsV RX7 79 RX5 yX5_restart wsX5_restart) := goodIn_app (goodIn_of _ (by decide +kernel)) ggX7_carryOutPlan_X5_restart
theorem dX7_carryOutPlan_0 : decode cX7_carryOutPlan 0 = .ok (.iconst 0, 1) := by decide +kernel
theorem dX7_carryOutPlan_1 : decode cX7_carryOutPlan 1 = .ok (.istore_n 2, 1) := by decide +kernel
theorem dX7_carryOutPlan_2 : decode cX7_carryOutPlan 2 = .ok (.iload_n 2, 1) := by decide +kernel
theorem dX7_carryOutPlan_3 : decode cX7_carryOutPlan 3 = .ok (.aload_n 0, 1) := by decide +kernel
theorem dX7_carryOutPlan_4 : decode cX7_carryOutPlan 4 = .ok (.getfield 34, 3) := by decide +kernel
theorem dX7_carryOutPlan_7 : decode cX7_carryOutPlan 7 = .ok (.getfield 137, 3) := by decide +kernel
theorem dX7_carryOutPlan_10 : decode cX7_carryOutPlan 10 = .ok (.if_icmp .ge 74, 3) := by decide +kernel
theorem dX7_carryOutPlan_13 : decode cX7_carryOutPlan 13 = .ok (.aload_n 0, 1) := by decide +kernel
theorem dX7_carryOutPlan_14 : decode cX7_carryOutPlan 14 = .ok (.getfield 34, 3) := by decide +kernel
theorem dX7_carryOutPlan_17 : decode cX7_carryOutPlan 17 = .ok (.iload_n 2, 1) := by decide +kernel
theorem dX7_carryOutPlan_18 : decode cX7_carryOutPlan 18 = .ok (.invokevirtual 140, 3) := by decide +kernel
theorem dX7_carryOutPlan_21 : decode cX7_carryOutPlan 21 = .ok (.istore_n 3, 1) := by decide +kernel
theorem dX7_carryOutPlan_22 : decode cX7_carryOutPlan 22 = .ok (.aload_n 0, 1) := by decide +kernel
theorem dX7_carryOutPlan_23 : decode cX7_carryOutPlan 23 = .ok (.getfield 34, 3) := by decide +kernel
theorem dX7_carryOutPlan_26 : decode cX7_carryOutPlan 26 = .ok (.iload_n 2, 1) := by decide +kernel
theorem dX7_carryOutPlan_27 : decode cX7_carryOutPlan 27 = .ok (.invokevirtual 144, 3) := by decide +kernel
theorem dX7_carryOutPlan_30 : decode cX7_carryOutPlan 30 = .ok (.lookupswitch 44 #[(0, 26), (1, 36)], 26) := by decide +kernel
theorem dX7_carryOutPlan_56 : decode cX7_carryOutPlan 56 = .ok (.aload_n 0, 1) := by decide +kernel
theorem dX7_carryOutPlan_57 : decode cX7_carryOutPlan 57 = .ok (.aload_n 1, 1) := by decide +kernel
theorem dX7_carryOutPlan_58 : decode cX7_carryOutPlan 58 = .ok (.iload_n 3, 1) := by decide +kernel
theorem dX7_carryOutPlan_59 : decode cX7_carryOutPlan 59 = .ok (.invokevirtual 147, 3) := by decide +kernel
theorem dX7_carryOutPlan_62 : decode cX7_carryOutPlan 62 = .ok (.pop, 1) := by decide +kernel
theorem dX7_carryOutPlan_63 : decode cX7_carryOutPlan 63 = .ok (.goto 15, 3) := by decide +kernel
theorem dX7_carryOutPlan_66 : decode cX7_carryOutPlan 66 = .ok (.aload_n 1, 1) := by decide +kernel
theorem dX7_carryOutPlan_67 : decode cX7_carryOutPlan 67 = .ok (.iload_n 3, 1) := by decide +kernel
theorem dX7_carryOutPlan_68 : decode cX7_carryOutPlan 68 = .ok (.putfield 82, 3) := by decide +kernel
theorem dX7_carryOutPlan_71 : decode cX7_carryOutPlan 71 = .ok (.goto 7, 3) := by decide +kernel
theorem dX7_carryOutPlan_74 : decode cX7_carryOutPlan 74 = .ok (.aload_n 1, 1) := by decide +kernel
theorem dX7_carryOutPlan_75 : decode cX7_carryOutPlan 75 = .ok (.invokevirtual 79, 3) := by decide +kernel
theorem dX7_carryOutPlan_78 : decode cX7_carryOutPlan 78 = .ok (.iinc 2 1, 3) := by decide +kernel
theorem dX7_carryOutPlan_81 : decode cX7_carryOutPlan 81 = .ok (.goto (-79), 3) := by decide +kernel
theorem dX7_carryOutPlan_84 : decode cX7_carryOutPlan 84 = .ok (.return_, 1) := by decide +kernel
set_option maxRecDepth 20000 in
theorem ggX7_settle_X7_toldOrGuess : GoodIn wsX7_settle wsX7_toldOrGuess := goodIn_r _ [7, 8, 9, 10, 11, 6, 12, 1, 13, 14, 15, 16, 17, 18, 19, 20, 21, 22, 23, 24, 25, 26, 27, 28, 29, 30, 31, 32, 33, 34, 35, 36, 37, 38, 39, 40, 41, 42, 43, 44, 45, 46, 47, 48, 49, 59, 60, 61, 62, 63] (by decide +kernel) (by decide +kernel)
set_option maxRecDepth 20000 in
theorem gX7_settle_X7_toldOrGuess : GoodIn wsX7_settle (wsV RX7 103 RX7 yX7_toldOrGuess wsX7_toldOrGuess) := goodIn_app (goodIn_of _ (by decide +kernel)) ggX7_settle_X7_toldOrGuess
theorem dX7_settle_0 : decode cX7_settle 0 = .ok (.iconst 0, 1) := by decide +kernel
theorem dX7_settle_1 : decode cX7_settle 1 = .ok (.istore 5, 2) := by decide +kernel
theorem dX7_settle_3 : decode cX7_settle 3 = .ok (.iload 5, 2) := by decide +kernel
theorem dX7_settle_5 : decode cX7_settle 5 = .ok (.aload_n 0, 1) := by decide +kernel
theorem dX7_settle_6 : decode cX7_settle 6 = .ok (.getfield 49, 3) := by decide +kernel
theorem dX7_settle_9 : decode cX7_settle 9 = .ok (.if_icmp .ge 40, 3) := by decide +kernel
theorem dX7_settle_12 : decode cX7_settle 12 = .ok (.iload 5, 2) := by decide +kernel
theorem dX7_settle_14 : decode cX7_settle 14 = .ok (.iconst 5, 1) := by decide +kernel
theorem dX7_settle_15 : decode cX7_settle 15 = .ok (.if_icmp .ge 34, 3) := by decide +kernel
theorem dX7_settle_18 : decode cX7_settle 18 = .ok (.aload_n 1, 1) := by decide +kernel
theorem dX7_settle_19 : decode cX7_settle 19 = .ok (.getfield 100, 3) := by decide +kernel
theorem dX7_settle_22 : decode cX7_settle 22 = .ok (.iload 5, 2) := by decide +kernel
theorem dX7_settle_24 : decode cX7_settle 24 = .ok (.iload 5, 2) := by decide +kernel
theorem dX7_settle_26 : decode cX7_settle 26 = .ok (.iload_n 3, 1) := by decide +kernel
theorem dX7_settle_27 : decode cX7_settle 27 = .ok (.if_icmp .ne 8, 3) := by decide +kernel
theorem dX7_settle_30 : decode cX7_settle 30 = .ok (.iload 4, 2) := by decide +kernel
theorem dX7_settle_32 : decode cX7_settle 32 = .ok (.goto 10, 3) := by decide +kernel
theorem dX7_settle_35 : decode cX7_settle 35 = .ok (.aload_n 0, 1) := by decide +kernel
theorem dX7_settle_36 : decode cX7_settle 36 = .ok (.iload 5, 2) := by decide +kernel
theorem dX7_settle_38 : decode cX7_settle 38 = .ok (.iload_n 2, 1) := by decide +kernel
theorem dX7_settle_39 : decode cX7_settle 39 = .ok (.invokevirtual 103, 3) := by decide +kernel
theorem dX7_settle_42 : decode cX7_settle 42 = .ok (.iastore, 1) := by decide +kernel
theorem dX7_settle_43 : decode cX7_settle 43 = .ok (.iinc 5 1, 3) := by decide +kernel
theorem dX7_settle_46 : decode cX7_settle 46 = .ok (.goto (-43), 3) := by decide +kernel
theorem dX7_settle_49 : decode cX7_settle 49 = .ok (.return_, 1) := by decide +kernel
set_option maxRecDepth 20000 in
theorem ggX7_importNext_X7_lineAt : GoodIn wsX7_importNext wsX7_lineAt := goodIn_r _ [8, 9, 10, 80, 81, 82, 83, 84, 85, 86, 87, 88, 89, 90] (by decide +kernel) (by decide +kernel)
set_option maxRecDepth 20000 in
theorem gX7_importNext_X7_lineAt : GoodIn wsX7_importNext (wsV RX7 114 RX7 yX7_lineAt wsX7_lineAt) := goodIn_app (goodIn_of _ (by decide +kernel)) ggX7_importNext_X7_lineAt
set_option maxRecDepth 20000 in
theorem ggX7_importNext_X5_passFault : GoodIn wsX7_importNext wsX5_passFault := goodIn_r _ [15, 16, 17, 18, 19, 20, 70, 71, 72, 73, 74, 75, 76, 77, 78] (by decide +kernel) (by decide +kernel)
set_option maxRecDepth 20000 in
theorem gX7_importNext_X5_passFault : GoodIn wsX7_importNext (wsV RX7 155 RX5 yX5_passFault wsX5_passFault) := goodIn_app (goodIn_of _ (by decide +kernel)) ggX7_importNext_X5_passFault
set_option maxRecDepth 20000 in
theorem ggX7_importNext_X7_passUnfit : GoodIn wsX7_importNext wsX7_passUnfit := goodIn_r _ [24, 3, 25, 26, 27, 28, 29, 30, 31, 32, 33, 34, 35, 36, 37, 38, 11, 12, 13, 14, 15, 16, 17, 18, 19, 20, 80, 81, 82, 83, 84, 85, 86, 87, 88, 89, 90, 70, 71, 72, 73, 74, 75, 76, 77, 78, 91, 92, 93, 94, 79] (by decide +kernel) (by decide +kernel)
set_option maxRecDepth 20000 in
theorem gX7_importNext_X7_passUnfit : GoodIn wsX7_importNext (wsV RX7 159 RX7 yX7_passUnfit wsX7_passUnfit) := goodIn_app (goodIn_of _ (by decide +kernel)) ggX7_importNext_X7_passUnfit
set_option maxRecDepth 20000 in
theorem ggX7_importNext_X7_passByKey : GoodIn wsX7_importNext wsX7_passByKey := goodIn_r _ [42, 43, 26, 44, 45, 46, 7, 47, 3, 27, 28, 29, 30, 31, 32, 11, 12, 13, 14, 15, 16, 17, 18, 19, 20, 48, 49, 50, 51, 25, 52, 53, 54, 55, 56, 57, 58, 4, 5, 6, 8, 9, 10, 59, 60, 61, 36, 62, 63, 38, 64, 65, 70, 71, 72, 73, 74, 75, 76, 77, 78, 91, 92, 93, 94, 80, 81, 82, 83, 84, 85, 86, 87, 88, 89, 90, 79] (by decide +kernel) (by decide +kernel)
set_option maxRecDepth 20000 in
theorem gX7_importNext_X7_passByKey : GoodIn wsX7_importNext (wsV RX7 163 RX7 yX7_passByKey wsX7_passByKey) := goodIn_app (goodIn_of _ (by decide +kernel)) ggX7_importNext_X7_passByKey
set_option maxRecDepth 20000 in
theorem ggX7_importNext_X5_passRow : GoodIn wsX7_importNext wsX5_passRow := goodIn_r _ [69, 16, 57, 17, 18, 19, 20, 58, 70, 71, 72, 73, 74, 75, 76, 77, 78] (by decide +kernel) (by decide +kernel)
set_option maxRecDepth 20000 in
theorem gX7_importNext_X5_passRow : GoodIn wsX7_importNext (wsV RX7 166 RX5 yX5_passRow wsX5_passRow) := goodIn_app (goodIn_of _ (by decide +kernel)) ggX7_importNext_X5_passRow
theorem dX7_importNext_0 : decode cX7_importNext 0 = .ok (.aload_n 0, 1) := by decide +kernel
theorem dX7_importNext_1 : decode cX7_importNext 1 = .ok (.aload_n 1, 1) := by decide +kernel
theorem dX7_importNext_2 : decode cX7_importNext 2 = .ok (.getfield 127, 3) := by decide +kernel
theorem dX7_importNext_5 : decode cX7_importNext 5 = .ok (.invokevirtual 114, 3) := by decide +kernel
theorem dX7_importNext_8 : decode cX7_importNext 8 = .ok (.astore_n 2, 1) := by decide +kernel
theorem dX7_importNext_9 : decode cX7_importNext 9 = .ok (.aload_n 2, 1) := by decide +kernel
theorem dX7_importNext_10 : decode cX7_importNext 10 = .ok (.ifnonnull 4, 3) := by decide +kernel
theorem dX7_importNext_13 : decode cX7_importNext 13 = .ok (.return_, 1) := by decide +kernel
theorem dX7_importNext_14 : decode cX7_importNext 14 = .ok (.aload_n 2, 1) := by decide +kernel
theorem dX7_importNext_15 : decode cX7_importNext 15 = .ok (.getfield 151, 3) := by decide +kernel
theorem dX7_importNext_18 : decode cX7_importNext 18 = .ok (.arraylength, 1) := by decide +kernel
theorem dX7_importNext_19 : decode cX7_importNext 19 = .ok (.aload_n 0, 1) := by decide +kernel
theorem dX7_importNext_20 : decode cX7_importNext 20 = .ok (.getfield 49, 3) := by decide +kernel
theorem dX7_importNext_23 : decode cX7_importNext 23 = .ok (.if_icmp .ge 15, 3) := by decide +kernel
theorem dX7_importNext_26 : decode cX7_importNext 26 = .ok (.aload_n 1, 1) := by decide +kernel
theorem dX7_importNext_27 : decode cX7_importNext 27 = .ok (.iconst 1, 1) := by decide +kernel
theorem dX7_importNext_28 : decode cX7_importNext 28 = .ok (.bipush (-5), 2) := by decide +kernel
theorem dX7_importNext_30 : decode cX7_importNext 30 = .ok (.bipush (-5), 2) := by decide +kernel
theorem dX7_importNext_32 : decode cX7_importNext 32 = .ok (.invokevirtual 155, 3) := by decide +kernel
theorem dX7_importNext_35 : decode cX7_importNext 35 = .ok (.goto 49, 3) := by decide +kernel
theorem dX7_importNext_38 : decode cX7_importNext 38 = .ok (.aload_n 2, 1) := by decide +kernel
theorem dX7_importNext_39 : decode cX7_importNext 39 = .ok (.getfield 151, 3) := by decide +kernel
theorem dX7_importNext_42 : decode cX7_importNext 42 = .ok (.arraylength, 1) := by decide +kernel
theorem dX7_importNext_43 : decode cX7_importNext 43 = .ok (.aload_n 0, 1) := by decide +kernel
theorem dX7_importNext_44 : decode cX7_importNext 44 = .ok (.getfield 49, 3) := by decide +kernel
theorem dX7_importNext_47 : decode cX7_importNext 47 = .ok (.if_icmp .le 15, 3) := by decide +kernel
theorem dX7_importNext_50 : decode cX7_importNext 50 = .ok (.aload_n 1, 1) := by decide +kernel
theorem dX7_importNext_51 : decode cX7_importNext 51 = .ok (.iconst 2, 1) := by decide +kernel
theorem dX7_importNext_52 : decode cX7_importNext 52 = .ok (.bipush (-5), 2) := by decide +kernel
theorem dX7_importNext_54 : decode cX7_importNext 54 = .ok (.bipush (-5), 2) := by decide +kernel
theorem dX7_importNext_56 : decode cX7_importNext 56 = .ok (.invokevirtual 155, 3) := by decide +kernel
theorem dX7_importNext_59 : decode cX7_importNext 59 = .ok (.goto 25, 3) := by decide +kernel
theorem dX7_importNext_62 : decode cX7_importNext 62 = .ok (.aload_n 0, 1) := by decide +kernel
theorem dX7_importNext_63 : decode cX7_importNext 63 = .ok (.aload_n 2, 1) := by decide +kernel
theorem dX7_importNext_64 : decode cX7_importNext 64 = .ok (.aload_n 1, 1) := by decide +kernel
theorem dX7_importNext_65 : decode cX7_importNext 65 = .ok (.invokevirtual 159, 3) := by decide +kernel
theorem dX7_importNext_68 : decode cX7_importNext 68 = .ok (.ifCond .ne 16, 3) := by decide +kernel
theorem dX7_importNext_71 : decode cX7_importNext 71 = .ok (.aload_n 0, 1) := by decide +kernel
theorem dX7_importNext_72 : decode cX7_importNext 72 = .ok (.aload_n 2, 1) := by decide +kernel
theorem dX7_importNext_73 : decode cX7_importNext 73 = .ok (.aload_n 1, 1) := by decide +kernel
theorem dX7_importNext_74 : decode cX7_importNext 74 = .ok (.invokevirtual 163, 3) := by decide +kernel
theorem dX7_importNext_77 : decode cX7_importNext 77 = .ok (.ifCond .ne 7, 3) := by decide +kernel
theorem dX7_importNext_80 : decode cX7_importNext 80 = .ok (.aload_n 1, 1) := by decide +kernel
theorem dX7_importNext_81 : decode cX7_importNext 81 = .ok (.invokevirtual 166, 3) := by decide +kernel
theorem dX7_importNext_84 : decode cX7_importNext 84 = .ok (.return_, 1) := by decide +kernel
set_option maxRecDepth 20000 in
theorem ggX7_passUnfit_X4_fieldAt : GoodIn wsX7_passUnfit wsX4_fieldAt := goodIn_r _ [8, 9, 50] (by decide +kernel) (by decide +kernel)
set_option maxRecDepth 20000 in
theorem gX7_passUnfit_X4_fieldAt : GoodIn wsX7_passUnfit (wsV RX7 118 RX4 yX4_fieldAt wsX4_fieldAt) := goodIn_app (goodIn_of _ (by decide +kernel)) ggX7_passUnfit_X4_fieldAt
set_option maxRecDepth 20000 in
theorem ggX7_passUnfit_X1_canBe : GoodIn wsX7_passUnfit wsX1_canBe := goodIn_r _ [14, 15, 46, 47, 48, 49] (by decide +kernel) (by decide +kernel)
set_option maxRecDepth 20000 in
theorem gX7_passUnfit_X1_canBe : GoodIn wsX7_passUnfit (wsV RX7 169 RX1 yX1_canBe wsX1_canBe) := goodIn_app (goodIn_of _ (by decide +kernel)) ggX7_passUnfit_X1_canBe
set_option maxRecDepth 20000 in
theorem ggX7_passUnfit_X5_passFault : GoodIn wsX7_passUnfit wsX5_passFault := goodIn_r _ [20, 21, 22, 23, 24, 25, 37, 38, 39, 40, 41, 42, 43, 44, 45] (by decide +kernel) (by decide +kernel)
set_option maxRecDepth 20000 in
theorem gX7_passUnfit_X5_passFault : GoodIn wsX7_passUnfit (wsV RX7 155 RX5 yX5_passFault wsX5_passFault) := goodIn_app (goodIn_of _ (by decide +kernel)) ggX7_passUnfit_X5_passFault
theorem dX7_passUnfit_0 : decode cX7_passUnfit 0 = .ok (.iconst 0, 1) := by decide +kernel
theorem dX7_passUnfit_1 : decode cX7_passUnfit 1 = .ok (.istore_n 3, 1) := by decide +kernel
theorem dX7_passUnfit_2 : decode cX7_passUnfit 2 = .ok (.iload_n 3, 1) := by decide +kernel
theorem dX7_passUnfit_3 : decode cX7_passUnfit 3 = .ok (.aload_n 0, 1) := by decide +kernel
theorem dX7_passUnfit_4 : decode cX7_passUnfit 4 = .ok (.getfield 49, 3) := by decide +kernel
theorem dX7_passUnfit_7 : decode cX7_passUnfit 7 = .ok (.if_icmp .ge 59, 3) := by decide +kernel
theorem dX7_passUnfit_10 : decode cX7_passUnfit 10 = .ok (.iload_n 3, 1) := by decide +kernel
theorem dX7_passUnfit_11 : decode cX7_passUnfit 11 = .ok (.iconst 5, 1) := by decide +kernel
theorem dX7_passUnfit_12 : decode cX7_passUnfit 12 = .ok (.if_icmp .ge 54, 3) := by decide +kernel
theorem dX7_passUnfit_15 : decode cX7_passUnfit 15 = .ok (.aload_n 1, 1) := by decide +kernel
theorem dX7_passUnfit_16 : decode cX7_passUnfit 16 = .ok (.iload_n 3, 1) := by decide +kernel
theorem dX7_passUnfit_17 : decode cX7_passUnfit 17 = .ok (.invokevirtual 118, 3) := by decide +kernel
theorem dX7_passUnfit_20 : decode cX7_passUnfit 20 = .ok (.astore 4, 2) := by decide +kernel
theorem dX7_passUnfit_22 : decode cX7_passUnfit 22 = .ok (.aload 4, 2) := by decide +kernel
theorem dX7_passUnfit_24 : decode cX7_passUnfit 24 = .ok (.ifnull 36, 3) := by decide +kernel
theorem dX7_passUnfit_27 : decode cX7_passUnfit 27 = .ok (.aload 4, 2) := by decide +kernel
theorem dX7_passUnfit_29 : decode cX7_passUnfit 29 = .ok (.aload_n 2, 1) := by decide +kernel
theorem dX7_passUnfit_30 : decode cX7_passUnfit 30 = .ok (.getfield 100, 3) := by decide +kernel
theorem dX7_passUnfit_33 : decode cX7_passUnfit 33 = .ok (.iload_n 3, 1) := by decide +kernel
theorem dX7_passUnfit_34 : decode cX7_passUnfit 34 = .ok (.iaload, 1) := by decide +kernel
theorem dX7_passUnfit_35 : decode cX7_passUnfit 35 = .ok (.invokevirtual 169, 3) := by decide +kernel
theorem dX7_passUnfit_38 : decode cX7_passUnfit 38 = .ok (.ifCond .ne 22, 3) := by decide +kernel
theorem dX7_passUnfit_41 : decode cX7_passUnfit 41 = .ok (.aload_n 2, 1) := by decide +kernel
theorem dX7_passUnfit_42 : decode cX7_passUnfit 42 = .ok (.iconst 3, 1) := by decide +kernel
theorem dX7_passUnfit_43 : decode cX7_passUnfit 43 = .ok (.bipush 10, 2) := by decide +kernel
theorem dX7_passUnfit_45 : decode cX7_passUnfit 45 = .ok (.iload_n 3, 1) := by decide +kernel
theorem dX7_passUnfit_46 : decode cX7_passUnfit 46 = .ok (.iadd, 1) := by decide +kernel
theorem dX7_passUnfit_47 : decode cX7_passUnfit 47 = .ok (.bipush 20, 2) := by decide +kernel
theorem dX7_passUnfit_49 : decode cX7_passUnfit 49 = .ok (.aload 4, 2) := by decide +kernel
theorem dX7_passUnfit_51 : decode cX7_passUnfit 51 = .ok (.getfield 122, 3) := by decide +kernel
theorem dX7_passUnfit_54 : decode cX7_passUnfit 54 = .ok (.iadd, 1) := by decide +kernel
theorem dX7_passUnfit_55 : decode cX7_passUnfit 55 = .ok (.invokevirtual 155, 3) := by decide +kernel
theorem dX7_passUnfit_58 : decode cX7_passUnfit 58 = .ok (.iconst 1, 1) := by decide +kernel
theorem dX7_passUnfit_59 : decode cX7_passUnfit 59 = .ok (.ireturn, 1) := by decide +kernel
theorem dX7_passUnfit_60 : decode cX7_passUnfit 60 = .ok (.iinc 3 1, 3) := by decide +kernel
theorem dX7_passUnfit_63 : decode cX7_passUnfit 63 = .ok (.goto (-61), 3) := by decide +kernel
theorem dX7_passUnfit_66 : decode cX7_passUnfit 66 = .ok (.iconst 0, 1) := by decide +kernel
theorem dX7_passUnfit_67 : decode cX7_passUnfit 67 = .ok (.ireturn, 1) := by decide +kernel
set_option maxRecDepth 20000 in
theorem ggX7_passByKey_X7_hasColumn : GoodIn wsX7_passByKey wsX7_hasColumn := goodIn_r _ [7, 8, 65, 66, 67, 68, 69, 70, 71, 72, 73, 74, 75] (by decide +kernel) (by decide +kernel)
set_option maxRecDepth 20000 in
theorem gX7_passByKey_X7_hasColumn : GoodIn wsX7_passByKey (wsV RX7 96 RX7 yX7_hasColumn wsX7_hasColumn) := goodIn_app (goodIn_of _ (by decide +kernel)) ggX7_passByKey_X7_hasColumn
set_option maxRecDepth 20000 in
theorem ggX7_passByKey_X4_fieldAt : GoodIn wsX7_passByKey wsX4_fieldAt := goodIn_r _ [13, 14, 76] (by decide +kernel) (by decide +kernel)
set_option maxRecDepth 20000 in
theorem gX7_passByKey_X4_fieldAt : GoodIn wsX7_passByKey (wsV RX7 118 RX4 yX4_fieldAt wsX4_fieldAt) := goodIn_app (goodIn_of _ (by decide +kernel)) ggX7_passByKey_X4_fieldAt
set_option maxRecDepth 20000 in
theorem ggX7_passByKey_X5_passFault : GoodIn wsX7_passByKey wsX5_passFault := goodIn_r _ [19, 20, 21, 22, 23, 24, 52, 53, 54, 55, 56, 57, 58, 59, 60] (by decide +kernel) (by decide +kernel)
set_option maxRecDepth 20000 in
theorem gX7_passByKey_X5_passFault : GoodIn wsX7_passByKey (wsV RX7 155 RX5 yX5_passFault wsX5_passFault) := goodIn_app (goodIn_of _ (by decide +kernel)) ggX7_passByKey_X5_passFault
set_option maxRecDepth 20000 in
theorem ggX7_passByKey_X7_lineWithKeyOf : GoodIn wsX7_passByKey wsX7_lineWithKeyOf := goodIn_r _ [28, 1, 29, 30, 2, 3, 4, 5, 6, 7, 8, 31, 32, 33, 18, 34, 35, 36, 37, 38, 39, 40, 41, 42, 9, 10, 11, 12, 13, 14, 43, 44, 45, 46, 47, 48, 49, 50, 51, 52, 53, 54, 55, 56, 57, 58, 59, 60, 61, 62, 63, 64, 65, 66, 67, 68, 69, 70, 71, 72, 73, 74, 75, 76] (by decide +kernel) (by decide +kernel)
set_option maxRecDepth 20000 in
theorem gX7_passByKey_X7_lineWithKeyOf : GoodIn wsX7_passByKey (wsV RX7 172 RX7 yX7_lineWithKeyOf wsX7_lineWithKeyOf) := goodIn_app (goodIn_of _ (by decide +kernel)) ggX7_passByKey_X7_lineWithKeyOf
theorem dX7_passByKey_0 : decode cX7_passByKey 0 = .ok (.aload_n 0, 1) := by decide +kernel
theorem dX7_passByKey_1 : decode cX7_passByKey 1 = .ok (.aload_n 2, 1) := by decide +kernel
theorem dX7_passByKey_2 : decode cX7_passByKey 2 = .ok (.getfield 82, 3) := by decide +kernel
theorem dX7_passByKey_5 : decode cX7_passByKey 5 = .ok (.invokevirtual 96, 3) := by decide +kernel
theorem dX7_passByKey_8 : decode cX7_passByKey 8 = .ok (.ifCond .ne 5, 3) := by decide +kernel
theorem dX7_passByKey_11 : decode cX7_passByKey 11 = .ok (.iconst 0, 1) := by decide +kernel
theorem dX7_passByKey_12 : decode cX7_passByKey 12 = .ok (.ireturn, 1) := by decide +kernel
theorem dX7_passByKey_13 : decode cX7_passByKey 13 = .ok (.aload_n 1, 1) := by decide +kernel
theorem dX7_passByKey_14 : decode cX7_passByKey 14 = .ok (.aload_n 2, 1) := by decide +kernel
theorem dX7_passByKey_15 : decode cX7_passByKey 15 = .ok (.getfield 82, 3) := by decide +kernel
theorem dX7_passByKey_18 : decode cX7_passByKey 18 = .ok (.invokevirtual 118, 3) := by decide +kernel
theorem dX7_passByKey_21 : decode cX7_passByKey 21 = .ok (.astore_n 3, 1) := by decide +kernel
theorem dX7_passByKey_22 : decode cX7_passByKey 22 = .ok (.aload_n 3, 1) := by decide +kernel
theorem dX7_passByKey_23 : decode cX7_passByKey 23 = .ok (.ifnonnull 5, 3) := by decide +kernel
theorem dX7_passByKey_26 : decode cX7_passByKey 26 = .ok (.iconst 0, 1) := by decide +kernel
theorem dX7_passByKey_27 : decode cX7_passByKey 27 = .ok (.ireturn, 1) := by decide +kernel
theorem dX7_passByKey_28 : decode cX7_passByKey 28 = .ok (.aload_n 3, 1) := by decide +kernel
theorem dX7_passByKey_29 : decode cX7_passByKey 29 = .ok (.getfield 122, 3) := by decide +kernel
theorem dX7_passByKey_32 : decode cX7_passByKey 32 = .ok (.ifCond .ne 14, 3) := by decide +kernel
theorem dX7_passByKey_35 : decode cX7_passByKey 35 = .ok (.aload_n 2, 1) := by decide +kernel
theorem dX7_passByKey_36 : decode cX7_passByKey 36 = .ok (.iconst 4, 1) := by decide +kernel
theorem dX7_passByKey_37 : decode cX7_passByKey 37 = .ok (.bipush (-5), 2) := by decide +kernel
theorem dX7_passByKey_39 : decode cX7_passByKey 39 = .ok (.bipush (-5), 2) := by decide +kernel
theorem dX7_passByKey_41 : decode cX7_passByKey 41 = .ok (.invokevirtual 155, 3) := by decide +kernel
theorem dX7_passByKey_44 : decode cX7_passByKey 44 = .ok (.iconst 1, 1) := by decide +kernel
theorem dX7_passByKey_45 : decode cX7_passByKey 45 = .ok (.ireturn, 1) := by decide +kernel
theorem dX7_passByKey_46 : decode cX7_passByKey 46 = .ok (.aload_n 0, 1) := by decide +kernel
theorem dX7_passByKey_47 : decode cX7_passByKey 47 = .ok (.aload_n 3, 1) := by decide +kernel
theorem dX7_passByKey_48 : decode cX7_passByKey 48 = .ok (.aload_n 2, 1) := by decide +kernel
theorem dX7_passByKey_49 : decode cX7_passByKey 49 = .ok (.invokevirtual 172, 3) := by decide +kernel
theorem dX7_passByKey_52 : decode cX7_passByKey 52 = .ok (.istore 4, 2) := by decide +kernel
theorem dX7_passByKey_54 : decode cX7_passByKey 54 = .ok (.iload 4, 2) := by decide +kernel
theorem dX7_passByKey_56 : decode cX7_passByKey 56 = .ok (.bipush (-5), 2) := by decide +kernel
theorem dX7_passByKey_58 : decode cX7_passByKey 58 = .ok (.if_icmp .ne 5, 3) := by decide +kernel
theorem dX7_passByKey_61 : decode cX7_passByKey 61 = .ok (.iconst 0, 1) := by decide +kernel
theorem dX7_passByKey_62 : decode cX7_passByKey 62 = .ok (.ireturn, 1) := by decide +kernel
theorem dX7_passByKey_63 : decode cX7_passByKey 63 = .ok (.aload_n 2, 1) := by decide +kernel
theorem dX7_passByKey_64 : decode cX7_passByKey 64 = .ok (.iconst 5, 1) := by decide +kernel
theorem dX7_passByKey_65 : decode cX7_passByKey 65 = .ok (.bipush 30, 2) := by decide +kernel
theorem dX7_passByKey_67 : decode cX7_passByKey 67 = .ok (.iload 4, 2) := by decide +kernel
theorem dX7_passByKey_69 : decode cX7_passByKey 69 = .ok (.iadd, 1) := by decide +kernel
theorem dX7_passByKey_70 : decode cX7_passByKey 70 = .ok (.bipush (-5), 2) := by decide +kernel
theorem dX7_passByKey_72 : decode cX7_passByKey 72 = .ok (.invokevirtual 155, 3) := by decide +kernel
theorem dX7_passByKey_75 : decode cX7_passByKey 75 = .ok (.iconst 1, 1) := by decide +kernel
theorem dX7_passByKey_76 : decode cX7_passByKey 76 = .ok (.ireturn, 1) := by decide +kernel
set_option maxRecDepth 20000 in
theorem ggX7_lineWithKeyOf_X7_hasColumn : GoodIn wsX7_lineWithKeyOf wsX7_hasColumn := goodIn_r _ [9, 10, 52, 53, 54, 55, 56, 57, 58, 59, 60, 61, 62] (by decide +kernel) (by decide +kernel)
set_option maxRecDepth 20000 in
theorem gX7_lineWithKeyOf_X7_hasColumn : GoodIn wsX7_lineWithKeyOf (wsV RX7 96 RX7 yX7_hasColumn wsX7_hasColumn) := goodIn_app (goodIn_of _ (by decide +kernel)) ggX7_lineWithKeyOf_X7_hasColumn
set_option maxRecDepth 20000 in
theorem ggX7_lineWithKeyOf_X5_lineOf : GoodIn wsX7_lineWithKeyOf wsX5_lineOf := goodIn_r _ [15, 16, 17, 39, 40, 41, 42, 43, 44, 45, 46, 47] (by decide +kernel) (by decide +kernel)
set_option maxRecDepth 20000 in
theorem gX7_lineWithKeyOf_X5_lineOf : GoodIn wsX7_lineWithKeyOf (wsV RX7 179 RX5 yX5_lineOf wsX5_lineOf) := goodIn_app (goodIn_of _ (by decide +kernel)) ggX7_lineWithKeyOf_X5_lineOf
set_option maxRecDepth 20000 in
theorem ggX7_lineWithKeyOf_X7_lineAt : GoodIn wsX7_lineWithKeyOf wsX7_lineAt := goodIn_r _ [21, 22, 23, 52, 53, 54, 55, 56, 57, 58, 59, 60, 61, 62] (by decide +kernel) (by decide +kernel)
set_option maxRecDepth 20000 in
theorem gX7_lineWithKeyOf_X7_lineAt : GoodIn wsX7_lineWithKeyOf (wsV RX7 114 RX7 yX7_lineAt wsX7_lineAt) := goodIn_app (goodIn_of _ (by decide +kernel)) ggX7_lineWithKeyOf_X7_lineAt
set_option maxRecDepth 20000 in
theorem ggX7_lineWithKeyOf_X4_fieldAt : GoodIn wsX7_lineWithKeyOf wsX4_fieldAt := goodIn_r _ [28, 29, 63] (by decide +kernel) (by decide +kernel)
set_option maxRecDepth 20000 in
theorem gX7_lineWithKeyOf_X4_fieldAt : GoodIn wsX7_lineWithKeyOf (wsV RX7 118 RX4 yX4_fieldAt wsX4_fieldAt) := goodIn_app (goodIn_of _ (by decide +kernel)) ggX7_lineWithKeyOf_X4_fieldAt
set_option maxRecDepth 20000 in
theorem ggX7_lineWithKeyOf_X1_valueAs : GoodIn wsX7_lineWithKeyOf wsX1_valueAs := goodIn_r _ [34, 35, 36, 37, 38, 48, 49, 50, 51] (by decide +kernel) (by decide +kernel)
set_option maxRecDepth 20000 in
theorem gX7_lineWithKeyOf_X1_valueAs : GoodIn wsX7_lineWithKeyOf (wsV RX7 182 RX1 yX1_valueAs wsX1_valueAs) := goodIn_app (goodIn_of _ (by decide +kernel)) ggX7_lineWithKeyOf_X1_valueAs
theorem dX7_lineWithKeyOf_0 : decode cX7_lineWithKeyOf 0 = .ok (.aload_n 0, 1) := by decide +kernel
theorem dX7_lineWithKeyOf_1 : decode cX7_lineWithKeyOf 1 = .ok (.aload_n 2, 1) := by decide +kernel
theorem dX7_lineWithKeyOf_2 : decode cX7_lineWithKeyOf 2 = .ok (.getfield 82, 3) := by decide +kernel
theorem dX7_lineWithKeyOf_5 : decode cX7_lineWithKeyOf 5 = .ok (.invokevirtual 96, 3) := by decide +kernel
theorem dX7_lineWithKeyOf_8 : decode cX7_lineWithKeyOf 8 = .ok (.ifCond .ne 6, 3) := by decide +kernel
theorem dX7_lineWithKeyOf_11 : decode cX7_lineWithKeyOf 11 = .ok (.bipush (-5), 2) := by decide +kernel
theorem dX7_lineWithKeyOf_13 : decode cX7_lineWithKeyOf 13 = .ok (.ireturn, 1) := by decide +kernel
theorem dX7_lineWithKeyOf_14 : decode cX7_lineWithKeyOf 14 = .ok (.aload_n 2, 1) := by decide +kernel
theorem dX7_lineWithKeyOf_15 : decode cX7_lineWithKeyOf 15 = .ok (.getfield 100, 3) := by decide +kernel
theorem dX7_lineWithKeyOf_18 : decode cX7_lineWithKeyOf 18 = .ok (.aload_n 2, 1) := by decide +kernel
theorem dX7_lineWithKeyOf_19 : decode cX7_lineWithKeyOf 19 = .ok (.getfield 82, 3) := by decide +kernel
theorem dX7_lineWithKeyOf_22 : decode cX7_lineWithKeyOf 22 = .ok (.iaload, 1) := by decide +kernel
theorem dX7_lineWithKeyOf_23 : decode cX7_lineWithKeyOf 23 = .ok (.istore_n 3, 1) := by decide +kernel
theorem dX7_lineWithKeyOf_24 : decode cX7_lineWithKeyOf 24 = .ok (.iconst 0, 1) := by decide +kernel
theorem dX7_lineWithKeyOf_25 : decode cX7_lineWithKeyOf 25 = .ok (.istore 4, 2) := by decide +kernel
theorem dX7_lineWithKeyOf_27 : decode cX7_lineWithKeyOf 27 = .ok (.iload 4, 2) := by decide +kernel
theorem dX7_lineWithKeyOf_29 : decode cX7_lineWithKeyOf 29 = .ok (.aload_n 2, 1) := by decide +kernel
theorem dX7_lineWithKeyOf_30 : decode cX7_lineWithKeyOf 30 = .ok (.getfield 176, 3) := by decide +kernel
theorem dX7_lineWithKeyOf_33 : decode cX7_lineWithKeyOf 33 = .ok (.if_icmp .ge 88, 3) := by decide +kernel
theorem dX7_lineWithKeyOf_36 : decode cX7_lineWithKeyOf 36 = .ok (.aload_n 0, 1) := by decide +kernel
theorem dX7_lineWithKeyOf_37 : decode cX7_lineWithKeyOf 37 = .ok (.aload_n 2, 1) := by decide +kernel
theorem dX7_lineWithKeyOf_38 : decode cX7_lineWithKeyOf 38 = .ok (.iload 4, 2) := by decide +kernel
theorem dX7_lineWithKeyOf_40 : decode cX7_lineWithKeyOf 40 = .ok (.invokevirtual 179, 3) := by decide +kernel
theorem dX7_lineWithKeyOf_43 : decode cX7_lineWithKeyOf 43 = .ok (.invokevirtual 114, 3) := by decide +kernel
theorem dX7_lineWithKeyOf_46 : decode cX7_lineWithKeyOf 46 = .ok (.astore 5, 2) := by decide +kernel
theorem dX7_lineWithKeyOf_48 : decode cX7_lineWithKeyOf 48 = .ok (.aload 5, 2) := by decide +kernel
theorem dX7_lineWithKeyOf_50 : decode cX7_lineWithKeyOf 50 = .ok (.ifnonnull 7, 3) := by decide +kernel
theorem dX7_lineWithKeyOf_53 : decode cX7_lineWithKeyOf 53 = .ok (.aconst_null, 1) := by decide +kernel
theorem dX7_lineWithKeyOf_54 : decode cX7_lineWithKeyOf 54 = .ok (.goto 12, 3) := by decide +kernel
theorem dX7_lineWithKeyOf_57 : decode cX7_lineWithKeyOf 57 = .ok (.aload 5, 2) := by decide +kernel
theorem dX7_lineWithKeyOf_59 : decode cX7_lineWithKeyOf 59 = .ok (.aload_n 2, 1) := by decide +kernel
theorem dX7_lineWithKeyOf_60 : decode cX7_lineWithKeyOf 60 = .ok (.getfield 82, 3) := by decide +kernel
theorem dX7_lineWithKeyOf_63 : decode cX7_lineWithKeyOf 63 = .ok (.invokevirtual 118, 3) := by decide +kernel
theorem dX7_lineWithKeyOf_66 : decode cX7_lineWithKeyOf 66 = .ok (.astore 6, 2) := by decide +kernel
theorem dX7_lineWithKeyOf_68 : decode cX7_lineWithKeyOf 68 = .ok (.aload 6, 2) := by decide +kernel
theorem dX7_lineWithKeyOf_70 : decode cX7_lineWithKeyOf 70 = .ok (.ifnull 15, 3) := by decide +kernel
theorem dX7_lineWithKeyOf_73 : decode cX7_lineWithKeyOf 73 = .ok (.aload 6, 2) := by decide +kernel
theorem dX7_lineWithKeyOf_75 : decode cX7_lineWithKeyOf 75 = .ok (.getfield 122, 3) := by decide +kernel
theorem dX7_lineWithKeyOf_78 : decode cX7_lineWithKeyOf 78 = .ok (.ifCond .eq 7, 3) := by decide +kernel
theorem dX7_lineWithKeyOf_81 : decode cX7_lineWithKeyOf 81 = .ok (.iconst 1, 1) := by decide +kernel
theorem dX7_lineWithKeyOf_82 : decode cX7_lineWithKeyOf 82 = .ok (.goto 4, 3) := by decide +kernel
theorem dX7_lineWithKeyOf_85 : decode cX7_lineWithKeyOf 85 = .ok (.iconst 0, 1) := by decide +kernel
theorem dX7_lineWithKeyOf_86 : decode cX7_lineWithKeyOf 86 = .ok (.istore 7, 2) := by decide +kernel
theorem dX7_lineWithKeyOf_88 : decode cX7_lineWithKeyOf 88 = .ok (.iload 7, 2) := by decide +kernel
theorem dX7_lineWithKeyOf_90 : decode cX7_lineWithKeyOf 90 = .ok (.ifCond .eq 25, 3) := by decide +kernel
theorem dX7_lineWithKeyOf_93 : decode cX7_lineWithKeyOf 93 = .ok (.aload 6, 2) := by decide +kernel
theorem dX7_lineWithKeyOf_95 : decode cX7_lineWithKeyOf 95 = .ok (.iload_n 3, 1) := by decide +kernel
theorem dX7_lineWithKeyOf_96 : decode cX7_lineWithKeyOf 96 = .ok (.invokevirtual 182, 3) := by decide +kernel
theorem dX7_lineWithKeyOf_99 : decode cX7_lineWithKeyOf 99 = .ok (.aload_n 1, 1) := by decide +kernel
theorem dX7_lineWithKeyOf_100 : decode cX7_lineWithKeyOf 100 = .ok (.iload_n 3, 1) := by decide +kernel
theorem dX7_lineWithKeyOf_101 : decode cX7_lineWithKeyOf 101 = .ok (.invokevirtual 182, 3) := by decide +kernel
theorem dX7_lineWithKeyOf_104 : decode cX7_lineWithKeyOf 104 = .ok (.lcmp, 1) := by decide +kernel
theorem dX7_lineWithKeyOf_105 : decode cX7_lineWithKeyOf 105 = .ok (.ifCond .ne 10, 3) := by decide +kernel
theorem dX7_lineWithKeyOf_108 : decode cX7_lineWithKeyOf 108 = .ok (.aload_n 2, 1) := by decide +kernel
theorem dX7_lineWithKeyOf_109 : decode cX7_lineWithKeyOf 109 = .ok (.iload 4, 2) := by decide +kernel
theorem dX7_lineWithKeyOf_111 : decode cX7_lineWithKeyOf 111 = .ok (.invokevirtual 179, 3) := by decide +kernel
theorem dX7_lineWithKeyOf_114 : decode cX7_lineWithKeyOf 114 = .ok (.ireturn, 1) := by decide +kernel
theorem dX7_lineWithKeyOf_115 : decode cX7_lineWithKeyOf 115 = .ok (.iinc 4 1, 3) := by decide +kernel
theorem dX7_lineWithKeyOf_118 : decode cX7_lineWithKeyOf 118 = .ok (.goto (-91), 3) := by decide +kernel
theorem dX7_lineWithKeyOf_121 : decode cX7_lineWithKeyOf 121 = .ok (.bipush (-5), 2) := by decide +kernel
theorem dX7_lineWithKeyOf_123 : decode cX7_lineWithKeyOf 123 = .ok (.ireturn, 1) := by decide +kernel
theorem dX8_init_0 : decode cX8_init 0 = .ok (.aload_n 0, 1) := by decide +kernel
theorem dX8_init_1 : decode cX8_init 1 = .ok (.invokespecial 3, 3) := by decide +kernel
theorem dX8_init_4 : decode cX8_init 4 = .ok (.aload_n 0, 1) := by decide +kernel
theorem dX8_init_5 : decode cX8_init 5 = .ok (.bipush 60, 2) := by decide +kernel
theorem dX8_init_7 : decode cX8_init 7 = .ok (.newarray .long, 2) := by decide +kernel
theorem dX8_init_9 : decode cX8_init 9 = .ok (.putfield 9, 3) := by decide +kernel
theorem dX8_init_12 : decode cX8_init 12 = .ok (.aload_n 0, 1) := by decide +kernel
theorem dX8_init_13 : decode cX8_init 13 = .ok (.iconst (-1), 1) := by decide +kernel
theorem dX8_init_14 : decode cX8_init 14 = .ok (.putfield 15, 3) := by decide +kernel
theorem dX8_init_17 : decode cX8_init 17 = .ok (.aload_n 0, 1) := by decide +kernel
theorem dX8_init_18 : decode cX8_init 18 = .ok (.iconst 0, 1) := by decide +kernel
theorem dX8_init_19 : decode cX8_init 19 = .ok (.putfield 19, 3) := by decide +kernel
theorem dX8_init_22 : decode cX8_init 22 = .ok (.return_, 1) := by decide +kernel
set_option maxRecDepth 20000 in
theorem ggX8_become_J7_fill_d0a16 : GoodIn wsX8_become wsJ7_fill_d0a16 := goodIn_r _ [14] (by decide +kernel) (by decide +kernel)
set_option maxRecDepth 20000 in
theorem gX8_become_J7_fill_d0a16 : GoodIn wsX8_become (va_wsS RX8 31 yJ7_fill_d0a16 wsJ7_fill_d0a16) := goodIn_app (goodIn_of _ (by decide +kernel)) ggX8_become_J7_fill_d0a16
theorem dX8_become_0 : decode cX8_become 0 = .ok (.aload_n 0, 1) := by decide +kernel
theorem dX8_become_1 : decode cX8_become 1 = .ok (.iload_n 1, 1) := by decide +kernel
theorem dX8_become_2 : decode cX8_become 2 = .ok (.putfield 15, 3) := by decide +kernel
theorem dX8_become_5 : decode cX8_become 5 = .ok (.aload_n 0, 1) := by decide +kernel
theorem dX8_become_6 : decode cX8_become 6 = .ok (.iconst 0, 1) := by decide +kernel
theorem dX8_become_7 : decode cX8_become 7 = .ok (.iload_n 2, 1) := by decide +kernel
theorem dX8_become_8 : decode cX8_become 8 = .ok (.bipush 60, 2) := by decide +kernel
theorem dX8_become_10 : decode cX8_become 10 = .ok (.invokestatic 22, 3) := by decide +kernel
theorem dX8_become_13 : decode cX8_become 13 = .ok (.invokestatic 28, 3) := by decide +kernel
theorem dX8_become_16 : decode cX8_become 16 = .ok (.putfield 19, 3) := by decide +kernel
theorem dX8_become_19 : decode cX8_become 19 = .ok (.aload_n 0, 1) := by decide +kernel
theorem dX8_become_20 : decode cX8_become 20 = .ok (.getfield 9, 3) := by decide +kernel
theorem dX8_become_23 : decode cX8_become 23 = .ok (.lconst 0, 1) := by decide +kernel
theorem dX8_become_24 : decode cX8_become 24 = .ok (.invokestatic 31, 3) := by decide +kernel
theorem dX8_become_27 : decode cX8_become 27 = .ok (.return_, 1) := by decide +kernel
theorem dX8_hasPlace_0 : decode cX8_hasPlace 0 = .ok (.iload_n 1, 1) := by decide +kernel
theorem dX8_hasPlace_1 : decode cX8_hasPlace 1 = .ok (.ifCond .lt 24, 3) := by decide +kernel
theorem dX8_hasPlace_4 : decode cX8_hasPlace 4 = .ok (.iload_n 1, 1) := by decide +kernel
theorem dX8_hasPlace_5 : decode cX8_hasPlace 5 = .ok (.aload_n 0, 1) := by decide +kernel
theorem dX8_hasPlace_6 : decode cX8_hasPlace 6 = .ok (.getfield 19, 3) := by decide +kernel
theorem dX8_hasPlace_9 : decode cX8_hasPlace 9 = .ok (.if_icmp .ge 16, 3) := by decide +kernel
theorem dX8_hasPlace_12 : decode cX8_hasPlace 12 = .ok (.iload_n 1, 1) := by decide +kernel
theorem dX8_hasPlace_13 : decode cX8_hasPlace 13 = .ok (.aload_n 0, 1) := by decide +kernel
theorem dX8_hasPlace_14 : decode cX8_hasPlace 14 = .ok (.getfield 9, 3) := by decide +kernel
theorem dX8_hasPlace_17 : decode cX8_hasPlace 17 = .ok (.arraylength, 1) := by decide +kernel
theorem dX8_hasPlace_18 : decode cX8_hasPlace 18 = .ok (.if_icmp .ge 7, 3) := by decide +kernel
theorem dX8_hasPlace_21 : decode cX8_hasPlace 21 = .ok (.iconst 1, 1) := by decide +kernel
theorem dX8_hasPlace_22 : decode cX8_hasPlace 22 = .ok (.goto 4, 3) := by decide +kernel
theorem dX8_hasPlace_25 : decode cX8_hasPlace 25 = .ok (.iconst 0, 1) := by decide +kernel
theorem dX8_hasPlace_26 : decode cX8_hasPlace 26 = .ok (.ireturn, 1) := by decide +kernel
theorem dX8_hasStretch_0 : decode cX8_hasStretch 0 = .ok (.iload_n 2, 1) := by decide +kernel
theorem dX8_hasStretch_1 : decode cX8_hasStretch 1 = .ok (.ifCond .lt 29, 3) := by decide +kernel
theorem dX8_hasStretch_4 : decode cX8_hasStretch 4 = .ok (.iload_n 1, 1) := by decide +kernel
theorem dX8_hasStretch_5 : decode cX8_hasStretch 5 = .ok (.ifCond .lt 25, 3) := by decide +kernel
theorem dX8_hasStretch_8 : decode cX8_hasStretch 8 = .ok (.iload_n 2, 1) := by decide +kernel
theorem dX8_hasStretch_9 : decode cX8_hasStretch 9 = .ok (.aload_n 0, 1) := by decide +kernel
theorem dX8_hasStretch_10 : decode cX8_hasStretch 10 = .ok (.getfield 19, 3) := by decide +kernel
theorem dX8_hasStretch_13 : decode cX8_hasStretch 13 = .ok (.if_icmp .gt 17, 3) := by decide +kernel
theorem dX8_hasStretch_16 : decode cX8_hasStretch 16 = .ok (.iload_n 1, 1) := by decide +kernel
theorem dX8_hasStretch_17 : decode cX8_hasStretch 17 = .ok (.aload_n 0, 1) := by decide +kernel
theorem dX8_hasStretch_18 : decode cX8_hasStretch 18 = .ok (.getfield 19, 3) := by decide +kernel
theorem dX8_hasStretch_21 : decode cX8_hasStretch 21 = .ok (.iload_n 2, 1) := by decide +kernel
theorem dX8_hasStretch_22 : decode cX8_hasStretch 22 = .ok (.isub, 1) := by decide +kernel
theorem dX8_hasStretch_23 : decode cX8_hasStretch 23 = .ok (.if_icmp .gt 7, 3) := by decide +kernel
theorem dX8_hasStretch_26 : decode cX8_hasStretch 26 = .ok (.iconst 1, 1) := by decide +kernel
theorem dX8_hasStretch_27 : decode cX8_hasStretch 27 = .ok (.goto 4, 3) := by decide +kernel
theorem dX8_hasStretch_30 : decode cX8_hasStretch 30 = .ok (.iconst 0, 1) := by decide +kernel
theorem dX8_hasStretch_31 : decode cX8_hasStretch 31 = .ok (.ireturn, 1) := by decide +kernel
set_option maxRecDepth 20000 in
theorem ggX8_itemAt_X8_hasPlace : GoodIn wsX8_itemAt wsX8_hasPlace := goodIn_r _ [7, 8, 1, 9, 10, 11] (by decide +kernel) (by decide +kernel)
set_option maxRecDepth 20000 in
theorem gX8_itemAt_X8_hasPlace : GoodIn wsX8_itemAt (wsV RX8 37 RX8 yX8_hasPlace wsX8_hasPlace) := goodIn_app (goodIn_of _ (by decide +kernel)) ggX8_itemAt_X8_hasPlace
theorem dX8_itemAt_0 : decode cX8_itemAt 0 = .ok (.aload_n 0, 1) := by decide +kernel
theorem dX8_itemAt_1 : decode cX8_itemAt 1 = .ok (.iload_n 1, 1) := by decide +kernel
theorem dX8_itemAt_2 : decode cX8_itemAt 2 = .ok (.invokevirtual 37, 3) := by decide +kernel
theorem dX8_itemAt_5 : decode cX8_itemAt 5 = .ok (.ifCond .eq 12, 3) := by decide +kernel
theorem dX8_itemAt_8 : decode cX8_itemAt 8 = .ok (.aload_n 0, 1) := by decide +kernel
theorem dX8_itemAt_9 : decode cX8_itemAt 9 = .ok (.getfield 9, 3) := by decide +kernel
theorem dX8_itemAt_12 : decode cX8_itemAt 12 = .ok (.iload_n 1, 1) := by decide +kernel
theorem dX8_itemAt_13 : decode cX8_itemAt 13 = .ok (.laload, 1) := by decide +kernel
theorem dX8_itemAt_14 : decode cX8_itemAt 14 = .ok (.goto 6, 3) := by decide +kernel
theorem dX8_itemAt_17 : decode cX8_itemAt 17 = .ok (.ldc2_w 41, 3) := by decide +kernel
theorem dX8_itemAt_20 : decode cX8_itemAt 20 = .ok (.lreturn, 1) := by decide +kernel
set_option maxRecDepth 20000 in
theorem ggX8_put_X8_hasPlace : GoodIn wsX8_put wsX8_hasPlace := goodIn_r _ [6, 7, 1, 13, 14, 15] (by decide +kernel) (by decide +kernel)
set_option maxRecDepth 20000 in
theorem gX8_put_X8_hasPlace : GoodIn wsX8_put (wsV RX8 37 RX8 yX8_hasPlace wsX8_hasPlace) := goodIn_app (goodIn_of _ (by decide +kernel)) ggX8_put_X8_hasPlace
set_option maxRecDepth 20000 in
theorem ggX8_put_X8_cut : GoodIn wsX8_put wsX8_cut := goodIn_r _ [11, 12, 13, 14, 15] (by decide +kernel) (by decide +kernel)
set_option maxRecDepth 20000 in
theorem gX8_put_X8_cut : GoodIn wsX8_put (wsV RX8 43 RX8 yX8_cut wsX8_cut) := goodIn_app (goodIn_of _ (by decide +kernel)) ggX8_put_X8_cut
theorem dX8_put_0 : decode cX8_put 0 = .ok (.aload_n 0, 1) := by decide +kernel
theorem dX8_put_1 : decode cX8_put 1 = .ok (.iload_n 1, 1) := by decide +kernel
theorem dX8_put_2 : decode cX8_put 2 = .ok (.invokevirtual 37, 3) := by decide +kernel
theorem dX8_put_5 : decode cX8_put 5 = .ok (.ifCond .eq 14, 3) := by decide +kernel
theorem dX8_put_8 : decode cX8_put 8 = .ok (.aload_n 0, 1) := by decide +kernel
theorem dX8_put_9 : decode cX8_put 9 = .ok (.getfield 9, 3) := by decide +kernel
theorem dX8_put_12 : decode cX8_put 12 = .ok (.iload_n 1, 1) := by decide +kernel
theorem dX8_put_13 : decode cX8_put 13 = .ok (.aload_n 0, 1) := by decide +kernel
theorem dX8_put_14 : decode cX8_put 14 = .ok (.lload_n 2, 1) := by decide +kernel
theorem dX8_put_15 : decode cX8_put 15 = .ok (.invokevirtual 43, 3) := by decide +kernel
theorem dX8_put_18 : decode cX8_put 18 = .ok (.lastore, 1) := by decide +kernel
theorem dX8_put_19 : decode cX8_put 19 = .ok (.return_, 1) := by decide +kernel
theorem dX8_cut_0 : decode cX8_cut 0 = .ok (.aload_n 0, 1) := by decide +kernel
theorem dX8_cut_1 : decode cX8_cut 1 = .ok (.getfield 15, 3) := by decide +kernel
theorem dX8_cut_4 : decode cX8_cut 4 = .ok (.tableswitch 62 0 4 #[36, 41, 46, 62, 50], 36) := by decide +kernel
theorem dX8_cut_40 : decode cX8_cut 40 = .ok (.lload_n 1, 1) := by decide +kernel
theorem dX8_cut_41 : decode cX8_cut 41 = .ok (.l2i, 1) := by decide +kernel
theorem dX8_cut_42 : decode cX8_cut 42 = .ok (.i2b, 1) := by decide +kernel
theorem dX8_cut_43 : decode cX8_cut 43 = .ok (.i2l, 1) := by decide +kernel
theorem dX8_cut_44 : decode cX8_cut 44 = .ok (.lreturn, 1) := by decide +kernel
theorem dX8_cut_45 : decode cX8_cut 45 = .ok (.lload_n 1, 1) := by decide +kernel
theorem dX8_cut_46 : decode cX8_cut 46 = .ok (.l2i, 1) := by decide +kernel
theorem dX8_cut_47 : decode cX8_cut 47 = .ok (.i2s, 1) := by decide +kernel
theorem dX8_cut_48 : decode cX8_cut 48 = .ok (.i2l, 1) := by decide +kernel
theorem dX8_cut_49 : decode cX8_cut 49 = .ok (.lreturn, 1) := by decide +kernel
theorem dX8_cut_50 : decode cX8_cut 50 = .ok (.lload_n 1, 1) := by decide +kernel
theorem dX8_cut_51 : decode cX8_cut 51 = .ok (.l2i, 1) := by decide +kernel
theorem dX8_cut_52 : decode cX8_cut 52 = .ok (.i2l, 1) := by decide +kernel
theorem dX8_cut_53 : decode cX8_cut 53 = .ok (.lreturn, 1) := by decide +kernel
theorem dX8_cut_54 : decode cX8_cut 54 = .ok (.lload_n 1, 1) := by decide +kernel
theorem dX8_cut_55 : decode cX8_cut 55 = .ok (.lconst 0, 1) := by decide +kernel
theorem dX8_cut_56 : decode cX8_cut 56 = .ok (.lcmp, 1) := by decide +kernel
theorem dX8_cut_57 : decode cX8_cut 57 = .ok (.ifCond .eq 7, 3) := by decide +kernel
theorem dX8_cut_60 : decode cX8_cut 60 = .ok (.lconst 1, 1) := by decide +kernel
theorem dX8_cut_61 : decode cX8_cut 61 = .ok (.goto 4, 3) := by decide +kernel
theorem dX8_cut_64 : decode cX8_cut 64 = .ok (.lconst 0, 1) := by decide +kernel
theorem dX8_cut_65 : decode cX8_cut 65 = .ok (.lreturn, 1) := by decide +kernel
theorem dX8_cut_66 : decode cX8_cut 66 = .ok (.lload_n 1, 1) := by decide +kernel
theorem dX8_cut_67 : decode cX8_cut 67 = .ok (.lreturn, 1) := by decide +kernel
set_option maxRecDepth 20000 in
theorem ggX9_init_X6_init : GoodIn wsX9_init wsX6_init := goodIn_r _ [31, 32, 2, 3, 33, 34, 35, 36, 37, 38, 39, 92, 93] (by decide +kernel) (by decide +kernel)
set_option maxRecDepth 20000 in
theorem gX9_init_X6_init : GoodIn wsX9_init (wsX6_init) := ggX9_init_X6_init
set_option maxRecDepth 20000 in
theorem ggX9_init_X3_init : GoodIn wsX9_init wsX3_init := goodIn_r _ [41, 42, 2, 3, 43, 44, 45, 46, 103, 104, 105] (by decide +kernel) (by decide +kernel)
set_option maxRecDepth 20000 in
theorem gX9_init_X3_init_n25 : GoodIn wsX9_init (wsX3_init) := ggX9_init_X3_init
set_option maxRecDepth 20000 in
theorem ggX9_init_X7_init : GoodIn wsX9_init wsX7_init := goodIn_r _ [48, 49, 2, 3, 43, 50, 51, 52, 19, 20, 53, 54, 55, 56, 57, 58, 59, 60, 61, 62, 63, 64, 65, 66, 67, 68, 69, 70, 71, 72, 73, 74, 75, 76, 77, 78, 79, 80, 81, 82, 83, 35, 36, 37, 84, 85, 106, 107, 108, 109, 110, 111, 112, 113, 114, 115, 116, 117, 118, 119, 120, 121, 122, 123, 124, 125, 129, 130, 131] (by decide +kernel) (by decide +kernel)
set_option maxRecDepth 20000 in
theorem gX9_init_X7_init_n32 : GoodIn wsX9_init (wsX7_init) := ggX9_init_X7_init
set_option maxRecDepth 20000 in
theorem ggX9_init_X5_init : GoodIn wsX9_init wsX5_init := goodIn_r _ [67, 68, 2, 3, 43, 69, 70, 71, 72, 73, 74, 75, 76, 77, 117, 118, 119, 120, 121, 122, 123, 124, 125] (by decide +kernel) (by decide +kernel)
set_option maxRecDepth 20000 in
theorem gX9_init_X5_init_n42 : GoodIn wsX9_init (wsX5_init) := ggX9_init_X5_init
set_option maxRecDepth 20000 in
theorem ggX9_init_X8_init : GoodIn wsX9_init wsX8_init := goodIn_r _ [87, 88, 2, 3, 22, 89, 90, 91, 126, 127, 128] (by decide +kernel) (by decide +kernel)
set_option maxRecDepth 20000 in
theorem gX9_init_X8_init_n61 : GoodIn wsX9_init (wsX8_init) := ggX9_init_X8_init
theorem dX9_init_0 : decode cX9_init 0 = .ok (.aload_n 0, 1) := by decide +kernel
theorem dX9_init_1 : decode cX9_init 1 = .ok (.invokespecial 3, 3) := by decide +kernel
theorem dX9_init_4 : decode cX9_init 4 = .ok (.aload_n 0, 1) := by decide +kernel
theorem dX9_init_5 : decode cX9_init 5 = .ok (.new 9, 3) := by decide +kernel
theorem dX9_init_8 : decode cX9_init 8 = .ok (.dup, 1) := by decide +kernel
theorem dX9_init_9 : decode cX9_init 9 = .ok (.bipush 60, 2) := by decide +kernel
theorem dX9_init_11 : decode cX9_init 11 = .ok (.invokespecial 13, 3) := by decide +kernel
theorem dX9_init_14 : decode cX9_init 14 = .ok (.putfield 16, 3) := by decide +kernel
theorem dX9_init_17 : decode cX9_init 17 = .ok (.aload_n 0, 1) := by decide +kernel
theorem dX9_init_18 : decode cX9_init 18 = .ok (.new 9, 3) := by decide +kernel
theorem dX9_init_21 : decode cX9_init 21 = .ok (.dup, 1) := by decide +kernel
theorem dX9_init_22 : decode cX9_init 22 = .ok (.bipush 12, 2) := by decide +kernel
theorem dX9_init_24 : decode cX9_init 24 = .ok (.invokespecial 13, 3) := by decide +kernel
theorem dX9_init_27 : decode cX9_init 27 = .ok (.putfield 20, 3) := by decide +kernel
theorem dX9_init_30 : decode cX9_init 30 = .ok (.aload_n 0, 1) := by decide +kernel
theorem dX9_init_31 : decode cX9_init 31 = .ok (.new 23, 3) := by decide +kernel
theorem dX9_init_34 : decode cX9_init 34 = .ok (.dup, 1) := by decide +kernel
theorem dX9_init_35 : decode cX9_init 35 = .ok (.invokespecial 25, 3) := by decide +kernel
theorem dX9_init_38 : decode cX9_init 38 = .ok (.putfield 26, 3) := by decide +kernel
theorem dX9_init_41 : decode cX9_init 41 = .ok (.aload_n 0, 1) := by decide +kernel
theorem dX9_init_42 : decode cX9_init 42 = .ok (.new 30, 3) := by decide +kernel
theorem dX9_init_45 : decode cX9_init 45 = .ok (.dup, 1) := by decide +kernel
theorem dX9_init_46 : decode cX9_init 46 = .ok (.invokespecial 32, 3) := by decide +kernel
theorem dX9_init_49 : decode cX9_init 49 = .ok (.putfield 33, 3) := by decide +kernel
theorem dX9_init_52 : decode cX9_init 52 = .ok (.aload_n 0, 1) := by decide +kernel
theorem dX9_init_53 : decode cX9_init 53 = .ok (.new 30, 3) := by decide +kernel
theorem dX9_init_56 : decode cX9_init 56 = .ok (.dup, 1) := by decide +kernel
theorem dX9_init_57 : decode cX9_init 57 = .ok (.invokespecial 32, 3) := by decide +kernel
theorem dX9_init_60 : decode cX9_init 60 = .ok (.putfield 37, 3) := by decide +kernel
theorem dX9_init_63 : decode cX9_init 63 = .ok (.aload_n 0, 1) := by decide +kernel
theorem dX9_init_64 : decode cX9_init 64 = .ok (.new 40, 3) := by decide +kernel
theorem dX9_init_67 : decode cX9_init 67 = .ok (.dup, 1) := by decide +kernel
theorem dX9_init_68 : decode cX9_init 68 = .ok (.invokespecial 42, 3) := by decide +kernel
theorem dX9_init_71 : decode cX9_init 71 = .ok (.putfield 43, 3) := by decide +kernel
theorem dX9_init_74 : decode cX9_init 74 = .ok (.aload_n 0, 1) := by decide +kernel
theorem dX9_init_75 : decode cX9_init 75 = .ok (.bipush 24, 2) := by decide +kernel
theorem dX9_init_77 : decode cX9_init 77 = .ok (.newarray .long, 2) := by decide +kernel
theorem dX9_init_79 : decode cX9_init 79 = .ok (.putfield 47, 3) := by decide +kernel
theorem dX9_init_82 : decode cX9_init 82 = .ok (.aload_n 0, 1) := by decide +kernel
theorem dX9_init_83 : decode cX9_init 83 = .ok (.bipush 6, 2) := by decide +kernel
theorem dX9_init_85 : decode cX9_init 85 = .ok (.anewarray 51, 3) := by decide +kernel
theorem dX9_init_88 : decode cX9_init 88 = .ok (.putfield 53, 3) := by decide +kernel
theorem dX9_init_91 : decode cX9_init 91 = .ok (.aload_n 0, 1) := by decide +kernel
theorem dX9_init_92 : decode cX9_init 92 = .ok (.iconst 0, 1) := by decide +kernel
theorem dX9_init_93 : decode cX9_init 93 = .ok (.putfield 57, 3) := by decide +kernel
theorem dX9_init_96 : decode cX9_init 96 = .ok (.iconst 0, 1) := by decide +kernel
theorem dX9_init_97 : decode cX9_init 97 = .ok (.istore_n 1, 1) := by decide +kernel
