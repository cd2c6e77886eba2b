set_option maxRecDepth 20000 in
theorem ggX0_init_X9_init : GoodIn wsX0_init wsX9_init := goodIn_r _ [9, 10, 2, 3, 11, 12, 13, 14] (by decide +kernel) (by decide +kernel)
set_option maxRecDepth 20000 in
theorem gX0_init_X9_init_n11 : GoodIn wsX0_init (wsX9_init) := ggX0_init_X9_init
theorem dX0_init_0 : decode cX0_init 0 = .ok (.aload_n 0, 1) := by decide +kernel
theorem dX0_init_1 : decode cX0_init 1 = .ok (.invokespecial 3, 3) := by decide +kernel
theorem dX0_init_4 : decode cX0_init 4 = .ok (.aload_n 0, 1) := by decide +kernel
theorem dX0_init_5 : decode cX0_init 5 = .ok (.new 9, 3) := by decide +kernel
theorem dX0_init_8 : decode cX0_init 8 = .ok (.dup, 1) := by decide +kernel
theorem dX0_init_9 : decode cX0_init 9 = .ok (.invokespecial 11, 3) := by decide +kernel
theorem dX0_init_12 : decode cX0_init 12 = .ok (.putfield 12, 3) := by decide +kernel
theorem dX0_init_15 : decode cX0_init 15 = .ok (.return_, 1) := by decide +kernel
theorem dX0_begin_0 : decode cX0_begin 0 = .ok (.aload_n 0, 1) := by decide +kernel
theorem dX0_begin_1 : decode cX0_begin 1 = .ok (.iconst 0, 1) := by decide +kernel
theorem dX0_begin_2 : decode cX0_begin 2 = .ok (.putfield 18, 3) := by decide +kernel
theorem dX0_begin_5 : decode cX0_begin 5 = .ok (.aload_n 0, 1) := by decide +kernel
theorem dX0_begin_6 : decode cX0_begin 6 = .ok (.iconst 0, 1) := by decide +kernel
theorem dX0_begin_7 : decode cX0_begin 7 = .ok (.putfield 22, 3) := by decide +kernel
theorem dX0_begin_10 : decode cX0_begin 10 = .ok (.return_, 1) := by decide +kernel
theorem dX0_hasMore_0 : decode cX0_hasMore 0 = .ok (.aload_n 0, 1) := by decide +kernel
theorem dX0_hasMore_1 : decode cX0_hasMore 1 = .ok (.getfield 22, 3) := by decide +kernel
theorem dX0_hasMore_4 : decode cX0_hasMore 4 = .ok (.ifCond .ne 21, 3) := by decide +kernel
theorem dX0_hasMore_7 : decode cX0_hasMore 7 = .ok (.aload_n 0, 1) := by decide +kernel
theorem dX0_hasMore_8 : decode cX0_hasMore 8 = .ok (.getfield 18, 3) := by decide +kernel
theorem dX0_hasMore_11 : decode cX0_hasMore 11 = .ok (.aload_n 0, 1) := by decide +kernel
theorem dX0_hasMore_12 : decode cX0_hasMore 12 = .ok (.getfield 12, 3) := by decide +kernel
theorem dX0_hasMore_15 : decode cX0_hasMore 15 = .ok (.getfield 26, 3) := by decide +kernel
theorem dX0_hasMore_18 : decode cX0_hasMore 18 = .ok (.if_icmp .ge 7, 3) := by decide +kernel
theorem dX0_hasMore_21 : decode cX0_hasMore 21 = .ok (.iconst 1, 1) := by decide +kernel
theorem dX0_hasMore_22 : decode cX0_hasMore 22 = .ok (.goto 4, 3) := by decide +kernel
theorem dX0_hasMore_25 : decode cX0_hasMore 25 = .ok (.iconst 0, 1) := by decide +kernel
theorem dX0_hasMore_26 : decode cX0_hasMore 26 = .ok (.ireturn, 1) := by decide +kernel
set_option maxRecDepth 20000 in
theorem ggX0_readAct_X9_at : GoodIn wsX0_readAct wsX9_at := goodIn_r _ [14, 15, 16, 37, 38] (by decide +kernel) (by decide +kernel)
set_option maxRecDepth 20000 in
theorem gX0_readAct_X9_at : GoodIn wsX0_readAct (wsV RX0 29 RX9 yX9_at wsX9_at) := goodIn_app (goodIn_of _ (by decide +kernel)) ggX0_readAct_X9_at
set_option maxRecDepth 20000 in
theorem ggX0_readAct_X0_readNumber : GoodIn wsX0_readAct wsX0_readNumber := goodIn_r _ [21, 1, 2, 4, 10, 11, 12, 13, 14, 15, 16, 22, 23, 24, 29, 30, 31, 32, 33, 34, 35, 36, 37, 38] (by decide +kernel) (by decide +kernel)
set_option maxRecDepth 20000 in
theorem gX0_readAct_X0_readNumber : GoodIn wsX0_readAct (wsV RX0 36 RX0 yX0_readNumber wsX0_readNumber) := goodIn_app (goodIn_of _ (by decide +kernel)) ggX0_readAct_X0_readNumber
set_option maxRecDepth 20000 in
theorem ggX0_readAct_X0_readSign : GoodIn wsX0_readAct wsX0_readSign := goodIn_r _ [28, 4, 1, 2, 10, 11, 12, 13, 14, 15, 16, 29, 30, 31, 32, 33, 34, 35, 36, 37, 38] (by decide +kernel) (by decide +kernel)
set_option maxRecDepth 20000 in
theorem gX0_readAct_X0_readSign : GoodIn wsX0_readAct (wsV RX0 43 RX0 yX0_readSign wsX0_readSign) := goodIn_app (goodIn_of _ (by decide +kernel)) ggX0_readAct_X0_readSign
theorem dX0_readAct_0 : decode cX0_readAct 0 = .ok (.aload_n 0, 1) := by decide +kernel
theorem dX0_readAct_1 : decode cX0_readAct 1 = .ok (.aload_n 0, 1) := by decide +kernel
theorem dX0_readAct_2 : decode cX0_readAct 2 = .ok (.getfield 12, 3) := by decide +kernel
theorem dX0_readAct_5 : decode cX0_readAct 5 = .ok (.aload_n 0, 1) := by decide +kernel
theorem dX0_readAct_6 : decode cX0_readAct 6 = .ok (.getfield 18, 3) := by decide +kernel
theorem dX0_readAct_9 : decode cX0_readAct 9 = .ok (.invokevirtual 29, 3) := by decide +kernel
theorem dX0_readAct_12 : decode cX0_readAct 12 = .ok (.putfield 33, 3) := by decide +kernel
theorem dX0_readAct_15 : decode cX0_readAct 15 = .ok (.aload_n 0, 1) := by decide +kernel
theorem dX0_readAct_16 : decode cX0_readAct 16 = .ok (.getfield 33, 3) := by decide +kernel
theorem dX0_readAct_19 : decode cX0_readAct 19 = .ok (.bipush 115, 2) := by decide +kernel
theorem dX0_readAct_21 : decode cX0_readAct 21 = .ok (.if_icmp .eq 27, 3) := by decide +kernel
theorem dX0_readAct_24 : decode cX0_readAct 24 = .ok (.aload_n 0, 1) := by decide +kernel
theorem dX0_readAct_25 : decode cX0_readAct 25 = .ok (.getfield 33, 3) := by decide +kernel
theorem dX0_readAct_28 : decode cX0_readAct 28 = .ok (.bipush 99, 2) := by decide +kernel
theorem dX0_readAct_30 : decode cX0_readAct 30 = .ok (.if_icmp .eq 18, 3) := by decide +kernel
theorem dX0_readAct_33 : decode cX0_readAct 33 = .ok (.aload_n 0, 1) := by decide +kernel
theorem dX0_readAct_34 : decode cX0_readAct 34 = .ok (.getfield 33, 3) := by decide +kernel
theorem dX0_readAct_37 : decode cX0_readAct 37 = .ok (.bipush 119, 2) := by decide +kernel
theorem dX0_readAct_39 : decode cX0_readAct 39 = .ok (.if_icmp .eq 9, 3) := by decide +kernel
theorem dX0_readAct_42 : decode cX0_readAct 42 = .ok (.aload_n 0, 1) := by decide +kernel
theorem dX0_readAct_43 : decode cX0_readAct 43 = .ok (.iconst 1, 1) := by decide +kernel
theorem dX0_readAct_44 : decode cX0_readAct 44 = .ok (.putfield 22, 3) := by decide +kernel
theorem dX0_readAct_47 : decode cX0_readAct 47 = .ok (.return_, 1) := by decide +kernel
theorem dX0_readAct_48 : decode cX0_readAct 48 = .ok (.aload_n 0, 1) := by decide +kernel
theorem dX0_readAct_49 : decode cX0_readAct 49 = .ok (.dup, 1) := by decide +kernel
theorem dX0_readAct_50 : decode cX0_readAct 50 = .ok (.getfield 18, 3) := by decide +kernel
theorem dX0_readAct_53 : decode cX0_readAct 53 = .ok (.iconst 1, 1) := by decide +kernel
theorem dX0_readAct_54 : decode cX0_readAct 54 = .ok (.iadd, 1) := by decide +kernel
theorem dX0_readAct_55 : decode cX0_readAct 55 = .ok (.putfield 18, 3) := by decide +kernel
theorem dX0_readAct_58 : decode cX0_readAct 58 = .ok (.aload_n 0, 1) := by decide +kernel
theorem dX0_readAct_59 : decode cX0_readAct 59 = .ok (.getfield 33, 3) := by decide +kernel
theorem dX0_readAct_62 : decode cX0_readAct 62 = .ok (.bipush 115, 2) := by decide +kernel
theorem dX0_readAct_64 : decode cX0_readAct 64 = .ok (.if_icmp .ne 68, 3) := by decide +kernel
theorem dX0_readAct_67 : decode cX0_readAct 67 = .ok (.aload_n 0, 1) := by decide +kernel
theorem dX0_readAct_68 : decode cX0_readAct 68 = .ok (.aload_n 0, 1) := by decide +kernel
theorem dX0_readAct_69 : decode cX0_readAct 69 = .ok (.iconst 0, 1) := by decide +kernel
theorem dX0_readAct_70 : decode cX0_readAct 70 = .ok (.iconst 3, 1) := by decide +kernel
theorem dX0_readAct_71 : decode cX0_readAct 71 = .ok (.invokevirtual 36, 3) := by decide +kernel
theorem dX0_readAct_74 : decode cX0_readAct 74 = .ok (.putfield 40, 3) := by decide +kernel
theorem dX0_readAct_77 : decode cX0_readAct 77 = .ok (.aload_n 0, 1) := by decide +kernel
theorem dX0_readAct_78 : decode cX0_readAct 78 = .ok (.bipush 102, 2) := by decide +kernel
theorem dX0_readAct_80 : decode cX0_readAct 80 = .ok (.invokevirtual 43, 3) := by decide +kernel
theorem dX0_readAct_83 : decode cX0_readAct 83 = .ok (.aload_n 0, 1) := by decide +kernel
theorem dX0_readAct_84 : decode cX0_readAct 84 = .ok (.aload_n 0, 1) := by decide +kernel
theorem dX0_readAct_85 : decode cX0_readAct 85 = .ok (.sipush 1000, 3) := by decide +kernel
theorem dX0_readAct_88 : decode cX0_readAct 88 = .ok (.ldc 47, 2) := by decide +kernel
theorem dX0_readAct_90 : decode cX0_readAct 90 = .ok (.invokevirtual 36, 3) := by decide +kernel
theorem dX0_readAct_93 : decode cX0_readAct 93 = .ok (.putfield 48, 3) := by decide +kernel
theorem dX0_readAct_96 : decode cX0_readAct 96 = .ok (.aload_n 0, 1) := by decide +kernel
theorem dX0_readAct_97 : decode cX0_readAct 97 = .ok (.bipush 98, 2) := by decide +kernel
theorem dX0_readAct_99 : decode cX0_readAct 99 = .ok (.invokevirtual 43, 3) := by decide +kernel
theorem dX0_readAct_102 : decode cX0_readAct 102 = .ok (.aload_n 0, 1) := by decide +kernel
theorem dX0_readAct_103 : decode cX0_readAct 103 = .ok (.aload_n 0, 1) := by decide +kernel
theorem dX0_readAct_104 : decode cX0_readAct 104 = .ok (.sipush 1000, 3) := by decide +kernel
theorem dX0_readAct_107 : decode cX0_readAct 107 = .ok (.ldc 47, 2) := by decide +kernel
theorem dX0_readAct_109 : decode cX0_readAct 109 = .ok (.invokevirtual 36, 3) := by decide +kernel
theorem dX0_readAct_112 : decode cX0_readAct 112 = .ok (.putfield 51, 3) := by decide +kernel
theorem dX0_readAct_115 : decode cX0_readAct 115 = .ok (.aload_n 0, 1) := by decide +kernel
theorem dX0_readAct_116 : decode cX0_readAct 116 = .ok (.bipush 113, 2) := by decide +kernel
theorem dX0_readAct_118 : decode cX0_readAct 118 = .ok (.invokevirtual 43, 3) := by decide +kernel
theorem dX0_readAct_121 : decode cX0_readAct 121 = .ok (.aload_n 0, 1) := by decide +kernel
theorem dX0_readAct_122 : decode cX0_readAct 122 = .ok (.aload_n 0, 1) := by decide +kernel
theorem dX0_readAct_123 : decode cX0_readAct 123 = .ok (.iconst 0, 1) := by decide +kernel
theorem dX0_readAct_124 : decode cX0_readAct 124 = .ok (.bipush 100, 2) := by decide +kernel
theorem dX0_readAct_126 : decode cX0_readAct 126 = .ok (.invokevirtual 36, 3) := by decide +kernel
theorem dX0_readAct_129 : decode cX0_readAct 129 = .ok (.putfield 54, 3) := by decide +kernel
theorem dX0_readAct_132 : decode cX0_readAct 132 = .ok (.aload_n 0, 1) := by decide +kernel
theorem dX0_readAct_133 : decode cX0_readAct 133 = .ok (.bipush 59, 2) := by decide +kernel
theorem dX0_readAct_135 : decode cX0_readAct 135 = .ok (.invokevirtual 43, 3) := by decide +kernel
theorem dX0_readAct_138 : decode cX0_readAct 138 = .ok (.return_, 1) := by decide +kernel
set_option maxRecDepth 20000 in
theorem ggX0_readSign_X9_at : GoodIn wsX0_readSign wsX9_at := goodIn_r _ [8, 9, 10, 19, 20] (by decide +kernel) (by decide +kernel)
set_option maxRecDepth 20000 in
theorem gX0_readSign_X9_at : GoodIn wsX0_readSign (wsV RX0 29 RX9 yX9_at wsX9_at) := goodIn_app (goodIn_of _ (by decide +kernel)) ggX0_readSign_X9_at
theorem dX0_readSign_0 : decode cX0_readSign 0 = .ok (.aload_n 0, 1) := by decide +kernel
theorem dX0_readSign_1 : decode cX0_readSign 1 = .ok (.getfield 22, 3) := by decide +kernel
theorem dX0_readSign_4 : decode cX0_readSign 4 = .ok (.ifCond .ne 31, 3) := by decide +kernel
theorem dX0_readSign_7 : decode cX0_readSign 7 = .ok (.aload_n 0, 1) := by decide +kernel
theorem dX0_readSign_8 : decode cX0_readSign 8 = .ok (.getfield 12, 3) := by decide +kernel
theorem dX0_readSign_11 : decode cX0_readSign 11 = .ok (.aload_n 0, 1) := by decide +kernel
theorem dX0_readSign_12 : decode cX0_readSign 12 = .ok (.getfield 18, 3) := by decide +kernel
theorem dX0_readSign_15 : decode cX0_readSign 15 = .ok (.invokevirtual 29, 3) := by decide +kernel
theorem dX0_readSign_18 : decode cX0_readSign 18 = .ok (.iload_n 1, 1) := by decide +kernel
theorem dX0_readSign_19 : decode cX0_readSign 19 = .ok (.if_icmp .ne 16, 3) := by decide +kernel
theorem dX0_readSign_22 : decode cX0_readSign 22 = .ok (.aload_n 0, 1) := by decide +kernel
theorem dX0_readSign_23 : decode cX0_readSign 23 = .ok (.dup, 1) := by decide +kernel
theorem dX0_readSign_24 : decode cX0_readSign 24 = .ok (.getfield 18, 3) := by decide +kernel
theorem dX0_readSign_27 : decode cX0_readSign 27 = .ok (.iconst 1, 1) := by decide +kernel
theorem dX0_readSign_28 : decode cX0_readSign 28 = .ok (.iadd, 1) := by decide +kernel
theorem dX0_readSign_29 : decode cX0_readSign 29 = .ok (.putfield 18, 3) := by decide +kernel
theorem dX0_readSign_32 : decode cX0_readSign 32 = .ok (.goto 8, 3) := by decide +kernel
theorem dX0_readSign_35 : decode cX0_readSign 35 = .ok (.aload_n 0, 1) := by decide +kernel
theorem dX0_readSign_36 : decode cX0_readSign 36 = .ok (.iconst 1, 1) := by decide +kernel
theorem dX0_readSign_37 : decode cX0_readSign 37 = .ok (.putfield 22, 3) := by decide +kernel
theorem dX0_readSign_40 : decode cX0_readSign 40 = .ok (.return_, 1) := by decide +kernel
set_option maxRecDepth 20000 in
theorem ggX0_readNumber_X9_at : GoodIn wsX0_readNumber wsX9_at := goodIn_r _ [8, 9, 10, 22, 23] (by decide +kernel) (by decide +kernel)
set_option maxRecDepth 20000 in
theorem gX0_readNumber_X9_at : GoodIn wsX0_readNumber (wsV RX0 29 RX9 yX9_at wsX9_at) := goodIn_app (goodIn_of _ (by decide +kernel)) ggX0_readNumber_X9_at
set_option maxRecDepth 20000 in
theorem ggX0_readNumber_X10_isWithin : GoodIn wsX0_readNumber wsX10_isWithin := goodIn_r _ [13] (by decide +kernel) (by decide +kernel)
set_option maxRecDepth 20000 in
theorem gX0_readNumber_X10_isWithin_n57 : GoodIn wsX0_readNumber (wsX10_isWithin) := ggX0_readNumber_X10_isWithin
theorem dX0_readNumber_0 : decode cX0_readNumber 0 = .ok (.aload_n 0, 1) := by decide +kernel
theorem dX0_readNumber_1 : decode cX0_readNumber 1 = .ok (.getfield 12, 3) := by decide +kernel
theorem dX0_readNumber_4 : decode cX0_readNumber 4 = .ok (.aload_n 0, 1) := by decide +kernel
theorem dX0_readNumber_5 : decode cX0_readNumber 5 = .ok (.getfield 18, 3) := by decide +kernel
theorem dX0_readNumber_8 : decode cX0_readNumber 8 = .ok (.invokevirtual 29, 3) := by decide +kernel
theorem dX0_readNumber_11 : decode cX0_readNumber 11 = .ok (.bipush 48, 2) := by decide +kernel
theorem dX0_readNumber_13 : decode cX0_readNumber 13 = .ok (.if_icmp .ne 7, 3) := by decide +kernel
theorem dX0_readNumber_16 : decode cX0_readNumber 16 = .ok (.iconst 1, 1) := by decide +kernel
theorem dX0_readNumber_17 : decode cX0_readNumber 17 = .ok (.goto 5, 3) := by decide +kernel
theorem dX0_readNumber_20 : decode cX0_readNumber 20 = .ok (.bipush 7, 2) := by decide +kernel
theorem dX0_readNumber_22 : decode cX0_readNumber 22 = .ok (.istore_n 3, 1) := by decide +kernel
theorem dX0_readNumber_23 : decode cX0_readNumber 23 = .ok (.iconst 0, 1) := by decide +kernel
theorem dX0_readNumber_24 : decode cX0_readNumber 24 = .ok (.istore 4, 2) := by decide +kernel
theorem dX0_readNumber_26 : decode cX0_readNumber 26 = .ok (.iconst 0, 1) := by decide +kernel
theorem dX0_readNumber_27 : decode cX0_readNumber 27 = .ok (.istore 5, 2) := by decide +kernel
theorem dX0_readNumber_29 : decode cX0_readNumber 29 = .ok (.iload 4, 2) := by decide +kernel
theorem dX0_readNumber_31 : decode cX0_readNumber 31 = .ok (.iload_n 3, 1) := by decide +kernel
theorem dX0_readNumber_32 : decode cX0_readNumber 32 = .ok (.if_icmp .ge 58, 3) := by decide +kernel
theorem dX0_readNumber_35 : decode cX0_readNumber 35 = .ok (.aload_n 0, 1) := by decide +kernel
theorem dX0_readNumber_36 : decode cX0_readNumber 36 = .ok (.getfield 12, 3) := by decide +kernel
theorem dX0_readNumber_39 : decode cX0_readNumber 39 = .ok (.aload_n 0, 1) := by decide +kernel
theorem dX0_readNumber_40 : decode cX0_readNumber 40 = .ok (.getfield 18, 3) := by decide +kernel
theorem dX0_readNumber_43 : decode cX0_readNumber 43 = .ok (.iload 4, 2) := by decide +kernel
theorem dX0_readNumber_45 : decode cX0_readNumber 45 = .ok (.iadd, 1) := by decide +kernel
theorem dX0_readNumber_46 : decode cX0_readNumber 46 = .ok (.invokevirtual 29, 3) := by decide +kernel
theorem dX0_readNumber_49 : decode cX0_readNumber 49 = .ok (.bipush 48, 2) := by decide +kernel
theorem dX0_readNumber_51 : decode cX0_readNumber 51 = .ok (.bipush 57, 2) := by decide +kernel
theorem dX0_readNumber_53 : decode cX0_readNumber 53 = .ok (.invokestatic 57, 3) := by decide +kernel
theorem dX0_readNumber_56 : decode cX0_readNumber 56 = .ok (.ifCond .eq 34, 3) := by decide +kernel
theorem dX0_readNumber_59 : decode cX0_readNumber 59 = .ok (.iload 5, 2) := by decide +kernel
theorem dX0_readNumber_61 : decode cX0_readNumber 61 = .ok (.bipush 10, 2) := by decide +kernel
theorem dX0_readNumber_63 : decode cX0_readNumber 63 = .ok (.imul, 1) := by decide +kernel
theorem dX0_readNumber_64 : decode cX0_readNumber 64 = .ok (.aload_n 0, 1) := by decide +kernel
theorem dX0_readNumber_65 : decode cX0_readNumber 65 = .ok (.getfield 12, 3) := by decide +kernel
theorem dX0_readNumber_68 : decode cX0_readNumber 68 = .ok (.aload_n 0, 1) := by decide +kernel
theorem dX0_readNumber_69 : decode cX0_readNumber 69 = .ok (.getfield 18, 3) := by decide +kernel
theorem dX0_readNumber_72 : decode cX0_readNumber 72 = .ok (.iload 4, 2) := by decide +kernel
theorem dX0_readNumber_74 : decode cX0_readNumber 74 = .ok (.iadd, 1) := by decide +kernel
theorem dX0_readNumber_75 : decode cX0_readNumber 75 = .ok (.invokevirtual 29, 3) := by decide +kernel
theorem dX0_readNumber_78 : decode cX0_readNumber 78 = .ok (.iadd, 1) := by decide +kernel
theorem dX0_readNumber_79 : decode cX0_readNumber 79 = .ok (.bipush 48, 2) := by decide +kernel
theorem dX0_readNumber_81 : decode cX0_readNumber 81 = .ok (.isub, 1) := by decide +kernel
theorem dX0_readNumber_82 : decode cX0_readNumber 82 = .ok (.istore 5, 2) := by decide +kernel
theorem dX0_readNumber_84 : decode cX0_readNumber 84 = .ok (.iinc 4 1, 3) := by decide +kernel
theorem dX0_readNumber_87 : decode cX0_readNumber 87 = .ok (.goto (-58), 3) := by decide +kernel
theorem dX0_readNumber_90 : decode cX0_readNumber 90 = .ok (.aload_n 0, 1) := by decide +kernel
theorem dX0_readNumber_91 : decode cX0_readNumber 91 = .ok (.getfield 22, 3) := by decide +kernel
theorem dX0_readNumber_94 : decode cX0_readNumber 94 = .ok (.ifCond .ne 18, 3) := by decide +kernel
theorem dX0_readNumber_97 : decode cX0_readNumber 97 = .ok (.iload 4, 2) := by decide +kernel
theorem dX0_readNumber_99 : decode cX0_readNumber 99 = .ok (.ifCond .eq 13, 3) := by decide +kernel
theorem dX0_readNumber_102 : decode cX0_readNumber 102 = .ok (.iload 5, 2) := by decide +kernel
theorem dX0_readNumber_104 : decode cX0_readNumber 104 = .ok (.iload_n 1, 1) := by decide +kernel
theorem dX0_readNumber_105 : decode cX0_readNumber 105 = .ok (.iload_n 2, 1) := by decide +kernel
theorem dX0_readNumber_106 : decode cX0_readNumber 106 = .ok (.invokestatic 57, 3) := by decide +kernel
theorem dX0_readNumber_109 : decode cX0_readNumber 109 = .ok (.ifCond .ne 10, 3) := by decide +kernel
theorem dX0_readNumber_112 : decode cX0_readNumber 112 = .ok (.aload_n 0, 1) := by decide +kernel
theorem dX0_readNumber_113 : decode cX0_readNumber 113 = .ok (.iconst 1, 1) := by decide +kernel
theorem dX0_readNumber_114 : decode cX0_readNumber 114 = .ok (.putfield 22, 3) := by decide +kernel
theorem dX0_readNumber_117 : decode cX0_readNumber 117 = .ok (.iconst 0, 1) := by decide +kernel
theorem dX0_readNumber_118 : decode cX0_readNumber 118 = .ok (.ireturn, 1) := by decide +kernel
theorem dX0_readNumber_119 : decode cX0_readNumber 119 = .ok (.aload_n 0, 1) := by decide +kernel
theorem dX0_readNumber_120 : decode cX0_readNumber 120 = .ok (.dup, 1) := by decide +kernel
theorem dX0_readNumber_121 : decode cX0_readNumber 121 = .ok (.getfield 18, 3) := by decide +kernel
theorem dX0_readNumber_124 : decode cX0_readNumber 124 = .ok (.iload 4, 2) := by decide +kernel
theorem dX0_readNumber_126 : decode cX0_readNumber 126 = .ok (.iadd, 1) := by decide +kernel
theorem dX0_readNumber_127 : decode cX0_readNumber 127 = .ok (.putfield 18, 3) := by decide +kernel
theorem dX0_readNumber_130 : decode cX0_readNumber 130 = .ok (.iload 5, 2) := by decide +kernel
theorem dX0_readNumber_132 : decode cX0_readNumber 132 = .ok (.ireturn, 1) := by decide +kernel
set_option maxRecDepth 20000 in
theorem ggX1_init_X8_init : GoodIn wsX1_init wsX8_init := goodIn_r _ [10, 11, 2, 3, 12, 13, 14, 15, 16, 17, 18, 19, 20, 21, 22, 23, 24, 25, 26, 27, 28, 29, 30, 31, 32, 33, 34, 35, 36, 37, 38, 39, 40, 41, 42, 43, 44, 45, 46, 47, 48, 49, 50, 51, 52, 53, 54, 57, 58, 59, 60, 61, 62, 63, 64, 65, 66, 67, 68, 69, 70, 71, 72, 73, 74, 75, 76, 77, 78, 79, 80, 81, 82, 83, 84, 85, 86, 87, 88, 89, 90, 91, 92, 93, 94, 95, 96, 97] (by decide +kernel) (by decide +kernel)
set_option maxRecDepth 20000 in
theorem gX1_init_X8_init : GoodIn wsX1_init (wsX8_init) := ggX1_init_X8_init
theorem dX1_init_0 : decode cX1_init 0 = .ok (.aload_n 0, 1) := by decide +kernel
theorem dX1_init_1 : decode cX1_init 1 = .ok (.invokespecial 3, 3) := by decide +kernel
theorem dX1_init_4 : decode cX1_init 4 = .ok (.aload_n 0, 1) := by decide +kernel
theorem dX1_init_5 : decode cX1_init 5 = .ok (.iconst 5, 1) := by decide +kernel
theorem dX1_init_6 : decode cX1_init 6 = .ok (.anewarray 9, 3) := by decide +kernel
theorem dX1_init_9 : decode cX1_init 9 = .ok (.putfield 11, 3) := by decide +kernel
theorem dX1_init_12 : decode cX1_init 12 = .ok (.iconst 0, 1) := by decide +kernel
theorem dX1_init_13 : decode cX1_init 13 = .ok (.istore_n 1, 1) := by decide +kernel
theorem dX1_init_14 : decode cX1_init 14 = .ok (.iload_n 1, 1) := by decide +kernel
theorem dX1_init_15 : decode cX1_init 15 = .ok (.iconst 5, 1) := by decide +kernel
theorem dX1_init_16 : decode cX1_init 16 = .ok (.if_icmp .ge 22, 3) := by decide +kernel
theorem dX1_init_19 : decode cX1_init 19 = .ok (.aload_n 0, 1) := by decide +kernel
theorem dX1_init_20 : decode cX1_init 20 = .ok (.getfield 11, 3) := by decide +kernel
theorem dX1_init_23 : decode cX1_init 23 = .ok (.iload_n 1, 1) := by decide +kernel
theorem dX1_init_24 : decode cX1_init 24 = .ok (.new 9, 3) := by decide +kernel
theorem dX1_init_27 : decode cX1_init 27 = .ok (.dup, 1) := by decide +kernel
theorem dX1_init_28 : decode cX1_init 28 = .ok (.invokespecial 17, 3) := by decide +kernel
theorem dX1_init_31 : decode cX1_init 31 = .ok (.aastore, 1) := by decide +kernel
theorem dX1_init_32 : decode cX1_init 32 = .ok (.iinc 1 1, 3) := by decide +kernel
theorem dX1_init_35 : decode cX1_init 35 = .ok (.goto (-21), 3) := by decide +kernel
theorem dX1_init_38 : decode cX1_init 38 = .ok (.return_, 1) := by decide +kernel
set_option maxRecDepth 20000 in
theorem ggX1_push_X1_dropOldest : GoodIn wsX1_push wsX1_dropOldest := goodIn_r _ [7, 2, 1, 88, 89] (by decide +kernel) (by decide +kernel)
set_option maxRecDepth 20000 in
theorem gX1_push_X1_dropOldest : GoodIn wsX1_push (wsV RX1 22 RX1 yX1_dropOldest wsX1_dropOldest) := goodIn_app (goodIn_of _ (by decide +kernel)) ggX1_push_X1_dropOldest
set_option maxRecDepth 20000 in
theorem ggX1_push_X8_copyFrom : GoodIn wsX1_push wsX8_copyFrom := goodIn_r _ [12, 13, 14, 15, 16, 17, 18, 19, 20, 21, 22, 23, 24, 25, 26, 27, 28, 29, 30, 31, 32, 33, 34, 35, 36, 37, 38, 39, 40, 41, 42, 43, 44, 45, 46, 47, 48, 49, 50, 51, 52, 53, 54, 55, 56, 57, 58, 59, 60, 61, 62, 63, 64, 65, 66, 67, 68, 69, 70, 71, 72, 73, 74, 75, 76, 77, 78, 79, 80, 81, 82, 83, 84, 85, 86, 87, 90, 91, 92, 93, 94, 95, 96, 97, 98, 99, 100, 101, 102, 103, 104, 105, 106, 107, 108, 109, 110, 111, 112, 113, 114, 115, 116, 117, 118, 119, 120, 121, 122, 123, 124, 125, 126, 127, 128, 129, 130] (by decide +kernel) (by decide +kernel)
set_option maxRecDepth 20000 in
theorem gX1_push_X8_copyFrom : GoodIn wsX1_push (wsV RX1 25 RX8 yX8_copyFrom wsX8_copyFrom) := goodIn_app (goodIn_of _ (by decide +kernel)) ggX1_push_X8_copyFrom
theorem dX1_push_0 : decode cX1_push 0 = .ok (.aload_n 0, 1) := by decide +kernel
theorem dX1_push_1 : decode cX1_push 1 = .ok (.getfield 18, 3) := by decide +kernel
theorem dX1_push_4 : decode cX1_push 4 = .ok (.iconst 5, 1) := by decide +kernel
theorem dX1_push_5 : decode cX1_push 5 = .ok (.if_icmp .lt 7, 3) := by decide +kernel
theorem dX1_push_8 : decode cX1_push 8 = .ok (.aload_n 0, 1) := by decide +kernel
theorem dX1_push_9 : decode cX1_push 9 = .ok (.invokevirtual 22, 3) := by decide +kernel
theorem dX1_push_12 : decode cX1_push 12 = .ok (.aload_n 0, 1) := by decide +kernel
theorem dX1_push_13 : decode cX1_push 13 = .ok (.getfield 18, 3) := by decide +kernel
theorem dX1_push_16 : decode cX1_push 16 = .ok (.ifCond .lt 34, 3) := by decide +kernel
theorem dX1_push_19 : decode cX1_push 19 = .ok (.aload_n 0, 1) := by decide +kernel
theorem dX1_push_20 : decode cX1_push 20 = .ok (.getfield 18, 3) := by decide +kernel
theorem dX1_push_23 : decode cX1_push 23 = .ok (.iconst 5, 1) := by decide +kernel
theorem dX1_push_24 : decode cX1_push 24 = .ok (.if_icmp .ge 26, 3) := by decide +kernel
theorem dX1_push_27 : decode cX1_push 27 = .ok (.aload_n 0, 1) := by decide +kernel
theorem dX1_push_28 : decode cX1_push 28 = .ok (.getfield 11, 3) := by decide +kernel
theorem dX1_push_31 : decode cX1_push 31 = .ok (.aload_n 0, 1) := by decide +kernel
theorem dX1_push_32 : decode cX1_push 32 = .ok (.getfield 18, 3) := by decide +kernel
theorem dX1_push_35 : decode cX1_push 35 = .ok (.aaload, 1) := by decide +kernel
theorem dX1_push_36 : decode cX1_push 36 = .ok (.aload_n 1, 1) := by decide +kernel
theorem dX1_push_37 : decode cX1_push 37 = .ok (.invokevirtual 25, 3) := by decide +kernel
theorem dX1_push_40 : decode cX1_push 40 = .ok (.aload_n 0, 1) := by decide +kernel
theorem dX1_push_41 : decode cX1_push 41 = .ok (.dup, 1) := by decide +kernel
theorem dX1_push_42 : decode cX1_push 42 = .ok (.getfield 18, 3) := by decide +kernel
theorem dX1_push_45 : decode cX1_push 45 = .ok (.iconst 1, 1) := by decide +kernel
theorem dX1_push_46 : decode cX1_push 46 = .ok (.iadd, 1) := by decide +kernel
theorem dX1_push_47 : decode cX1_push 47 = .ok (.putfield 18, 3) := by decide +kernel
theorem dX1_push_50 : decode cX1_push 50 = .ok (.return_, 1) := by decide +kernel
theorem dX1_dropOldest_0 : decode cX1_dropOldest 0 = .ok (.aload_n 0, 1) := by decide +kernel
theorem dX1_dropOldest_1 : decode cX1_dropOldest 1 = .ok (.getfield 11, 3) := by decide +kernel
theorem dX1_dropOldest_4 : decode cX1_dropOldest 4 = .ok (.iconst 0, 1) := by decide +kernel
theorem dX1_dropOldest_5 : decode cX1_dropOldest 5 = .ok (.aaload, 1) := by decide +kernel
theorem dX1_dropOldest_6 : decode cX1_dropOldest 6 = .ok (.astore_n 1, 1) := by decide +kernel
theorem dX1_dropOldest_7 : decode cX1_dropOldest 7 = .ok (.iconst 1, 1) := by decide +kernel
theorem dX1_dropOldest_8 : decode cX1_dropOldest 8 = .ok (.istore_n 2, 1) := by decide +kernel
theorem dX1_dropOldest_9 : decode cX1_dropOldest 9 = .ok (.iload_n 2, 1) := by decide +kernel
theorem dX1_dropOldest_10 : decode cX1_dropOldest 10 = .ok (.iconst 5, 1) := by decide +kernel
theorem dX1_dropOldest_11 : decode cX1_dropOldest 11 = .ok (.if_icmp .ge 23, 3) := by decide +kernel
theorem dX1_dropOldest_14 : decode cX1_dropOldest 14 = .ok (.aload_n 0, 1) := by decide +kernel
theorem dX1_dropOldest_15 : decode cX1_dropOldest 15 = .ok (.getfield 11, 3) := by decide +kernel
theorem dX1_dropOldest_18 : decode cX1_dropOldest 18 = .ok (.iload_n 2, 1) := by decide +kernel
theorem dX1_dropOldest_19 : decode cX1_dropOldest 19 = .ok (.iconst 1, 1) := by decide +kernel
theorem dX1_dropOldest_20 : decode cX1_dropOldest 20 = .ok (.isub, 1) := by decide +kernel
theorem dX1_dropOldest_21 : decode cX1_dropOldest 21 = .ok (.aload_n 0, 1) := by decide +kernel
theorem dX1_dropOldest_22 : decode cX1_dropOldest 22 = .ok (.getfield 11, 3) := by decide +kernel
theorem dX1_dropOldest_25 : decode cX1_dropOldest 25 = .ok (.iload_n 2, 1) := by decide +kernel
theorem dX1_dropOldest_26 : decode cX1_dropOldest 26 = .ok (.aaload, 1) := by decide +kernel
theorem dX1_dropOldest_27 : decode cX1_dropOldest 27 = .ok (.aastore, 1) := by decide +kernel
theorem dX1_dropOldest_28 : decode cX1_dropOldest 28 = .ok (.iinc 2 1, 3) := by decide +kernel
theorem dX1_dropOldest_31 : decode cX1_dropOldest 31 = .ok (.goto (-22), 3) := by decide +kernel
theorem dX1_dropOldest_34 : decode cX1_dropOldest 34 = .ok (.aload_n 0, 1) := by decide +kernel
theorem dX1_dropOldest_35 : decode cX1_dropOldest 35 = .ok (.getfield 11, 3) := by decide +kernel
theorem dX1_dropOldest_38 : decode cX1_dropOldest 38 = .ok (.iconst 4, 1) := by decide +kernel
theorem dX1_dropOldest_39 : decode cX1_dropOldest 39 = .ok (.aload_n 1, 1) := by decide +kernel
theorem dX1_dropOldest_40 : decode cX1_dropOldest 40 = .ok (.aastore, 1) := by decide +kernel
theorem dX1_dropOldest_41 : decode cX1_dropOldest 41 = .ok (.aload_n 0, 1) := by decide +kernel
theorem dX1_dropOldest_42 : decode cX1_dropOldest 42 = .ok (.iconst 4, 1) := by decide +kernel
theorem dX1_dropOldest_43 : decode cX1_dropOldest 43 = .ok (.putfield 18, 3) := by decide +kernel
theorem dX1_dropOldest_46 : decode cX1_dropOldest 46 = .ok (.return_, 1) := by decide +kernel
set_option maxRecDepth 20000 in
theorem ggX1_pop_X8_copyFrom : GoodIn wsX1_pop wsX8_copyFrom := goodIn_r _ [7, 8, 9, 10, 11, 12, 13, 14, 15, 16, 17, 18, 19, 20, 21, 22, 23, 24, 25, 26, 27, 28, 29, 30, 31, 32, 33, 34, 35, 36, 37, 38, 39, 40, 41, 42, 43, 44, 45, 46, 47, 48, 49, 50, 51, 52, 53, 54, 55, 56, 57, 58, 59, 60, 61, 62, 63, 64, 65, 66, 67, 68, 69, 70, 71, 72, 73, 74, 75, 76, 77, 78, 79, 80, 81, 82, 85, 86, 87, 88, 89, 90, 91, 92, 93, 94, 95, 96, 97, 98, 99, 100, 101, 102, 103, 104, 105, 106, 107, 108, 109, 110, 111, 112, 113, 114, 115, 116, 117, 118, 119, 120, 121, 122, 123, 124, 125] (by decide +kernel) (by decide +kernel)
set_option maxRecDepth 20000 in
theorem gX1_pop_X8_copyFrom : GoodIn wsX1_pop (wsV RX1 25 RX8 yX8_copyFrom wsX8_copyFrom) := goodIn_app (goodIn_of _ (by decide +kernel)) ggX1_pop_X8_copyFrom
theorem dX1_pop_0 : decode cX1_pop 0 = .ok (.aload_n 0, 1) := by decide +kernel
theorem dX1_pop_1 : decode cX1_pop 1 = .ok (.getfield 18, 3) := by decide +kernel
theorem dX1_pop_4 : decode cX1_pop 4 = .ok (.ifCond .le 34, 3) := by decide +kernel
theorem dX1_pop_7 : decode cX1_pop 7 = .ok (.aload_n 0, 1) := by decide +kernel
theorem dX1_pop_8 : decode cX1_pop 8 = .ok (.getfield 18, 3) := by decide +kernel
theorem dX1_pop_11 : decode cX1_pop 11 = .ok (.iconst 5, 1) := by decide +kernel
theorem dX1_pop_12 : decode cX1_pop 12 = .ok (.if_icmp .gt 26, 3) := by decide +kernel
theorem dX1_pop_15 : decode cX1_pop 15 = .ok (.aload_n 0, 1) := by decide +kernel
theorem dX1_pop_16 : decode cX1_pop 16 = .ok (.dup, 1) := by decide +kernel
theorem dX1_pop_17 : decode cX1_pop 17 = .ok (.getfield 18, 3) := by decide +kernel
theorem dX1_pop_20 : decode cX1_pop 20 = .ok (.iconst 1, 1) := by decide +kernel
theorem dX1_pop_21 : decode cX1_pop 21 = .ok (.isub, 1) := by decide +kernel
theorem dX1_pop_22 : decode cX1_pop 22 = .ok (.putfield 18, 3) := by decide +kernel
theorem dX1_pop_25 : decode cX1_pop 25 = .ok (.aload_n 1, 1) := by decide +kernel
theorem dX1_pop_26 : decode cX1_pop 26 = .ok (.aload_n 0, 1) := by decide +kernel
theorem dX1_pop_27 : decode cX1_pop 27 = .ok (.getfield 11, 3) := by decide +kernel
theorem dX1_pop_30 : decode cX1_pop 30 = .ok (.aload_n 0, 1) := by decide +kernel
theorem dX1_pop_31 : decode cX1_pop 31 = .ok (.getfield 18, 3) := by decide +kernel
theorem dX1_pop_34 : decode cX1_pop 34 = .ok (.aaload, 1) := by decide +kernel
theorem dX1_pop_35 : decode cX1_pop 35 = .ok (.invokevirtual 25, 3) := by decide +kernel
theorem dX1_pop_38 : decode cX1_pop 38 = .ok (.return_, 1) := by decide +kernel
theorem dX2_init_0 : decode cX2_init 0 = .ok (.aload_n 0, 1) := by decide +kernel
theorem dX2_init_1 : decode cX2_init 1 = .ok (.invokespecial 3, 3) := by decide +kernel
theorem dX2_init_4 : decode cX2_init 4 = .ok (.aload_n 0, 1) := by decide +kernel
theorem dX2_init_5 : decode cX2_init 5 = .ok (.iconst 4, 1) := by decide +kernel
theorem dX2_init_6 : decode cX2_init 6 = .ok (.newarray .boolean, 2) := by decide +kernel
theorem dX2_init_8 : decode cX2_init 8 = .ok (.putfield 9, 3) := by decide +kernel
theorem dX2_init_11 : decode cX2_init 11 = .ok (.aload_n 0, 1) := by decide +kernel
theorem dX2_init_12 : decode cX2_init 12 = .ok (.iconst 4, 1) := by decide +kernel
theorem dX2_init_13 : decode cX2_init 13 = .ok (.newarray .int, 2) := by decide +kernel
theorem dX2_init_15 : decode cX2_init 15 = .ok (.putfield 15, 3) := by decide +kernel
theorem dX2_init_18 : decode cX2_init 18 = .ok (.aload_n 0, 1) := by decide +kernel
theorem dX2_init_19 : decode cX2_init 19 = .ok (.iconst 4, 1) := by decide +kernel
theorem dX2_init_20 : decode cX2_init 20 = .ok (.newarray .int, 2) := by decide +kernel
theorem dX2_init_22 : decode cX2_init 22 = .ok (.putfield 19, 3) := by decide +kernel
theorem dX2_init_25 : decode cX2_init 25 = .ok (.aload_n 0, 1) := by decide +kernel
theorem dX2_init_26 : decode cX2_init 26 = .ok (.iconst 4, 1) := by decide +kernel
theorem dX2_init_27 : decode cX2_init 27 = .ok (.newarray .int, 2) := by decide +kernel
theorem dX2_init_29 : decode cX2_init 29 = .ok (.putfield 22, 3) := by decide +kernel
theorem dX2_init_32 : decode cX2_init 32 = .ok (.aload_n 0, 1) := by decide +kernel
theorem dX2_init_33 : decode cX2_init 33 = .ok (.iconst 4, 1) := by decide +kernel
theorem dX2_init_34 : decode cX2_init 34 = .ok (.newarray .int, 2) := by decide +kernel
theorem dX2_init_36 : decode cX2_init 36 = .ok (.putfield 25, 3) := by decide +kernel
theorem dX2_init_39 : decode cX2_init 39 = .ok (.return_, 1) := by decide +kernel
set_option maxRecDepth 20000 in
theorem ggX2_judge_X2_findShifts : GoodIn wsX2_judge wsX2_findShifts := goodIn_r _ [8, 9, 10, 11, 12, 13, 14, 15, 1, 16, 17, 18, 2, 19, 20, 21, 22, 23, 24, 25, 26, 27, 116, 117, 118, 119, 120, 121, 122, 123, 124, 125, 126, 127, 128, 129, 130, 131, 132, 133, 134, 135, 136, 137, 138, 139, 140, 141, 105, 106, 107, 108, 109, 110, 111, 112, 113, 114, 115, 142, 143, 144, 145] (by decide +kernel) (by decide +kernel)
set_option maxRecDepth 20000 in
theorem gX2_judge_X2_findShifts : GoodIn wsX2_judge (wsV RX2 28 RX2 yX2_findShifts wsX2_findShifts) := goodIn_app (goodIn_of _ (by decide +kernel)) ggX2_judge_X2_findShifts
set_option maxRecDepth 20000 in
theorem ggX2_judge_X2_clearTrueShifts : GoodIn wsX2_judge wsX2_clearTrueShifts := goodIn_r _ [31, 14, 32, 33, 34, 7, 35, 11, 9, 36, 37, 38, 39, 40, 41, 42, 116, 117, 118, 119, 120, 121, 122, 123, 124, 125, 105, 106, 107, 108, 109, 110, 111, 112, 113, 114, 115, 126, 127, 128, 129, 130, 131, 132, 133, 134, 135, 136, 137, 138, 139, 140, 141] (by decide +kernel) (by decide +kernel)
set_option maxRecDepth 20000 in
theorem gX2_judge_X2_clearTrueShifts : GoodIn wsX2_judge (wsV RX2 32 RX2 yX2_clearTrueShifts wsX2_clearTrueShifts) := goodIn_app (goodIn_of _ (by decide +kernel)) ggX2_judge_X2_clearTrueShifts
set_option maxRecDepth 20000 in
theorem ggX2_judge_X2_decideOutcomes : GoodIn wsX2_judge wsX2_decideOutcomes := goodIn_r _ [46, 47, 48, 9, 10, 16, 1, 18, 19, 2, 49, 25, 26, 27, 50, 51, 52, 53, 54, 12, 55, 13, 14, 56, 57, 58, 59, 60, 61, 62, 63, 64, 65, 66, 67, 68, 69, 70, 71, 22, 72, 73, 74, 105, 106, 107, 108, 109, 110, 111, 112, 113, 114, 115, 116, 117, 118, 119, 120, 121, 122, 123, 124, 125, 126, 127, 128, 129, 130, 131, 132, 133, 134, 135, 136, 137, 138, 139, 140, 141, 142, 143, 144, 145] (by decide +kernel) (by decide +kernel)
set_option maxRecDepth 20000 in
theorem gX2_judge_X2_decideOutcomes : GoodIn wsX2_judge (wsV RX2 40 RX2 yX2_decideOutcomes wsX2_decideOutcomes) := goodIn_app (goodIn_of _ (by decide +kernel)) ggX2_judge_X2_decideOutcomes
set_option maxRecDepth 20000 in
theorem ggX2_judge_X2_averageVelocities : GoodIn wsX2_judge wsX2_averageVelocities := goodIn_r _ [78, 79, 54, 80, 81, 47, 82, 83, 84, 85, 86, 7, 87, 9, 36, 53, 88, 22, 89, 71, 72, 90, 91, 92, 93, 94, 95, 96, 97, 98, 99, 100, 101, 25, 26, 27, 102, 103, 104, 105, 106, 107, 108, 109, 110, 111, 112, 113, 114, 115, 116, 117, 118, 119, 120, 121, 122, 123, 124, 125, 126, 127, 128, 129, 130, 131, 132, 133, 134, 135, 136, 137, 138, 139, 140, 141, 146, 147, 148] (by decide +kernel) (by decide +kernel)
set_option maxRecDepth 20000 in
theorem gX2_judge_X2_averageVelocities : GoodIn wsX2_judge (wsV RX2 44 RX2 yX2_averageVelocities wsX2_averageVelocities) := goodIn_app (goodIn_of _ (by decide +kernel)) ggX2_judge_X2_averageVelocities
theorem dX2_judge_0 : decode cX2_judge 0 = .ok (.aload_n 0, 1) := by decide +kernel
theorem dX2_judge_1 : decode cX2_judge 1 = .ok (.aload_n 1, 1) := by decide +kernel
theorem dX2_judge_2 : decode cX2_judge 2 = .ok (.invokevirtual 28, 3) := by decide +kernel
theorem dX2_judge_5 : decode cX2_judge 5 = .ok (.aload_n 0, 1) := by decide +kernel
theorem dX2_judge_6 : decode cX2_judge 6 = .ok (.aload_n 0, 1) := by decide +kernel
theorem dX2_judge_7 : decode cX2_judge 7 = .ok (.aload_n 1, 1) := by decide +kernel
theorem dX2_judge_8 : decode cX2_judge 8 = .ok (.aload_n 0, 1) := by decide +kernel
theorem dX2_judge_9 : decode cX2_judge 9 = .ok (.getfield 15, 3) := by decide +kernel
theorem dX2_judge_12 : decode cX2_judge 12 = .ok (.invokevirtual 32, 3) := by decide +kernel
theorem dX2_judge_15 : decode cX2_judge 15 = .ok (.aload_n 0, 1) := by decide +kernel
theorem dX2_judge_16 : decode cX2_judge 16 = .ok (.aload_n 1, 1) := by decide +kernel
theorem dX2_judge_17 : decode cX2_judge 17 = .ok (.aload_n 0, 1) := by decide +kernel
theorem dX2_judge_18 : decode cX2_judge 18 = .ok (.getfield 19, 3) := by decide +kernel
theorem dX2_judge_21 : decode cX2_judge 21 = .ok (.invokevirtual 32, 3) := by decide +kernel
theorem dX2_judge_24 : decode cX2_judge 24 = .ok (.iadd, 1) := by decide +kernel
theorem dX2_judge_25 : decode cX2_judge 25 = .ok (.putfield 36, 3) := by decide +kernel
theorem dX2_judge_28 : decode cX2_judge 28 = .ok (.aload_n 0, 1) := by decide +kernel
theorem dX2_judge_29 : decode cX2_judge 29 = .ok (.aload_n 1, 1) := by decide +kernel
theorem dX2_judge_30 : decode cX2_judge 30 = .ok (.iload_n 2, 1) := by decide +kernel
theorem dX2_judge_31 : decode cX2_judge 31 = .ok (.invokevirtual 40, 3) := by decide +kernel
theorem dX2_judge_34 : decode cX2_judge 34 = .ok (.aload_n 0, 1) := by decide +kernel
theorem dX2_judge_35 : decode cX2_judge 35 = .ok (.aload_n 1, 1) := by decide +kernel
theorem dX2_judge_36 : decode cX2_judge 36 = .ok (.invokevirtual 44, 3) := by decide +kernel
theorem dX2_judge_39 : decode cX2_judge 39 = .ok (.return_, 1) := by decide +kernel
theorem dX2_outcomeOf_0 : decode cX2_outcomeOf 0 = .ok (.iload_n 1, 1) := by decide +kernel
theorem dX2_outcomeOf_1 : decode cX2_outcomeOf 1 = .ok (.ifCond .lt 17, 3) := by decide +kernel
theorem dX2_outcomeOf_4 : decode cX2_outcomeOf 4 = .ok (.iload_n 1, 1) := by decide +kernel
theorem dX2_outcomeOf_5 : decode cX2_outcomeOf 5 = .ok (.iconst 4, 1) := by decide +kernel
theorem dX2_outcomeOf_6 : decode cX2_outcomeOf 6 = .ok (.if_icmp .ge 12, 3) := by decide +kernel
theorem dX2_outcomeOf_9 : decode cX2_outcomeOf 9 = .ok (.aload_n 0, 1) := by decide +kernel
theorem dX2_outcomeOf_10 : decode cX2_outcomeOf 10 = .ok (.getfield 22, 3) := by decide +kernel
theorem dX2_outcomeOf_13 : decode cX2_outcomeOf 13 = .ok (.iload_n 1, 1) := by decide +kernel
theorem dX2_outcomeOf_14 : decode cX2_outcomeOf 14 = .ok (.iaload, 1) := by decide +kernel
theorem dX2_outcomeOf_15 : decode cX2_outcomeOf 15 = .ok (.goto 4, 3) := by decide +kernel
theorem dX2_outcomeOf_18 : decode cX2_outcomeOf 18 = .ok (.iconst 0, 1) := by decide +kernel
theorem dX2_outcomeOf_19 : decode cX2_outcomeOf 19 = .ok (.ireturn, 1) := by decide +kernel
theorem dX2_hasOutlier_0 : decode cX2_hasOutlier 0 = .ok (.aload_n 0, 1) := by decide +kernel
theorem dX2_hasOutlier_1 : decode cX2_hasOutlier 1 = .ok (.getfield 22, 3) := by decide +kernel
theorem dX2_hasOutlier_4 : decode cX2_hasOutlier 4 = .ok (.astore_n 1, 1) := by decide +kernel
theorem dX2_hasOutlier_5 : decode cX2_hasOutlier 5 = .ok (.aload_n 1, 1) := by decide +kernel
theorem dX2_hasOutlier_6 : decode cX2_hasOutlier 6 = .ok (.arraylength, 1) := by decide +kernel
theorem dX2_hasOutlier_7 : decode cX2_hasOutlier 7 = .ok (.istore_n 2, 1) := by decide +kernel
theorem dX2_hasOutlier_8 : decode cX2_hasOutlier 8 = .ok (.iconst 0, 1) := by decide +kernel
theorem dX2_hasOutlier_9 : decode cX2_hasOutlier 9 = .ok (.istore_n 3, 1) := by decide +kernel
theorem dX2_hasOutlier_10 : decode cX2_hasOutlier 10 = .ok (.iload_n 3, 1) := by decide +kernel
theorem dX2_hasOutlier_11 : decode cX2_hasOutlier 11 = .ok (.iload_n 2, 1) := by decide +kernel
theorem dX2_hasOutlier_12 : decode cX2_hasOutlier 12 = .ok (.if_icmp .ge 22, 3) := by decide +kernel
theorem dX2_hasOutlier_15 : decode cX2_hasOutlier 15 = .ok (.aload_n 1, 1) := by decide +kernel
theorem dX2_hasOutlier_16 : decode cX2_hasOutlier 16 = .ok (.iload_n 3, 1) := by decide +kernel
theorem dX2_hasOutlier_17 : decode cX2_hasOutlier 17 = .ok (.iaload, 1) := by decide +kernel
theorem dX2_hasOutlier_18 : decode cX2_hasOutlier 18 = .ok (.istore 4, 2) := by decide +kernel
theorem dX2_hasOutlier_20 : decode cX2_hasOutlier 20 = .ok (.iload 4, 2) := by decide +kernel
theorem dX2_hasOutlier_22 : decode cX2_hasOutlier 22 = .ok (.iconst 2, 1) := by decide +kernel
theorem dX2_hasOutlier_23 : decode cX2_hasOutlier 23 = .ok (.if_icmp .ne 5, 3) := by decide +kernel
theorem dX2_hasOutlier_26 : decode cX2_hasOutlier 26 = .ok (.iconst 1, 1) := by decide +kernel
theorem dX2_hasOutlier_27 : decode cX2_hasOutlier 27 = .ok (.ireturn, 1) := by decide +kernel
theorem dX2_hasOutlier_28 : decode cX2_hasOutlier 28 = .ok (.iinc 3 1, 3) := by decide +kernel
theorem dX2_hasOutlier_31 : decode cX2_hasOutlier 31 = .ok (.goto (-21), 3) := by decide +kernel
theorem dX2_hasOutlier_34 : decode cX2_hasOutlier 34 = .ok (.iconst 0, 1) := by decide +kernel
theorem dX2_hasOutlier_35 : decode cX2_hasOutlier 35 = .ok (.ireturn, 1) := by decide +kernel
set_option maxRecDepth 20000 in
theorem ggX2_findShifts_X10_wholePeriods : GoodIn wsX2_findShifts wsX10_wholePeriods := goodIn_r _ [17, 18, 19, 20, 21] (by decide +kernel) (by decide +kernel)
set_option maxRecDepth 20000 in
theorem gX2_findShifts_X10_wholePeriods_n81 : GoodIn wsX2_findShifts (wsX10_wholePeriods) := ggX2_findShifts_X10_wholePeriods
theorem dX2_findShifts_0 : decode cX2_findShifts 0 = .ok (.iconst 0, 1) := by decide +kernel
theorem dX2_findShifts_1 : decode cX2_findShifts 1 = .ok (.istore_n 2, 1) := by decide +kernel
theorem dX2_findShifts_2 : decode cX2_findShifts 2 = .ok (.iload_n 2, 1) := by decide +kernel
theorem dX2_findShifts_3 : decode cX2_findShifts 3 = .ok (.iconst 4, 1) := by decide +kernel
theorem dX2_findShifts_4 : decode cX2_findShifts 4 = .ok (.if_icmp .ge 134, 3) := by decide +kernel
theorem dX2_findShifts_7 : decode cX2_findShifts 7 = .ok (.aload_n 1, 1) := by decide +kernel
theorem dX2_findShifts_8 : decode cX2_findShifts 8 = .ok (.getfield 47, 3) := by decide +kernel
theorem dX2_findShifts_11 : decode cX2_findShifts 11 = .ok (.iload_n 2, 1) := by decide +kernel
theorem dX2_findShifts_12 : decode cX2_findShifts 12 = .ok (.aaload, 1) := by decide +kernel
theorem dX2_findShifts_13 : decode cX2_findShifts 13 = .ok (.astore_n 3, 1) := by decide +kernel
theorem dX2_findShifts_14 : decode cX2_findShifts 14 = .ok (.aload_n 3, 1) := by decide +kernel
theorem dX2_findShifts_15 : decode cX2_findShifts 15 = .ok (.getfield 53, 3) := by decide +kernel
theorem dX2_findShifts_18 : decode cX2_findShifts 18 = .ok (.astore 4, 2) := by decide +kernel
theorem dX2_findShifts_20 : decode cX2_findShifts 20 = .ok (.aload_n 0, 1) := by decide +kernel
theorem dX2_findShifts_21 : decode cX2_findShifts 21 = .ok (.getfield 9, 3) := by decide +kernel
theorem dX2_findShifts_24 : decode cX2_findShifts 24 = .ok (.iload_n 2, 1) := by decide +kernel
theorem dX2_findShifts_25 : decode cX2_findShifts 25 = .ok (.aload 4, 2) := by decide +kernel
theorem dX2_findShifts_27 : decode cX2_findShifts 27 = .ok (.getfield 59, 3) := by decide +kernel
theorem dX2_findShifts_30 : decode cX2_findShifts 30 = .ok (.ifCond .eq 28, 3) := by decide +kernel
theorem dX2_findShifts_33 : decode cX2_findShifts 33 = .ok (.aload 4, 2) := by decide +kernel
theorem dX2_findShifts_35 : decode cX2_findShifts 35 = .ok (.getfield 65, 3) := by decide +kernel
theorem dX2_findShifts_38 : decode cX2_findShifts 38 = .ok (.aload_n 1, 1) := by decide +kernel
theorem dX2_findShifts_39 : decode cX2_findShifts 39 = .ok (.getfield 68, 3) := by decide +kernel
theorem dX2_findShifts_42 : decode cX2_findShifts 42 = .ok (.iconst 0, 1) := by decide +kernel
theorem dX2_findShifts_43 : decode cX2_findShifts 43 = .ok (.iaload, 1) := by decide +kernel
theorem dX2_findShifts_44 : decode cX2_findShifts 44 = .ok (.if_icmp .lt 14, 3) := by decide +kernel
theorem dX2_findShifts_47 : decode cX2_findShifts 47 = .ok (.aload_n 3, 1) := by decide +kernel
theorem dX2_findShifts_48 : decode cX2_findShifts 48 = .ok (.getfield 71, 3) := by decide +kernel
theorem dX2_findShifts_51 : decode cX2_findShifts 51 = .ok (.ifCond .eq 7, 3) := by decide +kernel
theorem dX2_findShifts_54 : decode cX2_findShifts 54 = .ok (.iconst 1, 1) := by decide +kernel
theorem dX2_findShifts_55 : decode cX2_findShifts 55 = .ok (.goto 4, 3) := by decide +kernel
theorem dX2_findShifts_58 : decode cX2_findShifts 58 = .ok (.iconst 0, 1) := by decide +kernel
theorem dX2_findShifts_59 : decode cX2_findShifts 59 = .ok (.bastore, 1) := by decide +kernel
theorem dX2_findShifts_60 : decode cX2_findShifts 60 = .ok (.aload_n 0, 1) := by decide +kernel
theorem dX2_findShifts_61 : decode cX2_findShifts 61 = .ok (.getfield 15, 3) := by decide +kernel
theorem dX2_findShifts_64 : decode cX2_findShifts 64 = .ok (.iload_n 2, 1) := by decide +kernel
theorem dX2_findShifts_65 : decode cX2_findShifts 65 = .ok (.aload_n 0, 1) := by decide +kernel
theorem dX2_findShifts_66 : decode cX2_findShifts 66 = .ok (.getfield 9, 3) := by decide +kernel
theorem dX2_findShifts_69 : decode cX2_findShifts 69 = .ok (.iload_n 2, 1) := by decide +kernel
theorem dX2_findShifts_70 : decode cX2_findShifts 70 = .ok (.baload, 1) := by decide +kernel
theorem dX2_findShifts_71 : decode cX2_findShifts 71 = .ok (.ifCond .eq 23, 3) := by decide +kernel
theorem dX2_findShifts_74 : decode cX2_findShifts 74 = .ok (.aload 4, 2) := by decide +kernel
theorem dX2_findShifts_76 : decode cX2_findShifts 76 = .ok (.getfield 74, 3) := by decide +kernel
theorem dX2_findShifts_79 : decode cX2_findShifts 79 = .ok (.aload_n 3, 1) := by decide +kernel
theorem dX2_findShifts_80 : decode cX2_findShifts 80 = .ok (.getfield 77, 3) := by decide +kernel
theorem dX2_findShifts_83 : decode cX2_findShifts 83 = .ok (.isub, 1) := by decide +kernel
theorem dX2_findShifts_84 : decode cX2_findShifts 84 = .ok (.aload_n 3, 1) := by decide +kernel
theorem dX2_findShifts_85 : decode cX2_findShifts 85 = .ok (.getfield 78, 3) := by decide +kernel
theorem dX2_findShifts_88 : decode cX2_findShifts 88 = .ok (.invokestatic 81, 3) := by decide +kernel
theorem dX2_findShifts_91 : decode cX2_findShifts 91 = .ok (.goto 4, 3) := by decide +kernel
theorem dX2_findShifts_94 : decode cX2_findShifts 94 = .ok (.iconst 0, 1) := by decide +kernel
theorem dX2_findShifts_95 : decode cX2_findShifts 95 = .ok (.iastore, 1) := by decide +kernel
theorem dX2_findShifts_96 : decode cX2_findShifts 96 = .ok (.aload_n 0, 1) := by decide +kernel
theorem dX2_findShifts_97 : decode cX2_findShifts 97 = .ok (.getfield 19, 3) := by decide +kernel
theorem dX2_findShifts_100 : decode cX2_findShifts 100 = .ok (.iload_n 2, 1) := by decide +kernel
theorem dX2_findShifts_101 : decode cX2_findShifts 101 = .ok (.aload_n 0, 1) := by decide +kernel
theorem dX2_findShifts_102 : decode cX2_findShifts 102 = .ok (.getfield 9, 3) := by decide +kernel
theorem dX2_findShifts_105 : decode cX2_findShifts 105 = .ok (.iload_n 2, 1) := by decide +kernel
theorem dX2_findShifts_106 : decode cX2_findShifts 106 = .ok (.baload, 1) := by decide +kernel
theorem dX2_findShifts_107 : decode cX2_findShifts 107 = .ok (.ifCond .eq 23, 3) := by decide +kernel
theorem dX2_findShifts_110 : decode cX2_findShifts 110 = .ok (.aload 4, 2) := by decide +kernel
theorem dX2_findShifts_112 : decode cX2_findShifts 112 = .ok (.getfield 85, 3) := by decide +kernel
theorem dX2_findShifts_115 : decode cX2_findShifts 115 = .ok (.aload_n 3, 1) := by decide +kernel
theorem dX2_findShifts_116 : decode cX2_findShifts 116 = .ok (.getfield 88, 3) := by decide +kernel
theorem dX2_findShifts_119 : decode cX2_findShifts 119 = .ok (.isub, 1) := by decide +kernel
theorem dX2_findShifts_120 : decode cX2_findShifts 120 = .ok (.aload_n 3, 1) := by decide +kernel
theorem dX2_findShifts_121 : decode cX2_findShifts 121 = .ok (.getfield 78, 3) := by decide +kernel
theorem dX2_findShifts_124 : decode cX2_findShifts 124 = .ok (.invokestatic 81, 3) := by decide +kernel
theorem dX2_findShifts_127 : decode cX2_findShifts 127 = .ok (.goto 4, 3) := by decide +kernel
theorem dX2_findShifts_130 : decode cX2_findShifts 130 = .ok (.iconst 0, 1) := by decide +kernel
theorem dX2_findShifts_131 : decode cX2_findShifts 131 = .ok (.iastore, 1) := by decide +kernel
theorem dX2_findShifts_132 : decode cX2_findShifts 132 = .ok (.iinc 2 1, 3) := by decide +kernel
theorem dX2_findShifts_135 : decode cX2_findShifts 135 = .ok (.goto (-133), 3) := by decide +kernel
theorem dX2_findShifts_138 : decode cX2_findShifts 138 = .ok (.return_, 1) := by decide +kernel
set_option maxRecDepth 20000 in
theorem ggX2_clearTrueShifts_X2_votingWeight : GoodIn wsX2_clearTrueShifts wsX2_votingWeight := goodIn_r _ [6, 7, 8, 9, 26, 27, 28, 29, 30, 31, 32, 33, 34, 35, 36, 16, 17, 18, 19, 20, 21, 22, 23, 24, 25, 37, 38, 39, 40, 41, 42, 43, 44, 45, 46, 47, 48, 49, 50, 51, 52] (by decide +kernel) (by decide +kernel)
set_option maxRecDepth 20000 in
theorem gX2_clearTrueShifts_X2_votingWeight : GoodIn wsX2_clearTrueShifts (wsV RX2 89 RX2 yX2_votingWeight wsX2_votingWeight) := goodIn_app (goodIn_of _ (by decide +kernel)) ggX2_clearTrueShifts_X2_votingWeight
set_option maxRecDepth 20000 in
theorem ggX2_clearTrueShifts_X2_weightOf : GoodIn wsX2_clearTrueShifts wsX2_weightOf := goodIn_r _ [12, 8, 9, 16, 17, 18, 19, 20, 21, 22, 23, 24, 25, 37, 38, 39, 40, 41, 42, 43, 44, 45, 46, 47, 48, 49, 50, 51, 52] (by decide +kernel) (by decide +kernel)
set_option maxRecDepth 20000 in
theorem gX2_clearTrueShifts_X2_weightOf : GoodIn wsX2_clearTrueShifts (va_wsS RX2 93 yX2_weightOf wsX2_weightOf) := goodIn_app (goodIn_of _ (by decide +kernel)) ggX2_clearTrueShifts_X2_weightOf
set_option maxRecDepth 20000 in
theorem ggX2_clearTrueShifts_X2_clearShift : GoodIn wsX2_clearTrueShifts wsX2_clearShift := goodIn_r _ [15] (by decide +kernel) (by decide +kernel)
set_option maxRecDepth 20000 in
theorem gX2_clearTrueShifts_X2_clearShift : GoodIn wsX2_clearTrueShifts (va_wsS RX2 97 yX2_clearShift wsX2_clearShift) := goodIn_app (goodIn_of _ (by decide +kernel)) ggX2_clearTrueShifts_X2_clearShift
theorem dX2_clearTrueShifts_0 : decode cX2_clearTrueShifts 0 = .ok (.aload_n 0, 1) := by decide +kernel
theorem dX2_clearTrueShifts_1 : decode cX2_clearTrueShifts 1 = .ok (.aload_n 1, 1) := by decide +kernel
theorem dX2_clearTrueShifts_2 : decode cX2_clearTrueShifts 2 = .ok (.invokevirtual 89, 3) := by decide +kernel
theorem dX2_clearTrueShifts_5 : decode cX2_clearTrueShifts 5 = .ok (.istore_n 3, 1) := by decide +kernel
theorem dX2_clearTrueShifts_6 : decode cX2_clearTrueShifts 6 = .ok (.iconst 0, 1) := by decide +kernel
theorem dX2_clearTrueShifts_7 : decode cX2_clearTrueShifts 7 = .ok (.istore 4, 2) := by decide +kernel
theorem dX2_clearTrueShifts_9 : decode cX2_clearTrueShifts 9 = .ok (.iconst 0, 1) := by decide +kernel
theorem dX2_clearTrueShifts_10 : decode cX2_clearTrueShifts 10 = .ok (.istore 5, 2) := by decide +kernel
theorem dX2_clearTrueShifts_12 : decode cX2_clearTrueShifts 12 = .ok (.iload 5, 2) := by decide +kernel
theorem dX2_clearTrueShifts_14 : decode cX2_clearTrueShifts 14 = .ok (.iconst 4, 1) := by decide +kernel
theorem dX2_clearTrueShifts_15 : decode cX2_clearTrueShifts 15 = .ok (.if_icmp .ge 57, 3) := by decide +kernel
theorem dX2_clearTrueShifts_18 : decode cX2_clearTrueShifts 18 = .ok (.iload 5, 2) := by decide +kernel
theorem dX2_clearTrueShifts_20 : decode cX2_clearTrueShifts 20 = .ok (.aload_n 2, 1) := by decide +kernel
theorem dX2_clearTrueShifts_21 : decode cX2_clearTrueShifts 21 = .ok (.arraylength, 1) := by decide +kernel
theorem dX2_clearTrueShifts_22 : decode cX2_clearTrueShifts 22 = .ok (.if_icmp .ge 50, 3) := by decide +kernel
theorem dX2_clearTrueShifts_25 : decode cX2_clearTrueShifts 25 = .ok (.aload_n 2, 1) := by decide +kernel
theorem dX2_clearTrueShifts_26 : decode cX2_clearTrueShifts 26 = .ok (.iload 5, 2) := by decide +kernel
theorem dX2_clearTrueShifts_28 : decode cX2_clearTrueShifts 28 = .ok (.iaload, 1) := by decide +kernel
theorem dX2_clearTrueShifts_29 : decode cX2_clearTrueShifts 29 = .ok (.istore 6, 2) := by decide +kernel
theorem dX2_clearTrueShifts_31 : decode cX2_clearTrueShifts 31 = .ok (.iload 6, 2) := by decide +kernel
theorem dX2_clearTrueShifts_33 : decode cX2_clearTrueShifts 33 = .ok (.ifCond .eq 33, 3) := by decide +kernel
theorem dX2_clearTrueShifts_36 : decode cX2_clearTrueShifts 36 = .ok (.aload_n 1, 1) := by decide +kernel
theorem dX2_clearTrueShifts_37 : decode cX2_clearTrueShifts 37 = .ok (.aload_n 2, 1) := by decide +kernel
theorem dX2_clearTrueShifts_38 : decode cX2_clearTrueShifts 38 = .ok (.iload 6, 2) := by decide +kernel
theorem dX2_clearTrueShifts_40 : decode cX2_clearTrueShifts 40 = .ok (.invokestatic 93, 3) := by decide +kernel
theorem dX2_clearTrueShifts_43 : decode cX2_clearTrueShifts 43 = .ok (.bipush 100, 2) := by decide +kernel
theorem dX2_clearTrueShifts_45 : decode cX2_clearTrueShifts 45 = .ok (.imul, 1) := by decide +kernel
theorem dX2_clearTrueShifts_46 : decode cX2_clearTrueShifts 46 = .ok (.aload_n 1, 1) := by decide +kernel
theorem dX2_clearTrueShifts_47 : decode cX2_clearTrueShifts 47 = .ok (.getfield 68, 3) := by decide +kernel
theorem dX2_clearTrueShifts_50 : decode cX2_clearTrueShifts 50 = .ok (.iconst 2, 1) := by decide +kernel
theorem dX2_clearTrueShifts_51 : decode cX2_clearTrueShifts 51 = .ok (.iaload, 1) := by decide +kernel
theorem dX2_clearTrueShifts_52 : decode cX2_clearTrueShifts 52 = .ok (.iload_n 3, 1) := by decide +kernel
theorem dX2_clearTrueShifts_53 : decode cX2_clearTrueShifts 53 = .ok (.imul, 1) := by decide +kernel
theorem dX2_clearTrueShifts_54 : decode cX2_clearTrueShifts 54 = .ok (.if_icmp .lt 12, 3) := by decide +kernel
theorem dX2_clearTrueShifts_57 : decode cX2_clearTrueShifts 57 = .ok (.aload_n 2, 1) := by decide +kernel
theorem dX2_clearTrueShifts_58 : decode cX2_clearTrueShifts 58 = .ok (.iload 6, 2) := by decide +kernel
theorem dX2_clearTrueShifts_60 : decode cX2_clearTrueShifts 60 = .ok (.invokestatic 97, 3) := by decide +kernel
theorem dX2_clearTrueShifts_63 : decode cX2_clearTrueShifts 63 = .ok (.iinc 4 1, 3) := by decide +kernel
theorem dX2_clearTrueShifts_66 : decode cX2_clearTrueShifts 66 = .ok (.iinc 5 1, 3) := by decide +kernel
theorem dX2_clearTrueShifts_69 : decode cX2_clearTrueShifts 69 = .ok (.goto (-57), 3) := by decide +kernel
theorem dX2_clearTrueShifts_72 : decode cX2_clearTrueShifts 72 = .ok (.iload 4, 2) := by decide +kernel
theorem dX2_clearTrueShifts_74 : decode cX2_clearTrueShifts 74 = .ok (.ireturn, 1) := by decide +kernel
theorem dX2_votingWeight_0 : decode cX2_votingWeight 0 = .ok (.iconst 0, 1) := by decide +kernel
theorem dX2_votingWeight_1 : decode cX2_votingWeight 1 = .ok (.istore_n 2, 1) := by decide +kernel
theorem dX2_votingWeight_2 : decode cX2_votingWeight 2 = .ok (.iconst 0, 1) := by decide +kernel
theorem dX2_votingWeight_3 : decode cX2_votingWeight 3 = .ok (.istore_n 3, 1) := by decide +kernel
theorem dX2_votingWeight_4 : decode cX2_votingWeight 4 = .ok (.iload_n 3, 1) := by decide +kernel
theorem dX2_votingWeight_5 : decode cX2_votingWeight 5 = .ok (.iconst 4, 1) := by decide +kernel
theorem dX2_votingWeight_6 : decode cX2_votingWeight 6 = .ok (.if_icmp .ge 34, 3) := by decide +kernel
theorem dX2_votingWeight_9 : decode cX2_votingWeight 9 = .ok (.iload_n 2, 1) := by decide +kernel
theorem dX2_votingWeight_10 : decode cX2_votingWeight 10 = .ok (.aload_n 0, 1) := by decide +kernel
theorem dX2_votingWeight_11 : decode cX2_votingWeight 11 = .ok (.getfield 9, 3) := by decide +kernel
theorem dX2_votingWeight_14 : decode cX2_votingWeight 14 = .ok (.iload_n 3, 1) := by decide +kernel
theorem dX2_votingWeight_15 : decode cX2_votingWeight 15 = .ok (.baload, 1) := by decide +kernel
theorem dX2_votingWeight_16 : decode cX2_votingWeight 16 = .ok (.ifCond .eq 15, 3) := by decide +kernel
theorem dX2_votingWeight_19 : decode cX2_votingWeight 19 = .ok (.aload_n 1, 1) := by decide +kernel
theorem dX2_votingWeight_20 : decode cX2_votingWeight 20 = .ok (.getfield 47, 3) := by decide +kernel
theorem dX2_votingWeight_23 : decode cX2_votingWeight 23 = .ok (.iload_n 3, 1) := by decide +kernel
theorem dX2_votingWeight_24 : decode cX2_votingWeight 24 = .ok (.aaload, 1) := by decide +kernel
theorem dX2_votingWeight_25 : decode cX2_votingWeight 25 = .ok (.getfield 101, 3) := by decide +kernel
theorem dX2_votingWeight_28 : decode cX2_votingWeight 28 = .ok (.goto 4, 3) := by decide +kernel
theorem dX2_votingWeight_31 : decode cX2_votingWeight 31 = .ok (.iconst 0, 1) := by decide +kernel
theorem dX2_votingWeight_32 : decode cX2_votingWeight 32 = .ok (.iadd, 1) := by decide +kernel
theorem dX2_votingWeight_33 : decode cX2_votingWeight 33 = .ok (.istore_n 2, 1) := by decide +kernel
theorem dX2_votingWeight_34 : decode cX2_votingWeight 34 = .ok (.iinc 3 1, 3) := by decide +kernel
theorem dX2_votingWeight_37 : decode cX2_votingWeight 37 = .ok (.goto (-33), 3) := by decide +kernel
theorem dX2_votingWeight_40 : decode cX2_votingWeight 40 = .ok (.iload_n 2, 1) := by decide +kernel
theorem dX2_votingWeight_41 : decode cX2_votingWeight 41 = .ok (.ireturn, 1) := by decide +kernel
theorem dX2_weightOf_0 : decode cX2_weightOf 0 = .ok (.iconst 0, 1) := by decide +kernel
theorem dX2_weightOf_1 : decode cX2_weightOf 1 = .ok (.istore_n 3, 1) := by decide +kernel
theorem dX2_weightOf_2 : decode cX2_weightOf 2 = .ok (.iconst 0, 1) := by decide +kernel
theorem dX2_weightOf_3 : decode cX2_weightOf 3 = .ok (.istore 4, 2) := by decide +kernel
theorem dX2_weightOf_5 : decode cX2_weightOf 5 = .ok (.iload 4, 2) := by decide +kernel
theorem dX2_weightOf_7 : decode cX2_weightOf 7 = .ok (.iconst 4, 1) := by decide +kernel
theorem dX2_weightOf_8 : decode cX2_weightOf 8 = .ok (.if_icmp .ge 41, 3) := by decide +kernel
theorem dX2_weightOf_11 : decode cX2_weightOf 11 = .ok (.iload 4, 2) := by decide +kernel
theorem dX2_weightOf_13 : decode cX2_weightOf 13 = .ok (.aload_n 1, 1) := by decide +kernel
theorem dX2_weightOf_14 : decode cX2_weightOf 14 = .ok (.arraylength, 1) := by decide +kernel
theorem dX2_weightOf_15 : decode cX2_weightOf 15 = .ok (.if_icmp .ge 34, 3) := by decide +kernel
theorem dX2_weightOf_18 : decode cX2_weightOf 18 = .ok (.iload_n 3, 1) := by decide +kernel
theorem dX2_weightOf_19 : decode cX2_weightOf 19 = .ok (.aload_n 1, 1) := by decide +kernel
theorem dX2_weightOf_20 : decode cX2_weightOf 20 = .ok (.iload 4, 2) := by decide +kernel
theorem dX2_weightOf_22 : decode cX2_weightOf 22 = .ok (.iaload, 1) := by decide +kernel
theorem dX2_weightOf_23 : decode cX2_weightOf 23 = .ok (.iload_n 2, 1) := by decide +kernel
theorem dX2_weightOf_24 : decode cX2_weightOf 24 = .ok (.if_icmp .ne 16, 3) := by decide +kernel
theorem dX2_weightOf_27 : decode cX2_weightOf 27 = .ok (.aload_n 0, 1) := by decide +kernel
theorem dX2_weightOf_28 : decode cX2_weightOf 28 = .ok (.getfield 47, 3) := by decide +kernel
theorem dX2_weightOf_31 : decode cX2_weightOf 31 = .ok (.iload 4, 2) := by decide +kernel
theorem dX2_weightOf_33 : decode cX2_weightOf 33 = .ok (.aaload, 1) := by decide +kernel
theorem dX2_weightOf_34 : decode cX2_weightOf 34 = .ok (.getfield 101, 3) := by decide +kernel
theorem dX2_weightOf_37 : decode cX2_weightOf 37 = .ok (.goto 4, 3) := by decide +kernel
theorem dX2_weightOf_40 : decode cX2_weightOf 40 = .ok (.iconst 0, 1) := by decide +kernel
theorem dX2_weightOf_41 : decode cX2_weightOf 41 = .ok (.iadd, 1) := by decide +kernel
theorem dX2_weightOf_42 : decode cX2_weightOf 42 = .ok (.istore_n 3, 1) := by decide +kernel
theorem dX2_weightOf_43 : decode cX2_weightOf 43 = .ok (.iinc 4 1, 3) := by decide +kernel
theorem dX2_weightOf_46 : decode cX2_weightOf 46 = .ok (.goto (-41), 3) := by decide +kernel
theorem dX2_weightOf_49 : decode cX2_weightOf 49 = .ok (.iload_n 3, 1) := by decide +kernel
theorem dX2_weightOf_50 : decode cX2_weightOf 50 = .ok (.ireturn, 1) := by decide +kernel
theorem dX2_clearShift_0 : decode cX2_clearShift 0 = .ok (.iconst 0, 1) := by decide +kernel
theorem dX2_clearShift_1 : decode cX2_clearShift 1 = .ok (.istore_n 2, 1) := by decide +kernel
theorem dX2_clearShift_2 : decode cX2_clearShift 2 = .ok (.iload_n 2, 1) := by decide +kernel
theorem dX2_clearShift_3 : decode cX2_clearShift 3 = .ok (.aload_n 0, 1) := by decide +kernel
theorem dX2_clearShift_4 : decode cX2_clearShift 4 = .ok (.arraylength, 1) := by decide +kernel
theorem dX2_clearShift_5 : decode cX2_clearShift 5 = .ok (.if_icmp .ge 20, 3) := by decide +kernel
theorem dX2_clearShift_8 : decode cX2_clearShift 8 = .ok (.aload_n 0, 1) := by decide +kernel
theorem dX2_clearShift_9 : decode cX2_clearShift 9 = .ok (.iload_n 2, 1) := by decide +kernel
theorem dX2_clearShift_10 : decode cX2_clearShift 10 = .ok (.iaload, 1) := by decide +kernel
theorem dX2_clearShift_11 : decode cX2_clearShift 11 = .ok (.iload_n 1, 1) := by decide +kernel
theorem dX2_clearShift_12 : decode cX2_clearShift 12 = .ok (.if_icmp .ne 7, 3) := by decide +kernel
theorem dX2_clearShift_15 : decode cX2_clearShift 15 = .ok (.aload_n 0, 1) := by decide +kernel
theorem dX2_clearShift_16 : decode cX2_clearShift 16 = .ok (.iload_n 2, 1) := by decide +kernel
theorem dX2_clearShift_17 : decode cX2_clearShift 17 = .ok (.iconst 0, 1) := by decide +kernel
theorem dX2_clearShift_18 : decode cX2_clearShift 18 = .ok (.iastore, 1) := by decide +kernel
theorem dX2_clearShift_19 : decode cX2_clearShift 19 = .ok (.iinc 2 1, 3) := by decide +kernel
theorem dX2_clearShift_22 : decode cX2_clearShift 22 = .ok (.goto (-20), 3) := by decide +kernel
theorem dX2_clearShift_25 : decode cX2_clearShift 25 = .ok (.return_, 1) := by decide +kernel
set_option maxRecDepth 20000 in
theorem ggX2_decideOutcomes_X3_isLateEnough : GoodIn wsX2_decideOutcomes wsX3_isLateEnough := goodIn_r _ [27, 28, 64, 65, 66, 67, 68, 69, 70, 71, 72, 73, 74, 75, 76, 77, 78, 79] (by decide +kernel) (by decide +kernel)
set_option maxRecDepth 20000 in
theorem gX2_decideOutcomes_X3_isLateEnough : GoodIn wsX2_decideOutcomes (wsV RX2 120 RX3 yX3_isLateEnough wsX3_isLateEnough) := goodIn_app (goodIn_of _ (by decide +kernel)) ggX2_decideOutcomes_X3_isLateEnough
set_option maxRecDepth 20000 in
theorem ggX2_decideOutcomes_X3_velocityFrom : GoodIn wsX2_decideOutcomes wsX3_velocityFrom := goodIn_r _ [32, 28, 33, 34, 35, 36, 37, 38, 39, 40, 41, 42, 64, 65, 66, 67, 68, 69, 70, 71, 72, 73, 74, 75, 76, 77, 78, 79] (by decide +kernel) (by decide +kernel)
set_option maxRecDepth 20000 in
theorem gX2_decideOutcomes_X3_velocityFrom : GoodIn wsX2_decideOutcomes (wsV RX2 124 RX3 yX3_velocityFrom wsX3_velocityFrom) := goodIn_app (goodIn_of _ (by decide +kernel)) ggX2_decideOutcomes_X3_velocityFrom
theorem dX2_decideOutcomes_0 : decode cX2_decideOutcomes 0 = .ok (.aload_n 0, 1) := by decide +kernel
theorem dX2_decideOutcomes_1 : decode cX2_decideOutcomes 1 = .ok (.iconst 0, 1) := by decide +kernel
theorem dX2_decideOutcomes_2 : decode cX2_decideOutcomes 2 = .ok (.putfield 104, 3) := by decide +kernel
theorem dX2_decideOutcomes_5 : decode cX2_decideOutcomes 5 = .ok (.aload_n 0, 1) := by decide +kernel
theorem dX2_decideOutcomes_6 : decode cX2_decideOutcomes 6 = .ok (.iconst 0, 1) := by decide +kernel
theorem dX2_decideOutcomes_7 : decode cX2_decideOutcomes 7 = .ok (.putfield 107, 3) := by decide +kernel
theorem dX2_decideOutcomes_10 : decode cX2_decideOutcomes 10 = .ok (.iconst 0, 1) := by decide +kernel
theorem dX2_decideOutcomes_11 : decode cX2_decideOutcomes 11 = .ok (.istore_n 3, 1) := by decide +kernel
theorem dX2_decideOutcomes_12 : decode cX2_decideOutcomes 12 = .ok (.iload_n 3, 1) := by decide +kernel
theorem dX2_decideOutcomes_13 : decode cX2_decideOutcomes 13 = .ok (.iconst 4, 1) := by decide +kernel
theorem dX2_decideOutcomes_14 : decode cX2_decideOutcomes 14 = .ok (.if_icmp .ge 237, 3) := by decide +kernel
theorem dX2_decideOutcomes_17 : decode cX2_decideOutcomes 17 = .ok (.aload_n 1, 1) := by decide +kernel
theorem dX2_decideOutcomes_18 : decode cX2_decideOutcomes 18 = .ok (.getfield 47, 3) := by decide +kernel
theorem dX2_decideOutcomes_21 : decode cX2_decideOutcomes 21 = .ok (.iload_n 3, 1) := by decide +kernel
theorem dX2_decideOutcomes_22 : decode cX2_decideOutcomes 22 = .ok (.aaload, 1) := by decide +kernel
theorem dX2_decideOutcomes_23 : decode cX2_decideOutcomes 23 = .ok (.astore 4, 2) := by decide +kernel
theorem dX2_decideOutcomes_25 : decode cX2_decideOutcomes 25 = .ok (.aload 4, 2) := by decide +kernel
theorem dX2_decideOutcomes_27 : decode cX2_decideOutcomes 27 = .ok (.getfield 53, 3) := by decide +kernel
theorem dX2_decideOutcomes_30 : decode cX2_decideOutcomes 30 = .ok (.astore 5, 2) := by decide +kernel
theorem dX2_decideOutcomes_32 : decode cX2_decideOutcomes 32 = .ok (.aload 5, 2) := by decide +kernel
theorem dX2_decideOutcomes_34 : decode cX2_decideOutcomes 34 = .ok (.getfield 74, 3) := by decide +kernel
theorem dX2_decideOutcomes_37 : decode cX2_decideOutcomes 37 = .ok (.aload_n 0, 1) := by decide +kernel
theorem dX2_decideOutcomes_38 : decode cX2_decideOutcomes 38 = .ok (.getfield 15, 3) := by decide +kernel
theorem dX2_decideOutcomes_41 : decode cX2_decideOutcomes 41 = .ok (.iload_n 3, 1) := by decide +kernel
theorem dX2_decideOutcomes_42 : decode cX2_decideOutcomes 42 = .ok (.iaload, 1) := by decide +kernel
theorem dX2_decideOutcomes_43 : decode cX2_decideOutcomes 43 = .ok (.aload 4, 2) := by decide +kernel
theorem dX2_decideOutcomes_45 : decode cX2_decideOutcomes 45 = .ok (.getfield 78, 3) := by decide +kernel
theorem dX2_decideOutcomes_48 : decode cX2_decideOutcomes 48 = .ok (.imul, 1) := by decide +kernel
theorem dX2_decideOutcomes_49 : decode cX2_decideOutcomes 49 = .ok (.isub, 1) := by decide +kernel
theorem dX2_decideOutcomes_50 : decode cX2_decideOutcomes 50 = .ok (.istore 6, 2) := by decide +kernel
theorem dX2_decideOutcomes_52 : decode cX2_decideOutcomes 52 = .ok (.aload 5, 2) := by decide +kernel
theorem dX2_decideOutcomes_54 : decode cX2_decideOutcomes 54 = .ok (.getfield 85, 3) := by decide +kernel
theorem dX2_decideOutcomes_57 : decode cX2_decideOutcomes 57 = .ok (.aload_n 0, 1) := by decide +kernel
theorem dX2_decideOutcomes_58 : decode cX2_decideOutcomes 58 = .ok (.getfield 19, 3) := by decide +kernel
theorem dX2_decideOutcomes_61 : decode cX2_decideOutcomes 61 = .ok (.iload_n 3, 1) := by decide +kernel
theorem dX2_decideOutcomes_62 : decode cX2_decideOutcomes 62 = .ok (.iaload, 1) := by decide +kernel
theorem dX2_decideOutcomes_63 : decode cX2_decideOutcomes 63 = .ok (.aload 4, 2) := by decide +kernel
theorem dX2_decideOutcomes_65 : decode cX2_decideOutcomes 65 = .ok (.getfield 78, 3) := by decide +kernel
theorem dX2_decideOutcomes_68 : decode cX2_decideOutcomes 68 = .ok (.imul, 1) := by decide +kernel
theorem dX2_decideOutcomes_69 : decode cX2_decideOutcomes 69 = .ok (.isub, 1) := by decide +kernel
theorem dX2_decideOutcomes_70 : decode cX2_decideOutcomes 70 = .ok (.istore 7, 2) := by decide +kernel
theorem dX2_decideOutcomes_72 : decode cX2_decideOutcomes 72 = .ok (.aload_n 0, 1) := by decide +kernel
theorem dX2_decideOutcomes_73 : decode cX2_decideOutcomes 73 = .ok (.getfield 15, 3) := by decide +kernel
theorem dX2_decideOutcomes_76 : decode cX2_decideOutcomes 76 = .ok (.iload_n 3, 1) := by decide +kernel
theorem dX2_decideOutcomes_77 : decode cX2_decideOutcomes 77 = .ok (.iaload, 1) := by decide +kernel
theorem dX2_decideOutcomes_78 : decode cX2_decideOutcomes 78 = .ok (.invokestatic 110, 3) := by decide +kernel
theorem dX2_decideOutcomes_81 : decode cX2_decideOutcomes 81 = .ok (.aload_n 0, 1) := by decide +kernel
theorem dX2_decideOutcomes_82 : decode cX2_decideOutcomes 82 = .ok (.getfield 19, 3) := by decide +kernel
theorem dX2_decideOutcomes_85 : decode cX2_decideOutcomes 85 = .ok (.iload_n 3, 1) := by decide +kernel
theorem dX2_decideOutcomes_86 : decode cX2_decideOutcomes 86 = .ok (.iaload, 1) := by decide +kernel
theorem dX2_decideOutcomes_87 : decode cX2_decideOutcomes 87 = .ok (.invokestatic 110, 3) := by decide +kernel
theorem dX2_decideOutcomes_90 : decode cX2_decideOutcomes 90 = .ok (.invokestatic 116, 3) := by decide +kernel
theorem dX2_decideOutcomes_93 : decode cX2_decideOutcomes 93 = .ok (.istore 8, 2) := by decide +kernel
theorem dX2_decideOutcomes_95 : decode cX2_decideOutcomes 95 = .ok (.aload_n 0, 1) := by decide +kernel
theorem dX2_decideOutcomes_96 : decode cX2_decideOutcomes 96 = .ok (.getfield 25, 3) := by decide +kernel
theorem dX2_decideOutcomes_99 : decode cX2_decideOutcomes 99 = .ok (.iload_n 3, 1) := by decide +kernel
theorem dX2_decideOutcomes_100 : decode cX2_decideOutcomes 100 = .ok (.ldc 119, 2) := by decide +kernel
theorem dX2_decideOutcomes_102 : decode cX2_decideOutcomes 102 = .ok (.iastore, 1) := by decide +kernel
theorem dX2_decideOutcomes_103 : decode cX2_decideOutcomes 103 = .ok (.aload 5, 2) := by decide +kernel
theorem dX2_decideOutcomes_105 : decode cX2_decideOutcomes 105 = .ok (.getfield 59, 3) := by decide +kernel
theorem dX2_decideOutcomes_108 : decode cX2_decideOutcomes 108 = .ok (.ifCond .ne 13, 3) := by decide +kernel
theorem dX2_decideOutcomes_111 : decode cX2_decideOutcomes 111 = .ok (.aload_n 0, 1) := by decide +kernel
theorem dX2_decideOutcomes_112 : decode cX2_decideOutcomes 112 = .ok (.getfield 22, 3) := by decide +kernel
theorem dX2_decideOutcomes_115 : decode cX2_decideOutcomes 115 = .ok (.iload_n 3, 1) := by decide +kernel
theorem dX2_decideOutcomes_116 : decode cX2_decideOutcomes 116 = .ok (.iconst 0, 1) := by decide +kernel
theorem dX2_decideOutcomes_117 : decode cX2_decideOutcomes 117 = .ok (.iastore, 1) := by decide +kernel
theorem dX2_decideOutcomes_118 : decode cX2_decideOutcomes 118 = .ok (.goto 127, 3) := by decide +kernel
theorem dX2_decideOutcomes_121 : decode cX2_decideOutcomes 121 = .ok (.aload 5, 2) := by decide +kernel
theorem dX2_decideOutcomes_123 : decode cX2_decideOutcomes 123 = .ok (.getfield 65, 3) := by decide +kernel
theorem dX2_decideOutcomes_126 : decode cX2_decideOutcomes 126 = .ok (.aload_n 1, 1) := by decide +kernel
theorem dX2_decideOutcomes_127 : decode cX2_decideOutcomes 127 = .ok (.getfield 68, 3) := by decide +kernel
theorem dX2_decideOutcomes_130 : decode cX2_decideOutcomes 130 = .ok (.iconst 0, 1) := by decide +kernel
theorem dX2_decideOutcomes_131 : decode cX2_decideOutcomes 131 = .ok (.iaload, 1) := by decide +kernel
theorem dX2_decideOutcomes_132 : decode cX2_decideOutcomes 132 = .ok (.if_icmp .ge 13, 3) := by decide +kernel
theorem dX2_decideOutcomes_135 : decode cX2_decideOutcomes 135 = .ok (.aload_n 0, 1) := by decide +kernel
theorem dX2_decideOutcomes_136 : decode cX2_decideOutcomes 136 = .ok (.getfield 22, 3) := by decide +kernel
theorem dX2_decideOutcomes_139 : decode cX2_decideOutcomes 139 = .ok (.iload_n 3, 1) := by decide +kernel
theorem dX2_decideOutcomes_140 : decode cX2_decideOutcomes 140 = .ok (.iconst 1, 1) := by decide +kernel
theorem dX2_decideOutcomes_141 : decode cX2_decideOutcomes 141 = .ok (.iastore, 1) := by decide +kernel
theorem dX2_decideOutcomes_142 : decode cX2_decideOutcomes 142 = .ok (.goto 103, 3) := by decide +kernel
theorem dX2_decideOutcomes_145 : decode cX2_decideOutcomes 145 = .ok (.iload 8, 2) := by decide +kernel
theorem dX2_decideOutcomes_147 : decode cX2_decideOutcomes 147 = .ok (.iload_n 2, 1) := by decide +kernel
theorem dX2_decideOutcomes_148 : decode cX2_decideOutcomes 148 = .ok (.if_icmp .gt 23, 3) := by decide +kernel
theorem dX2_decideOutcomes_151 : decode cX2_decideOutcomes 151 = .ok (.aload 4, 2) := by decide +kernel
theorem dX2_decideOutcomes_153 : decode cX2_decideOutcomes 153 = .ok (.iload 6, 2) := by decide +kernel
theorem dX2_decideOutcomes_155 : decode cX2_decideOutcomes 155 = .ok (.invokevirtual 120, 3) := by decide +kernel
theorem dX2_decideOutcomes_158 : decode cX2_decideOutcomes 158 = .ok (.ifCond .eq 13, 3) := by decide +kernel
theorem dX2_decideOutcomes_161 : decode cX2_decideOutcomes 161 = .ok (.aload 4, 2) := by decide +kernel
theorem dX2_decideOutcomes_163 : decode cX2_decideOutcomes 163 = .ok (.iload 7, 2) := by decide +kernel
theorem dX2_decideOutcomes_165 : decode cX2_decideOutcomes 165 = .ok (.invokevirtual 120, 3) := by decide +kernel
theorem dX2_decideOutcomes_168 : decode cX2_decideOutcomes 168 = .ok (.ifCond .ne 13, 3) := by decide +kernel
theorem dX2_decideOutcomes_171 : decode cX2_decideOutcomes 171 = .ok (.aload_n 0, 1) := by decide +kernel
theorem dX2_decideOutcomes_172 : decode cX2_decideOutcomes 172 = .ok (.getfield 22, 3) := by decide +kernel
theorem dX2_decideOutcomes_175 : decode cX2_decideOutcomes 175 = .ok (.iload_n 3, 1) := by decide +kernel
theorem dX2_decideOutcomes_176 : decode cX2_decideOutcomes 176 = .ok (.iconst 2, 1) := by decide +kernel
theorem dX2_decideOutcomes_177 : decode cX2_decideOutcomes 177 = .ok (.iastore, 1) := by decide +kernel
theorem dX2_decideOutcomes_178 : decode cX2_decideOutcomes 178 = .ok (.goto 67, 3) := by decide +kernel
theorem dX2_decideOutcomes_181 : decode cX2_decideOutcomes 181 = .ok (.aload_n 0, 1) := by decide +kernel
theorem dX2_decideOutcomes_182 : decode cX2_decideOutcomes 182 = .ok (.getfield 22, 3) := by decide +kernel
theorem dX2_decideOutcomes_185 : decode cX2_decideOutcomes 185 = .ok (.iload_n 3, 1) := by decide +kernel
theorem dX2_decideOutcomes_186 : decode cX2_decideOutcomes 186 = .ok (.iload 8, 2) := by decide +kernel
theorem dX2_decideOutcomes_188 : decode cX2_decideOutcomes 188 = .ok (.ifCond .ne 7, 3) := by decide +kernel
theorem dX2_decideOutcomes_191 : decode cX2_decideOutcomes 191 = .ok (.iconst 4, 1) := by decide +kernel
theorem dX2_decideOutcomes_192 : decode cX2_decideOutcomes 192 = .ok (.goto 4, 3) := by decide +kernel
theorem dX2_decideOutcomes_195 : decode cX2_decideOutcomes 195 = .ok (.iconst 3, 1) := by decide +kernel
theorem dX2_decideOutcomes_196 : decode cX2_decideOutcomes 196 = .ok (.iastore, 1) := by decide +kernel
theorem dX2_decideOutcomes_197 : decode cX2_decideOutcomes 197 = .ok (.aload_n 0, 1) := by decide +kernel
theorem dX2_decideOutcomes_198 : decode cX2_decideOutcomes 198 = .ok (.getfield 25, 3) := by decide +kernel
theorem dX2_decideOutcomes_201 : decode cX2_decideOutcomes 201 = .ok (.iload_n 3, 1) := by decide +kernel
theorem dX2_decideOutcomes_202 : decode cX2_decideOutcomes 202 = .ok (.aload 4, 2) := by decide +kernel
theorem dX2_decideOutcomes_204 : decode cX2_decideOutcomes 204 = .ok (.iload 6, 2) := by decide +kernel
theorem dX2_decideOutcomes_206 : decode cX2_decideOutcomes 206 = .ok (.iload 7, 2) := by decide +kernel
theorem dX2_decideOutcomes_208 : decode cX2_decideOutcomes 208 = .ok (.invokevirtual 124, 3) := by decide +kernel
theorem dX2_decideOutcomes_211 : decode cX2_decideOutcomes 211 = .ok (.iastore, 1) := by decide +kernel
theorem dX2_decideOutcomes_212 : decode cX2_decideOutcomes 212 = .ok (.aload_n 0, 1) := by decide +kernel
theorem dX2_decideOutcomes_213 : decode cX2_decideOutcomes 213 = .ok (.dup, 1) := by decide +kernel
theorem dX2_decideOutcomes_214 : decode cX2_decideOutcomes 214 = .ok (.getfield 104, 3) := by decide +kernel
theorem dX2_decideOutcomes_217 : decode cX2_decideOutcomes 217 = .ok (.iconst 1, 1) := by decide +kernel
theorem dX2_decideOutcomes_218 : decode cX2_decideOutcomes 218 = .ok (.iload_n 3, 1) := by decide +kernel
theorem dX2_decideOutcomes_219 : decode cX2_decideOutcomes 219 = .ok (.ishl, 1) := by decide +kernel
theorem dX2_decideOutcomes_220 : decode cX2_decideOutcomes 220 = .ok (.ior, 1) := by decide +kernel
theorem dX2_decideOutcomes_221 : decode cX2_decideOutcomes 221 = .ok (.putfield 104, 3) := by decide +kernel
theorem dX2_decideOutcomes_224 : decode cX2_decideOutcomes 224 = .ok (.aload_n 0, 1) := by decide +kernel
theorem dX2_decideOutcomes_225 : decode cX2_decideOutcomes 225 = .ok (.dup, 1) := by decide +kernel
theorem dX2_decideOutcomes_226 : decode cX2_decideOutcomes 226 = .ok (.getfield 107, 3) := by decide +kernel
theorem dX2_decideOutcomes_229 : decode cX2_decideOutcomes 229 = .ok (.iload 8, 2) := by decide +kernel
theorem dX2_decideOutcomes_231 : decode cX2_decideOutcomes 231 = .ok (.ifCond .ne 7, 3) := by decide +kernel
theorem dX2_decideOutcomes_234 : decode cX2_decideOutcomes 234 = .ok (.iconst 0, 1) := by decide +kernel
theorem dX2_decideOutcomes_235 : decode cX2_decideOutcomes 235 = .ok (.goto 6, 3) := by decide +kernel
theorem dX2_decideOutcomes_238 : decode cX2_decideOutcomes 238 = .ok (.iconst 1, 1) := by decide +kernel
theorem dX2_decideOutcomes_239 : decode cX2_decideOutcomes 239 = .ok (.iload_n 3, 1) := by decide +kernel
theorem dX2_decideOutcomes_240 : decode cX2_decideOutcomes 240 = .ok (.ishl, 1) := by decide +kernel
theorem dX2_decideOutcomes_241 : decode cX2_decideOutcomes 241 = .ok (.ior, 1) := by decide +kernel
theorem dX2_decideOutcomes_242 : decode cX2_decideOutcomes 242 = .ok (.putfield 107, 3) := by decide +kernel
theorem dX2_decideOutcomes_245 : decode cX2_decideOutcomes 245 = .ok (.iinc 3 1, 3) := by decide +kernel
theorem dX2_decideOutcomes_248 : decode cX2_decideOutcomes 248 = .ok (.goto (-236), 3) := by decide +kernel
theorem dX2_decideOutcomes_251 : decode cX2_decideOutcomes 251 = .ok (.return_, 1) := by decide +kernel
set_option maxRecDepth 20000 in
theorem ggX2_averageVelocities_X2_weightedMean : GoodIn wsX2_averageVelocities wsX2_weightedMean := goodIn_r _ [12, 13, 14, 15, 16, 17, 18, 19, 20, 50, 51, 52, 53, 54, 55, 56, 57, 58, 59, 60, 61, 62, 63, 64, 65, 66, 67, 68, 69, 70, 71, 72, 73, 74, 75, 39, 40, 41, 42, 43, 44, 45, 46, 47, 48, 49] (by decide +kernel) (by decide +kernel)
set_option maxRecDepth 20000 in
theorem gX2_averageVelocities_X2_weightedMean : GoodIn wsX2_averageVelocities (wsV RX2 136 RX2 yX2_weightedMean wsX2_weightedMean) := goodIn_app (goodIn_of _ (by decide +kernel)) ggX2_averageVelocities_X2_weightedMean
set_option maxRecDepth 20000 in
theorem ggX2_averageVelocities_X2_substituteFrom : GoodIn wsX2_averageVelocities wsX2_substituteFrom := goodIn_r _ [24, 13, 5, 25, 15, 26, 7, 1, 16, 17, 18, 50, 51, 52, 53, 54, 55, 56, 57, 58, 59, 39, 40, 41, 42, 43, 44, 45, 46, 47, 48, 49, 60, 61, 62, 63, 64, 65, 66, 67, 68, 69, 70, 71, 72, 73, 74, 75] (by decide +kernel) (by decide +kernel)
set_option maxRecDepth 20000 in
theorem gX2_averageVelocities_X2_substituteFrom : GoodIn wsX2_averageVelocities (wsV RX2 140 RX2 yX2_substituteFrom wsX2_substituteFrom) := goodIn_app (goodIn_of _ (by decide +kernel)) ggX2_averageVelocities_X2_substituteFrom
set_option maxRecDepth 20000 in
theorem ggX2_averageVelocities_X4_factorFor : GoodIn wsX2_averageVelocities wsX4_factorFor := goodIn_r _ [31, 32, 33, 34, 35, 36, 37, 38, 19, 17, 20, 76, 77, 78] (by decide +kernel) (by decide +kernel)
set_option maxRecDepth 20000 in
theorem gX2_averageVelocities_X4_factorFor : GoodIn wsX2_averageVelocities (wsV RX2 147 RX4 yX4_factorFor wsX4_factorFor) := goodIn_app (goodIn_of _ (by decide +kernel)) ggX2_averageVelocities_X4_factorFor
theorem dX2_averageVelocities_0 : decode cX2_averageVelocities 0 = .ok (.aload_n 0, 1) := by decide +kernel
theorem dX2_averageVelocities_1 : decode cX2_averageVelocities 1 = .ok (.iconst 0, 1) := by decide +kernel
theorem dX2_averageVelocities_2 : decode cX2_averageVelocities 2 = .ok (.putfield 127, 3) := by decide +kernel
theorem dX2_averageVelocities_5 : decode cX2_averageVelocities 5 = .ok (.aload_n 0, 1) := by decide +kernel
theorem dX2_averageVelocities_6 : decode cX2_averageVelocities 6 = .ok (.ldc 119, 2) := by decide +kernel
theorem dX2_averageVelocities_8 : decode cX2_averageVelocities 8 = .ok (.putfield 130, 3) := by decide +kernel
theorem dX2_averageVelocities_11 : decode cX2_averageVelocities 11 = .ok (.aload_n 0, 1) := by decide +kernel
theorem dX2_averageVelocities_12 : decode cX2_averageVelocities 12 = .ok (.ldc 119, 2) := by decide +kernel
theorem dX2_averageVelocities_14 : decode cX2_averageVelocities 14 = .ok (.putfield 133, 3) := by decide +kernel
theorem dX2_averageVelocities_17 : decode cX2_averageVelocities 17 = .ok (.aload_n 0, 1) := by decide +kernel
theorem dX2_averageVelocities_18 : decode cX2_averageVelocities 18 = .ok (.getfield 104, 3) := by decide +kernel
theorem dX2_averageVelocities_21 : decode cX2_averageVelocities 21 = .ok (.ifCond .eq 62, 3) := by decide +kernel
theorem dX2_averageVelocities_24 : decode cX2_averageVelocities 24 = .ok (.aload_n 0, 1) := by decide +kernel
theorem dX2_averageVelocities_25 : decode cX2_averageVelocities 25 = .ok (.aload_n 1, 1) := by decide +kernel
theorem dX2_averageVelocities_26 : decode cX2_averageVelocities 26 = .ok (.aload_n 0, 1) := by decide +kernel
theorem dX2_averageVelocities_27 : decode cX2_averageVelocities 27 = .ok (.aload_n 1, 1) := by decide +kernel
theorem dX2_averageVelocities_28 : decode cX2_averageVelocities 28 = .ok (.aload_n 0, 1) := by decide +kernel
theorem dX2_averageVelocities_29 : decode cX2_averageVelocities 29 = .ok (.getfield 104, 3) := by decide +kernel
theorem dX2_averageVelocities_32 : decode cX2_averageVelocities 32 = .ok (.invokevirtual 136, 3) := by decide +kernel
theorem dX2_averageVelocities_35 : decode cX2_averageVelocities 35 = .ok (.invokevirtual 140, 3) := by decide +kernel
theorem dX2_averageVelocities_38 : decode cX2_averageVelocities 38 = .ok (.aload_n 0, 1) := by decide +kernel
theorem dX2_averageVelocities_39 : decode cX2_averageVelocities 39 = .ok (.aload_n 0, 1) := by decide +kernel
theorem dX2_averageVelocities_40 : decode cX2_averageVelocities 40 = .ok (.aload_n 1, 1) := by decide +kernel
theorem dX2_averageVelocities_41 : decode cX2_averageVelocities 41 = .ok (.aload_n 0, 1) := by decide +kernel
theorem dX2_averageVelocities_42 : decode cX2_averageVelocities 42 = .ok (.getfield 104, 3) := by decide +kernel
theorem dX2_averageVelocities_45 : decode cX2_averageVelocities 45 = .ok (.aload_n 0, 1) := by decide +kernel
theorem dX2_averageVelocities_46 : decode cX2_averageVelocities 46 = .ok (.getfield 127, 3) := by decide +kernel
theorem dX2_averageVelocities_49 : decode cX2_averageVelocities 49 = .ok (.ior, 1) := by decide +kernel
theorem dX2_averageVelocities_50 : decode cX2_averageVelocities 50 = .ok (.invokevirtual 136, 3) := by decide +kernel
theorem dX2_averageVelocities_53 : decode cX2_averageVelocities 53 = .ok (.putfield 130, 3) := by decide +kernel
theorem dX2_averageVelocities_56 : decode cX2_averageVelocities 56 = .ok (.aload_n 0, 1) := by decide +kernel
theorem dX2_averageVelocities_57 : decode cX2_averageVelocities 57 = .ok (.aload_n 0, 1) := by decide +kernel
theorem dX2_averageVelocities_58 : decode cX2_averageVelocities 58 = .ok (.getfield 130, 3) := by decide +kernel
theorem dX2_averageVelocities_61 : decode cX2_averageVelocities 61 = .ok (.i2l, 1) := by decide +kernel
theorem dX2_averageVelocities_62 : decode cX2_averageVelocities 62 = .ok (.aload_n 1, 1) := by decide +kernel
theorem dX2_averageVelocities_63 : decode cX2_averageVelocities 63 = .ok (.getfield 143, 3) := by decide +kernel
theorem dX2_averageVelocities_66 : decode cX2_averageVelocities 66 = .ok (.aload_n 0, 1) := by decide +kernel
theorem dX2_averageVelocities_67 : decode cX2_averageVelocities 67 = .ok (.getfield 130, 3) := by decide +kernel
theorem dX2_averageVelocities_70 : decode cX2_averageVelocities 70 = .ok (.invokevirtual 147, 3) := by decide +kernel
theorem dX2_averageVelocities_73 : decode cX2_averageVelocities 73 = .ok (.i2l, 1) := by decide +kernel
theorem dX2_averageVelocities_74 : decode cX2_averageVelocities 74 = .ok (.lmul, 1) := by decide +kernel
theorem dX2_averageVelocities_75 : decode cX2_averageVelocities 75 = .ok (.ldc2_w 152, 3) := by decide +kernel
theorem dX2_averageVelocities_78 : decode cX2_averageVelocities 78 = .ok (.ldiv, 1) := by decide +kernel
theorem dX2_averageVelocities_79 : decode cX2_averageVelocities 79 = .ok (.l2i, 1) := by decide +kernel
theorem dX2_averageVelocities_80 : decode cX2_averageVelocities 80 = .ok (.putfield 133, 3) := by decide +kernel
theorem dX2_averageVelocities_83 : decode cX2_averageVelocities 83 = .ok (.return_, 1) := by decide +kernel
set_option maxRecDepth 20000 in
theorem ggX2_substituteFrom_X10_contains : GoodIn wsX2_substituteFrom wsX10_contains := goodIn_r _ [10] (by decide +kernel) (by decide +kernel)
set_option maxRecDepth 20000 in
theorem gX2_substituteFrom_X10_contains_n154 : GoodIn wsX2_substituteFrom (wsX10_contains) := ggX2_substituteFrom_X10_contains
theorem dX2_substituteFrom_0 : decode cX2_substituteFrom 0 = .ok (.iconst 0, 1) := by decide +kernel
theorem dX2_substituteFrom_1 : decode cX2_substituteFrom 1 = .ok (.istore_n 3, 1) := by decide +kernel
theorem dX2_substituteFrom_2 : decode cX2_substituteFrom 2 = .ok (.iload_n 3, 1) := by decide +kernel
theorem dX2_substituteFrom_3 : decode cX2_substituteFrom 3 = .ok (.iconst 4, 1) := by decide +kernel
theorem dX2_substituteFrom_4 : decode cX2_substituteFrom 4 = .ok (.if_icmp .ge 68, 3) := by decide +kernel
theorem dX2_substituteFrom_7 : decode cX2_substituteFrom 7 = .ok (.aload_n 1, 1) := by decide +kernel
theorem dX2_substituteFrom_8 : decode cX2_substituteFrom 8 = .ok (.getfield 47, 3) := by decide +kernel
theorem dX2_substituteFrom_11 : decode cX2_substituteFrom 11 = .ok (.iload_n 3, 1) := by decide +kernel
theorem dX2_substituteFrom_12 : decode cX2_substituteFrom 12 = .ok (.aaload, 1) := by decide +kernel
theorem dX2_substituteFrom_13 : decode cX2_substituteFrom 13 = .ok (.astore 4, 2) := by decide +kernel
theorem dX2_substituteFrom_15 : decode cX2_substituteFrom 15 = .ok (.aload_n 0, 1) := by decide +kernel
theorem dX2_substituteFrom_16 : decode cX2_substituteFrom 16 = .ok (.getfield 104, 3) := by decide +kernel
theorem dX2_substituteFrom_19 : decode cX2_substituteFrom 19 = .ok (.iload_n 3, 1) := by decide +kernel
theorem dX2_substituteFrom_20 : decode cX2_substituteFrom 20 = .ok (.invokestatic 154, 3) := by decide +kernel
theorem dX2_substituteFrom_23 : decode cX2_substituteFrom 23 = .ok (.ifCond .ne 43, 3) := by decide +kernel
theorem dX2_substituteFrom_26 : decode cX2_substituteFrom 26 = .ok (.aload 4, 2) := by decide +kernel
theorem dX2_substituteFrom_28 : decode cX2_substituteFrom 28 = .ok (.getfield 158, 3) := by decide +kernel
theorem dX2_substituteFrom_31 : decode cX2_substituteFrom 31 = .ok (.ifCond .eq 35, 3) := by decide +kernel
theorem dX2_substituteFrom_34 : decode cX2_substituteFrom 34 = .ok (.aload_n 0, 1) := by decide +kernel
theorem dX2_substituteFrom_35 : decode cX2_substituteFrom 35 = .ok (.getfield 25, 3) := by decide +kernel
theorem dX2_substituteFrom_38 : decode cX2_substituteFrom 38 = .ok (.iload_n 3, 1) := by decide +kernel
theorem dX2_substituteFrom_39 : decode cX2_substituteFrom 39 = .ok (.iload_n 2, 1) := by decide +kernel
theorem dX2_substituteFrom_40 : decode cX2_substituteFrom 40 = .ok (.i2l, 1) := by decide +kernel
theorem dX2_substituteFrom_41 : decode cX2_substituteFrom 41 = .ok (.aload 4, 2) := by decide +kernel
theorem dX2_substituteFrom_43 : decode cX2_substituteFrom 43 = .ok (.getfield 161, 3) := by decide +kernel
theorem dX2_substituteFrom_46 : decode cX2_substituteFrom 46 = .ok (.i2l, 1) := by decide +kernel
theorem dX2_substituteFrom_47 : decode cX2_substituteFrom 47 = .ok (.lmul, 1) := by decide +kernel
theorem dX2_substituteFrom_48 : decode cX2_substituteFrom 48 = .ok (.ldc2_w 152, 3) := by decide +kernel
theorem dX2_substituteFrom_51 : decode cX2_substituteFrom 51 = .ok (.ldiv, 1) := by decide +kernel
theorem dX2_substituteFrom_52 : decode cX2_substituteFrom 52 = .ok (.l2i, 1) := by decide +kernel
theorem dX2_substituteFrom_53 : decode cX2_substituteFrom 53 = .ok (.iastore, 1) := by decide +kernel
theorem dX2_substituteFrom_54 : decode cX2_substituteFrom 54 = .ok (.aload_n 0, 1) := by decide +kernel
theorem dX2_substituteFrom_55 : decode cX2_substituteFrom 55 = .ok (.dup, 1) := by decide +kernel
theorem dX2_substituteFrom_56 : decode cX2_substituteFrom 56 = .ok (.getfield 127, 3) := by decide +kernel
theorem dX2_substituteFrom_59 : decode cX2_substituteFrom 59 = .ok (.iconst 1, 1) := by decide +kernel
theorem dX2_substituteFrom_60 : decode cX2_substituteFrom 60 = .ok (.iload_n 3, 1) := by decide +kernel
theorem dX2_substituteFrom_61 : decode cX2_substituteFrom 61 = .ok (.ishl, 1) := by decide +kernel
theorem dX2_substituteFrom_62 : decode cX2_substituteFrom 62 = .ok (.ior, 1) := by decide +kernel
theorem dX2_substituteFrom_63 : decode cX2_substituteFrom 63 = .ok (.putfield 127, 3) := by decide +kernel
theorem dX2_substituteFrom_66 : decode cX2_substituteFrom 66 = .ok (.iinc 3 1, 3) := by decide +kernel
theorem dX2_substituteFrom_69 : decode cX2_substituteFrom 69 = .ok (.goto (-67), 3) := by decide +kernel
theorem dX2_substituteFrom_72 : decode cX2_substituteFrom 72 = .ok (.return_, 1) := by decide +kernel
set_option maxRecDepth 20000 in
theorem ggX2_weightedMean_X10_contains : GoodIn wsX2_weightedMean wsX10_contains := goodIn_r _ [6] (by decide +kernel) (by decide +kernel)
set_option maxRecDepth 20000 in
theorem gX2_weightedMean_X10_contains_n154 : GoodIn wsX2_weightedMean (wsX10_contains) := ggX2_weightedMean_X10_contains
set_option maxRecDepth 20000 in
theorem ggX2_weightedMean_X10_quotient : GoodIn wsX2_weightedMean wsX10_quotient := goodIn_r _ [8] (by decide +kernel) (by decide +kernel)
set_option maxRecDepth 20000 in
theorem gX2_weightedMean_X10_quotient_n164 : GoodIn wsX2_weightedMean (wsX10_quotient) := ggX2_weightedMean_X10_quotient
theorem dX2_weightedMean_0 : decode cX2_weightedMean 0 = .ok (.lconst 0, 1) := by decide +kernel
theorem dX2_weightedMean_1 : decode cX2_weightedMean 1 = .ok (.lstore_n 3, 1) := by decide +kernel
theorem dX2_weightedMean_2 : decode cX2_weightedMean 2 = .ok (.lconst 0, 1) := by decide +kernel
theorem dX2_weightedMean_3 : decode cX2_weightedMean 3 = .ok (.lstore 5, 2) := by decide +kernel
theorem dX2_weightedMean_5 : decode cX2_weightedMean 5 = .ok (.iconst 0, 1) := by decide +kernel
theorem dX2_weightedMean_6 : decode cX2_weightedMean 6 = .ok (.istore 7, 2) := by decide +kernel
theorem dX2_weightedMean_8 : decode cX2_weightedMean 8 = .ok (.iload 7, 2) := by decide +kernel
theorem dX2_weightedMean_10 : decode cX2_weightedMean 10 = .ok (.iconst 4, 1) := by decide +kernel
theorem dX2_weightedMean_11 : decode cX2_weightedMean 11 = .ok (.if_icmp .ge 57, 3) := by decide +kernel
theorem dX2_weightedMean_14 : decode cX2_weightedMean 14 = .ok (.iload_n 2, 1) := by decide +kernel
theorem dX2_weightedMean_15 : decode cX2_weightedMean 15 = .ok (.iload 7, 2) := by decide +kernel
theorem dX2_weightedMean_17 : decode cX2_weightedMean 17 = .ok (.invokestatic 154, 3) := by decide +kernel
theorem dX2_weightedMean_20 : decode cX2_weightedMean 20 = .ok (.ifCond .eq 42, 3) := by decide +kernel
theorem dX2_weightedMean_23 : decode cX2_weightedMean 23 = .ok (.lload_n 3, 1) := by decide +kernel
theorem dX2_weightedMean_24 : decode cX2_weightedMean 24 = .ok (.aload_n 1, 1) := by decide +kernel
theorem dX2_weightedMean_25 : decode cX2_weightedMean 25 = .ok (.getfield 47, 3) := by decide +kernel
theorem dX2_weightedMean_28 : decode cX2_weightedMean 28 = .ok (.iload 7, 2) := by decide +kernel
theorem dX2_weightedMean_30 : decode cX2_weightedMean 30 = .ok (.aaload, 1) := by decide +kernel
theorem dX2_weightedMean_31 : decode cX2_weightedMean 31 = .ok (.getfield 101, 3) := by decide +kernel
theorem dX2_weightedMean_34 : decode cX2_weightedMean 34 = .ok (.i2l, 1) := by decide +kernel
theorem dX2_weightedMean_35 : decode cX2_weightedMean 35 = .ok (.aload_n 0, 1) := by decide +kernel
theorem dX2_weightedMean_36 : decode cX2_weightedMean 36 = .ok (.getfield 25, 3) := by decide +kernel
theorem dX2_weightedMean_39 : decode cX2_weightedMean 39 = .ok (.iload 7, 2) := by decide +kernel
theorem dX2_weightedMean_41 : decode cX2_weightedMean 41 = .ok (.iaload, 1) := by decide +kernel
theorem dX2_weightedMean_42 : decode cX2_weightedMean 42 = .ok (.i2l, 1) := by decide +kernel
theorem dX2_weightedMean_43 : decode cX2_weightedMean 43 = .ok (.lmul, 1) := by decide +kernel
theorem dX2_weightedMean_44 : decode cX2_weightedMean 44 = .ok (.ladd, 1) := by decide +kernel
theorem dX2_weightedMean_45 : decode cX2_weightedMean 45 = .ok (.lstore_n 3, 1) := by decide +kernel
theorem dX2_weightedMean_46 : decode cX2_weightedMean 46 = .ok (.lload 5, 2) := by decide +kernel
theorem dX2_weightedMean_48 : decode cX2_weightedMean 48 = .ok (.aload_n 1, 1) := by decide +kernel
theorem dX2_weightedMean_49 : decode cX2_weightedMean 49 = .ok (.getfield 47, 3) := by decide +kernel
theorem dX2_weightedMean_52 : decode cX2_weightedMean 52 = .ok (.iload 7, 2) := by decide +kernel
theorem dX2_weightedMean_54 : decode cX2_weightedMean 54 = .ok (.aaload, 1) := by decide +kernel
theorem dX2_weightedMean_55 : decode cX2_weightedMean 55 = .ok (.getfield 101, 3) := by decide +kernel
theorem dX2_weightedMean_58 : decode cX2_weightedMean 58 = .ok (.i2l, 1) := by decide +kernel
theorem dX2_weightedMean_59 : decode cX2_weightedMean 59 = .ok (.ladd, 1) := by decide +kernel
theorem dX2_weightedMean_60 : decode cX2_weightedMean 60 = .ok (.lstore 5, 2) := by decide +kernel
theorem dX2_weightedMean_62 : decode cX2_weightedMean 62 = .ok (.iinc 7 1, 3) := by decide +kernel
theorem dX2_weightedMean_65 : decode cX2_weightedMean 65 = .ok (.goto (-57), 3) := by decide +kernel
theorem dX2_weightedMean_68 : decode cX2_weightedMean 68 = .ok (.lload_n 3, 1) := by decide +kernel
theorem dX2_weightedMean_69 : decode cX2_weightedMean 69 = .ok (.lload 5, 2) := by decide +kernel
theorem dX2_weightedMean_71 : decode cX2_weightedMean 71 = .ok (.invokestatic 164, 3) := by decide +kernel
theorem dX2_weightedMean_74 : decode cX2_weightedMean 74 = .ok (.l2i, 1) := by decide +kernel
theorem dX2_weightedMean_75 : decode cX2_weightedMean 75 = .ok (.ireturn, 1) := by decide +kernel
set_option maxRecDepth 20000 in
theorem ggX2_settle_X2_settlePath : GoodIn wsX2_settle wsX2_settlePath := goodIn_r _ [14, 15, 16, 17, 18, 19, 20, 7, 21, 22, 3, 23, 24, 25, 26, 27, 28, 29, 30, 31, 32, 33, 34, 35, 36, 37, 38, 39, 40, 41, 42, 106, 107, 108, 109, 110, 111, 112, 113, 114, 115, 116, 86, 87, 88, 89, 90, 91, 92, 93, 94, 95, 96, 97, 98, 99, 100, 101, 102, 103, 104, 105] (by decide +kernel) (by decide +kernel)
set_option maxRecDepth 20000 in
theorem gX2_settle_X2_settlePath : GoodIn wsX2_settle (wsV RX2 171 RX2 yX2_settlePath wsX2_settlePath) := goodIn_app (goodIn_of _ (by decide +kernel)) ggX2_settle_X2_settlePath
set_option maxRecDepth 20000 in
theorem ggX2_settle_X6_startLatest : GoodIn wsX2_settle wsX6_startLatest := goodIn_r _ [47, 48, 49, 50, 51, 52, 53, 117, 118] (by decide +kernel) (by decide +kernel)
set_option maxRecDepth 20000 in
theorem gX2_settle_X6_startLatest : GoodIn wsX2_settle (wsV RX2 179 RX6 yX6_startLatest wsX6_startLatest) := goodIn_app (goodIn_of _ (by decide +kernel)) ggX2_settle_X6_startLatest
set_option maxRecDepth 20000 in
theorem ggX2_settle_X2_fillIn : GoodIn wsX2_settle wsX2_fillIn := goodIn_r _ [57, 9, 58, 30, 59, 7, 60, 61, 62, 63, 64, 65, 66, 106, 107, 108, 109, 110, 111, 112, 113, 114, 115, 116, 119, 120, 121, 122, 123, 124] (by decide +kernel) (by decide +kernel)
set_option maxRecDepth 20000 in
theorem gX2_settle_X2_fillIn : GoodIn wsX2_settle (wsV RX2 185 RX2 yX2_fillIn wsX2_fillIn) := goodIn_app (goodIn_of _ (by decide +kernel)) ggX2_settle_X2_fillIn
set_option maxRecDepth 20000 in
theorem ggX2_settle_X8_countVolume : GoodIn wsX2_settle wsX8_countVolume := goodIn_r _ [71, 72, 73, 74, 75, 76, 77, 78, 79, 80, 81, 82, 83, 84, 85] (by decide +kernel) (by decide +kernel)
set_option maxRecDepth 20000 in
theorem gX2_settle_X8_countVolume : GoodIn wsX2_settle (wsV RX2 195 RX8 yX8_countVolume wsX8_countVolume) := goodIn_app (goodIn_of _ (by decide +kernel)) ggX2_settle_X8_countVolume
theorem dX2_settle_0 : decode cX2_settle 0 = .ok (.iconst 0, 1) := by decide +kernel
theorem dX2_settle_1 : decode cX2_settle 1 = .ok (.istore_n 2, 1) := by decide +kernel
theorem dX2_settle_2 : decode cX2_settle 2 = .ok (.iload_n 2, 1) := by decide +kernel
theorem dX2_settle_3 : decode cX2_settle 3 = .ok (.iconst 4, 1) := by decide +kernel
theorem dX2_settle_4 : decode cX2_settle 4 = .ok (.if_icmp .ge 28, 3) := by decide +kernel
theorem dX2_settle_7 : decode cX2_settle 7 = .ok (.iload_n 2, 1) := by decide +kernel
theorem dX2_settle_8 : decode cX2_settle 8 = .ok (.aload_n 1, 1) := by decide +kernel
theorem dX2_settle_9 : decode cX2_settle 9 = .ok (.getfield 168, 3) := by decide +kernel
theorem dX2_settle_12 : decode cX2_settle 12 = .ok (.if_icmp .ge 20, 3) := by decide +kernel
theorem dX2_settle_15 : decode cX2_settle 15 = .ok (.aload_n 0, 1) := by decide +kernel
theorem dX2_settle_16 : decode cX2_settle 16 = .ok (.aload_n 1, 1) := by decide +kernel
theorem dX2_settle_17 : decode cX2_settle 17 = .ok (.getfield 47, 3) := by decide +kernel
theorem dX2_settle_20 : decode cX2_settle 20 = .ok (.iload_n 2, 1) := by decide +kernel
theorem dX2_settle_21 : decode cX2_settle 21 = .ok (.aaload, 1) := by decide +kernel
theorem dX2_settle_22 : decode cX2_settle 22 = .ok (.iload_n 2, 1) := by decide +kernel
theorem dX2_settle_23 : decode cX2_settle 23 = .ok (.invokevirtual 171, 3) := by decide +kernel
theorem dX2_settle_26 : decode cX2_settle 26 = .ok (.iinc 2 1, 3) := by decide +kernel
theorem dX2_settle_29 : decode cX2_settle 29 = .ok (.goto (-27), 3) := by decide +kernel
theorem dX2_settle_32 : decode cX2_settle 32 = .ok (.aload_n 1, 1) := by decide +kernel
theorem dX2_settle_33 : decode cX2_settle 33 = .ok (.getfield 47, 3) := by decide +kernel
theorem dX2_settle_36 : decode cX2_settle 36 = .ok (.astore_n 2, 1) := by decide +kernel
theorem dX2_settle_37 : decode cX2_settle 37 = .ok (.aload_n 2, 1) := by decide +kernel
theorem dX2_settle_38 : decode cX2_settle 38 = .ok (.arraylength, 1) := by decide +kernel
theorem dX2_settle_39 : decode cX2_settle 39 = .ok (.istore_n 3, 1) := by decide +kernel
theorem dX2_settle_40 : decode cX2_settle 40 = .ok (.iconst 0, 1) := by decide +kernel
theorem dX2_settle_41 : decode cX2_settle 41 = .ok (.istore 4, 2) := by decide +kernel
theorem dX2_settle_43 : decode cX2_settle 43 = .ok (.iload 4, 2) := by decide +kernel
theorem dX2_settle_45 : decode cX2_settle 45 = .ok (.iload_n 3, 1) := by decide +kernel
theorem dX2_settle_46 : decode cX2_settle 46 = .ok (.if_icmp .ge 24, 3) := by decide +kernel
theorem dX2_settle_49 : decode cX2_settle 49 = .ok (.aload_n 2, 1) := by decide +kernel
theorem dX2_settle_50 : decode cX2_settle 50 = .ok (.iload 4, 2) := by decide +kernel
theorem dX2_settle_52 : decode cX2_settle 52 = .ok (.aaload, 1) := by decide +kernel
theorem dX2_settle_53 : decode cX2_settle 53 = .ok (.astore 5, 2) := by decide +kernel
theorem dX2_settle_55 : decode cX2_settle 55 = .ok (.aload 5, 2) := by decide +kernel
theorem dX2_settle_57 : decode cX2_settle 57 = .ok (.getfield 53, 3) := by decide +kernel
theorem dX2_settle_60 : decode cX2_settle 60 = .ok (.iconst 0, 1) := by decide +kernel
theorem dX2_settle_61 : decode cX2_settle 61 = .ok (.putfield 59, 3) := by decide +kernel
theorem dX2_settle_64 : decode cX2_settle 64 = .ok (.iinc 4 1, 3) := by decide +kernel
theorem dX2_settle_67 : decode cX2_settle 67 = .ok (.goto (-24), 3) := by decide +kernel
theorem dX2_settle_70 : decode cX2_settle 70 = .ok (.aload_n 0, 1) := by decide +kernel
theorem dX2_settle_71 : decode cX2_settle 71 = .ok (.aload_n 1, 1) := by decide +kernel
theorem dX2_settle_72 : decode cX2_settle 72 = .ok (.getfield 175, 3) := by decide +kernel
theorem dX2_settle_75 : decode cX2_settle 75 = .ok (.invokevirtual 179, 3) := by decide +kernel
theorem dX2_settle_78 : decode cX2_settle 78 = .ok (.invokevirtual 185, 3) := by decide +kernel
theorem dX2_settle_81 : decode cX2_settle 81 = .ok (.aload_n 1, 1) := by decide +kernel
theorem dX2_settle_82 : decode cX2_settle 82 = .ok (.dup, 1) := by decide +kernel
theorem dX2_settle_83 : decode cX2_settle 83 = .ok (.getfield 189, 3) := by decide +kernel
theorem dX2_settle_86 : decode cX2_settle 86 = .ok (.iconst 1, 1) := by decide +kernel
theorem dX2_settle_87 : decode cX2_settle 87 = .ok (.iadd, 1) := by decide +kernel
theorem dX2_settle_88 : decode cX2_settle 88 = .ok (.putfield 189, 3) := by decide +kernel
theorem dX2_settle_91 : decode cX2_settle 91 = .ok (.aload_n 0, 1) := by decide +kernel
theorem dX2_settle_92 : decode cX2_settle 92 = .ok (.getfield 104, 3) := by decide +kernel
theorem dX2_settle_95 : decode cX2_settle 95 = .ok (.ifCond .ne 16, 3) := by decide +kernel
theorem dX2_settle_98 : decode cX2_settle 98 = .ok (.aload_n 1, 1) := by decide +kernel
theorem dX2_settle_99 : decode cX2_settle 99 = .ok (.dup, 1) := by decide +kernel
theorem dX2_settle_100 : decode cX2_settle 100 = .ok (.getfield 192, 3) := by decide +kernel
theorem dX2_settle_103 : decode cX2_settle 103 = .ok (.iconst 1, 1) := by decide +kernel
theorem dX2_settle_104 : decode cX2_settle 104 = .ok (.iadd, 1) := by decide +kernel
theorem dX2_settle_105 : decode cX2_settle 105 = .ok (.putfield 192, 3) := by decide +kernel
theorem dX2_settle_108 : decode cX2_settle 108 = .ok (.goto 11, 3) := by decide +kernel
theorem dX2_settle_111 : decode cX2_settle 111 = .ok (.aload_n 1, 1) := by decide +kernel
theorem dX2_settle_112 : decode cX2_settle 112 = .ok (.aload_n 0, 1) := by decide +kernel
theorem dX2_settle_113 : decode cX2_settle 113 = .ok (.getfield 133, 3) := by decide +kernel
theorem dX2_settle_116 : decode cX2_settle 116 = .ok (.invokevirtual 195, 3) := by decide +kernel
theorem dX2_settle_119 : decode cX2_settle 119 = .ok (.return_, 1) := by decide +kernel
set_option maxRecDepth 20000 in
theorem ggX2_settlePath_X10_asNumber : GoodIn wsX2_settlePath wsX10_asNumber := goodIn_r _ [24] (by decide +kernel) (by decide +kernel)
set_option maxRecDepth 20000 in
theorem gX2_settlePath_X10_asNumber_n206 : GoodIn wsX2_settlePath (wsX10_asNumber) := ggX2_settlePath_X10_asNumber
set_option maxRecDepth 20000 in
theorem ggX2_settlePath_X10_contains : GoodIn wsX2_settlePath wsX10_contains := goodIn_r _ [26] (by decide +kernel) (by decide +kernel)
set_option maxRecDepth 20000 in
theorem gX2_settlePath_X10_contains_n154 : GoodIn wsX2_settlePath (wsX10_contains) := ggX2_settlePath_X10_contains
set_option maxRecDepth 20000 in
theorem ggX2_settlePath_X10_quotient : GoodIn wsX2_settlePath wsX10_quotient := goodIn_r _ [28] (by decide +kernel) (by decide +kernel)
set_option maxRecDepth 20000 in
theorem gX2_settlePath_X10_quotient_n164 : GoodIn wsX2_settlePath (wsX10_quotient) := ggX2_settlePath_X10_quotient
set_option maxRecDepth 20000 in
theorem ggX2_settlePath_X10_limited : GoodIn wsX2_settlePath wsX10_limited := goodIn_r _ [30] (by decide +kernel) (by decide +kernel)
set_option maxRecDepth 20000 in
theorem gX2_settlePath_X10_limited_n216 : GoodIn wsX2_settlePath (wsX10_limited) := ggX2_settlePath_X10_limited
theorem dX2_settlePath_0 : decode cX2_settlePath 0 = .ok (.iload_n 2, 1) := by decide +kernel
theorem dX2_settlePath_1 : decode cX2_settlePath 1 = .ok (.ifCond .lt 8, 3) := by decide +kernel
theorem dX2_settlePath_4 : decode cX2_settlePath 4 = .ok (.iload_n 2, 1) := by decide +kernel
theorem dX2_settlePath_5 : decode cX2_settlePath 5 = .ok (.iconst 4, 1) := by decide +kernel
theorem dX2_settlePath_6 : decode cX2_settlePath 6 = .ok (.if_icmp .lt 4, 3) := by decide +kernel
theorem dX2_settlePath_9 : decode cX2_settlePath 9 = .ok (.return_, 1) := by decide +kernel
theorem dX2_settlePath_10 : decode cX2_settlePath 10 = .ok (.aload_n 1, 1) := by decide +kernel
theorem dX2_settlePath_11 : decode cX2_settlePath 11 = .ok (.aload_n 0, 1) := by decide +kernel
theorem dX2_settlePath_12 : decode cX2_settlePath 12 = .ok (.getfield 22, 3) := by decide +kernel
theorem dX2_settlePath_15 : decode cX2_settlePath 15 = .ok (.iload_n 2, 1) := by decide +kernel
theorem dX2_settlePath_16 : decode cX2_settlePath 16 = .ok (.iaload, 1) := by decide +kernel
theorem dX2_settlePath_17 : decode cX2_settlePath 17 = .ok (.putfield 199, 3) := by decide +kernel
theorem dX2_settlePath_20 : decode cX2_settlePath 20 = .ok (.aload_n 1, 1) := by decide +kernel
theorem dX2_settlePath_21 : decode cX2_settlePath 21 = .ok (.aload_n 0, 1) := by decide +kernel
theorem dX2_settlePath_22 : decode cX2_settlePath 22 = .ok (.getfield 25, 3) := by decide +kernel
theorem dX2_settlePath_25 : decode cX2_settlePath 25 = .ok (.iload_n 2, 1) := by decide +kernel
theorem dX2_settlePath_26 : decode cX2_settlePath 26 = .ok (.iaload, 1) := by decide +kernel
theorem dX2_settlePath_27 : decode cX2_settlePath 27 = .ok (.putfield 202, 3) := by decide +kernel
theorem dX2_settlePath_30 : decode cX2_settlePath 30 = .ok (.aload_n 1, 1) := by decide +kernel
theorem dX2_settlePath_31 : decode cX2_settlePath 31 = .ok (.dup, 1) := by decide +kernel
theorem dX2_settlePath_32 : decode cX2_settlePath 32 = .ok (.getfield 203, 3) := by decide +kernel
theorem dX2_settlePath_35 : decode cX2_settlePath 35 = .ok (.aload_n 0, 1) := by decide +kernel
theorem dX2_settlePath_36 : decode cX2_settlePath 36 = .ok (.getfield 22, 3) := by decide +kernel
theorem dX2_settlePath_39 : decode cX2_settlePath 39 = .ok (.iload_n 2, 1) := by decide +kernel
theorem dX2_settlePath_40 : decode cX2_settlePath 40 = .ok (.iaload, 1) := by decide +kernel
theorem dX2_settlePath_41 : decode cX2_settlePath 41 = .ok (.iconst 3, 1) := by decide +kernel
theorem dX2_settlePath_42 : decode cX2_settlePath 42 = .ok (.if_icmp .ne 7, 3) := by decide +kernel
theorem dX2_settlePath_45 : decode cX2_settlePath 45 = .ok (.iconst 1, 1) := by decide +kernel
theorem dX2_settlePath_46 : decode cX2_settlePath 46 = .ok (.goto 4, 3) := by decide +kernel
theorem dX2_settlePath_49 : decode cX2_settlePath 49 = .ok (.iconst 0, 1) := by decide +kernel
theorem dX2_settlePath_50 : decode cX2_settlePath 50 = .ok (.invokestatic 206, 3) := by decide +kernel
theorem dX2_settlePath_53 : decode cX2_settlePath 53 = .ok (.iadd, 1) := by decide +kernel
theorem dX2_settlePath_54 : decode cX2_settlePath 54 = .ok (.putfield 203, 3) := by decide +kernel
theorem dX2_settlePath_57 : decode cX2_settlePath 57 = .ok (.aload_n 1, 1) := by decide +kernel
theorem dX2_settlePath_58 : decode cX2_settlePath 58 = .ok (.dup, 1) := by decide +kernel
theorem dX2_settlePath_59 : decode cX2_settlePath 59 = .ok (.getfield 210, 3) := by decide +kernel
theorem dX2_settlePath_62 : decode cX2_settlePath 62 = .ok (.aload_n 0, 1) := by decide +kernel
theorem dX2_settlePath_63 : decode cX2_settlePath 63 = .ok (.getfield 22, 3) := by decide +kernel
theorem dX2_settlePath_66 : decode cX2_settlePath 66 = .ok (.iload_n 2, 1) := by decide +kernel
theorem dX2_settlePath_67 : decode cX2_settlePath 67 = .ok (.iaload, 1) := by decide +kernel
theorem dX2_settlePath_68 : decode cX2_settlePath 68 = .ok (.iconst 2, 1) := by decide +kernel
theorem dX2_settlePath_69 : decode cX2_settlePath 69 = .ok (.if_icmp .ne 7, 3) := by decide +kernel
theorem dX2_settlePath_72 : decode cX2_settlePath 72 = .ok (.iconst 1, 1) := by decide +kernel
theorem dX2_settlePath_73 : decode cX2_settlePath 73 = .ok (.goto 4, 3) := by decide +kernel
theorem dX2_settlePath_76 : decode cX2_settlePath 76 = .ok (.iconst 0, 1) := by decide +kernel
theorem dX2_settlePath_77 : decode cX2_settlePath 77 = .ok (.invokestatic 206, 3) := by decide +kernel
theorem dX2_settlePath_80 : decode cX2_settlePath 80 = .ok (.iadd, 1) := by decide +kernel
theorem dX2_settlePath_81 : decode cX2_settlePath 81 = .ok (.putfield 210, 3) := by decide +kernel
theorem dX2_settlePath_84 : decode cX2_settlePath 84 = .ok (.aload_n 0, 1) := by decide +kernel
theorem dX2_settlePath_85 : decode cX2_settlePath 85 = .ok (.getfield 104, 3) := by decide +kernel
theorem dX2_settlePath_88 : decode cX2_settlePath 88 = .ok (.iload_n 2, 1) := by decide +kernel
theorem dX2_settlePath_89 : decode cX2_settlePath 89 = .ok (.invokestatic 154, 3) := by decide +kernel
theorem dX2_settlePath_92 : decode cX2_settlePath 92 = .ok (.ifCond .ne 14, 3) := by decide +kernel
theorem dX2_settlePath_95 : decode cX2_settlePath 95 = .ok (.aload_n 1, 1) := by decide +kernel
theorem dX2_settlePath_96 : decode cX2_settlePath 96 = .ok (.dup, 1) := by decide +kernel
theorem dX2_settlePath_97 : decode cX2_settlePath 97 = .ok (.getfield 213, 3) := by decide +kernel
theorem dX2_settlePath_100 : decode cX2_settlePath 100 = .ok (.iconst 1, 1) := by decide +kernel
theorem dX2_settlePath_101 : decode cX2_settlePath 101 = .ok (.iadd, 1) := by decide +kernel
theorem dX2_settlePath_102 : decode cX2_settlePath 102 = .ok (.putfield 213, 3) := by decide +kernel
theorem dX2_settlePath_105 : decode cX2_settlePath 105 = .ok (.return_, 1) := by decide +kernel
theorem dX2_settlePath_106 : decode cX2_settlePath 106 = .ok (.aload_n 1, 1) := by decide +kernel
theorem dX2_settlePath_107 : decode cX2_settlePath 107 = .ok (.iconst 0, 1) := by decide +kernel
theorem dX2_settlePath_108 : decode cX2_settlePath 108 = .ok (.putfield 213, 3) := by decide +kernel
theorem dX2_settlePath_111 : decode cX2_settlePath 111 = .ok (.aload_n 1, 1) := by decide +kernel
theorem dX2_settlePath_112 : decode cX2_settlePath 112 = .ok (.iconst 1, 1) := by decide +kernel
theorem dX2_settlePath_113 : decode cX2_settlePath 113 = .ok (.putfield 71, 3) := by decide +kernel
theorem dX2_settlePath_116 : decode cX2_settlePath 116 = .ok (.aload_n 1, 1) := by decide +kernel
theorem dX2_settlePath_117 : decode cX2_settlePath 117 = .ok (.aload_n 1, 1) := by decide +kernel
theorem dX2_settlePath_118 : decode cX2_settlePath 118 = .ok (.getfield 53, 3) := by decide +kernel
theorem dX2_settlePath_121 : decode cX2_settlePath 121 = .ok (.getfield 74, 3) := by decide +kernel
theorem dX2_settlePath_124 : decode cX2_settlePath 124 = .ok (.aload_n 0, 1) := by decide +kernel
theorem dX2_settlePath_125 : decode cX2_settlePath 125 = .ok (.getfield 15, 3) := by decide +kernel
theorem dX2_settlePath_128 : decode cX2_settlePath 128 = .ok (.iload_n 2, 1) := by decide +kernel
theorem dX2_settlePath_129 : decode cX2_settlePath 129 = .ok (.iaload, 1) := by decide +kernel
theorem dX2_settlePath_130 : decode cX2_settlePath 130 = .ok (.aload_n 1, 1) := by decide +kernel
theorem dX2_settlePath_131 : decode cX2_settlePath 131 = .ok (.getfield 78, 3) := by decide +kernel
theorem dX2_settlePath_134 : decode cX2_settlePath 134 = .ok (.imul, 1) := by decide +kernel
theorem dX2_settlePath_135 : decode cX2_settlePath 135 = .ok (.isub, 1) := by decide +kernel
theorem dX2_settlePath_136 : decode cX2_settlePath 136 = .ok (.putfield 77, 3) := by decide +kernel
theorem dX2_settlePath_139 : decode cX2_settlePath 139 = .ok (.aload_n 1, 1) := by decide +kernel
theorem dX2_settlePath_140 : decode cX2_settlePath 140 = .ok (.aload_n 1, 1) := by decide +kernel
theorem dX2_settlePath_141 : decode cX2_settlePath 141 = .ok (.getfield 53, 3) := by decide +kernel
theorem dX2_settlePath_144 : decode cX2_settlePath 144 = .ok (.getfield 85, 3) := by decide +kernel
theorem dX2_settlePath_147 : decode cX2_settlePath 147 = .ok (.aload_n 0, 1) := by decide +kernel
theorem dX2_settlePath_148 : decode cX2_settlePath 148 = .ok (.getfield 19, 3) := by decide +kernel
theorem dX2_settlePath_151 : decode cX2_settlePath 151 = .ok (.iload_n 2, 1) := by decide +kernel
theorem dX2_settlePath_152 : decode cX2_settlePath 152 = .ok (.iaload, 1) := by decide +kernel
theorem dX2_settlePath_153 : decode cX2_settlePath 153 = .ok (.aload_n 1, 1) := by decide +kernel
theorem dX2_settlePath_154 : decode cX2_settlePath 154 = .ok (.getfield 78, 3) := by decide +kernel
theorem dX2_settlePath_157 : decode cX2_settlePath 157 = .ok (.imul, 1) := by decide +kernel
theorem dX2_settlePath_158 : decode cX2_settlePath 158 = .ok (.isub, 1) := by decide +kernel
theorem dX2_settlePath_159 : decode cX2_settlePath 159 = .ok (.putfield 88, 3) := by decide +kernel
theorem dX2_settlePath_162 : decode cX2_settlePath 162 = .ok (.aload_n 0, 1) := by decide +kernel
theorem dX2_settlePath_163 : decode cX2_settlePath 163 = .ok (.getfield 130, 3) := by decide +kernel
theorem dX2_settlePath_166 : decode cX2_settlePath 166 = .ok (.ifCond .eq 37, 3) := by decide +kernel
theorem dX2_settlePath_169 : decode cX2_settlePath 169 = .ok (.aload_n 1, 1) := by decide +kernel
theorem dX2_settlePath_170 : decode cX2_settlePath 170 = .ok (.iconst 1, 1) := by decide +kernel
theorem dX2_settlePath_171 : decode cX2_settlePath 171 = .ok (.putfield 158, 3) := by decide +kernel
theorem dX2_settlePath_174 : decode cX2_settlePath 174 = .ok (.aload_n 1, 1) := by decide +kernel
theorem dX2_settlePath_175 : decode cX2_settlePath 175 = .ok (.aload_n 0, 1) := by decide +kernel
theorem dX2_settlePath_176 : decode cX2_settlePath 176 = .ok (.getfield 25, 3) := by decide +kernel
theorem dX2_settlePath_179 : decode cX2_settlePath 179 = .ok (.iload_n 2, 1) := by decide +kernel
theorem dX2_settlePath_180 : decode cX2_settlePath 180 = .ok (.iaload, 1) := by decide +kernel
theorem dX2_settlePath_181 : decode cX2_settlePath 181 = .ok (.i2l, 1) := by decide +kernel
theorem dX2_settlePath_182 : decode cX2_settlePath 182 = .ok (.ldc2_w 152, 3) := by decide +kernel
theorem dX2_settlePath_185 : decode cX2_settlePath 185 = .ok (.lmul, 1) := by decide +kernel
theorem dX2_settlePath_186 : decode cX2_settlePath 186 = .ok (.aload_n 0, 1) := by decide +kernel
theorem dX2_settlePath_187 : decode cX2_settlePath 187 = .ok (.getfield 130, 3) := by decide +kernel
theorem dX2_settlePath_190 : decode cX2_settlePath 190 = .ok (.i2l, 1) := by decide +kernel
theorem dX2_settlePath_191 : decode cX2_settlePath 191 = .ok (.invokestatic 164, 3) := by decide +kernel
theorem dX2_settlePath_194 : decode cX2_settlePath 194 = .ok (.sipush 5000, 3) := by decide +kernel
theorem dX2_settlePath_197 : decode cX2_settlePath 197 = .ok (.invokestatic 216, 3) := by decide +kernel
theorem dX2_settlePath_200 : decode cX2_settlePath 200 = .ok (.putfield 161, 3) := by decide +kernel
theorem dX2_settlePath_203 : decode cX2_settlePath 203 = .ok (.return_, 1) := by decide +kernel
theorem dX2_fillIn_0 : decode cX2_fillIn 0 = .ok (.aload_n 1, 1) := by decide +kernel
theorem dX2_fillIn_1 : decode cX2_fillIn 1 = .ok (.aload_n 0, 1) := by decide +kernel
theorem dX2_fillIn_2 : decode cX2_fillIn 2 = .ok (.getfield 133, 3) := by decide +kernel
theorem dX2_fillIn_5 : decode cX2_fillIn 5 = .ok (.putfield 220, 3) := by decide +kernel
theorem dX2_fillIn_8 : decode cX2_fillIn 8 = .ok (.aload_n 1, 1) := by decide +kernel
theorem dX2_fillIn_9 : decode cX2_fillIn 9 = .ok (.aload_n 0, 1) := by decide +kernel
theorem dX2_fillIn_10 : decode cX2_fillIn 10 = .ok (.getfield 130, 3) := by decide +kernel
theorem dX2_fillIn_13 : decode cX2_fillIn 13 = .ok (.putfield 223, 3) := by decide +kernel
theorem dX2_fillIn_16 : decode cX2_fillIn 16 = .ok (.aload_n 1, 1) := by decide +kernel
theorem dX2_fillIn_17 : decode cX2_fillIn 17 = .ok (.aload_n 0, 1) := by decide +kernel
theorem dX2_fillIn_18 : decode cX2_fillIn 18 = .ok (.getfield 104, 3) := by decide +kernel
theorem dX2_fillIn_21 : decode cX2_fillIn 21 = .ok (.putfield 224, 3) := by decide +kernel
theorem dX2_fillIn_24 : decode cX2_fillIn 24 = .ok (.aload_n 1, 1) := by decide +kernel
theorem dX2_fillIn_25 : decode cX2_fillIn 25 = .ok (.aload_n 0, 1) := by decide +kernel
theorem dX2_fillIn_26 : decode cX2_fillIn 26 = .ok (.getfield 107, 3) := by decide +kernel
theorem dX2_fillIn_29 : decode cX2_fillIn 29 = .ok (.putfield 225, 3) := by decide +kernel
theorem dX2_fillIn_32 : decode cX2_fillIn 32 = .ok (.aload_n 1, 1) := by decide +kernel
theorem dX2_fillIn_33 : decode cX2_fillIn 33 = .ok (.aload_n 0, 1) := by decide +kernel
theorem dX2_fillIn_34 : decode cX2_fillIn 34 = .ok (.getfield 127, 3) := by decide +kernel
theorem dX2_fillIn_37 : decode cX2_fillIn 37 = .ok (.putfield 226, 3) := by decide +kernel
theorem dX2_fillIn_40 : decode cX2_fillIn 40 = .ok (.aload_n 1, 1) := by decide +kernel
theorem dX2_fillIn_41 : decode cX2_fillIn 41 = .ok (.aload_n 0, 1) := by decide +kernel
theorem dX2_fillIn_42 : decode cX2_fillIn 42 = .ok (.getfield 36, 3) := by decide +kernel
theorem dX2_fillIn_45 : decode cX2_fillIn 45 = .ok (.putfield 227, 3) := by decide +kernel
theorem dX2_fillIn_48 : decode cX2_fillIn 48 = .ok (.return_, 1) := by decide +kernel
set_option maxRecDepth 20000 in
theorem ggX3_init_X7_init : GoodIn wsX3_init wsX7_init := goodIn_r _ [12, 13, 2, 3] (by decide +kernel) (by decide +kernel)
set_option maxRecDepth 20000 in
theorem gX3_init_X7_init_n21 : GoodIn wsX3_init (wsX7_init) := ggX3_init_X7_init
theorem dX3_init_0 : decode cX3_init 0 = .ok (.aload_n 0, 1) := by decide +kernel
theorem dX3_init_1 : decode cX3_init 1 = .ok (.invokespecial 3, 3) := by decide +kernel
theorem dX3_init_4 : decode cX3_init 4 = .ok (.aload_n 0, 1) := by decide +kernel
theorem dX3_init_5 : decode cX3_init 5 = .ok (.ldc 9, 2) := by decide +kernel
theorem dX3_init_7 : decode cX3_init 7 = .ok (.putfield 10, 3) := by decide +kernel
theorem dX3_init_10 : decode cX3_init 10 = .ok (.aload_n 0, 1) := by decide +kernel
theorem dX3_init_11 : decode cX3_init 11 = .ok (.ldc 9, 2) := by decide +kernel
theorem dX3_init_13 : decode cX3_init 13 = .ok (.putfield 16, 3) := by decide +kernel
theorem dX3_init_16 : decode cX3_init 16 = .ok (.aload_n 0, 1) := by decide +kernel
theorem dX3_init_17 : decode cX3_init 17 = .ok (.new 19, 3) := by decide +kernel
theorem dX3_init_20 : decode cX3_init 20 = .ok (.dup, 1) := by decide +kernel
theorem dX3_init_21 : decode cX3_init 21 = .ok (.invokespecial 21, 3) := by decide +kernel
theorem dX3_init_24 : decode cX3_init 24 = .ok (.putfield 22, 3) := by decide +kernel
theorem dX3_init_27 : decode cX3_init 27 = .ok (.return_, 1) := by decide +kernel
theorem dX3_begin_0 : decode cX3_begin 0 = .ok (.aload_n 0, 1) := by decide +kernel
theorem dX3_begin_1 : decode cX3_begin 1 = .ok (.iload_n 1, 1) := by decide +kernel
theorem dX3_begin_2 : decode cX3_begin 2 = .ok (.putfield 26, 3) := by decide +kernel
theorem dX3_begin_5 : decode cX3_begin 5 = .ok (.aload_n 0, 1) := by decide +kernel
theorem dX3_begin_6 : decode cX3_begin 6 = .ok (.iload_n 2, 1) := by decide +kernel
theorem dX3_begin_7 : decode cX3_begin 7 = .ok (.putfield 29, 3) := by decide +kernel
theorem dX3_begin_10 : decode cX3_begin 10 = .ok (.aload_n 0, 1) := by decide +kernel
theorem dX3_begin_11 : decode cX3_begin 11 = .ok (.iload_n 3, 1) := by decide +kernel
theorem dX3_begin_12 : decode cX3_begin 12 = .ok (.putfield 32, 3) := by decide +kernel
theorem dX3_begin_15 : decode cX3_begin 15 = .ok (.aload_n 0, 1) := by decide +kernel
theorem dX3_begin_16 : decode cX3_begin 16 = .ok (.iload 4, 2) := by decide +kernel
theorem dX3_begin_18 : decode cX3_begin 18 = .ok (.putfield 35, 3) := by decide +kernel
theorem dX3_begin_21 : decode cX3_begin 21 = .ok (.aload_n 0, 1) := by decide +kernel
theorem dX3_begin_22 : decode cX3_begin 22 = .ok (.iload 5, 2) := by decide +kernel
theorem dX3_begin_24 : decode cX3_begin 24 = .ok (.putfield 38, 3) := by decide +kernel
theorem dX3_begin_27 : decode cX3_begin 27 = .ok (.return_, 1) := by decide +kernel
set_option maxRecDepth 20000 in
theorem ggX3_copyFrom_X3_begin : GoodIn wsX3_copyFrom wsX3_begin := goodIn_r _ [21, 1, 2, 3, 4, 5, 31, 32, 33, 34, 35, 36, 37, 38, 39, 40, 41, 42, 43, 44, 45, 46] (by decide +kernel) (by decide +kernel)
set_option maxRecDepth 20000 in
theorem gX3_copyFrom_X3_begin : GoodIn wsX3_copyFrom (wsV RX3 41 RX3 yX3_begin wsX3_begin) := goodIn_app (goodIn_of _ (by decide +kernel)) ggX3_copyFrom_X3_begin
set_option maxRecDepth 20000 in
theorem ggX3_copyFrom_X7_copyFrom : GoodIn wsX3_copyFrom wsX7_copyFrom := goodIn_r _ [26, 27, 28, 29, 30, 47, 48, 49, 50] (by decide +kernel) (by decide +kernel)
set_option maxRecDepth 20000 in
theorem gX3_copyFrom_X7_copyFrom : GoodIn wsX3_copyFrom (wsV RX3 70 RX7 yX7_copyFrom wsX7_copyFrom) := goodIn_app (goodIn_of _ (by decide +kernel)) ggX3_copyFrom_X7_copyFrom
theorem dX3_copyFrom_0 : decode cX3_copyFrom 0 = .ok (.aload_n 0, 1) := by decide +kernel
theorem dX3_copyFrom_1 : decode cX3_copyFrom 1 = .ok (.aload_n 1, 1) := by decide +kernel
theorem dX3_copyFrom_2 : decode cX3_copyFrom 2 = .ok (.getfield 26, 3) := by decide +kernel
theorem dX3_copyFrom_5 : decode cX3_copyFrom 5 = .ok (.aload_n 1, 1) := by decide +kernel
theorem dX3_copyFrom_6 : decode cX3_copyFrom 6 = .ok (.getfield 29, 3) := by decide +kernel
theorem dX3_copyFrom_9 : decode cX3_copyFrom 9 = .ok (.aload_n 1, 1) := by decide +kernel
theorem dX3_copyFrom_10 : decode cX3_copyFrom 10 = .ok (.getfield 32, 3) := by decide +kernel
theorem dX3_copyFrom_13 : decode cX3_copyFrom 13 = .ok (.aload_n 1, 1) := by decide +kernel
theorem dX3_copyFrom_14 : decode cX3_copyFrom 14 = .ok (.getfield 35, 3) := by decide +kernel
theorem dX3_copyFrom_17 : decode cX3_copyFrom 17 = .ok (.aload_n 1, 1) := by decide +kernel
theorem dX3_copyFrom_18 : decode cX3_copyFrom 18 = .ok (.getfield 38, 3) := by decide +kernel
theorem dX3_copyFrom_21 : decode cX3_copyFrom 21 = .ok (.invokevirtual 41, 3) := by decide +kernel
theorem dX3_copyFrom_24 : decode cX3_copyFrom 24 = .ok (.aload_n 0, 1) := by decide +kernel
theorem dX3_copyFrom_25 : decode cX3_copyFrom 25 = .ok (.aload_n 1, 1) := by decide +kernel
theorem dX3_copyFrom_26 : decode cX3_copyFrom 26 = .ok (.getfield 45, 3) := by decide +kernel
theorem dX3_copyFrom_29 : decode cX3_copyFrom 29 = .ok (.putfield 45, 3) := by decide +kernel
theorem dX3_copyFrom_32 : decode cX3_copyFrom 32 = .ok (.aload_n 0, 1) := by decide +kernel
theorem dX3_copyFrom_33 : decode cX3_copyFrom 33 = .ok (.aload_n 1, 1) := by decide +kernel
theorem dX3_copyFrom_34 : decode cX3_copyFrom 34 = .ok (.getfield 49, 3) := by decide +kernel
theorem dX3_copyFrom_37 : decode cX3_copyFrom 37 = .ok (.putfield 49, 3) := by decide +kernel
theorem dX3_copyFrom_40 : decode cX3_copyFrom 40 = .ok (.aload_n 0, 1) := by decide +kernel
theorem dX3_copyFrom_41 : decode cX3_copyFrom 41 = .ok (.aload_n 1, 1) := by decide +kernel
theorem dX3_copyFrom_42 : decode cX3_copyFrom 42 = .ok (.getfield 52, 3) := by decide +kernel
theorem dX3_copyFrom_45 : decode cX3_copyFrom 45 = .ok (.putfield 52, 3) := by decide +kernel
theorem dX3_copyFrom_48 : decode cX3_copyFrom 48 = .ok (.aload_n 0, 1) := by decide +kernel
theorem dX3_copyFrom_49 : decode cX3_copyFrom 49 = .ok (.aload_n 1, 1) := by decide +kernel
theorem dX3_copyFrom_50 : decode cX3_copyFrom 50 = .ok (.getfield 55, 3) := by decide +kernel
theorem dX3_copyFrom_53 : decode cX3_copyFrom 53 = .ok (.putfield 55, 3) := by decide +kernel
theorem dX3_copyFrom_56 : decode cX3_copyFrom 56 = .ok (.aload_n 0, 1) := by decide +kernel
theorem dX3_copyFrom_57 : decode cX3_copyFrom 57 = .ok (.aload_n 1, 1) := by decide +kernel
theorem dX3_copyFrom_58 : decode cX3_copyFrom 58 = .ok (.getfield 58, 3) := by decide +kernel
theorem dX3_copyFrom_61 : decode cX3_copyFrom 61 = .ok (.putfield 58, 3) := by decide +kernel
theorem dX3_copyFrom_64 : decode cX3_copyFrom 64 = .ok (.aload_n 0, 1) := by decide +kernel
theorem dX3_copyFrom_65 : decode cX3_copyFrom 65 = .ok (.aload_n 1, 1) := by decide +kernel
theorem dX3_copyFrom_66 : decode cX3_copyFrom 66 = .ok (.getfield 10, 3) := by decide +kernel
theorem dX3_copyFrom_69 : decode cX3_copyFrom 69 = .ok (.putfield 10, 3) := by decide +kernel
theorem dX3_copyFrom_72 : decode cX3_copyFrom 72 = .ok (.aload_n 0, 1) := by decide +kernel
theorem dX3_copyFrom_73 : decode cX3_copyFrom 73 = .ok (.aload_n 1, 1) := by decide +kernel
theorem dX3_copyFrom_74 : decode cX3_copyFrom 74 = .ok (.getfield 16, 3) := by decide +kernel
theorem dX3_copyFrom_77 : decode cX3_copyFrom 77 = .ok (.putfield 16, 3) := by decide +kernel
theorem dX3_copyFrom_80 : decode cX3_copyFrom 80 = .ok (.aload_n 0, 1) := by decide +kernel
theorem dX3_copyFrom_81 : decode cX3_copyFrom 81 = .ok (.aload_n 1, 1) := by decide +kernel
theorem dX3_copyFrom_82 : decode cX3_copyFrom 82 = .ok (.getfield 61, 3) := by decide +kernel
theorem dX3_copyFrom_85 : decode cX3_copyFrom 85 = .ok (.putfield 61, 3) := by decide +kernel
theorem dX3_copyFrom_88 : decode cX3_copyFrom 88 = .ok (.aload_n 0, 1) := by decide +kernel
theorem dX3_copyFrom_89 : decode cX3_copyFrom 89 = .ok (.aload_n 1, 1) := by decide +kernel
theorem dX3_copyFrom_90 : decode cX3_copyFrom 90 = .ok (.getfield 64, 3) := by decide +kernel
theorem dX3_copyFrom_93 : decode cX3_copyFrom 93 = .ok (.putfield 64, 3) := by decide +kernel
theorem dX3_copyFrom_96 : decode cX3_copyFrom 96 = .ok (.aload_n 0, 1) := by decide +kernel
theorem dX3_copyFrom_97 : decode cX3_copyFrom 97 = .ok (.aload_n 1, 1) := by decide +kernel
theorem dX3_copyFrom_98 : decode cX3_copyFrom 98 = .ok (.getfield 67, 3) := by decide +kernel
theorem dX3_copyFrom_101 : decode cX3_copyFrom 101 = .ok (.putfield 67, 3) := by decide +kernel
theorem dX3_copyFrom_104 : decode cX3_copyFrom 104 = .ok (.aload_n 0, 1) := by decide +kernel
theorem dX3_copyFrom_105 : decode cX3_copyFrom 105 = .ok (.getfield 22, 3) := by decide +kernel
theorem dX3_copyFrom_108 : decode cX3_copyFrom 108 = .ok (.aload_n 1, 1) := by decide +kernel
theorem dX3_copyFrom_109 : decode cX3_copyFrom 109 = .ok (.getfield 22, 3) := by decide +kernel
theorem dX3_copyFrom_112 : decode cX3_copyFrom 112 = .ok (.invokevirtual 70, 3) := by decide +kernel
theorem dX3_copyFrom_115 : decode cX3_copyFrom 115 = .ok (.return_, 1) := by decide +kernel
set_option maxRecDepth 20000 in
theorem ggX3_property_X3_fails : GoodIn wsX3_property wsX3_fails := goodIn_r _ [22, 14, 26, 27, 28, 29, 30, 31, 32, 33, 34, 35, 36, 37, 38, 39, 40, 41] (by decide +kernel) (by decide +kernel)
set_option maxRecDepth 20000 in
theorem gX3_property_X3_fails : GoodIn wsX3_property (wsV RX3 74 RX3 yX3_fails wsX3_fails) := goodIn_app (goodIn_of _ (by decide +kernel)) ggX3_property_X3_fails
set_option maxRecDepth 20000 in
theorem ggX3_property_X10_asNumber : GoodIn wsX3_property wsX10_asNumber := goodIn_r _ [25] (by decide +kernel) (by decide +kernel)
set_option maxRecDepth 20000 in
theorem gX3_property_X10_asNumber_n78 : GoodIn wsX3_property (wsX10_asNumber) := ggX3_property_X10_asNumber
theorem dX3_property_0 : decode cX3_property 0 = .ok (.iload_n 1, 1) := by decide +kernel
theorem dX3_property_1 : decode cX3_property 1 = .ok (.tableswitch 180 0 13 #[71, 76, 81, 86, 91, 96, 113, 130, 147, 152, 157, 162, 167, 172], 71) := by decide +kernel
theorem dX3_property_72 : decode cX3_property 72 = .ok (.aload_n 0, 1) := by decide +kernel
theorem dX3_property_73 : decode cX3_property 73 = .ok (.getfield 26, 3) := by decide +kernel
theorem dX3_property_76 : decode cX3_property 76 = .ok (.ireturn, 1) := by decide +kernel
theorem dX3_property_77 : decode cX3_property 77 = .ok (.aload_n 0, 1) := by decide +kernel
theorem dX3_property_78 : decode cX3_property 78 = .ok (.getfield 29, 3) := by decide +kernel
theorem dX3_property_81 : decode cX3_property 81 = .ok (.ireturn, 1) := by decide +kernel
theorem dX3_property_82 : decode cX3_property 82 = .ok (.aload_n 0, 1) := by decide +kernel
theorem dX3_property_83 : decode cX3_property 83 = .ok (.getfield 32, 3) := by decide +kernel
theorem dX3_property_86 : decode cX3_property 86 = .ok (.ireturn, 1) := by decide +kernel
theorem dX3_property_87 : decode cX3_property 87 = .ok (.aload_n 0, 1) := by decide +kernel
theorem dX3_property_88 : decode cX3_property 88 = .ok (.getfield 35, 3) := by decide +kernel
theorem dX3_property_91 : decode cX3_property 91 = .ok (.ireturn, 1) := by decide +kernel
theorem dX3_property_92 : decode cX3_property 92 = .ok (.aload_n 0, 1) := by decide +kernel
theorem dX3_property_93 : decode cX3_property 93 = .ok (.getfield 38, 3) := by decide +kernel
theorem dX3_property_96 : decode cX3_property 96 = .ok (.ireturn, 1) := by decide +kernel
theorem dX3_property_97 : decode cX3_property 97 = .ok (.aload_n 0, 1) := by decide +kernel
theorem dX3_property_98 : decode cX3_property 98 = .ok (.getfield 45, 3) := by decide +kernel
theorem dX3_property_101 : decode cX3_property 101 = .ok (.ifCond .eq 10, 3) := by decide +kernel
theorem dX3_property_104 : decode cX3_property 104 = .ok (.aload_n 0, 1) := by decide +kernel
theorem dX3_property_105 : decode cX3_property 105 = .ok (.getfield 49, 3) := by decide +kernel
theorem dX3_property_108 : decode cX3_property 108 = .ok (.goto 5, 3) := by decide +kernel
theorem dX3_property_111 : decode cX3_property 111 = .ok (.ldc 9, 2) := by decide +kernel
theorem dX3_property_113 : decode cX3_property 113 = .ok (.ireturn, 1) := by decide +kernel
theorem dX3_property_114 : decode cX3_property 114 = .ok (.aload_n 0, 1) := by decide +kernel
theorem dX3_property_115 : decode cX3_property 115 = .ok (.getfield 45, 3) := by decide +kernel
theorem dX3_property_118 : decode cX3_property 118 = .ok (.ifCond .eq 10, 3) := by decide +kernel
theorem dX3_property_121 : decode cX3_property 121 = .ok (.aload_n 0, 1) := by decide +kernel
theorem dX3_property_122 : decode cX3_property 122 = .ok (.getfield 52, 3) := by decide +kernel
theorem dX3_property_125 : decode cX3_property 125 = .ok (.goto 5, 3) := by decide +kernel
theorem dX3_property_128 : decode cX3_property 128 = .ok (.ldc 9, 2) := by decide +kernel
theorem dX3_property_130 : decode cX3_property 130 = .ok (.ireturn, 1) := by decide +kernel
theorem dX3_property_131 : decode cX3_property 131 = .ok (.aload_n 0, 1) := by decide +kernel
theorem dX3_property_132 : decode cX3_property 132 = .ok (.getfield 55, 3) := by decide +kernel
theorem dX3_property_135 : decode cX3_property 135 = .ok (.ifCond .eq 10, 3) := by decide +kernel
theorem dX3_property_138 : decode cX3_property 138 = .ok (.aload_n 0, 1) := by decide +kernel
theorem dX3_property_139 : decode cX3_property 139 = .ok (.getfield 58, 3) := by decide +kernel
theorem dX3_property_142 : decode cX3_property 142 = .ok (.goto 5, 3) := by decide +kernel
theorem dX3_property_145 : decode cX3_property 145 = .ok (.ldc 9, 2) := by decide +kernel
theorem dX3_property_147 : decode cX3_property 147 = .ok (.ireturn, 1) := by decide +kernel
theorem dX3_property_148 : decode cX3_property 148 = .ok (.aload_n 0, 1) := by decide +kernel
theorem dX3_property_149 : decode cX3_property 149 = .ok (.getfield 10, 3) := by decide +kernel
theorem dX3_property_152 : decode cX3_property 152 = .ok (.ireturn, 1) := by decide +kernel
theorem dX3_property_153 : decode cX3_property 153 = .ok (.aload_n 0, 1) := by decide +kernel
theorem dX3_property_154 : decode cX3_property 154 = .ok (.getfield 16, 3) := by decide +kernel
theorem dX3_property_157 : decode cX3_property 157 = .ok (.ireturn, 1) := by decide +kernel
theorem dX3_property_158 : decode cX3_property 158 = .ok (.aload_n 0, 1) := by decide +kernel
theorem dX3_property_159 : decode cX3_property 159 = .ok (.getfield 61, 3) := by decide +kernel
theorem dX3_property_162 : decode cX3_property 162 = .ok (.ireturn, 1) := by decide +kernel
theorem dX3_property_163 : decode cX3_property 163 = .ok (.aload_n 0, 1) := by decide +kernel
theorem dX3_property_164 : decode cX3_property 164 = .ok (.getfield 64, 3) := by decide +kernel
theorem dX3_property_167 : decode cX3_property 167 = .ok (.ireturn, 1) := by decide +kernel
theorem dX3_property_168 : decode cX3_property 168 = .ok (.aload_n 0, 1) := by decide +kernel
theorem dX3_property_169 : decode cX3_property 169 = .ok (.getfield 67, 3) := by decide +kernel
theorem dX3_property_172 : decode cX3_property 172 = .ok (.ireturn, 1) := by decide +kernel
theorem dX3_property_173 : decode cX3_property 173 = .ok (.aload_n 0, 1) := by decide +kernel
theorem dX3_property_174 : decode cX3_property 174 = .ok (.invokevirtual 74, 3) := by decide +kernel
theorem dX3_property_177 : decode cX3_property 177 = .ok (.invokestatic 78, 3) := by decide +kernel
theorem dX3_property_180 : decode cX3_property 180 = .ok (.ireturn, 1) := by decide +kernel
theorem dX3_property_181 : decode cX3_property 181 = .ok (.ldc 82, 2) := by decide +kernel
theorem dX3_property_183 : decode cX3_property 183 = .ok (.ireturn, 1) := by decide +kernel
theorem dX3_fails_0 : decode cX3_fails 0 = .ok (.aload_n 0, 1) := by decide +kernel
theorem dX3_fails_1 : decode cX3_fails 1 = .ok (.getfield 61, 3) := by decide +kernel
theorem dX3_fails_4 : decode cX3_fails 4 = .ok (.iconst 3, 1) := by decide +kernel
theorem dX3_fails_5 : decode cX3_fails 5 = .ok (.if_icmp .lt 7, 3) := by decide +kernel
theorem dX3_fails_8 : decode cX3_fails 8 = .ok (.iconst 1, 1) := by decide +kernel
theorem dX3_fails_9 : decode cX3_fails 9 = .ok (.goto 4, 3) := by decide +kernel
theorem dX3_fails_12 : decode cX3_fails 12 = .ok (.iconst 0, 1) := by decide +kernel
theorem dX3_fails_13 : decode cX3_fails 13 = .ok (.ireturn, 1) := by decide +kernel
theorem dX3_isLateEnough_0 : decode cX3_isLateEnough 0 = .ok (.iload_n 1, 1) := by decide +kernel
theorem dX3_isLateEnough_1 : decode cX3_isLateEnough 1 = .ok (.aload_n 0, 1) := by decide +kernel
theorem dX3_isLateEnough_2 : decode cX3_isLateEnough 2 = .ok (.getfield 38, 3) := by decide +kernel
theorem dX3_isLateEnough_5 : decode cX3_isLateEnough 5 = .ok (.isub, 1) := by decide +kernel
theorem dX3_isLateEnough_6 : decode cX3_isLateEnough 6 = .ok (.sipush 1000, 3) := by decide +kernel
theorem dX3_isLateEnough_9 : decode cX3_isLateEnough 9 = .ok (.if_icmp .lt 7, 3) := by decide +kernel
theorem dX3_isLateEnough_12 : decode cX3_isLateEnough 12 = .ok (.iconst 1, 1) := by decide +kernel
theorem dX3_isLateEnough_13 : decode cX3_isLateEnough 13 = .ok (.goto 4, 3) := by decide +kernel
theorem dX3_isLateEnough_16 : decode cX3_isLateEnough 16 = .ok (.iconst 0, 1) := by decide +kernel
theorem dX3_isLateEnough_17 : decode cX3_isLateEnough 17 = .ok (.ireturn, 1) := by decide +kernel
set_option maxRecDepth 20000 in
theorem ggX3_canTake_X10_isWithin : GoodIn wsX3_canTake wsX10_isWithin := goodIn_r _ [4] (by decide +kernel) (by decide +kernel)
set_option maxRecDepth 20000 in
theorem gX3_canTake_X10_isWithin_n84 : GoodIn wsX3_canTake (wsX10_isWithin) := ggX3_canTake_X10_isWithin
set_option maxRecDepth 20000 in
theorem ggX3_canTake_X3_isLateEnough : GoodIn wsX3_canTake wsX3_isLateEnough := goodIn_r _ [9, 10, 11, 12, 13, 14, 15, 16, 17, 18, 19, 20, 21, 22, 23, 24, 25, 26] (by decide +kernel) (by decide +kernel)
set_option maxRecDepth 20000 in
theorem gX3_canTake_X3_isLateEnough : GoodIn wsX3_canTake (wsV RX3 88 RX3 yX3_isLateEnough wsX3_isLateEnough) := goodIn_app (goodIn_of _ (by decide +kernel)) ggX3_canTake_X3_isLateEnough
theorem dX3_canTake_0 : decode cX3_canTake 0 = .ok (.iload_n 1, 1) := by decide +kernel
theorem dX3_canTake_1 : decode cX3_canTake 1 = .ok (.sipush 1000, 3) := by decide +kernel
theorem dX3_canTake_4 : decode cX3_canTake 4 = .ok (.ldc 83, 2) := by decide +kernel
theorem dX3_canTake_6 : decode cX3_canTake 6 = .ok (.invokestatic 84, 3) := by decide +kernel
theorem dX3_canTake_9 : decode cX3_canTake 9 = .ok (.ifCond .eq 15, 3) := by decide +kernel
theorem dX3_canTake_12 : decode cX3_canTake 12 = .ok (.aload_n 0, 1) := by decide +kernel
theorem dX3_canTake_13 : decode cX3_canTake 13 = .ok (.iload_n 1, 1) := by decide +kernel
theorem dX3_canTake_14 : decode cX3_canTake 14 = .ok (.invokevirtual 88, 3) := by decide +kernel
theorem dX3_canTake_17 : decode cX3_canTake 17 = .ok (.ifCond .eq 7, 3) := by decide +kernel
theorem dX3_canTake_20 : decode cX3_canTake 20 = .ok (.iconst 1, 1) := by decide +kernel
theorem dX3_canTake_21 : decode cX3_canTake 21 = .ok (.goto 4, 3) := by decide +kernel
theorem dX3_canTake_24 : decode cX3_canTake 24 = .ok (.iconst 0, 1) := by decide +kernel
theorem dX3_canTake_25 : decode cX3_canTake 25 = .ok (.ireturn, 1) := by decide +kernel
set_option maxRecDepth 20000 in
theorem ggX3_velocityFrom_X10_quotient : GoodIn wsX3_velocityFrom wsX10_quotient := goodIn_r _ [9] (by decide +kernel) (by decide +kernel)
set_option maxRecDepth 20000 in
theorem gX3_velocityFrom_X10_quotient_n94 : GoodIn wsX3_velocityFrom (wsX10_quotient) := ggX3_velocityFrom_X10_quotient
set_option maxRecDepth 20000 in
theorem ggX3_velocityFrom_X10_limited : GoodIn wsX3_velocityFrom wsX10_limited := goodIn_r _ [11] (by decide +kernel) (by decide +kernel)
set_option maxRecDepth 20000 in
theorem gX3_velocityFrom_X10_limited_n101 : GoodIn wsX3_velocityFrom (wsX10_limited) := ggX3_velocityFrom_X10_limited
theorem dX3_velocityFrom_0 : decode cX3_velocityFrom 0 = .ok (.iload_n 1, 1) := by decide +kernel
theorem dX3_velocityFrom_1 : decode cX3_velocityFrom 1 = .ok (.aload_n 0, 1) := by decide +kernel
theorem dX3_velocityFrom_2 : decode cX3_velocityFrom 2 = .ok (.getfield 38, 3) := by decide +kernel
theorem dX3_velocityFrom_5 : decode cX3_velocityFrom 5 = .ok (.isub, 1) := by decide +kernel
theorem dX3_velocityFrom_6 : decode cX3_velocityFrom 6 = .ok (.i2l, 1) := by decide +kernel
theorem dX3_velocityFrom_7 : decode cX3_velocityFrom 7 = .ok (.lstore_n 3, 1) := by decide +kernel
theorem dX3_velocityFrom_8 : decode cX3_velocityFrom 8 = .ok (.iload_n 2, 1) := by decide +kernel
theorem dX3_velocityFrom_9 : decode cX3_velocityFrom 9 = .ok (.aload_n 0, 1) := by decide +kernel
theorem dX3_velocityFrom_10 : decode cX3_velocityFrom 10 = .ok (.getfield 38, 3) := by decide +kernel
theorem dX3_velocityFrom_13 : decode cX3_velocityFrom 13 = .ok (.isub, 1) := by decide +kernel
theorem dX3_velocityFrom_14 : decode cX3_velocityFrom 14 = .ok (.i2l, 1) := by decide +kernel
theorem dX3_velocityFrom_15 : decode cX3_velocityFrom 15 = .ok (.lstore 5, 2) := by decide +kernel
theorem dX3_velocityFrom_17 : decode cX3_velocityFrom 17 = .ok (.aload_n 0, 1) := by decide +kernel
theorem dX3_velocityFrom_18 : decode cX3_velocityFrom 18 = .ok (.getfield 26, 3) := by decide +kernel
theorem dX3_velocityFrom_21 : decode cX3_velocityFrom 21 = .ok (.i2l, 1) := by decide +kernel
theorem dX3_velocityFrom_22 : decode cX3_velocityFrom 22 = .ok (.aload_n 0, 1) := by decide +kernel
theorem dX3_velocityFrom_23 : decode cX3_velocityFrom 23 = .ok (.getfield 26, 3) := by decide +kernel
theorem dX3_velocityFrom_26 : decode cX3_velocityFrom 26 = .ok (.i2l, 1) := by decide +kernel
theorem dX3_velocityFrom_27 : decode cX3_velocityFrom 27 = .ok (.lmul, 1) := by decide +kernel
theorem dX3_velocityFrom_28 : decode cX3_velocityFrom 28 = .ok (.ldc2_w 92, 3) := by decide +kernel
theorem dX3_velocityFrom_31 : decode cX3_velocityFrom 31 = .ok (.lmul, 1) := by decide +kernel
theorem dX3_velocityFrom_32 : decode cX3_velocityFrom 32 = .ok (.aload_n 0, 1) := by decide +kernel
theorem dX3_velocityFrom_33 : decode cX3_velocityFrom 33 = .ok (.getfield 29, 3) := by decide +kernel
theorem dX3_velocityFrom_36 : decode cX3_velocityFrom 36 = .ok (.i2l, 1) := by decide +kernel
theorem dX3_velocityFrom_37 : decode cX3_velocityFrom 37 = .ok (.invokestatic 94, 3) := by decide +kernel
theorem dX3_velocityFrom_40 : decode cX3_velocityFrom 40 = .ok (.lstore 7, 2) := by decide +kernel
theorem dX3_velocityFrom_42 : decode cX3_velocityFrom 42 = .ok (.lload 7, 2) := by decide +kernel
theorem dX3_velocityFrom_44 : decode cX3_velocityFrom 44 = .ok (.lload 5, 2) := by decide +kernel
theorem dX3_velocityFrom_46 : decode cX3_velocityFrom 46 = .ok (.lload_n 3, 1) := by decide +kernel
theorem dX3_velocityFrom_47 : decode cX3_velocityFrom 47 = .ok (.lsub, 1) := by decide +kernel
theorem dX3_velocityFrom_48 : decode cX3_velocityFrom 48 = .ok (.lmul, 1) := by decide +kernel
theorem dX3_velocityFrom_49 : decode cX3_velocityFrom 49 = .ok (.lload_n 3, 1) := by decide +kernel
theorem dX3_velocityFrom_50 : decode cX3_velocityFrom 50 = .ok (.lload 5, 2) := by decide +kernel
theorem dX3_velocityFrom_52 : decode cX3_velocityFrom 52 = .ok (.lmul, 1) := by decide +kernel
theorem dX3_velocityFrom_53 : decode cX3_velocityFrom 53 = .ok (.ldc2_w 98, 3) := by decide +kernel
theorem dX3_velocityFrom_56 : decode cX3_velocityFrom 56 = .ok (.ldiv, 1) := by decide +kernel
theorem dX3_velocityFrom_57 : decode cX3_velocityFrom 57 = .ok (.invokestatic 94, 3) := by decide +kernel
theorem dX3_velocityFrom_60 : decode cX3_velocityFrom 60 = .ok (.ldc 100, 2) := by decide +kernel
theorem dX3_velocityFrom_62 : decode cX3_velocityFrom 62 = .ok (.invokestatic 101, 3) := by decide +kernel
theorem dX3_velocityFrom_65 : decode cX3_velocityFrom 65 = .ok (.ireturn, 1) := by decide +kernel
set_option maxRecDepth 20000 in
theorem ggX3_speedOfSound_X10_quotient : GoodIn wsX3_speedOfSound wsX10_quotient := goodIn_r _ [9] (by decide +kernel) (by decide +kernel)
set_option maxRecDepth 20000 in
theorem gX3_speedOfSound_X10_quotient_n94 : GoodIn wsX3_speedOfSound (wsX10_quotient) := ggX3_speedOfSound_X10_quotient
theorem dX3_speedOfSound_0 : decode cX3_speedOfSound 0 = .ok (.aload_n 0, 1) := by decide +kernel
theorem dX3_speedOfSound_1 : decode cX3_speedOfSound 1 = .ok (.getfield 49, 3) := by decide +kernel
theorem dX3_speedOfSound_4 : decode cX3_speedOfSound 4 = .ok (.aload_n 0, 1) := by decide +kernel
theorem dX3_speedOfSound_5 : decode cX3_speedOfSound 5 = .ok (.getfield 38, 3) := by decide +kernel
theorem dX3_speedOfSound_8 : decode cX3_speedOfSound 8 = .ok (.isub, 1) := by decide +kernel
theorem dX3_speedOfSound_9 : decode cX3_speedOfSound 9 = .ok (.i2l, 1) := by decide +kernel
theorem dX3_speedOfSound_10 : decode cX3_speedOfSound 10 = .ok (.lstore_n 1, 1) := by decide +kernel
theorem dX3_speedOfSound_11 : decode cX3_speedOfSound 11 = .ok (.aload_n 0, 1) := by decide +kernel
theorem dX3_speedOfSound_12 : decode cX3_speedOfSound 12 = .ok (.getfield 52, 3) := by decide +kernel
theorem dX3_speedOfSound_15 : decode cX3_speedOfSound 15 = .ok (.aload_n 0, 1) := by decide +kernel
theorem dX3_speedOfSound_16 : decode cX3_speedOfSound 16 = .ok (.getfield 38, 3) := by decide +kernel
theorem dX3_speedOfSound_19 : decode cX3_speedOfSound 19 = .ok (.isub, 1) := by decide +kernel
theorem dX3_speedOfSound_20 : decode cX3_speedOfSound 20 = .ok (.i2l, 1) := by decide +kernel
theorem dX3_speedOfSound_21 : decode cX3_speedOfSound 21 = .ok (.lstore_n 3, 1) := by decide +kernel
theorem dX3_speedOfSound_22 : decode cX3_speedOfSound 22 = .ok (.aload_n 0, 1) := by decide +kernel
theorem dX3_speedOfSound_23 : decode cX3_speedOfSound 23 = .ok (.getfield 26, 3) := by decide +kernel
theorem dX3_speedOfSound_26 : decode cX3_speedOfSound 26 = .ok (.i2l, 1) := by decide +kernel
theorem dX3_speedOfSound_27 : decode cX3_speedOfSound 27 = .ok (.ldc2_w 92, 3) := by decide +kernel
theorem dX3_speedOfSound_30 : decode cX3_speedOfSound 30 = .ok (.lmul, 1) := by decide +kernel
theorem dX3_speedOfSound_31 : decode cX3_speedOfSound 31 = .ok (.lload_n 1, 1) := by decide +kernel
theorem dX3_speedOfSound_32 : decode cX3_speedOfSound 32 = .ok (.lload_n 3, 1) := by decide +kernel
theorem dX3_speedOfSound_33 : decode cX3_speedOfSound 33 = .ok (.ladd, 1) := by decide +kernel
theorem dX3_speedOfSound_34 : decode cX3_speedOfSound 34 = .ok (.lmul, 1) := by decide +kernel
theorem dX3_speedOfSound_35 : decode cX3_speedOfSound 35 = .ok (.lload_n 1, 1) := by decide +kernel
theorem dX3_speedOfSound_36 : decode cX3_speedOfSound 36 = .ok (.lload_n 3, 1) := by decide +kernel
theorem dX3_speedOfSound_37 : decode cX3_speedOfSound 37 = .ok (.lmul, 1) := by decide +kernel
theorem dX3_speedOfSound_38 : decode cX3_speedOfSound 38 = .ok (.ldc2_w 98, 3) := by decide +kernel
theorem dX3_speedOfSound_41 : decode cX3_speedOfSound 41 = .ok (.ldiv, 1) := by decide +kernel
theorem dX3_speedOfSound_42 : decode cX3_speedOfSound 42 = .ok (.invokestatic 94, 3) := by decide +kernel
theorem dX3_speedOfSound_45 : decode cX3_speedOfSound 45 = .ok (.lreturn, 1) := by decide +kernel
set_option maxRecDepth 20000 in
theorem ggX3_idealTime_X10_quotient : GoodIn wsX3_idealTime wsX10_quotient := goodIn_r _ [8] (by decide +kernel) (by decide +kernel)
set_option maxRecDepth 20000 in
theorem gX3_idealTime_X10_quotient_n94 : GoodIn wsX3_idealTime (wsX10_quotient) := ggX3_idealTime_X10_quotient
theorem dX3_idealTime_0 : decode cX3_idealTime 0 = .ok (.iload_n 1, 1) := by decide +kernel
theorem dX3_idealTime_1 : decode cX3_idealTime 1 = .ok (.i2l, 1) := by decide +kernel
theorem dX3_idealTime_2 : decode cX3_idealTime 2 = .ok (.ldc2_w 98, 3) := by decide +kernel
theorem dX3_idealTime_5 : decode cX3_idealTime 5 = .ok (.lmul, 1) := by decide +kernel
theorem dX3_idealTime_6 : decode cX3_idealTime 6 = .ok (.iload_n 2, 1) := by decide +kernel
theorem dX3_idealTime_7 : decode cX3_idealTime 7 = .ok (.i2l, 1) := by decide +kernel
theorem dX3_idealTime_8 : decode cX3_idealTime 8 = .ok (.aload_n 0, 1) := by decide +kernel
theorem dX3_idealTime_9 : decode cX3_idealTime 9 = .ok (.getfield 29, 3) := by decide +kernel
theorem dX3_idealTime_12 : decode cX3_idealTime 12 = .ok (.i2l, 1) := by decide +kernel
theorem dX3_idealTime_13 : decode cX3_idealTime 13 = .ok (.lmul, 1) := by decide +kernel
theorem dX3_idealTime_14 : decode cX3_idealTime 14 = .ok (.aload_n 0, 1) := by decide +kernel
theorem dX3_idealTime_15 : decode cX3_idealTime 15 = .ok (.getfield 26, 3) := by decide +kernel
theorem dX3_idealTime_18 : decode cX3_idealTime 18 = .ok (.i2l, 1) := by decide +kernel
theorem dX3_idealTime_19 : decode cX3_idealTime 19 = .ok (.invokestatic 94, 3) := by decide +kernel
theorem dX3_idealTime_22 : decode cX3_idealTime 22 = .ok (.ladd, 1) := by decide +kernel
theorem dX3_idealTime_23 : decode cX3_idealTime 23 = .ok (.lstore_n 3, 1) := by decide +kernel
theorem dX3_idealTime_24 : decode cX3_idealTime 24 = .ok (.aload_n 0, 1) := by decide +kernel
theorem dX3_idealTime_25 : decode cX3_idealTime 25 = .ok (.getfield 26, 3) := by decide +kernel
theorem dX3_idealTime_28 : decode cX3_idealTime 28 = .ok (.i2l, 1) := by decide +kernel
theorem dX3_idealTime_29 : decode cX3_idealTime 29 = .ok (.ldc2_w 105, 3) := by decide +kernel
theorem dX3_idealTime_32 : decode cX3_idealTime 32 = .ok (.lmul, 1) := by decide +kernel
theorem dX3_idealTime_33 : decode cX3_idealTime 33 = .ok (.lload_n 3, 1) := by decide +kernel
theorem dX3_idealTime_34 : decode cX3_idealTime 34 = .ok (.invokestatic 94, 3) := by decide +kernel
theorem dX3_idealTime_37 : decode cX3_idealTime 37 = .ok (.l2i, 1) := by decide +kernel
theorem dX3_idealTime_38 : decode cX3_idealTime 38 = .ok (.aload_n 0, 1) := by decide +kernel
theorem dX3_idealTime_39 : decode cX3_idealTime 39 = .ok (.getfield 38, 3) := by decide +kernel
theorem dX3_idealTime_42 : decode cX3_idealTime 42 = .ok (.iadd, 1) := by decide +kernel
theorem dX3_idealTime_43 : decode cX3_idealTime 43 = .ok (.ireturn, 1) := by decide +kernel
set_option maxRecDepth 20000 in
theorem ggX3_exchangeTimes_X7_exchangeTimes : GoodIn wsX3_exchangeTimes wsX7_exchangeTimes := goodIn_r _ [8, 9, 10, 27, 28, 29, 30] (by decide +kernel) (by decide +kernel)
set_option maxRecDepth 20000 in
theorem gX3_exchangeTimes_X7_exchangeTimes : GoodIn wsX3_exchangeTimes (wsV RX3 107 RX7 yX7_exchangeTimes wsX7_exchangeTimes) := goodIn_app (goodIn_of _ (by decide +kernel)) ggX3_exchangeTimes_X7_exchangeTimes
theorem dX3_exchangeTimes_0 : decode cX3_exchangeTimes 0 = .ok (.aload_n 0, 1) := by decide +kernel
theorem dX3_exchangeTimes_1 : decode cX3_exchangeTimes 1 = .ok (.getfield 49, 3) := by decide +kernel
theorem dX3_exchangeTimes_4 : decode cX3_exchangeTimes 4 = .ok (.istore_n 1, 1) := by decide +kernel
theorem dX3_exchangeTimes_5 : decode cX3_exchangeTimes 5 = .ok (.aload_n 0, 1) := by decide +kernel
theorem dX3_exchangeTimes_6 : decode cX3_exchangeTimes 6 = .ok (.aload_n 0, 1) := by decide +kernel
theorem dX3_exchangeTimes_7 : decode cX3_exchangeTimes 7 = .ok (.getfield 52, 3) := by decide +kernel
theorem dX3_exchangeTimes_10 : decode cX3_exchangeTimes 10 = .ok (.putfield 49, 3) := by decide +kernel
theorem dX3_exchangeTimes_13 : decode cX3_exchangeTimes 13 = .ok (.aload_n 0, 1) := by decide +kernel
theorem dX3_exchangeTimes_14 : decode cX3_exchangeTimes 14 = .ok (.iload_n 1, 1) := by decide +kernel
theorem dX3_exchangeTimes_15 : decode cX3_exchangeTimes 15 = .ok (.putfield 52, 3) := by decide +kernel
theorem dX3_exchangeTimes_18 : decode cX3_exchangeTimes 18 = .ok (.aload_n 0, 1) := by decide +kernel
theorem dX3_exchangeTimes_19 : decode cX3_exchangeTimes 19 = .ok (.getfield 22, 3) := by decide +kernel
theorem dX3_exchangeTimes_22 : decode cX3_exchangeTimes 22 = .ok (.invokevirtual 107, 3) := by decide +kernel
theorem dX3_exchangeTimes_25 : decode cX3_exchangeTimes 25 = .ok (.return_, 1) := by decide +kernel
set_option maxRecDepth 20000 in
theorem ggX3_isTrustedBefore_X3_fails : GoodIn wsX3_isTrustedBefore wsX3_fails := goodIn_r _ [9, 1, 10, 11, 12, 13, 14, 15, 16, 17, 18, 19, 20, 21, 22, 23, 24, 25] (by decide +kernel) (by decide +kernel)
set_option maxRecDepth 20000 in
theorem gX3_isTrustedBefore_X3_fails : GoodIn wsX3_isTrustedBefore (wsV RX3 74 RX3 yX3_fails wsX3_fails) := goodIn_app (goodIn_of _ (by decide +kernel)) ggX3_isTrustedBefore_X3_fails
theorem dX3_isTrustedBefore_0 : decode cX3_isTrustedBefore 0 = .ok (.aload_n 0, 1) := by decide +kernel
theorem dX3_isTrustedBefore_1 : decode cX3_isTrustedBefore 1 = .ok (.invokevirtual 74, 3) := by decide +kernel
theorem dX3_isTrustedBefore_4 : decode cX3_isTrustedBefore 4 = .ok (.aload_n 1, 1) := by decide +kernel
theorem dX3_isTrustedBefore_5 : decode cX3_isTrustedBefore 5 = .ok (.invokevirtual 74, 3) := by decide +kernel
theorem dX3_isTrustedBefore_8 : decode cX3_isTrustedBefore 8 = .ok (.if_icmp .eq 8, 3) := by decide +kernel
theorem dX3_isTrustedBefore_11 : decode cX3_isTrustedBefore 11 = .ok (.aload_n 1, 1) := by decide +kernel
theorem dX3_isTrustedBefore_12 : decode cX3_isTrustedBefore 12 = .ok (.invokevirtual 74, 3) := by decide +kernel
theorem dX3_isTrustedBefore_15 : decode cX3_isTrustedBefore 15 = .ok (.ireturn, 1) := by decide +kernel
theorem dX3_isTrustedBefore_16 : decode cX3_isTrustedBefore 16 = .ok (.aload_n 0, 1) := by decide +kernel
theorem dX3_isTrustedBefore_17 : decode cX3_isTrustedBefore 17 = .ok (.getfield 61, 3) := by decide +kernel
theorem dX3_isTrustedBefore_20 : decode cX3_isTrustedBefore 20 = .ok (.aload_n 1, 1) := by decide +kernel
theorem dX3_isTrustedBefore_21 : decode cX3_isTrustedBefore 21 = .ok (.getfield 61, 3) := by decide +kernel
theorem dX3_isTrustedBefore_24 : decode cX3_isTrustedBefore 24 = .ok (.if_icmp .eq 20, 3) := by decide +kernel
theorem dX3_isTrustedBefore_27 : decode cX3_isTrustedBefore 27 = .ok (.aload_n 0, 1) := by decide +kernel
theorem dX3_isTrustedBefore_28 : decode cX3_isTrustedBefore 28 = .ok (.getfield 61, 3) := by decide +kernel
theorem dX3_isTrustedBefore_31 : decode cX3_isTrustedBefore 31 = .ok (.aload_n 1, 1) := by decide +kernel
theorem dX3_isTrustedBefore_32 : decode cX3_isTrustedBefore 32 = .ok (.getfield 61, 3) := by decide +kernel
theorem dX3_isTrustedBefore_35 : decode cX3_isTrustedBefore 35 = .ok (.if_icmp .ge 7, 3) := by decide +kernel
theorem dX3_isTrustedBefore_38 : decode cX3_isTrustedBefore 38 = .ok (.iconst 1, 1) := by decide +kernel
theorem dX3_isTrustedBefore_39 : decode cX3_isTrustedBefore 39 = .ok (.goto 4, 3) := by decide +kernel
theorem dX3_isTrustedBefore_42 : decode cX3_isTrustedBefore 42 = .ok (.iconst 0, 1) := by decide +kernel
theorem dX3_isTrustedBefore_43 : decode cX3_isTrustedBefore 43 = .ok (.ireturn, 1) := by decide +kernel
theorem dX3_isTrustedBefore_44 : decode cX3_isTrustedBefore 44 = .ok (.aload_n 0, 1) := by decide +kernel
theorem dX3_isTrustedBefore_45 : decode cX3_isTrustedBefore 45 = .ok (.getfield 64, 3) := by decide +kernel
theorem dX3_isTrustedBefore_48 : decode cX3_isTrustedBefore 48 = .ok (.aload_n 0, 1) := by decide +kernel
theorem dX3_isTrustedBefore_49 : decode cX3_isTrustedBefore 49 = .ok (.getfield 67, 3) := by decide +kernel
theorem dX3_isTrustedBefore_52 : decode cX3_isTrustedBefore 52 = .ok (.iadd, 1) := by decide +kernel
theorem dX3_isTrustedBefore_53 : decode cX3_isTrustedBefore 53 = .ok (.istore_n 3, 1) := by decide +kernel
theorem dX3_isTrustedBefore_54 : decode cX3_isTrustedBefore 54 = .ok (.aload_n 1, 1) := by decide +kernel
theorem dX3_isTrustedBefore_55 : decode cX3_isTrustedBefore 55 = .ok (.getfield 64, 3) := by decide +kernel
theorem dX3_isTrustedBefore_58 : decode cX3_isTrustedBefore 58 = .ok (.aload_n 1, 1) := by decide +kernel
theorem dX3_isTrustedBefore_59 : decode cX3_isTrustedBefore 59 = .ok (.getfield 67, 3) := by decide +kernel
theorem dX3_isTrustedBefore_62 : decode cX3_isTrustedBefore 62 = .ok (.iadd, 1) := by decide +kernel
theorem dX3_isTrustedBefore_63 : decode cX3_isTrustedBefore 63 = .ok (.istore 4, 2) := by decide +kernel
theorem dX3_isTrustedBefore_65 : decode cX3_isTrustedBefore 65 = .ok (.iload_n 3, 1) := by decide +kernel
theorem dX3_isTrustedBefore_66 : decode cX3_isTrustedBefore 66 = .ok (.iload 4, 2) := by decide +kernel
theorem dX3_isTrustedBefore_68 : decode cX3_isTrustedBefore 68 = .ok (.if_icmp .eq 15, 3) := by decide +kernel
theorem dX3_isTrustedBefore_71 : decode cX3_isTrustedBefore 71 = .ok (.iload_n 3, 1) := by decide +kernel
theorem dX3_isTrustedBefore_72 : decode cX3_isTrustedBefore 72 = .ok (.iload 4, 2) := by decide +kernel
theorem dX3_isTrustedBefore_74 : decode cX3_isTrustedBefore 74 = .ok (.if_icmp .ge 7, 3) := by decide +kernel
theorem dX3_isTrustedBefore_77 : decode cX3_isTrustedBefore 77 = .ok (.iconst 1, 1) := by decide +kernel
theorem dX3_isTrustedBefore_78 : decode cX3_isTrustedBefore 78 = .ok (.goto 4, 3) := by decide +kernel
theorem dX3_isTrustedBefore_81 : decode cX3_isTrustedBefore 81 = .ok (.iconst 0, 1) := by decide +kernel
theorem dX3_isTrustedBefore_82 : decode cX3_isTrustedBefore 82 = .ok (.ireturn, 1) := by decide +kernel
theorem dX3_isTrustedBefore_83 : decode cX3_isTrustedBefore 83 = .ok (.aload_n 0, 1) := by decide +kernel
theorem dX3_isTrustedBefore_84 : decode cX3_isTrustedBefore 84 = .ok (.getfield 32, 3) := by decide +kernel
theorem dX3_isTrustedBefore_87 : decode cX3_isTrustedBefore 87 = .ok (.aload_n 1, 1) := by decide +kernel
theorem dX3_isTrustedBefore_88 : decode cX3_isTrustedBefore 88 = .ok (.getfield 32, 3) := by decide +kernel
theorem dX3_isTrustedBefore_91 : decode cX3_isTrustedBefore 91 = .ok (.if_icmp .eq 20, 3) := by decide +kernel
theorem dX3_isTrustedBefore_94 : decode cX3_isTrustedBefore 94 = .ok (.aload_n 0, 1) := by decide +kernel
theorem dX3_isTrustedBefore_95 : decode cX3_isTrustedBefore 95 = .ok (.getfield 32, 3) := by decide +kernel
theorem dX3_isTrustedBefore_98 : decode cX3_isTrustedBefore 98 = .ok (.aload_n 1, 1) := by decide +kernel
theorem dX3_isTrustedBefore_99 : decode cX3_isTrustedBefore 99 = .ok (.getfield 32, 3) := by decide +kernel
theorem dX3_isTrustedBefore_102 : decode cX3_isTrustedBefore 102 = .ok (.if_icmp .le 7, 3) := by decide +kernel
theorem dX3_isTrustedBefore_105 : decode cX3_isTrustedBefore 105 = .ok (.iconst 1, 1) := by decide +kernel
theorem dX3_isTrustedBefore_106 : decode cX3_isTrustedBefore 106 = .ok (.goto 4, 3) := by decide +kernel
theorem dX3_isTrustedBefore_109 : decode cX3_isTrustedBefore 109 = .ok (.iconst 0, 1) := by decide +kernel
theorem dX3_isTrustedBefore_110 : decode cX3_isTrustedBefore 110 = .ok (.ireturn, 1) := by decide +kernel
theorem dX3_isTrustedBefore_111 : decode cX3_isTrustedBefore 111 = .ok (.iload_n 2, 1) := by decide +kernel
theorem dX3_isTrustedBefore_112 : decode cX3_isTrustedBefore 112 = .ok (.ireturn, 1) := by decide +kernel
theorem dX4_init_0 : decode cX4_init 0 = .ok (.aload_n 0, 1) := by decide +kernel
theorem dX4_init_1 : decode cX4_init 1 = .ok (.invokespecial 3, 3) := by decide +kernel
theorem dX4_init_4 : decode cX4_init 4 = .ok (.aload_n 0, 1) := by decide +kernel
theorem dX4_init_5 : decode cX4_init 5 = .ok (.bipush 6, 2) := by decide +kernel
theorem dX4_init_7 : decode cX4_init 7 = .ok (.newarray .int, 2) := by decide +kernel
theorem dX4_init_9 : decode cX4_init 9 = .ok (.putfield 9, 3) := by decide +kernel
theorem dX4_init_12 : decode cX4_init 12 = .ok (.aload_n 0, 1) := by decide +kernel
theorem dX4_init_13 : decode cX4_init 13 = .ok (.bipush 6, 2) := by decide +kernel
theorem dX4_init_15 : decode cX4_init 15 = .ok (.newarray .int, 2) := by decide +kernel
theorem dX4_init_17 : decode cX4_init 17 = .ok (.putfield 15, 3) := by decide +kernel
theorem dX4_init_20 : decode cX4_init 20 = .ok (.return_, 1) := by decide +kernel
theorem dX4_copyFrom_0 : decode cX4_copyFrom 0 = .ok (.aload_n 1, 1) := by decide +kernel
theorem dX4_copyFrom_1 : decode cX4_copyFrom 1 = .ok (.getfield 9, 3) := by decide +kernel
theorem dX4_copyFrom_4 : decode cX4_copyFrom 4 = .ok (.iconst 0, 1) := by decide +kernel
theorem dX4_copyFrom_5 : decode cX4_copyFrom 5 = .ok (.aload_n 0, 1) := by decide +kernel
theorem dX4_copyFrom_6 : decode cX4_copyFrom 6 = .ok (.getfield 9, 3) := by decide +kernel
theorem dX4_copyFrom_9 : decode cX4_copyFrom 9 = .ok (.iconst 0, 1) := by decide +kernel
theorem dX4_copyFrom_10 : decode cX4_copyFrom 10 = .ok (.bipush 6, 2) := by decide +kernel
theorem dX4_copyFrom_12 : decode cX4_copyFrom 12 = .ok (.invokestatic 18, 3) := by decide +kernel
theorem dX4_copyFrom_15 : decode cX4_copyFrom 15 = .ok (.aload_n 1, 1) := by decide +kernel
theorem dX4_copyFrom_16 : decode cX4_copyFrom 16 = .ok (.getfield 15, 3) := by decide +kernel
theorem dX4_copyFrom_19 : decode cX4_copyFrom 19 = .ok (.iconst 0, 1) := by decide +kernel
theorem dX4_copyFrom_20 : decode cX4_copyFrom 20 = .ok (.aload_n 0, 1) := by decide +kernel
theorem dX4_copyFrom_21 : decode cX4_copyFrom 21 = .ok (.getfield 15, 3) := by decide +kernel
theorem dX4_copyFrom_24 : decode cX4_copyFrom 24 = .ok (.iconst 0, 1) := by decide +kernel
theorem dX4_copyFrom_25 : decode cX4_copyFrom 25 = .ok (.bipush 6, 2) := by decide +kernel
theorem dX4_copyFrom_27 : decode cX4_copyFrom 27 = .ok (.invokestatic 18, 3) := by decide +kernel
theorem dX4_copyFrom_30 : decode cX4_copyFrom 30 = .ok (.aload_n 0, 1) := by decide +kernel
theorem dX4_copyFrom_31 : decode cX4_copyFrom 31 = .ok (.aload_n 1, 1) := by decide +kernel
theorem dX4_copyFrom_32 : decode cX4_copyFrom 32 = .ok (.getfield 24, 3) := by decide +kernel
theorem dX4_copyFrom_35 : decode cX4_copyFrom 35 = .ok (.putfield 24, 3) := by decide +kernel
theorem dX4_copyFrom_38 : decode cX4_copyFrom 38 = .ok (.return_, 1) := by decide +kernel
theorem dX4_find_0 : decode cX4_find 0 = .ok (.iconst 0, 1) := by decide +kernel
theorem dX4_find_1 : decode cX4_find 1 = .ok (.istore_n 2, 1) := by decide +kernel
theorem dX4_find_2 : decode cX4_find 2 = .ok (.iload_n 2, 1) := by decide +kernel
theorem dX4_find_3 : decode cX4_find 3 = .ok (.bipush 6, 2) := by decide +kernel
theorem dX4_find_5 : decode cX4_find 5 = .ok (.if_icmp .ge 29, 3) := by decide +kernel
theorem dX4_find_8 : decode cX4_find 8 = .ok (.iload_n 2, 1) := by decide +kernel
theorem dX4_find_9 : decode cX4_find 9 = .ok (.aload_n 0, 1) := by decide +kernel
theorem dX4_find_10 : decode cX4_find 10 = .ok (.getfield 24, 3) := by decide +kernel
theorem dX4_find_13 : decode cX4_find 13 = .ok (.if_icmp .ge 21, 3) := by decide +kernel
theorem dX4_find_16 : decode cX4_find 16 = .ok (.aload_n 0, 1) := by decide +kernel
theorem dX4_find_17 : decode cX4_find 17 = .ok (.getfield 9, 3) := by decide +kernel
theorem dX4_find_20 : decode cX4_find 20 = .ok (.iload_n 2, 1) := by decide +kernel
theorem dX4_find_21 : decode cX4_find 21 = .ok (.iaload, 1) := by decide +kernel
theorem dX4_find_22 : decode cX4_find 22 = .ok (.iload_n 1, 1) := by decide +kernel
theorem dX4_find_23 : decode cX4_find 23 = .ok (.if_icmp .ne 5, 3) := by decide +kernel
theorem dX4_find_26 : decode cX4_find 26 = .ok (.iload_n 2, 1) := by decide +kernel
theorem dX4_find_27 : decode cX4_find 27 = .ok (.ireturn, 1) := by decide +kernel
theorem dX4_find_28 : decode cX4_find 28 = .ok (.iinc 2 1, 3) := by decide +kernel
theorem dX4_find_31 : decode cX4_find 31 = .ok (.goto (-29), 3) := by decide +kernel
theorem dX4_find_34 : decode cX4_find 34 = .ok (.iconst (-1), 1) := by decide +kernel
theorem dX4_find_35 : decode cX4_find 35 = .ok (.ireturn, 1) := by decide +kernel
set_option maxRecDepth 20000 in
theorem ggX4_put_X4_find : GoodIn wsX4_put wsX4_find := goodIn_r _ [8, 2, 3, 9, 10, 11] (by decide +kernel) (by decide +kernel)
set_option maxRecDepth 20000 in
theorem gX4_put_X4_find : GoodIn wsX4_put (wsV RX4 28 RX4 yX4_find wsX4_find) := goodIn_app (goodIn_of _ (by decide +kernel)) ggX4_put_X4_find
theorem dX4_put_0 : decode cX4_put 0 = .ok (.aload_n 0, 1) := by decide +kernel
theorem dX4_put_1 : decode cX4_put 1 = .ok (.iload_n 1, 1) := by decide +kernel
theorem dX4_put_2 : decode cX4_put 2 = .ok (.invokevirtual 28, 3) := by decide +kernel
theorem dX4_put_5 : decode cX4_put 5 = .ok (.istore_n 3, 1) := by decide +kernel
theorem dX4_put_6 : decode cX4_put 6 = .ok (.iload_n 3, 1) := by decide +kernel
theorem dX4_put_7 : decode cX4_put 7 = .ok (.ifCond .lt 17, 3) := by decide +kernel
theorem dX4_put_10 : decode cX4_put 10 = .ok (.iload_n 3, 1) := by decide +kernel
theorem dX4_put_11 : decode cX4_put 11 = .ok (.bipush 6, 2) := by decide +kernel
theorem dX4_put_13 : decode cX4_put 13 = .ok (.if_icmp .ge 11, 3) := by decide +kernel
theorem dX4_put_16 : decode cX4_put 16 = .ok (.aload_n 0, 1) := by decide +kernel
theorem dX4_put_17 : decode cX4_put 17 = .ok (.getfield 15, 3) := by decide +kernel
theorem dX4_put_20 : decode cX4_put 20 = .ok (.iload_n 3, 1) := by decide +kernel
theorem dX4_put_21 : decode cX4_put 21 = .ok (.iload_n 2, 1) := by decide +kernel
theorem dX4_put_22 : decode cX4_put 22 = .ok (.iastore, 1) := by decide +kernel
theorem dX4_put_23 : decode cX4_put 23 = .ok (.return_, 1) := by decide +kernel
theorem dX4_put_24 : decode cX4_put 24 = .ok (.aload_n 0, 1) := by decide +kernel
theorem dX4_put_25 : decode cX4_put 25 = .ok (.getfield 24, 3) := by decide +kernel
theorem dX4_put_28 : decode cX4_put 28 = .ok (.ifCond .lt 12, 3) := by decide +kernel
theorem dX4_put_31 : decode cX4_put 31 = .ok (.aload_n 0, 1) := by decide +kernel
theorem dX4_put_32 : decode cX4_put 32 = .ok (.getfield 24, 3) := by decide +kernel
theorem dX4_put_35 : decode cX4_put 35 = .ok (.bipush 6, 2) := by decide +kernel
theorem dX4_put_37 : decode cX4_put 37 = .ok (.if_icmp .lt 4, 3) := by decide +kernel
theorem dX4_put_40 : decode cX4_put 40 = .ok (.return_, 1) := by decide +kernel
theorem dX4_put_41 : decode cX4_put 41 = .ok (.aload_n 0, 1) := by decide +kernel
theorem dX4_put_42 : decode cX4_put 42 = .ok (.getfield 24, 3) := by decide +kernel
theorem dX4_put_45 : decode cX4_put 45 = .ok (.istore 4, 2) := by decide +kernel
theorem dX4_put_47 : decode cX4_put 47 = .ok (.aload_n 0, 1) := by decide +kernel
theorem dX4_put_48 : decode cX4_put 48 = .ok (.getfield 24, 3) := by decide +kernel
theorem dX4_put_51 : decode cX4_put 51 = .ok (.istore 5, 2) := by decide +kernel
theorem dX4_put_53 : decode cX4_put 53 = .ok (.iload 5, 2) := by decide +kernel
theorem dX4_put_55 : decode cX4_put 55 = .ok (.ifCond .le 60, 3) := by decide +kernel
theorem dX4_put_58 : decode cX4_put 58 = .ok (.aload_n 0, 1) := by decide +kernel
theorem dX4_put_59 : decode cX4_put 59 = .ok (.getfield 9, 3) := by decide +kernel
theorem dX4_put_62 : decode cX4_put 62 = .ok (.iload 5, 2) := by decide +kernel
theorem dX4_put_64 : decode cX4_put 64 = .ok (.iconst 1, 1) := by decide +kernel
theorem dX4_put_65 : decode cX4_put 65 = .ok (.isub, 1) := by decide +kernel
theorem dX4_put_66 : decode cX4_put 66 = .ok (.iaload, 1) := by decide +kernel
theorem dX4_put_67 : decode cX4_put 67 = .ok (.iload_n 1, 1) := by decide +kernel
theorem dX4_put_68 : decode cX4_put 68 = .ok (.if_icmp .le 47, 3) := by decide +kernel
theorem dX4_put_71 : decode cX4_put 71 = .ok (.aload_n 0, 1) := by decide +kernel
theorem dX4_put_72 : decode cX4_put 72 = .ok (.getfield 9, 3) := by decide +kernel
theorem dX4_put_75 : decode cX4_put 75 = .ok (.iload 5, 2) := by decide +kernel
theorem dX4_put_77 : decode cX4_put 77 = .ok (.aload_n 0, 1) := by decide +kernel
theorem dX4_put_78 : decode cX4_put 78 = .ok (.getfield 9, 3) := by decide +kernel
theorem dX4_put_81 : decode cX4_put 81 = .ok (.iload 5, 2) := by decide +kernel
theorem dX4_put_83 : decode cX4_put 83 = .ok (.iconst 1, 1) := by decide +kernel
theorem dX4_put_84 : decode cX4_put 84 = .ok (.isub, 1) := by decide +kernel
theorem dX4_put_85 : decode cX4_put 85 = .ok (.iaload, 1) := by decide +kernel
theorem dX4_put_86 : decode cX4_put 86 = .ok (.iastore, 1) := by decide +kernel
theorem dX4_put_87 : decode cX4_put 87 = .ok (.aload_n 0, 1) := by decide +kernel
theorem dX4_put_88 : decode cX4_put 88 = .ok (.getfield 15, 3) := by decide +kernel
theorem dX4_put_91 : decode cX4_put 91 = .ok (.iload 5, 2) := by decide +kernel
theorem dX4_put_93 : decode cX4_put 93 = .ok (.aload_n 0, 1) := by decide +kernel
theorem dX4_put_94 : decode cX4_put 94 = .ok (.getfield 15, 3) := by decide +kernel
theorem dX4_put_97 : decode cX4_put 97 = .ok (.iload 5, 2) := by decide +kernel
theorem dX4_put_99 : decode cX4_put 99 = .ok (.iconst 1, 1) := by decide +kernel
theorem dX4_put_100 : decode cX4_put 100 = .ok (.isub, 1) := by decide +kernel
theorem dX4_put_101 : decode cX4_put 101 = .ok (.iaload, 1) := by decide +kernel
theorem dX4_put_102 : decode cX4_put 102 = .ok (.iastore, 1) := by decide +kernel
theorem dX4_put_103 : decode cX4_put 103 = .ok (.iload 5, 2) := by decide +kernel
theorem dX4_put_105 : decode cX4_put 105 = .ok (.iconst 1, 1) := by decide +kernel
theorem dX4_put_106 : decode cX4_put 106 = .ok (.isub, 1) := by decide +kernel
theorem dX4_put_107 : decode cX4_put 107 = .ok (.istore 4, 2) := by decide +kernel
theorem dX4_put_109 : decode cX4_put 109 = .ok (.iinc 5 (-1), 3) := by decide +kernel
theorem dX4_put_112 : decode cX4_put 112 = .ok (.goto (-59), 3) := by decide +kernel
theorem dX4_put_115 : decode cX4_put 115 = .ok (.aload_n 0, 1) := by decide +kernel
theorem dX4_put_116 : decode cX4_put 116 = .ok (.getfield 9, 3) := by decide +kernel
theorem dX4_put_119 : decode cX4_put 119 = .ok (.iload 4, 2) := by decide +kernel
theorem dX4_put_121 : decode cX4_put 121 = .ok (.iload_n 1, 1) := by decide +kernel
theorem dX4_put_122 : decode cX4_put 122 = .ok (.iastore, 1) := by decide +kernel
theorem dX4_put_123 : decode cX4_put 123 = .ok (.aload_n 0, 1) := by decide +kernel
theorem dX4_put_124 : decode cX4_put 124 = .ok (.getfield 15, 3) := by decide +kernel
theorem dX4_put_127 : decode cX4_put 127 = .ok (.iload 4, 2) := by decide +kernel
theorem dX4_put_129 : decode cX4_put 129 = .ok (.iload_n 2, 1) := by decide +kernel
theorem dX4_put_130 : decode cX4_put 130 = .ok (.iastore, 1) := by decide +kernel
theorem dX4_put_131 : decode cX4_put 131 = .ok (.aload_n 0, 1) := by decide +kernel
theorem dX4_put_132 : decode cX4_put 132 = .ok (.dup, 1) := by decide +kernel
theorem dX4_put_133 : decode cX4_put 133 = .ok (.getfield 24, 3) := by decide +kernel
theorem dX4_put_136 : decode cX4_put 136 = .ok (.iconst 1, 1) := by decide +kernel
theorem dX4_put_137 : decode cX4_put 137 = .ok (.iadd, 1) := by decide +kernel
theorem dX4_put_138 : decode cX4_put 138 = .ok (.putfield 24, 3) := by decide +kernel
theorem dX4_put_141 : decode cX4_put 141 = .ok (.return_, 1) := by decide +kernel
theorem dX4_take_0 : decode cX4_take 0 = .ok (.iload_n 1, 1) := by decide +kernel
theorem dX4_take_1 : decode cX4_take 1 = .ok (.ifCond .lt 17, 3) := by decide +kernel
theorem dX4_take_4 : decode cX4_take 4 = .ok (.iload_n 1, 1) := by decide +kernel
theorem dX4_take_5 : decode cX4_take 5 = .ok (.aload_n 0, 1) := by decide +kernel
theorem dX4_take_6 : decode cX4_take 6 = .ok (.getfield 24, 3) := by decide +kernel
theorem dX4_take_9 : decode cX4_take 9 = .ok (.if_icmp .ge 9, 3) := by decide +kernel
theorem dX4_take_12 : decode cX4_take 12 = .ok (.iload_n 1, 1) := by decide +kernel
theorem dX4_take_13 : decode cX4_take 13 = .ok (.bipush 6, 2) := by decide +kernel
theorem dX4_take_15 : decode cX4_take 15 = .ok (.if_icmp .lt 6, 3) := by decide +kernel
theorem dX4_take_18 : decode cX4_take 18 = .ok (.ldc 32, 2) := by decide +kernel
theorem dX4_take_20 : decode cX4_take 20 = .ok (.ireturn, 1) := by decide +kernel
theorem dX4_take_21 : decode cX4_take 21 = .ok (.aload_n 0, 1) := by decide +kernel
theorem dX4_take_22 : decode cX4_take 22 = .ok (.getfield 15, 3) := by decide +kernel
theorem dX4_take_25 : decode cX4_take 25 = .ok (.iload_n 1, 1) := by decide +kernel
theorem dX4_take_26 : decode cX4_take 26 = .ok (.iaload, 1) := by decide +kernel
theorem dX4_take_27 : decode cX4_take 27 = .ok (.istore_n 2, 1) := by decide +kernel
theorem dX4_take_28 : decode cX4_take 28 = .ok (.iload_n 1, 1) := by decide +kernel
theorem dX4_take_29 : decode cX4_take 29 = .ok (.iconst 1, 1) := by decide +kernel
theorem dX4_take_30 : decode cX4_take 30 = .ok (.iadd, 1) := by decide +kernel
theorem dX4_take_31 : decode cX4_take 31 = .ok (.istore_n 3, 1) := by decide +kernel
theorem dX4_take_32 : decode cX4_take 32 = .ok (.iload_n 3, 1) := by decide +kernel
theorem dX4_take_33 : decode cX4_take 33 = .ok (.bipush 6, 2) := by decide +kernel
theorem dX4_take_35 : decode cX4_take 35 = .ok (.if_icmp .ge 45, 3) := by decide +kernel
theorem dX4_take_38 : decode cX4_take 38 = .ok (.iload_n 3, 1) := by decide +kernel
theorem dX4_take_39 : decode cX4_take 39 = .ok (.aload_n 0, 1) := by decide +kernel
theorem dX4_take_40 : decode cX4_take 40 = .ok (.getfield 24, 3) := by decide +kernel
theorem dX4_take_43 : decode cX4_take 43 = .ok (.if_icmp .ge 37, 3) := by decide +kernel
theorem dX4_take_46 : decode cX4_take 46 = .ok (.aload_n 0, 1) := by decide +kernel
theorem dX4_take_47 : decode cX4_take 47 = .ok (.getfield 9, 3) := by decide +kernel
theorem dX4_take_50 : decode cX4_take 50 = .ok (.iload_n 3, 1) := by decide +kernel
theorem dX4_take_51 : decode cX4_take 51 = .ok (.iconst 1, 1) := by decide +kernel
theorem dX4_take_52 : decode cX4_take 52 = .ok (.isub, 1) := by decide +kernel
theorem dX4_take_53 : decode cX4_take 53 = .ok (.aload_n 0, 1) := by decide +kernel
theorem dX4_take_54 : decode cX4_take 54 = .ok (.getfield 9, 3) := by decide +kernel
theorem dX4_take_57 : decode cX4_take 57 = .ok (.iload_n 3, 1) := by decide +kernel
theorem dX4_take_58 : decode cX4_take 58 = .ok (.iaload, 1) := by decide +kernel
theorem dX4_take_59 : decode cX4_take 59 = .ok (.iastore, 1) := by decide +kernel
theorem dX4_take_60 : decode cX4_take 60 = .ok (.aload_n 0, 1) := by decide +kernel
theorem dX4_take_61 : decode cX4_take 61 = .ok (.getfield 15, 3) := by decide +kernel
theorem dX4_take_64 : decode cX4_take 64 = .ok (.iload_n 3, 1) := by decide +kernel
theorem dX4_take_65 : decode cX4_take 65 = .ok (.iconst 1, 1) := by decide +kernel
theorem dX4_take_66 : decode cX4_take 66 = .ok (.isub, 1) := by decide +kernel
theorem dX4_take_67 : decode cX4_take 67 = .ok (.aload_n 0, 1) := by decide +kernel
theorem dX4_take_68 : decode cX4_take 68 = .ok (.getfield 15, 3) := by decide +kernel
theorem dX4_take_71 : decode cX4_take 71 = .ok (.iload_n 3, 1) := by decide +kernel
theorem dX4_take_72 : decode cX4_take 72 = .ok (.iaload, 1) := by decide +kernel
theorem dX4_take_73 : decode cX4_take 73 = .ok (.iastore, 1) := by decide +kernel
theorem dX4_take_74 : decode cX4_take 74 = .ok (.iinc 3 1, 3) := by decide +kernel
theorem dX4_take_77 : decode cX4_take 77 = .ok (.goto (-45), 3) := by decide +kernel
theorem dX4_take_80 : decode cX4_take 80 = .ok (.aload_n 0, 1) := by decide +kernel
theorem dX4_take_81 : decode cX4_take 81 = .ok (.dup, 1) := by decide +kernel
theorem dX4_take_82 : decode cX4_take 82 = .ok (.getfield 24, 3) := by decide +kernel
theorem dX4_take_85 : decode cX4_take 85 = .ok (.iconst 1, 1) := by decide +kernel
theorem dX4_take_86 : decode cX4_take 86 = .ok (.isub, 1) := by decide +kernel
theorem dX4_take_87 : decode cX4_take 87 = .ok (.putfield 24, 3) := by decide +kernel
theorem dX4_take_90 : decode cX4_take 90 = .ok (.iload_n 2, 1) := by decide +kernel
theorem dX4_take_91 : decode cX4_take 91 = .ok (.ireturn, 1) := by decide +kernel
set_option maxRecDepth 20000 in
theorem ggX4_factorFor_X10_quotient : GoodIn wsX4_factorFor wsX10_quotient := goodIn_r _ [10] (by decide +kernel) (by decide +kernel)
set_option maxRecDepth 20000 in
theorem gX4_factorFor_X10_quotient_n38 : GoodIn wsX4_factorFor (wsX10_quotient) := ggX4_factorFor_X10_quotient
theorem dX4_factorFor_0 : decode cX4_factorFor 0 = .ok (.iload_n 1, 1) := by decide +kernel
theorem dX4_factorFor_1 : decode cX4_factorFor 1 = .ok (.invokestatic 33, 3) := by decide +kernel
theorem dX4_factorFor_4 : decode cX4_factorFor 4 = .ok (.istore_n 2, 1) := by decide +kernel
theorem dX4_factorFor_5 : decode cX4_factorFor 5 = .ok (.iconst 0, 1) := by decide +kernel
theorem dX4_factorFor_6 : decode cX4_factorFor 6 = .ok (.istore_n 3, 1) := by decide +kernel
theorem dX4_factorFor_7 : decode cX4_factorFor 7 = .ok (.iload_n 3, 1) := by decide +kernel
theorem dX4_factorFor_8 : decode cX4_factorFor 8 = .ok (.bipush 6, 2) := by decide +kernel
theorem dX4_factorFor_10 : decode cX4_factorFor 10 = .ok (.if_icmp .ge 27, 3) := by decide +kernel
theorem dX4_factorFor_13 : decode cX4_factorFor 13 = .ok (.iload_n 3, 1) := by decide +kernel
theorem dX4_factorFor_14 : decode cX4_factorFor 14 = .ok (.aload_n 0, 1) := by decide +kernel
theorem dX4_factorFor_15 : decode cX4_factorFor 15 = .ok (.getfield 24, 3) := by decide +kernel
theorem dX4_factorFor_18 : decode cX4_factorFor 18 = .ok (.if_icmp .ge 19, 3) := by decide +kernel
theorem dX4_factorFor_21 : decode cX4_factorFor 21 = .ok (.aload_n 0, 1) := by decide +kernel
theorem dX4_factorFor_22 : decode cX4_factorFor 22 = .ok (.getfield 9, 3) := by decide +kernel
theorem dX4_factorFor_25 : decode cX4_factorFor 25 = .ok (.iload_n 3, 1) := by decide +kernel
theorem dX4_factorFor_26 : decode cX4_factorFor 26 = .ok (.iaload, 1) := by decide +kernel
theorem dX4_factorFor_27 : decode cX4_factorFor 27 = .ok (.iload_n 2, 1) := by decide +kernel
theorem dX4_factorFor_28 : decode cX4_factorFor 28 = .ok (.if_icmp .ge 9, 3) := by decide +kernel
theorem dX4_factorFor_31 : decode cX4_factorFor 31 = .ok (.iinc 3 1, 3) := by decide +kernel
theorem dX4_factorFor_34 : decode cX4_factorFor 34 = .ok (.goto (-27), 3) := by decide +kernel
theorem dX4_factorFor_37 : decode cX4_factorFor 37 = .ok (.aload_n 0, 1) := by decide +kernel
theorem dX4_factorFor_38 : decode cX4_factorFor 38 = .ok (.getfield 24, 3) := by decide +kernel
theorem dX4_factorFor_41 : decode cX4_factorFor 41 = .ok (.ifCond .ne 7, 3) := by decide +kernel
theorem dX4_factorFor_44 : decode cX4_factorFor 44 = .ok (.sipush 1000, 3) := by decide +kernel
theorem dX4_factorFor_47 : decode cX4_factorFor 47 = .ok (.ireturn, 1) := by decide +kernel
theorem dX4_factorFor_48 : decode cX4_factorFor 48 = .ok (.iload_n 3, 1) := by decide +kernel
theorem dX4_factorFor_49 : decode cX4_factorFor 49 = .ok (.ifCond .ne 10, 3) := by decide +kernel
theorem dX4_factorFor_52 : decode cX4_factorFor 52 = .ok (.aload_n 0, 1) := by decide +kernel
theorem dX4_factorFor_53 : decode cX4_factorFor 53 = .ok (.getfield 15, 3) := by decide +kernel
theorem dX4_factorFor_56 : decode cX4_factorFor 56 = .ok (.iconst 0, 1) := by decide +kernel
theorem dX4_factorFor_57 : decode cX4_factorFor 57 = .ok (.iaload, 1) := by decide +kernel
theorem dX4_factorFor_58 : decode cX4_factorFor 58 = .ok (.ireturn, 1) := by decide +kernel
theorem dX4_factorFor_59 : decode cX4_factorFor 59 = .ok (.iload_n 3, 1) := by decide +kernel
theorem dX4_factorFor_60 : decode cX4_factorFor 60 = .ok (.iconst 1, 1) := by decide +kernel
theorem dX4_factorFor_61 : decode cX4_factorFor 61 = .ok (.isub, 1) := by decide +kernel
theorem dX4_factorFor_62 : decode cX4_factorFor 62 = .ok (.istore 4, 2) := by decide +kernel
theorem dX4_factorFor_64 : decode cX4_factorFor 64 = .ok (.iload_n 3, 1) := by decide +kernel
theorem dX4_factorFor_65 : decode cX4_factorFor 65 = .ok (.bipush 6, 2) := by decide +kernel
theorem dX4_factorFor_67 : decode cX4_factorFor 67 = .ok (.if_icmp .ge 11, 3) := by decide +kernel
theorem dX4_factorFor_70 : decode cX4_factorFor 70 = .ok (.iload_n 3, 1) := by decide +kernel
theorem dX4_factorFor_71 : decode cX4_factorFor 71 = .ok (.aload_n 0, 1) := by decide +kernel
theorem dX4_factorFor_72 : decode cX4_factorFor 72 = .ok (.getfield 24, 3) := by decide +kernel
theorem dX4_factorFor_75 : decode cX4_factorFor 75 = .ok (.if_icmp .lt 11, 3) := by decide +kernel
theorem dX4_factorFor_78 : decode cX4_factorFor 78 = .ok (.aload_n 0, 1) := by decide +kernel
theorem dX4_factorFor_79 : decode cX4_factorFor 79 = .ok (.getfield 15, 3) := by decide +kernel
theorem dX4_factorFor_82 : decode cX4_factorFor 82 = .ok (.iload 4, 2) := by decide +kernel
theorem dX4_factorFor_84 : decode cX4_factorFor 84 = .ok (.iaload, 1) := by decide +kernel
theorem dX4_factorFor_85 : decode cX4_factorFor 85 = .ok (.ireturn, 1) := by decide +kernel
theorem dX4_factorFor_86 : decode cX4_factorFor 86 = .ok (.aload_n 0, 1) := by decide +kernel
theorem dX4_factorFor_87 : decode cX4_factorFor 87 = .ok (.getfield 9, 3) := by decide +kernel
theorem dX4_factorFor_90 : decode cX4_factorFor 90 = .ok (.iload 4, 2) := by decide +kernel
theorem dX4_factorFor_92 : decode cX4_factorFor 92 = .ok (.iaload, 1) := by decide +kernel
theorem dX4_factorFor_93 : decode cX4_factorFor 93 = .ok (.i2l, 1) := by decide +kernel
theorem dX4_factorFor_94 : decode cX4_factorFor 94 = .ok (.lstore 5, 2) := by decide +kernel
theorem dX4_factorFor_96 : decode cX4_factorFor 96 = .ok (.aload_n 0, 1) := by decide +kernel
theorem dX4_factorFor_97 : decode cX4_factorFor 97 = .ok (.getfield 9, 3) := by decide +kernel
theorem dX4_factorFor_100 : decode cX4_factorFor 100 = .ok (.iload_n 3, 1) := by decide +kernel
theorem dX4_factorFor_101 : decode cX4_factorFor 101 = .ok (.iaload, 1) := by decide +kernel
theorem dX4_factorFor_102 : decode cX4_factorFor 102 = .ok (.i2l, 1) := by decide +kernel
theorem dX4_factorFor_103 : decode cX4_factorFor 103 = .ok (.lstore 7, 2) := by decide +kernel
theorem dX4_factorFor_105 : decode cX4_factorFor 105 = .ok (.aload_n 0, 1) := by decide +kernel
theorem dX4_factorFor_106 : decode cX4_factorFor 106 = .ok (.getfield 15, 3) := by decide +kernel
theorem dX4_factorFor_109 : decode cX4_factorFor 109 = .ok (.iload 4, 2) := by decide +kernel
theorem dX4_factorFor_111 : decode cX4_factorFor 111 = .ok (.iaload, 1) := by decide +kernel
theorem dX4_factorFor_112 : decode cX4_factorFor 112 = .ok (.i2l, 1) := by decide +kernel
theorem dX4_factorFor_113 : decode cX4_factorFor 113 = .ok (.lload 7, 2) := by decide +kernel
theorem dX4_factorFor_115 : decode cX4_factorFor 115 = .ok (.iload_n 2, 1) := by decide +kernel
theorem dX4_factorFor_116 : decode cX4_factorFor 116 = .ok (.i2l, 1) := by decide +kernel
theorem dX4_factorFor_117 : decode cX4_factorFor 117 = .ok (.lsub, 1) := by decide +kernel
theorem dX4_factorFor_118 : decode cX4_factorFor 118 = .ok (.lmul, 1) := by decide +kernel
theorem dX4_factorFor_119 : decode cX4_factorFor 119 = .ok (.aload_n 0, 1) := by decide +kernel
theorem dX4_factorFor_120 : decode cX4_factorFor 120 = .ok (.getfield 15, 3) := by decide +kernel
theorem dX4_factorFor_123 : decode cX4_factorFor 123 = .ok (.iload_n 3, 1) := by decide +kernel
theorem dX4_factorFor_124 : decode cX4_factorFor 124 = .ok (.iaload, 1) := by decide +kernel
theorem dX4_factorFor_125 : decode cX4_factorFor 125 = .ok (.i2l, 1) := by decide +kernel
theorem dX4_factorFor_126 : decode cX4_factorFor 126 = .ok (.iload_n 2, 1) := by decide +kernel
theorem dX4_factorFor_127 : decode cX4_factorFor 127 = .ok (.i2l, 1) := by decide +kernel
theorem dX4_factorFor_128 : decode cX4_factorFor 128 = .ok (.lload 5, 2) := by decide +kernel
theorem dX4_factorFor_130 : decode cX4_factorFor 130 = .ok (.lsub, 1) := by decide +kernel
theorem dX4_factorFor_131 : decode cX4_factorFor 131 = .ok (.lmul, 1) := by decide +kernel
theorem dX4_factorFor_132 : decode cX4_factorFor 132 = .ok (.ladd, 1) := by decide +kernel
theorem dX4_factorFor_133 : decode cX4_factorFor 133 = .ok (.lload 7, 2) := by decide +kernel
theorem dX4_factorFor_135 : decode cX4_factorFor 135 = .ok (.lload 5, 2) := by decide +kernel
theorem dX4_factorFor_137 : decode cX4_factorFor 137 = .ok (.lsub, 1) := by decide +kernel
theorem dX4_factorFor_138 : decode cX4_factorFor 138 = .ok (.invokestatic 38, 3) := by decide +kernel
theorem dX4_factorFor_141 : decode cX4_factorFor 141 = .ok (.l2i, 1) := by decide +kernel
theorem dX4_factorFor_142 : decode cX4_factorFor 142 = .ok (.ireturn, 1) := by decide +kernel
theorem dX5_init_0 : decode cX5_init 0 = .ok (.aload_n 0, 1) := by decide +kernel
theorem dX5_init_1 : decode cX5_init 1 = .ok (.invokespecial 1, 3) := by decide +kernel
theorem dX5_init_4 : decode cX5_init 4 = .ok (.return_, 1) := by decide +kernel
theorem dX5_copyFrom_0 : decode cX5_copyFrom 0 = .ok (.aload_n 0, 1) := by decide +kernel
theorem dX5_copyFrom_1 : decode cX5_copyFrom 1 = .ok (.aload_n 1, 1) := by decide +kernel
theorem dX5_copyFrom_2 : decode cX5_copyFrom 2 = .ok (.getfield 7, 3) := by decide +kernel
theorem dX5_copyFrom_5 : decode cX5_copyFrom 5 = .ok (.putfield 7, 3) := by decide +kernel
theorem dX5_copyFrom_8 : decode cX5_copyFrom 8 = .ok (.aload_n 0, 1) := by decide +kernel
theorem dX5_copyFrom_9 : decode cX5_copyFrom 9 = .ok (.aload_n 1, 1) := by decide +kernel
theorem dX5_copyFrom_10 : decode cX5_copyFrom 10 = .ok (.getfield 13, 3) := by decide +kernel
theorem dX5_copyFrom_13 : decode cX5_copyFrom 13 = .ok (.putfield 13, 3) := by decide +kernel
theorem dX5_copyFrom_16 : decode cX5_copyFrom 16 = .ok (.aload_n 0, 1) := by decide +kernel
theorem dX5_copyFrom_17 : decode cX5_copyFrom 17 = .ok (.aload_n 1, 1) := by decide +kernel
theorem dX5_copyFrom_18 : decode cX5_copyFrom 18 = .ok (.getfield 16, 3) := by decide +kernel
theorem dX5_copyFrom_21 : decode cX5_copyFrom 21 = .ok (.putfield 16, 3) := by decide +kernel
theorem dX5_copyFrom_24 : decode cX5_copyFrom 24 = .ok (.aload_n 0, 1) := by decide +kernel
theorem dX5_copyFrom_25 : decode cX5_copyFrom 25 = .ok (.aload_n 1, 1) := by decide +kernel
theorem dX5_copyFrom_26 : decode cX5_copyFrom 26 = .ok (.getfield 19, 3) := by decide +kernel
theorem dX5_copyFrom_29 : decode cX5_copyFrom 29 = .ok (.putfield 19, 3) := by decide +kernel
theorem dX5_copyFrom_32 : decode cX5_copyFrom 32 = .ok (.aload_n 0, 1) := by decide +kernel
theorem dX5_copyFrom_33 : decode cX5_copyFrom 33 = .ok (.aload_n 1, 1) := by decide +kernel
theorem dX5_copyFrom_34 : decode cX5_copyFrom 34 = .ok (.getfield 22, 3) := by decide +kernel
theorem dX5_copyFrom_37 : decode cX5_copyFrom 37 = .ok (.putfield 22, 3) := by decide +kernel
theorem dX5_copyFrom_40 : decode cX5_copyFrom 40 = .ok (.aload_n 0, 1) := by decide +kernel
theorem dX5_copyFrom_41 : decode cX5_copyFrom 41 = .ok (.aload_n 1, 1) := by decide +kernel
theorem dX5_copyFrom_42 : decode cX5_copyFrom 42 = .ok (.getfield 25, 3) := by decide +kernel
theorem dX5_copyFrom_45 : decode cX5_copyFrom 45 = .ok (.putfield 25, 3) := by decide +kernel
theorem dX5_copyFrom_48 : decode cX5_copyFrom 48 = .ok (.return_, 1) := by decide +kernel
set_option maxRecDepth 20000 in
theorem ggX6_init_X5_init : GoodIn wsX6_init wsX5_init := goodIn_r _ [9, 10, 2, 3] (by decide +kernel) (by decide +kernel)
set_option maxRecDepth 20000 in
theorem gX6_init_X5_init_n17 : GoodIn wsX6_init (wsX5_init) := ggX6_init_X5_init
theorem dX6_init_0 : decode cX6_init 0 = .ok (.aload_n 0, 1) := by decide +kernel
theorem dX6_init_1 : decode cX6_init 1 = .ok (.invokespecial 3, 3) := by decide +kernel
theorem dX6_init_4 : decode cX6_init 4 = .ok (.aload_n 0, 1) := by decide +kernel
theorem dX6_init_5 : decode cX6_init 5 = .ok (.bipush 12, 2) := by decide +kernel
theorem dX6_init_7 : decode cX6_init 7 = .ok (.anewarray 9, 3) := by decide +kernel
theorem dX6_init_10 : decode cX6_init 10 = .ok (.putfield 11, 3) := by decide +kernel
theorem dX6_init_13 : decode cX6_init 13 = .ok (.iconst 0, 1) := by decide +kernel
theorem dX6_init_14 : decode cX6_init 14 = .ok (.istore_n 1, 1) := by decide +kernel
theorem dX6_init_15 : decode cX6_init 15 = .ok (.iload_n 1, 1) := by decide +kernel
theorem dX6_init_16 : decode cX6_init 16 = .ok (.bipush 12, 2) := by decide +kernel
theorem dX6_init_18 : decode cX6_init 18 = .ok (.if_icmp .ge 22, 3) := by decide +kernel
theorem dX6_init_21 : decode cX6_init 21 = .ok (.aload_n 0, 1) := by decide +kernel
theorem dX6_init_22 : decode cX6_init 22 = .ok (.getfield 11, 3) := by decide +kernel
theorem dX6_init_25 : decode cX6_init 25 = .ok (.iload_n 1, 1) := by decide +kernel
theorem dX6_init_26 : decode cX6_init 26 = .ok (.new 9, 3) := by decide +kernel
theorem dX6_init_29 : decode cX6_init 29 = .ok (.dup, 1) := by decide +kernel
theorem dX6_init_30 : decode cX6_init 30 = .ok (.invokespecial 17, 3) := by decide +kernel
theorem dX6_init_33 : decode cX6_init 33 = .ok (.aastore, 1) := by decide +kernel
theorem dX6_init_34 : decode cX6_init 34 = .ok (.iinc 1 1, 3) := by decide +kernel
theorem dX6_init_37 : decode cX6_init 37 = .ok (.goto (-22), 3) := by decide +kernel
theorem dX6_init_40 : decode cX6_init 40 = .ok (.return_, 1) := by decide +kernel
set_option maxRecDepth 20000 in
theorem ggX6_copyFrom_X5_copyFrom : GoodIn wsX6_copyFrom wsX5_copyFrom := goodIn_r _ [7, 8, 9, 10, 11, 12, 13, 16, 17, 18, 19, 20, 21] (by decide +kernel) (by decide +kernel)
set_option maxRecDepth 20000 in
theorem gX6_copyFrom_X5_copyFrom : GoodIn wsX6_copyFrom (wsV RX6 18 RX5 yX5_copyFrom wsX5_copyFrom) := goodIn_app (goodIn_of _ (by decide +kernel)) ggX6_copyFrom_X5_copyFrom
theorem dX6_copyFrom_0 : decode cX6_copyFrom 0 = .ok (.iconst 0, 1) := by decide +kernel
theorem dX6_copyFrom_1 : decode cX6_copyFrom 1 = .ok (.istore_n 2, 1) := by decide +kernel
theorem dX6_copyFrom_2 : decode cX6_copyFrom 2 = .ok (.iload_n 2, 1) := by decide +kernel
theorem dX6_copyFrom_3 : decode cX6_copyFrom 3 = .ok (.bipush 12, 2) := by decide +kernel
theorem dX6_copyFrom_5 : decode cX6_copyFrom 5 = .ok (.if_icmp .ge 24, 3) := by decide +kernel
theorem dX6_copyFrom_8 : decode cX6_copyFrom 8 = .ok (.aload_n 0, 1) := by decide +kernel
theorem dX6_copyFrom_9 : decode cX6_copyFrom 9 = .ok (.getfield 11, 3) := by decide +kernel
theorem dX6_copyFrom_12 : decode cX6_copyFrom 12 = .ok (.iload_n 2, 1) := by decide +kernel
theorem dX6_copyFrom_13 : decode cX6_copyFrom 13 = .ok (.aaload, 1) := by decide +kernel
theorem dX6_copyFrom_14 : decode cX6_copyFrom 14 = .ok (.aload_n 1, 1) := by decide +kernel
theorem dX6_copyFrom_15 : decode cX6_copyFrom 15 = .ok (.getfield 11, 3) := by decide +kernel
theorem dX6_copyFrom_18 : decode cX6_copyFrom 18 = .ok (.iload_n 2, 1) := by decide +kernel
theorem dX6_copyFrom_19 : decode cX6_copyFrom 19 = .ok (.aaload, 1) := by decide +kernel
theorem dX6_copyFrom_20 : decode cX6_copyFrom 20 = .ok (.invokevirtual 18, 3) := by decide +kernel
theorem dX6_copyFrom_23 : decode cX6_copyFrom 23 = .ok (.iinc 2 1, 3) := by decide +kernel
theorem dX6_copyFrom_26 : decode cX6_copyFrom 26 = .ok (.goto (-24), 3) := by decide +kernel
theorem dX6_copyFrom_29 : decode cX6_copyFrom 29 = .ok (.aload_n 0, 1) := by decide +kernel
theorem dX6_copyFrom_30 : decode cX6_copyFrom 30 = .ok (.aload_n 1, 1) := by decide +kernel
theorem dX6_copyFrom_31 : decode cX6_copyFrom 31 = .ok (.getfield 22, 3) := by decide +kernel
theorem dX6_copyFrom_34 : decode cX6_copyFrom 34 = .ok (.putfield 22, 3) := by decide +kernel
theorem dX6_copyFrom_37 : decode cX6_copyFrom 37 = .ok (.return_, 1) := by decide +kernel
theorem dX6_latest_0 : decode cX6_latest 0 = .ok (.iload_n 1, 1) := by decide +kernel
theorem dX6_latest_1 : decode cX6_latest 1 = .ok (.ifCond .lt 26, 3) := by decide +kernel
theorem dX6_latest_4 : decode cX6_latest 4 = .ok (.iload_n 1, 1) := by decide +kernel
theorem dX6_latest_5 : decode cX6_latest 5 = .ok (.aload_n 0, 1) := by decide +kernel
theorem dX6_latest_6 : decode cX6_latest 6 = .ok (.getfield 22, 3) := by decide +kernel
theorem dX6_latest_9 : decode cX6_latest 9 = .ok (.if_icmp .ge 18, 3) := by decide +kernel
theorem dX6_latest_12 : decode cX6_latest 12 = .ok (.iload_n 1, 1) := by decide +kernel
theorem dX6_latest_13 : decode cX6_latest 13 = .ok (.bipush 12, 2) := by decide +kernel
theorem dX6_latest_15 : decode cX6_latest 15 = .ok (.if_icmp .ge 12, 3) := by decide +kernel
theorem dX6_latest_18 : decode cX6_latest 18 = .ok (.aload_n 0, 1) := by decide +kernel
theorem dX6_latest_19 : decode cX6_latest 19 = .ok (.getfield 11, 3) := by decide +kernel
theorem dX6_latest_22 : decode cX6_latest 22 = .ok (.iload_n 1, 1) := by decide +kernel
theorem dX6_latest_23 : decode cX6_latest 23 = .ok (.aaload, 1) := by decide +kernel
theorem dX6_latest_24 : decode cX6_latest 24 = .ok (.goto 4, 3) := by decide +kernel
theorem dX6_latest_27 : decode cX6_latest 27 = .ok (.aconst_null, 1) := by decide +kernel
theorem dX6_latest_28 : decode cX6_latest 28 = .ok (.areturn, 1) := by decide +kernel
theorem dX6_startLatest_0 : decode cX6_startLatest 0 = .ok (.aload_n 0, 1) := by decide +kernel
theorem dX6_startLatest_1 : decode cX6_startLatest 1 = .ok (.getfield 11, 3) := by decide +kernel
theorem dX6_startLatest_4 : decode cX6_startLatest 4 = .ok (.bipush 11, 2) := by decide +kernel
theorem dX6_startLatest_6 : decode cX6_startLatest 6 = .ok (.aaload, 1) := by decide +kernel
theorem dX6_startLatest_7 : decode cX6_startLatest 7 = .ok (.astore_n 1, 1) := by decide +kernel
theorem dX6_startLatest_8 : decode cX6_startLatest 8 = .ok (.bipush 11, 2) := by decide +kernel
theorem dX6_startLatest_10 : decode cX6_startLatest 10 = .ok (.istore_n 2, 1) := by decide +kernel
theorem dX6_startLatest_11 : decode cX6_startLatest 11 = .ok (.iload_n 2, 1) := by decide +kernel
theorem dX6_startLatest_12 : decode cX6_startLatest 12 = .ok (.ifCond .le 23, 3) := by decide +kernel
theorem dX6_startLatest_15 : decode cX6_startLatest 15 = .ok (.aload_n 0, 1) := by decide +kernel
theorem dX6_startLatest_16 : decode cX6_startLatest 16 = .ok (.getfield 11, 3) := by decide +kernel
theorem dX6_startLatest_19 : decode cX6_startLatest 19 = .ok (.iload_n 2, 1) := by decide +kernel
theorem dX6_startLatest_20 : decode cX6_startLatest 20 = .ok (.aload_n 0, 1) := by decide +kernel
theorem dX6_startLatest_21 : decode cX6_startLatest 21 = .ok (.getfield 11, 3) := by decide +kernel
theorem dX6_startLatest_24 : decode cX6_startLatest 24 = .ok (.iload_n 2, 1) := by decide +kernel
theorem dX6_startLatest_25 : decode cX6_startLatest 25 = .ok (.iconst 1, 1) := by decide +kernel
theorem dX6_startLatest_26 : decode cX6_startLatest 26 = .ok (.isub, 1) := by decide +kernel
theorem dX6_startLatest_27 : decode cX6_startLatest 27 = .ok (.aaload, 1) := by decide +kernel
theorem dX6_startLatest_28 : decode cX6_startLatest 28 = .ok (.aastore, 1) := by decide +kernel
theorem dX6_startLatest_29 : decode cX6_startLatest 29 = .ok (.iinc 2 (-1), 3) := by decide +kernel
theorem dX6_startLatest_32 : decode cX6_startLatest 32 = .ok (.goto (-21), 3) := by decide +kernel
theorem dX6_startLatest_35 : decode cX6_startLatest 35 = .ok (.aload_n 0, 1) := by decide +kernel
theorem dX6_startLatest_36 : decode cX6_startLatest 36 = .ok (.getfield 11, 3) := by decide +kernel
theorem dX6_startLatest_39 : decode cX6_startLatest 39 = .ok (.iconst 0, 1) := by decide +kernel
theorem dX6_startLatest_40 : decode cX6_startLatest 40 = .ok (.aload_n 1, 1) := by decide +kernel
theorem dX6_startLatest_41 : decode cX6_startLatest 41 = .ok (.aastore, 1) := by decide +kernel
theorem dX6_startLatest_42 : decode cX6_startLatest 42 = .ok (.aload_n 0, 1) := by decide +kernel
theorem dX6_startLatest_43 : decode cX6_startLatest 43 = .ok (.aload_n 0, 1) := by decide +kernel
theorem dX6_startLatest_44 : decode cX6_startLatest 44 = .ok (.getfield 22, 3) := by decide +kernel
theorem dX6_startLatest_47 : decode cX6_startLatest 47 = .ok (.iconst 1, 1) := by decide +kernel
theorem dX6_startLatest_48 : decode cX6_startLatest 48 = .ok (.iadd, 1) := by decide +kernel
theorem dX6_startLatest_49 : decode cX6_startLatest 49 = .ok (.bipush 12, 2) := by decide +kernel
theorem dX6_startLatest_51 : decode cX6_startLatest 51 = .ok (.invokestatic 26, 3) := by decide +kernel
theorem dX6_startLatest_54 : decode cX6_startLatest 54 = .ok (.putfield 22, 3) := by decide +kernel
theorem dX6_startLatest_57 : decode cX6_startLatest 57 = .ok (.aload_n 1, 1) := by decide +kernel
theorem dX6_startLatest_58 : decode cX6_startLatest 58 = .ok (.areturn, 1) := by decide +kernel
theorem dX6_isMeasured_0 : decode cX6_isMeasured 0 = .ok (.iload_n 1, 1) := by decide +kernel
theorem dX6_isMeasured_1 : decode cX6_isMeasured 1 = .ok (.ifCond .lt 35, 3) := by decide +kernel
theorem dX6_isMeasured_4 : decode cX6_isMeasured 4 = .ok (.iload_n 1, 1) := by decide +kernel
theorem dX6_isMeasured_5 : decode cX6_isMeasured 5 = .ok (.aload_n 0, 1) := by decide +kernel
theorem dX6_isMeasured_6 : decode cX6_isMeasured 6 = .ok (.getfield 22, 3) := by decide +kernel
theorem dX6_isMeasured_9 : decode cX6_isMeasured 9 = .ok (.if_icmp .ge 27, 3) := by decide +kernel
theorem dX6_isMeasured_12 : decode cX6_isMeasured 12 = .ok (.iload_n 1, 1) := by decide +kernel
theorem dX6_isMeasured_13 : decode cX6_isMeasured 13 = .ok (.bipush 12, 2) := by decide +kernel
theorem dX6_isMeasured_15 : decode cX6_isMeasured 15 = .ok (.if_icmp .ge 21, 3) := by decide +kernel
theorem dX6_isMeasured_18 : decode cX6_isMeasured 18 = .ok (.aload_n 0, 1) := by decide +kernel
theorem dX6_isMeasured_19 : decode cX6_isMeasured 19 = .ok (.getfield 11, 3) := by decide +kernel
theorem dX6_isMeasured_22 : decode cX6_isMeasured 22 = .ok (.iload_n 1, 1) := by decide +kernel
theorem dX6_isMeasured_23 : decode cX6_isMeasured 23 = .ok (.aaload, 1) := by decide +kernel
theorem dX6_isMeasured_24 : decode cX6_isMeasured 24 = .ok (.getfield 32, 3) := by decide +kernel
theorem dX6_isMeasured_27 : decode cX6_isMeasured 27 = .ok (.ldc 35, 2) := by decide +kernel
theorem dX6_isMeasured_29 : decode cX6_isMeasured 29 = .ok (.if_icmp .eq 7, 3) := by decide +kernel
theorem dX6_isMeasured_32 : decode cX6_isMeasured 32 = .ok (.iconst 1, 1) := by decide +kernel
theorem dX6_isMeasured_33 : decode cX6_isMeasured 33 = .ok (.goto 4, 3) := by decide +kernel
theorem dX6_isMeasured_36 : decode cX6_isMeasured 36 = .ok (.iconst 0, 1) := by decide +kernel
theorem dX6_isMeasured_37 : decode cX6_isMeasured 37 = .ok (.ireturn, 1) := by decide +kernel
set_option maxRecDepth 20000 in
theorem ggX6_measuredCount_X6_isMeasured : GoodIn wsX6_measuredCount wsX6_isMeasured := goodIn_r _ [5, 6, 7, 8, 9, 13, 14, 15, 16, 17, 18, 19, 20] (by decide +kernel) (by decide +kernel)
set_option maxRecDepth 20000 in
theorem gX6_measuredCount_X6_isMeasured : GoodIn wsX6_measuredCount (wsV RX6 36 RX6 yX6_isMeasured wsX6_isMeasured) := goodIn_app (goodIn_of _ (by decide +kernel)) ggX6_measuredCount_X6_isMeasured
set_option maxRecDepth 20000 in
theorem ggX6_measuredCount_X10_asNumber : GoodIn wsX6_measuredCount wsX10_asNumber := goodIn_r _ [12] (by decide +kernel) (by decide +kernel)
set_option maxRecDepth 20000 in
theorem gX6_measuredCount_X10_asNumber_n40 : GoodIn wsX6_measuredCount (wsX10_asNumber) := ggX6_measuredCount_X10_asNumber
theorem dX6_measuredCount_0 : decode cX6_measuredCount 0 = .ok (.iconst 0, 1) := by decide +kernel
theorem dX6_measuredCount_1 : decode cX6_measuredCount 1 = .ok (.istore_n 1, 1) := by decide +kernel
theorem dX6_measuredCount_2 : decode cX6_measuredCount 2 = .ok (.iconst 0, 1) := by decide +kernel
theorem dX6_measuredCount_3 : decode cX6_measuredCount 3 = .ok (.istore_n 2, 1) := by decide +kernel
theorem dX6_measuredCount_4 : decode cX6_measuredCount 4 = .ok (.iload_n 2, 1) := by decide +kernel
theorem dX6_measuredCount_5 : decode cX6_measuredCount 5 = .ok (.bipush 12, 2) := by decide +kernel
theorem dX6_measuredCount_7 : decode cX6_measuredCount 7 = .ok (.if_icmp .ge 20, 3) := by decide +kernel
theorem dX6_measuredCount_10 : decode cX6_measuredCount 10 = .ok (.iload_n 1, 1) := by decide +kernel
theorem dX6_measuredCount_11 : decode cX6_measuredCount 11 = .ok (.aload_n 0, 1) := by decide +kernel
theorem dX6_measuredCount_12 : decode cX6_measuredCount 12 = .ok (.iload_n 2, 1) := by decide +kernel
theorem dX6_measuredCount_13 : decode cX6_measuredCount 13 = .ok (.invokevirtual 36, 3) := by decide +kernel
theorem dX6_measuredCount_16 : decode cX6_measuredCount 16 = .ok (.invokestatic 40, 3) := by decide +kernel
theorem dX6_measuredCount_19 : decode cX6_measuredCount 19 = .ok (.iadd, 1) := by decide +kernel
theorem dX6_measuredCount_20 : decode cX6_measuredCount 20 = .ok (.istore_n 1, 1) := by decide +kernel
theorem dX6_measuredCount_21 : decode cX6_measuredCount 21 = .ok (.iinc 2 1, 3) := by decide +kernel
theorem dX6_measuredCount_24 : decode cX6_measuredCount 24 = .ok (.goto (-20), 3) := by decide +kernel
theorem dX6_measuredCount_27 : decode cX6_measuredCount 27 = .ok (.iload_n 1, 1) := by decide +kernel
theorem dX6_measuredCount_28 : decode cX6_measuredCount 28 = .ok (.ireturn, 1) := by decide +kernel
set_option maxRecDepth 20000 in
theorem ggX6_countUpTo_X6_isMeasured : GoodIn wsX6_countUpTo wsX6_isMeasured := goodIn_r _ [7, 8, 1, 2, 9, 10, 11, 12, 13, 14, 15, 16, 17] (by decide +kernel) (by decide +kernel)
set_option maxRecDepth 20000 in
theorem gX6_countUpTo_X6_isMeasured : GoodIn wsX6_countUpTo (wsV RX6 36 RX6 yX6_isMeasured wsX6_isMeasured) := goodIn_app (goodIn_of _ (by decide +kernel)) ggX6_countUpTo_X6_isMeasured
theorem dX6_countUpTo_0 : decode cX6_countUpTo 0 = .ok (.iconst 0, 1) := by decide +kernel
theorem dX6_countUpTo_1 : decode cX6_countUpTo 1 = .ok (.istore_n 2, 1) := by decide +kernel
theorem dX6_countUpTo_2 : decode cX6_countUpTo 2 = .ok (.iconst 0, 1) := by decide +kernel
theorem dX6_countUpTo_3 : decode cX6_countUpTo 3 = .ok (.istore_n 3, 1) := by decide +kernel
theorem dX6_countUpTo_4 : decode cX6_countUpTo 4 = .ok (.iload_n 3, 1) := by decide +kernel
theorem dX6_countUpTo_5 : decode cX6_countUpTo 5 = .ok (.bipush 12, 2) := by decide +kernel
theorem dX6_countUpTo_7 : decode cX6_countUpTo 7 = .ok (.if_icmp .ge 33, 3) := by decide +kernel
theorem dX6_countUpTo_10 : decode cX6_countUpTo 10 = .ok (.aload_n 0, 1) := by decide +kernel
theorem dX6_countUpTo_11 : decode cX6_countUpTo 11 = .ok (.iload_n 3, 1) := by decide +kernel
theorem dX6_countUpTo_12 : decode cX6_countUpTo 12 = .ok (.invokevirtual 36, 3) := by decide +kernel
theorem dX6_countUpTo_15 : decode cX6_countUpTo 15 = .ok (.ifCond .eq 19, 3) := by decide +kernel
theorem dX6_countUpTo_18 : decode cX6_countUpTo 18 = .ok (.aload_n 0, 1) := by decide +kernel
theorem dX6_countUpTo_19 : decode cX6_countUpTo 19 = .ok (.getfield 11, 3) := by decide +kernel
theorem dX6_countUpTo_22 : decode cX6_countUpTo 22 = .ok (.iload_n 3, 1) := by decide +kernel
theorem dX6_countUpTo_23 : decode cX6_countUpTo 23 = .ok (.aaload, 1) := by decide +kernel
theorem dX6_countUpTo_24 : decode cX6_countUpTo 24 = .ok (.getfield 32, 3) := by decide +kernel
theorem dX6_countUpTo_27 : decode cX6_countUpTo 27 = .ok (.iload_n 1, 1) := by decide +kernel
theorem dX6_countUpTo_28 : decode cX6_countUpTo 28 = .ok (.if_icmp .gt 6, 3) := by decide +kernel
theorem dX6_countUpTo_31 : decode cX6_countUpTo 31 = .ok (.iinc 2 1, 3) := by decide +kernel
theorem dX6_countUpTo_34 : decode cX6_countUpTo 34 = .ok (.iinc 3 1, 3) := by decide +kernel
theorem dX6_countUpTo_37 : decode cX6_countUpTo 37 = .ok (.goto (-33), 3) := by decide +kernel
theorem dX6_countUpTo_40 : decode cX6_countUpTo 40 = .ok (.iload_n 2, 1) := by decide +kernel
theorem dX6_countUpTo_41 : decode cX6_countUpTo 41 = .ok (.ireturn, 1) := by decide +kernel
set_option maxRecDepth 20000 in
theorem ggX6_ranked_X6_isMeasured : GoodIn wsX6_ranked wsX6_isMeasured := goodIn_r _ [8, 9, 1, 2, 3, 14, 15, 16, 17, 18, 19, 20, 21] (by decide +kernel) (by decide +kernel)
set_option maxRecDepth 20000 in
theorem gX6_ranked_X6_isMeasured : GoodIn wsX6_ranked (wsV RX6 36 RX6 yX6_isMeasured wsX6_isMeasured) := goodIn_app (goodIn_of _ (by decide +kernel)) ggX6_ranked_X6_isMeasured
set_option maxRecDepth 20000 in
theorem ggX6_ranked_X6_countUpTo : GoodIn wsX6_ranked wsX6_countUpTo := goodIn_r _ [13, 1, 2, 4, 5, 6, 7, 8, 9, 3, 14, 15, 16, 17, 18, 19, 20, 21] (by decide +kernel) (by decide +kernel)
set_option maxRecDepth 20000 in
theorem gX6_ranked_X6_countUpTo : GoodIn wsX6_ranked (wsV RX6 44 RX6 yX6_countUpTo wsX6_countUpTo) := goodIn_app (goodIn_of _ (by decide +kernel)) ggX6_ranked_X6_countUpTo
theorem dX6_ranked_0 : decode cX6_ranked 0 = .ok (.iconst 0, 1) := by decide +kernel
theorem dX6_ranked_1 : decode cX6_ranked 1 = .ok (.istore_n 2, 1) := by decide +kernel
theorem dX6_ranked_2 : decode cX6_ranked 2 = .ok (.iload_n 2, 1) := by decide +kernel
theorem dX6_ranked_3 : decode cX6_ranked 3 = .ok (.bipush 12, 2) := by decide +kernel
theorem dX6_ranked_5 : decode cX6_ranked 5 = .ok (.if_icmp .ge 49, 3) := by decide +kernel
theorem dX6_ranked_8 : decode cX6_ranked 8 = .ok (.aload_n 0, 1) := by decide +kernel
theorem dX6_ranked_9 : decode cX6_ranked 9 = .ok (.iload_n 2, 1) := by decide +kernel
theorem dX6_ranked_10 : decode cX6_ranked 10 = .ok (.invokevirtual 36, 3) := by decide +kernel
theorem dX6_ranked_13 : decode cX6_ranked 13 = .ok (.ifCond .eq 35, 3) := by decide +kernel
theorem dX6_ranked_16 : decode cX6_ranked 16 = .ok (.aload_n 0, 1) := by decide +kernel
theorem dX6_ranked_17 : decode cX6_ranked 17 = .ok (.getfield 11, 3) := by decide +kernel
theorem dX6_ranked_20 : decode cX6_ranked 20 = .ok (.iload_n 2, 1) := by decide +kernel
theorem dX6_ranked_21 : decode cX6_ranked 21 = .ok (.aaload, 1) := by decide +kernel
theorem dX6_ranked_22 : decode cX6_ranked 22 = .ok (.getfield 32, 3) := by decide +kernel
theorem dX6_ranked_25 : decode cX6_ranked 25 = .ok (.istore_n 3, 1) := by decide +kernel
theorem dX6_ranked_26 : decode cX6_ranked 26 = .ok (.aload_n 0, 1) := by decide +kernel
theorem dX6_ranked_27 : decode cX6_ranked 27 = .ok (.iload_n 3, 1) := by decide +kernel
theorem dX6_ranked_28 : decode cX6_ranked 28 = .ok (.iconst 1, 1) := by decide +kernel
theorem dX6_ranked_29 : decode cX6_ranked 29 = .ok (.isub, 1) := by decide +kernel
theorem dX6_ranked_30 : decode cX6_ranked 30 = .ok (.invokevirtual 44, 3) := by decide +kernel
theorem dX6_ranked_33 : decode cX6_ranked 33 = .ok (.iload_n 1, 1) := by decide +kernel
theorem dX6_ranked_34 : decode cX6_ranked 34 = .ok (.if_icmp .gt 14, 3) := by decide +kernel
theorem dX6_ranked_37 : decode cX6_ranked 37 = .ok (.iload_n 1, 1) := by decide +kernel
theorem dX6_ranked_38 : decode cX6_ranked 38 = .ok (.aload_n 0, 1) := by decide +kernel
theorem dX6_ranked_39 : decode cX6_ranked 39 = .ok (.iload_n 3, 1) := by decide +kernel
theorem dX6_ranked_40 : decode cX6_ranked 40 = .ok (.invokevirtual 44, 3) := by decide +kernel
theorem dX6_ranked_43 : decode cX6_ranked 43 = .ok (.if_icmp .ge 5, 3) := by decide +kernel
theorem dX6_ranked_46 : decode cX6_ranked 46 = .ok (.iload_n 3, 1) := by decide +kernel
theorem dX6_ranked_47 : decode cX6_ranked 47 = .ok (.ireturn, 1) := by decide +kernel
theorem dX6_ranked_48 : decode cX6_ranked 48 = .ok (.iinc 2 1, 3) := by decide +kernel
theorem dX6_ranked_51 : decode cX6_ranked 51 = .ok (.goto (-49), 3) := by decide +kernel
theorem dX6_ranked_54 : decode cX6_ranked 54 = .ok (.ldc 35, 2) := by decide +kernel
theorem dX6_ranked_56 : decode cX6_ranked 56 = .ok (.ireturn, 1) := by decide +kernel
set_option maxRecDepth 20000 in
theorem ggX6_average_X6_isMeasured : GoodIn wsX6_average wsX6_isMeasured := goodIn_r _ [7, 8, 1, 2, 9, 19, 20, 21, 22, 23, 24, 25, 26] (by decide +kernel) (by decide +kernel)
set_option maxRecDepth 20000 in
theorem gX6_average_X6_isMeasured : GoodIn wsX6_average (wsV RX6 36 RX6 yX6_isMeasured wsX6_isMeasured) := goodIn_app (goodIn_of _ (by decide +kernel)) ggX6_average_X6_isMeasured
set_option maxRecDepth 20000 in
theorem ggX6_average_X6_measuredCount : GoodIn wsX6_average wsX6_measuredCount := goodIn_r _ [13, 3, 4, 5, 6, 7, 8, 1, 2, 9, 14, 15, 16, 19, 20, 21, 22, 23, 24, 25, 26] (by decide +kernel) (by decide +kernel)
set_option maxRecDepth 20000 in
theorem gX6_average_X6_measuredCount : GoodIn wsX6_average (wsV RX6 48 RX6 yX6_measuredCount wsX6_measuredCount) := goodIn_app (goodIn_of _ (by decide +kernel)) ggX6_average_X6_measuredCount
set_option maxRecDepth 20000 in
theorem ggX6_average_X10_quotient : GoodIn wsX6_average wsX10_quotient := goodIn_r _ [18] (by decide +kernel) (by decide +kernel)
set_option maxRecDepth 20000 in
theorem gX6_average_X10_quotient_n52 : GoodIn wsX6_average (wsX10_quotient) := ggX6_average_X10_quotient
theorem dX6_average_0 : decode cX6_average 0 = .ok (.lconst 0, 1) := by decide +kernel
theorem dX6_average_1 : decode cX6_average 1 = .ok (.lstore_n 1, 1) := by decide +kernel
theorem dX6_average_2 : decode cX6_average 2 = .ok (.iconst 0, 1) := by decide +kernel
theorem dX6_average_3 : decode cX6_average 3 = .ok (.istore_n 3, 1) := by decide +kernel
theorem dX6_average_4 : decode cX6_average 4 = .ok (.iload_n 3, 1) := by decide +kernel
theorem dX6_average_5 : decode cX6_average 5 = .ok (.bipush 12, 2) := by decide +kernel
theorem dX6_average_7 : decode cX6_average 7 = .ok (.if_icmp .ge 30, 3) := by decide +kernel
theorem dX6_average_10 : decode cX6_average 10 = .ok (.aload_n 0, 1) := by decide +kernel
theorem dX6_average_11 : decode cX6_average 11 = .ok (.iload_n 3, 1) := by decide +kernel
theorem dX6_average_12 : decode cX6_average 12 = .ok (.invokevirtual 36, 3) := by decide +kernel
theorem dX6_average_15 : decode cX6_average 15 = .ok (.ifCond .eq 16, 3) := by decide +kernel
theorem dX6_average_18 : decode cX6_average 18 = .ok (.lload_n 1, 1) := by decide +kernel
theorem dX6_average_19 : decode cX6_average 19 = .ok (.aload_n 0, 1) := by decide +kernel
theorem dX6_average_20 : decode cX6_average 20 = .ok (.getfield 11, 3) := by decide +kernel
theorem dX6_average_23 : decode cX6_average 23 = .ok (.iload_n 3, 1) := by decide +kernel
theorem dX6_average_24 : decode cX6_average 24 = .ok (.aaload, 1) := by decide +kernel
theorem dX6_average_25 : decode cX6_average 25 = .ok (.getfield 32, 3) := by decide +kernel
theorem dX6_average_28 : decode cX6_average 28 = .ok (.i2l, 1) := by decide +kernel
theorem dX6_average_29 : decode cX6_average 29 = .ok (.ladd, 1) := by decide +kernel
theorem dX6_average_30 : decode cX6_average 30 = .ok (.lstore_n 1, 1) := by decide +kernel
theorem dX6_average_31 : decode cX6_average 31 = .ok (.iinc 3 1, 3) := by decide +kernel
theorem dX6_average_34 : decode cX6_average 34 = .ok (.goto (-30), 3) := by decide +kernel
theorem dX6_average_37 : decode cX6_average 37 = .ok (.lload_n 1, 1) := by decide +kernel
theorem dX6_average_38 : decode cX6_average 38 = .ok (.aload_n 0, 1) := by decide +kernel
theorem dX6_average_39 : decode cX6_average 39 = .ok (.invokevirtual 48, 3) := by decide +kernel
theorem dX6_average_42 : decode cX6_average 42 = .ok (.i2l, 1) := by decide +kernel
theorem dX6_average_43 : decode cX6_average 43 = .ok (.invokestatic 52, 3) := by decide +kernel
theorem dX6_average_46 : decode cX6_average 46 = .ok (.l2i, 1) := by decide +kernel
theorem dX6_average_47 : decode cX6_average 47 = .ok (.ireturn, 1) := by decide +kernel
theorem dX7_init_0 : decode cX7_init 0 = .ok (.aload_n 0, 1) := by decide +kernel
theorem dX7_init_1 : decode cX7_init 1 = .ok (.invokespecial 1, 3) := by decide +kernel
theorem dX7_init_4 : decode cX7_init 4 = .ok (.return_, 1) := by decide +kernel
theorem dX7_copyFrom_0 : decode cX7_copyFrom 0 = .ok (.aload_n 0, 1) := by decide +kernel
theorem dX7_copyFrom_1 : decode cX7_copyFrom 1 = .ok (.aload_n 1, 1) := by decide +kernel
theorem dX7_copyFrom_2 : decode cX7_copyFrom 2 = .ok (.getfield 7, 3) := by decide +kernel
theorem dX7_copyFrom_5 : decode cX7_copyFrom 5 = .ok (.putfield 7, 3) := by decide +kernel
theorem dX7_copyFrom_8 : decode cX7_copyFrom 8 = .ok (.aload_n 0, 1) := by decide +kernel
theorem dX7_copyFrom_9 : decode cX7_copyFrom 9 = .ok (.aload_n 1, 1) := by decide +kernel
theorem dX7_copyFrom_10 : decode cX7_copyFrom 10 = .ok (.getfield 13, 3) := by decide +kernel
theorem dX7_copyFrom_13 : decode cX7_copyFrom 13 = .ok (.putfield 13, 3) := by decide +kernel
theorem dX7_copyFrom_16 : decode cX7_copyFrom 16 = .ok (.aload_n 0, 1) := by decide +kernel
theorem dX7_copyFrom_17 : decode cX7_copyFrom 17 = .ok (.aload_n 1, 1) := by decide +kernel
theorem dX7_copyFrom_18 : decode cX7_copyFrom 18 = .ok (.getfield 17, 3) := by decide +kernel
theorem dX7_copyFrom_21 : decode cX7_copyFrom 21 = .ok (.putfield 17, 3) := by decide +kernel
theorem dX7_copyFrom_24 : decode cX7_copyFrom 24 = .ok (.aload_n 0, 1) := by decide +kernel
theorem dX7_copyFrom_25 : decode cX7_copyFrom 25 = .ok (.aload_n 1, 1) := by decide +kernel
theorem dX7_copyFrom_26 : decode cX7_copyFrom 26 = .ok (.getfield 20, 3) := by decide +kernel
theorem dX7_copyFrom_29 : decode cX7_copyFrom 29 = .ok (.putfield 20, 3) := by decide +kernel
theorem dX7_copyFrom_32 : decode cX7_copyFrom 32 = .ok (.return_, 1) := by decide +kernel
theorem dX7_exchangeTimes_0 : decode cX7_exchangeTimes 0 = .ok (.aload_n 0, 1) := by decide +kernel
theorem dX7_exchangeTimes_1 : decode cX7_exchangeTimes 1 = .ok (.getfield 13, 3) := by decide +kernel
theorem dX7_exchangeTimes_4 : decode cX7_exchangeTimes 4 = .ok (.istore_n 1, 1) := by decide +kernel
theorem dX7_exchangeTimes_5 : decode cX7_exchangeTimes 5 = .ok (.aload_n 0, 1) := by decide +kernel
theorem dX7_exchangeTimes_6 : decode cX7_exchangeTimes 6 = .ok (.aload_n 0, 1) := by decide +kernel
theorem dX7_exchangeTimes_7 : decode cX7_exchangeTimes 7 = .ok (.getfield 17, 3) := by decide +kernel
theorem dX7_exchangeTimes_10 : decode cX7_exchangeTimes 10 = .ok (.putfield 13, 3) := by decide +kernel
theorem dX7_exchangeTimes_13 : decode cX7_exchangeTimes 13 = .ok (.aload_n 0, 1) := by decide +kernel
theorem dX7_exchangeTimes_14 : decode cX7_exchangeTimes 14 = .ok (.iload_n 1, 1) := by decide +kernel
theorem dX7_exchangeTimes_15 : decode cX7_exchangeTimes 15 = .ok (.putfield 17, 3) := by decide +kernel
theorem dX7_exchangeTimes_18 : decode cX7_exchangeTimes 18 = .ok (.return_, 1) := by decide +kernel
set_option maxRecDepth 20000 in
theorem ggX8_init_X4_init : GoodIn wsX8_init wsX4_init := goodIn_r _ [19, 20, 2, 3, 10, 21, 22, 57, 58, 59] (by decide +kernel) (by decide +kernel)
set_option maxRecDepth 20000 in
theorem gX8_init_X4_init_n19 : GoodIn wsX8_init (wsX4_init) := ggX8_init_X4_init
set_option maxRecDepth 20000 in
theorem ggX8_init_X6_init : GoodIn wsX8_init wsX6_init := goodIn_r _ [25, 26, 2, 3, 27, 28, 29, 30, 31, 32, 33, 60, 61, 78, 79, 80, 81, 82, 83] (by decide +kernel) (by decide +kernel)
set_option maxRecDepth 20000 in
theorem gX8_init_X6_init : GoodIn wsX8_init (wsX6_init) := ggX8_init_X6_init
set_option maxRecDepth 20000 in
theorem ggX8_init_X3_init : GoodIn wsX8_init wsX3_init := goodIn_r _ [35, 36, 2, 3, 37, 38, 39, 40, 41, 42, 43, 44, 45, 46, 62, 63, 64, 65, 66, 67, 68, 69, 70, 71, 72, 73, 74, 75, 76, 77, 84, 85, 86, 87] (by decide +kernel) (by decide +kernel)
set_option maxRecDepth 20000 in
theorem gX8_init_X3_init_n35 : GoodIn wsX8_init (wsX3_init) := ggX8_init_X3_init
theorem dX8_init_0 : decode cX8_init 0 = .ok (.aload_n 0, 1) := by decide +kernel
theorem dX8_init_1 : decode cX8_init 1 = .ok (.invokespecial 3, 3) := by decide +kernel
theorem dX8_init_4 : decode cX8_init 4 = .ok (.aload_n 0, 1) := by decide +kernel
theorem dX8_init_5 : decode cX8_init 5 = .ok (.iconst 4, 1) := by decide +kernel
theorem dX8_init_6 : decode cX8_init 6 = .ok (.anewarray 9, 3) := by decide +kernel
theorem dX8_init_9 : decode cX8_init 9 = .ok (.putfield 11, 3) := by decide +kernel
theorem dX8_init_12 : decode cX8_init 12 = .ok (.aload_n 0, 1) := by decide +kernel
theorem dX8_init_13 : decode cX8_init 13 = .ok (.new 17, 3) := by decide +kernel
theorem dX8_init_16 : decode cX8_init 16 = .ok (.dup, 1) := by decide +kernel
theorem dX8_init_17 : decode cX8_init 17 = .ok (.invokespecial 19, 3) := by decide +kernel
theorem dX8_init_20 : decode cX8_init 20 = .ok (.putfield 20, 3) := by decide +kernel
theorem dX8_init_23 : decode cX8_init 23 = .ok (.aload_n 0, 1) := by decide +kernel
theorem dX8_init_24 : decode cX8_init 24 = .ok (.iconst 5, 1) := by decide +kernel
theorem dX8_init_25 : decode cX8_init 25 = .ok (.newarray .int, 2) := by decide +kernel
theorem dX8_init_27 : decode cX8_init 27 = .ok (.dup, 1) := by decide +kernel
theorem dX8_init_28 : decode cX8_init 28 = .ok (.iconst 0, 1) := by decide +kernel
theorem dX8_init_29 : decode cX8_init 29 = .ok (.bipush 40, 2) := by decide +kernel
theorem dX8_init_31 : decode cX8_init 31 = .ok (.iastore, 1) := by decide +kernel
theorem dX8_init_32 : decode cX8_init 32 = .ok (.dup, 1) := by decide +kernel
theorem dX8_init_33 : decode cX8_init 33 = .ok (.iconst 1, 1) := by decide +kernel
theorem dX8_init_34 : decode cX8_init 34 = .ok (.iconst 2, 1) := by decide +kernel
theorem dX8_init_35 : decode cX8_init 35 = .ok (.iastore, 1) := by decide +kernel
theorem dX8_init_36 : decode cX8_init 36 = .ok (.dup, 1) := by decide +kernel
theorem dX8_init_37 : decode cX8_init 37 = .ok (.iconst 2, 1) := by decide +kernel
theorem dX8_init_38 : decode cX8_init 38 = .ok (.bipush 60, 2) := by decide +kernel
theorem dX8_init_40 : decode cX8_init 40 = .ok (.iastore, 1) := by decide +kernel
theorem dX8_init_41 : decode cX8_init 41 = .ok (.dup, 1) := by decide +kernel
theorem dX8_init_42 : decode cX8_init 42 = .ok (.iconst 3, 1) := by decide +kernel
theorem dX8_init_43 : decode cX8_init 43 = .ok (.sipush 10000, 3) := by decide +kernel
theorem dX8_init_46 : decode cX8_init 46 = .ok (.iastore, 1) := by decide +kernel
theorem dX8_init_47 : decode cX8_init 47 = .ok (.dup, 1) := by decide +kernel
theorem dX8_init_48 : decode cX8_init 48 = .ok (.iconst 4, 1) := by decide +kernel
theorem dX8_init_49 : decode cX8_init 49 = .ok (.bipush 100, 2) := by decide +kernel
theorem dX8_init_51 : decode cX8_init 51 = .ok (.iastore, 1) := by decide +kernel
theorem dX8_init_52 : decode cX8_init 52 = .ok (.putfield 24, 3) := by decide +kernel
theorem dX8_init_55 : decode cX8_init 55 = .ok (.aload_n 0, 1) := by decide +kernel
theorem dX8_init_56 : decode cX8_init 56 = .ok (.new 28, 3) := by decide +kernel
theorem dX8_init_59 : decode cX8_init 59 = .ok (.dup, 1) := by decide +kernel
theorem dX8_init_60 : decode cX8_init 60 = .ok (.invokespecial 30, 3) := by decide +kernel
theorem dX8_init_63 : decode cX8_init 63 = .ok (.putfield 31, 3) := by decide +kernel
theorem dX8_init_66 : decode cX8_init 66 = .ok (.iconst 0, 1) := by decide +kernel
theorem dX8_init_67 : decode cX8_init 67 = .ok (.istore_n 1, 1) := by decide +kernel
theorem dX8_init_68 : decode cX8_init 68 = .ok (.iload_n 1, 1) := by decide +kernel
theorem dX8_init_69 : decode cX8_init 69 = .ok (.iconst 4, 1) := by decide +kernel
theorem dX8_init_70 : decode cX8_init 70 = .ok (.if_icmp .ge 22, 3) := by decide +kernel
theorem dX8_init_73 : decode cX8_init 73 = .ok (.aload_n 0, 1) := by decide +kernel
theorem dX8_init_74 : decode cX8_init 74 = .ok (.getfield 11, 3) := by decide +kernel
theorem dX8_init_77 : decode cX8_init 77 = .ok (.iload_n 1, 1) := by decide +kernel
theorem dX8_init_78 : decode cX8_init 78 = .ok (.new 9, 3) := by decide +kernel
theorem dX8_init_81 : decode cX8_init 81 = .ok (.dup, 1) := by decide +kernel
theorem dX8_init_82 : decode cX8_init 82 = .ok (.invokespecial 35, 3) := by decide +kernel
theorem dX8_init_85 : decode cX8_init 85 = .ok (.aastore, 1) := by decide +kernel
theorem dX8_init_86 : decode cX8_init 86 = .ok (.iinc 1 1, 3) := by decide +kernel
theorem dX8_init_89 : decode cX8_init 89 = .ok (.goto (-21), 3) := by decide +kernel
theorem dX8_init_92 : decode cX8_init 92 = .ok (.return_, 1) := by decide +kernel
set_option maxRecDepth 20000 in
theorem ggX8_copyFrom_X3_copyFrom : GoodIn wsX8_copyFrom wsX3_copyFrom := goodIn_r _ [19, 20, 21, 22, 23, 24, 25, 26, 27, 28, 29, 30, 31, 32, 33, 34, 35, 36, 37, 38, 18, 39, 40, 41, 42, 43, 44, 45, 46, 47, 48, 86, 87, 88, 89, 90, 91, 92, 93, 94, 95, 96, 97, 98, 99, 100, 101, 102, 103, 104, 105] (by decide +kernel) (by decide +kernel)
set_option maxRecDepth 20000 in
theorem gX8_copyFrom_X3_copyFrom : GoodIn wsX8_copyFrom (wsV RX8 36 RX3 yX3_copyFrom wsX3_copyFrom) := goodIn_app (goodIn_of _ (by decide +kernel)) ggX8_copyFrom_X3_copyFrom
set_option maxRecDepth 20000 in
theorem ggX8_copyFrom_X4_copyFrom : GoodIn wsX8_copyFrom wsX4_copyFrom := goodIn_r _ [53, 54, 55, 6, 7, 8, 56, 57, 106, 107, 108] (by decide +kernel) (by decide +kernel)
set_option maxRecDepth 20000 in
theorem gX8_copyFrom_X4_copyFrom : GoodIn wsX8_copyFrom (wsV RX8 44 RX4 yX4_copyFrom wsX4_copyFrom) := goodIn_app (goodIn_of _ (by decide +kernel)) ggX8_copyFrom_X4_copyFrom
set_option maxRecDepth 20000 in
theorem ggX8_copyFrom_X6_copyFrom : GoodIn wsX8_copyFrom wsX6_copyFrom := goodIn_r _ [62, 63, 64, 65, 66, 67, 68, 69, 70, 71, 72, 73, 74, 75, 109, 110, 111, 112, 113, 114, 115, 116] (by decide +kernel) (by decide +kernel)
set_option maxRecDepth 20000 in
theorem gX8_copyFrom_X6_copyFrom : GoodIn wsX8_copyFrom (wsV RX8 57 RX6 yX6_copyFrom wsX6_copyFrom) := goodIn_app (goodIn_of _ (by decide +kernel)) ggX8_copyFrom_X6_copyFrom
theorem dX8_copyFrom_0 : decode cX8_copyFrom 0 = .ok (.iconst 0, 1) := by decide +kernel
theorem dX8_copyFrom_1 : decode cX8_copyFrom 1 = .ok (.istore_n 2, 1) := by decide +kernel
theorem dX8_copyFrom_2 : decode cX8_copyFrom 2 = .ok (.iload_n 2, 1) := by decide +kernel
theorem dX8_copyFrom_3 : decode cX8_copyFrom 3 = .ok (.iconst 4, 1) := by decide +kernel
theorem dX8_copyFrom_4 : decode cX8_copyFrom 4 = .ok (.if_icmp .ge 24, 3) := by decide +kernel
theorem dX8_copyFrom_7 : decode cX8_copyFrom 7 = .ok (.aload_n 0, 1) := by decide +kernel
theorem dX8_copyFrom_8 : decode cX8_copyFrom 8 = .ok (.getfield 11, 3) := by decide +kernel
theorem dX8_copyFrom_11 : decode cX8_copyFrom 11 = .ok (.iload_n 2, 1) := by decide +kernel
theorem dX8_copyFrom_12 : decode cX8_copyFrom 12 = .ok (.aaload, 1) := by decide +kernel
theorem dX8_copyFrom_13 : decode cX8_copyFrom 13 = .ok (.aload_n 1, 1) := by decide +kernel
theorem dX8_copyFrom_14 : decode cX8_copyFrom 14 = .ok (.getfield 11, 3) := by decide +kernel
theorem dX8_copyFrom_17 : decode cX8_copyFrom 17 = .ok (.iload_n 2, 1) := by decide +kernel
theorem dX8_copyFrom_18 : decode cX8_copyFrom 18 = .ok (.aaload, 1) := by decide +kernel
theorem dX8_copyFrom_19 : decode cX8_copyFrom 19 = .ok (.invokevirtual 36, 3) := by decide +kernel
theorem dX8_copyFrom_22 : decode cX8_copyFrom 22 = .ok (.iinc 2 1, 3) := by decide +kernel
theorem dX8_copyFrom_25 : decode cX8_copyFrom 25 = .ok (.goto (-23), 3) := by decide +kernel
theorem dX8_copyFrom_28 : decode cX8_copyFrom 28 = .ok (.aload_n 0, 1) := by decide +kernel
theorem dX8_copyFrom_29 : decode cX8_copyFrom 29 = .ok (.aload_n 1, 1) := by decide +kernel
theorem dX8_copyFrom_30 : decode cX8_copyFrom 30 = .ok (.getfield 40, 3) := by decide +kernel
theorem dX8_copyFrom_33 : decode cX8_copyFrom 33 = .ok (.putfield 40, 3) := by decide +kernel
theorem dX8_copyFrom_36 : decode cX8_copyFrom 36 = .ok (.aload_n 0, 1) := by decide +kernel
theorem dX8_copyFrom_37 : decode cX8_copyFrom 37 = .ok (.getfield 20, 3) := by decide +kernel
theorem dX8_copyFrom_40 : decode cX8_copyFrom 40 = .ok (.aload_n 1, 1) := by decide +kernel
theorem dX8_copyFrom_41 : decode cX8_copyFrom 41 = .ok (.getfield 20, 3) := by decide +kernel
theorem dX8_copyFrom_44 : decode cX8_copyFrom 44 = .ok (.invokevirtual 44, 3) := by decide +kernel
theorem dX8_copyFrom_47 : decode cX8_copyFrom 47 = .ok (.aload_n 1, 1) := by decide +kernel
theorem dX8_copyFrom_48 : decode cX8_copyFrom 48 = .ok (.getfield 24, 3) := by decide +kernel
theorem dX8_copyFrom_51 : decode cX8_copyFrom 51 = .ok (.iconst 0, 1) := by decide +kernel
theorem dX8_copyFrom_52 : decode cX8_copyFrom 52 = .ok (.aload_n 0, 1) := by decide +kernel
theorem dX8_copyFrom_53 : decode cX8_copyFrom 53 = .ok (.getfield 24, 3) := by decide +kernel
theorem dX8_copyFrom_56 : decode cX8_copyFrom 56 = .ok (.iconst 0, 1) := by decide +kernel
theorem dX8_copyFrom_57 : decode cX8_copyFrom 57 = .ok (.iconst 5, 1) := by decide +kernel
theorem dX8_copyFrom_58 : decode cX8_copyFrom 58 = .ok (.invokestatic 47, 3) := by decide +kernel
theorem dX8_copyFrom_61 : decode cX8_copyFrom 61 = .ok (.aload_n 0, 1) := by decide +kernel
theorem dX8_copyFrom_62 : decode cX8_copyFrom 62 = .ok (.aload_n 1, 1) := by decide +kernel
theorem dX8_copyFrom_63 : decode cX8_copyFrom 63 = .ok (.getfield 53, 3) := by decide +kernel
theorem dX8_copyFrom_66 : decode cX8_copyFrom 66 = .ok (.putfield 53, 3) := by decide +kernel
theorem dX8_copyFrom_69 : decode cX8_copyFrom 69 = .ok (.aload_n 0, 1) := by decide +kernel
theorem dX8_copyFrom_70 : decode cX8_copyFrom 70 = .ok (.getfield 31, 3) := by decide +kernel
theorem dX8_copyFrom_73 : decode cX8_copyFrom 73 = .ok (.aload_n 1, 1) := by decide +kernel
theorem dX8_copyFrom_74 : decode cX8_copyFrom 74 = .ok (.getfield 31, 3) := by decide +kernel
theorem dX8_copyFrom_77 : decode cX8_copyFrom 77 = .ok (.invokevirtual 57, 3) := by decide +kernel
theorem dX8_copyFrom_80 : decode cX8_copyFrom 80 = .ok (.aload_n 0, 1) := by decide +kernel
theorem dX8_copyFrom_81 : decode cX8_copyFrom 81 = .ok (.aload_n 1, 1) := by decide +kernel
theorem dX8_copyFrom_82 : decode cX8_copyFrom 82 = .ok (.getfield 60, 3) := by decide +kernel
theorem dX8_copyFrom_85 : decode cX8_copyFrom 85 = .ok (.putfield 60, 3) := by decide +kernel
theorem dX8_copyFrom_88 : decode cX8_copyFrom 88 = .ok (.aload_n 0, 1) := by decide +kernel
theorem dX8_copyFrom_89 : decode cX8_copyFrom 89 = .ok (.aload_n 1, 1) := by decide +kernel
theorem dX8_copyFrom_90 : decode cX8_copyFrom 90 = .ok (.getfield 63, 3) := by decide +kernel
theorem dX8_copyFrom_93 : decode cX8_copyFrom 93 = .ok (.putfield 63, 3) := by decide +kernel
theorem dX8_copyFrom_96 : decode cX8_copyFrom 96 = .ok (.aload_n 0, 1) := by decide +kernel
theorem dX8_copyFrom_97 : decode cX8_copyFrom 97 = .ok (.aload_n 1, 1) := by decide +kernel
theorem dX8_copyFrom_98 : decode cX8_copyFrom 98 = .ok (.getfield 66, 3) := by decide +kernel
theorem dX8_copyFrom_101 : decode cX8_copyFrom 101 = .ok (.putfield 66, 3) := by decide +kernel
theorem dX8_copyFrom_104 : decode cX8_copyFrom 104 = .ok (.aload_n 0, 1) := by decide +kernel
theorem dX8_copyFrom_105 : decode cX8_copyFrom 105 = .ok (.aload_n 1, 1) := by decide +kernel
theorem dX8_copyFrom_106 : decode cX8_copyFrom 106 = .ok (.getfield 70, 3) := by decide +kernel
theorem dX8_copyFrom_109 : decode cX8_copyFrom 109 = .ok (.putfield 70, 3) := by decide +kernel
theorem dX8_copyFrom_112 : decode cX8_copyFrom 112 = .ok (.return_, 1) := by decide +kernel
theorem dX8_pathAt_0 : decode cX8_pathAt 0 = .ok (.iload_n 1, 1) := by decide +kernel
theorem dX8_pathAt_1 : decode cX8_pathAt 1 = .ok (.ifCond .lt 25, 3) := by decide +kernel
theorem dX8_pathAt_4 : decode cX8_pathAt 4 = .ok (.iload_n 1, 1) := by decide +kernel
theorem dX8_pathAt_5 : decode cX8_pathAt 5 = .ok (.aload_n 0, 1) := by decide +kernel
theorem dX8_pathAt_6 : decode cX8_pathAt 6 = .ok (.getfield 40, 3) := by decide +kernel
theorem dX8_pathAt_9 : decode cX8_pathAt 9 = .ok (.if_icmp .ge 17, 3) := by decide +kernel
theorem dX8_pathAt_12 : decode cX8_pathAt 12 = .ok (.iload_n 1, 1) := by decide +kernel
theorem dX8_pathAt_13 : decode cX8_pathAt 13 = .ok (.iconst 4, 1) := by decide +kernel
theorem dX8_pathAt_14 : decode cX8_pathAt 14 = .ok (.if_icmp .ge 12, 3) := by decide +kernel
theorem dX8_pathAt_17 : decode cX8_pathAt 17 = .ok (.aload_n 0, 1) := by decide +kernel
theorem dX8_pathAt_18 : decode cX8_pathAt 18 = .ok (.getfield 11, 3) := by decide +kernel
theorem dX8_pathAt_21 : decode cX8_pathAt 21 = .ok (.iload_n 1, 1) := by decide +kernel
theorem dX8_pathAt_22 : decode cX8_pathAt 22 = .ok (.aaload, 1) := by decide +kernel
theorem dX8_pathAt_23 : decode cX8_pathAt 23 = .ok (.goto 4, 3) := by decide +kernel
theorem dX8_pathAt_26 : decode cX8_pathAt 26 = .ok (.aconst_null, 1) := by decide +kernel
theorem dX8_pathAt_27 : decode cX8_pathAt 27 = .ok (.areturn, 1) := by decide +kernel
set_option maxRecDepth 20000 in
theorem ggX8_tellShot_X8_pathAt : GoodIn wsX8_tellShot wsX8_pathAt := goodIn_r _ [11, 12, 13, 34, 35, 36, 37, 38, 39, 40, 41, 42, 43] (by decide +kernel) (by decide +kernel)
set_option maxRecDepth 20000 in
theorem gX8_tellShot_X8_pathAt : GoodIn wsX8_tellShot (wsV RX8 73 RX8 yX8_pathAt wsX8_pathAt) := goodIn_app (goodIn_of _ (by decide +kernel)) ggX8_tellShot_X8_pathAt
theorem dX8_tellShot_0 : decode cX8_tellShot 0 = .ok (.aload_n 0, 1) := by decide +kernel
theorem dX8_tellShot_1 : decode cX8_tellShot 1 = .ok (.iload_n 1, 1) := by decide +kernel
theorem dX8_tellShot_2 : decode cX8_tellShot 2 = .ok (.invokevirtual 73, 3) := by decide +kernel
theorem dX8_tellShot_5 : decode cX8_tellShot 5 = .ok (.astore 5, 2) := by decide +kernel
theorem dX8_tellShot_7 : decode cX8_tellShot 7 = .ok (.aload 5, 2) := by decide +kernel
theorem dX8_tellShot_9 : decode cX8_tellShot 9 = .ok (.ifnonnull 4, 3) := by decide +kernel
theorem dX8_tellShot_12 : decode cX8_tellShot 12 = .ok (.return_, 1) := by decide +kernel
theorem dX8_tellShot_13 : decode cX8_tellShot 13 = .ok (.aload 5, 2) := by decide +kernel
theorem dX8_tellShot_15 : decode cX8_tellShot 15 = .ok (.getfield 77, 3) := by decide +kernel
theorem dX8_tellShot_18 : decode cX8_tellShot 18 = .ok (.astore 6, 2) := by decide +kernel
theorem dX8_tellShot_20 : decode cX8_tellShot 20 = .ok (.aload 6, 2) := by decide +kernel
theorem dX8_tellShot_22 : decode cX8_tellShot 22 = .ok (.iconst 1, 1) := by decide +kernel
theorem dX8_tellShot_23 : decode cX8_tellShot 23 = .ok (.putfield 81, 3) := by decide +kernel
theorem dX8_tellShot_26 : decode cX8_tellShot 26 = .ok (.aload 6, 2) := by decide +kernel
theorem dX8_tellShot_28 : decode cX8_tellShot 28 = .ok (.aload_n 0, 1) := by decide +kernel
theorem dX8_tellShot_29 : decode cX8_tellShot 29 = .ok (.getfield 53, 3) := by decide +kernel
theorem dX8_tellShot_32 : decode cX8_tellShot 32 = .ok (.ifCond .eq 7, 3) := by decide +kernel
theorem dX8_tellShot_35 : decode cX8_tellShot 35 = .ok (.iload_n 3, 1) := by decide +kernel
theorem dX8_tellShot_36 : decode cX8_tellShot 36 = .ok (.goto 4, 3) := by decide +kernel
theorem dX8_tellShot_39 : decode cX8_tellShot 39 = .ok (.iload_n 2, 1) := by decide +kernel
theorem dX8_tellShot_40 : decode cX8_tellShot 40 = .ok (.putfield 86, 3) := by decide +kernel
theorem dX8_tellShot_43 : decode cX8_tellShot 43 = .ok (.aload 6, 2) := by decide +kernel
theorem dX8_tellShot_45 : decode cX8_tellShot 45 = .ok (.aload_n 0, 1) := by decide +kernel
theorem dX8_tellShot_46 : decode cX8_tellShot 46 = .ok (.getfield 53, 3) := by decide +kernel
theorem dX8_tellShot_49 : decode cX8_tellShot 49 = .ok (.ifCond .eq 7, 3) := by decide +kernel
theorem dX8_tellShot_52 : decode cX8_tellShot 52 = .ok (.iload_n 2, 1) := by decide +kernel
theorem dX8_tellShot_53 : decode cX8_tellShot 53 = .ok (.goto 4, 3) := by decide +kernel
theorem dX8_tellShot_56 : decode cX8_tellShot 56 = .ok (.iload_n 3, 1) := by decide +kernel
theorem dX8_tellShot_57 : decode cX8_tellShot 57 = .ok (.putfield 89, 3) := by decide +kernel
theorem dX8_tellShot_60 : decode cX8_tellShot 60 = .ok (.aload 6, 2) := by decide +kernel
theorem dX8_tellShot_62 : decode cX8_tellShot 62 = .ok (.iload 4, 2) := by decide +kernel
theorem dX8_tellShot_64 : decode cX8_tellShot 64 = .ok (.putfield 92, 3) := by decide +kernel
theorem dX8_tellShot_67 : decode cX8_tellShot 67 = .ok (.return_, 1) := by decide +kernel
set_option maxRecDepth 20000 in
theorem ggX8_exchangeTimes_X3_exchangeTimes : GoodIn wsX8_exchangeTimes wsX3_exchangeTimes := goodIn_r _ [6, 7, 8, 9, 10, 11, 12, 13, 14, 15, 16, 27, 28, 29, 30, 31, 32, 33, 34, 35, 36, 37, 38, 39, 40, 41, 42, 43, 44, 45, 46] (by decide +kernel) (by decide +kernel)
set_option maxRecDepth 20000 in
theorem gX8_exchangeTimes_X3_exchangeTimes : GoodIn wsX8_exchangeTimes (wsV RX8 95 RX3 yX3_exchangeTimes wsX3_exchangeTimes) := goodIn_app (goodIn_of _ (by decide +kernel)) ggX8_exchangeTimes_X3_exchangeTimes
theorem dX8_exchangeTimes_0 : decode cX8_exchangeTimes 0 = .ok (.aload_n 0, 1) := by decide +kernel
theorem dX8_exchangeTimes_1 : decode cX8_exchangeTimes 1 = .ok (.getfield 11, 3) := by decide +kernel
theorem dX8_exchangeTimes_4 : decode cX8_exchangeTimes 4 = .ok (.astore_n 1, 1) := by decide +kernel
theorem dX8_exchangeTimes_5 : decode cX8_exchangeTimes 5 = .ok (.aload_n 1, 1) := by decide +kernel
theorem dX8_exchangeTimes_6 : decode cX8_exchangeTimes 6 = .ok (.arraylength, 1) := by decide +kernel
theorem dX8_exchangeTimes_7 : decode cX8_exchangeTimes 7 = .ok (.istore_n 2, 1) := by decide +kernel
theorem dX8_exchangeTimes_8 : decode cX8_exchangeTimes 8 = .ok (.iconst 0, 1) := by decide +kernel
theorem dX8_exchangeTimes_9 : decode cX8_exchangeTimes 9 = .ok (.istore_n 3, 1) := by decide +kernel
theorem dX8_exchangeTimes_10 : decode cX8_exchangeTimes 10 = .ok (.iload_n 3, 1) := by decide +kernel
theorem dX8_exchangeTimes_11 : decode cX8_exchangeTimes 11 = .ok (.iload_n 2, 1) := by decide +kernel
theorem dX8_exchangeTimes_12 : decode cX8_exchangeTimes 12 = .ok (.if_icmp .ge 19, 3) := by decide +kernel
theorem dX8_exchangeTimes_15 : decode cX8_exchangeTimes 15 = .ok (.aload_n 1, 1) := by decide +kernel
theorem dX8_exchangeTimes_16 : decode cX8_exchangeTimes 16 = .ok (.iload_n 3, 1) := by decide +kernel
theorem dX8_exchangeTimes_17 : decode cX8_exchangeTimes 17 = .ok (.aaload, 1) := by decide +kernel
theorem dX8_exchangeTimes_18 : decode cX8_exchangeTimes 18 = .ok (.astore 4, 2) := by decide +kernel
theorem dX8_exchangeTimes_20 : decode cX8_exchangeTimes 20 = .ok (.aload 4, 2) := by decide +kernel
theorem dX8_exchangeTimes_22 : decode cX8_exchangeTimes 22 = .ok (.invokevirtual 95, 3) := by decide +kernel
theorem dX8_exchangeTimes_25 : decode cX8_exchangeTimes 25 = .ok (.iinc 3 1, 3) := by decide +kernel
theorem dX8_exchangeTimes_28 : decode cX8_exchangeTimes 28 = .ok (.goto (-18), 3) := by decide +kernel
theorem dX8_exchangeTimes_31 : decode cX8_exchangeTimes 31 = .ok (.return_, 1) := by decide +kernel
set_option maxRecDepth 20000 in
theorem ggX8_toldShots_X10_asNumber : GoodIn wsX8_toldShots wsX10_asNumber := goodIn_r _ [6] (by decide +kernel) (by decide +kernel)
set_option maxRecDepth 20000 in
theorem gX8_toldShots_X10_asNumber_n98 : GoodIn wsX8_toldShots (wsX10_asNumber) := ggX8_toldShots_X10_asNumber
theorem dX8_toldShots_0 : decode cX8_toldShots 0 = .ok (.iconst 0, 1) := by decide +kernel
theorem dX8_toldShots_1 : decode cX8_toldShots 1 = .ok (.istore_n 1, 1) := by decide +kernel
theorem dX8_toldShots_2 : decode cX8_toldShots 2 = .ok (.aload_n 0, 1) := by decide +kernel
theorem dX8_toldShots_3 : decode cX8_toldShots 3 = .ok (.getfield 11, 3) := by decide +kernel
theorem dX8_toldShots_6 : decode cX8_toldShots 6 = .ok (.astore_n 2, 1) := by decide +kernel
theorem dX8_toldShots_7 : decode cX8_toldShots 7 = .ok (.aload_n 2, 1) := by decide +kernel
theorem dX8_toldShots_8 : decode cX8_toldShots 8 = .ok (.arraylength, 1) := by decide +kernel
theorem dX8_toldShots_9 : decode cX8_toldShots 9 = .ok (.istore_n 3, 1) := by decide +kernel
theorem dX8_toldShots_10 : decode cX8_toldShots 10 = .ok (.iconst 0, 1) := by decide +kernel
theorem dX8_toldShots_11 : decode cX8_toldShots 11 = .ok (.istore 4, 2) := by decide +kernel
theorem dX8_toldShots_13 : decode cX8_toldShots 13 = .ok (.iload 4, 2) := by decide +kernel
theorem dX8_toldShots_15 : decode cX8_toldShots 15 = .ok (.iload_n 3, 1) := by decide +kernel
theorem dX8_toldShots_16 : decode cX8_toldShots 16 = .ok (.if_icmp .ge 29, 3) := by decide +kernel
theorem dX8_toldShots_19 : decode cX8_toldShots 19 = .ok (.aload_n 2, 1) := by decide +kernel
theorem dX8_toldShots_20 : decode cX8_toldShots 20 = .ok (.iload 4, 2) := by decide +kernel
theorem dX8_toldShots_22 : decode cX8_toldShots 22 = .ok (.aaload, 1) := by decide +kernel
theorem dX8_toldShots_23 : decode cX8_toldShots 23 = .ok (.astore 5, 2) := by decide +kernel
theorem dX8_toldShots_25 : decode cX8_toldShots 25 = .ok (.iload_n 1, 1) := by decide +kernel
theorem dX8_toldShots_26 : decode cX8_toldShots 26 = .ok (.aload 5, 2) := by decide +kernel
theorem dX8_toldShots_28 : decode cX8_toldShots 28 = .ok (.getfield 77, 3) := by decide +kernel
theorem dX8_toldShots_31 : decode cX8_toldShots 31 = .ok (.getfield 81, 3) := by decide +kernel
theorem dX8_toldShots_34 : decode cX8_toldShots 34 = .ok (.invokestatic 98, 3) := by decide +kernel
theorem dX8_toldShots_37 : decode cX8_toldShots 37 = .ok (.iadd, 1) := by decide +kernel
theorem dX8_toldShots_38 : decode cX8_toldShots 38 = .ok (.istore_n 1, 1) := by decide +kernel
theorem dX8_toldShots_39 : decode cX8_toldShots 39 = .ok (.iinc 4 1, 3) := by decide +kernel
theorem dX8_toldShots_42 : decode cX8_toldShots 42 = .ok (.goto (-29), 3) := by decide +kernel
theorem dX8_toldShots_45 : decode cX8_toldShots 45 = .ok (.iload_n 1, 1) := by decide +kernel
theorem dX8_toldShots_46 : decode cX8_toldShots 46 = .ok (.ireturn, 1) := by decide +kernel
set_option maxRecDepth 20000 in
theorem ggX8_failingPaths_X3_fails : GoodIn wsX8_failingPaths wsX3_fails := goodIn_r _ [6, 7, 21, 22, 23, 24, 25, 26, 27, 28, 29, 30, 31, 32, 33, 34, 35, 36] (by decide +kernel) (by decide +kernel)
set_option maxRecDepth 20000 in
theorem gX8_failingPaths_X3_fails : GoodIn wsX8_failingPaths (wsV RX8 102 RX3 yX3_fails wsX3_fails) := goodIn_app (goodIn_of _ (by decide +kernel)) ggX8_failingPaths_X3_fails
set_option maxRecDepth 20000 in
theorem ggX8_failingPaths_X10_asNumber : GoodIn wsX8_failingPaths wsX10_asNumber := goodIn_r _ [10] (by decide +kernel) (by decide +kernel)
set_option maxRecDepth 20000 in
theorem gX8_failingPaths_X10_asNumber_n98 : GoodIn wsX8_failingPaths (wsX10_asNumber) := ggX8_failingPaths_X10_asNumber
theorem dX8_failingPaths_0 : decode cX8_failingPaths 0 = .ok (.iconst 0, 1) := by decide +kernel
theorem dX8_failingPaths_1 : decode cX8_failingPaths 1 = .ok (.istore_n 1, 1) := by decide +kernel
theorem dX8_failingPaths_2 : decode cX8_failingPaths 2 = .ok (.aload_n 0, 1) := by decide +kernel
theorem dX8_failingPaths_3 : decode cX8_failingPaths 3 = .ok (.getfield 11, 3) := by decide +kernel
theorem dX8_failingPaths_6 : decode cX8_failingPaths 6 = .ok (.astore_n 2, 1) := by decide +kernel
theorem dX8_failingPaths_7 : decode cX8_failingPaths 7 = .ok (.aload_n 2, 1) := by decide +kernel
theorem dX8_failingPaths_8 : decode cX8_failingPaths 8 = .ok (.arraylength, 1) := by decide +kernel
theorem dX8_failingPaths_9 : decode cX8_failingPaths 9 = .ok (.istore_n 3, 1) := by decide +kernel
theorem dX8_failingPaths_10 : decode cX8_failingPaths 10 = .ok (.iconst 0, 1) := by decide +kernel
theorem dX8_failingPaths_11 : decode cX8_failingPaths 11 = .ok (.istore 4, 2) := by decide +kernel
theorem dX8_failingPaths_13 : decode cX8_failingPaths 13 = .ok (.iload 4, 2) := by decide +kernel
theorem dX8_failingPaths_15 : decode cX8_failingPaths 15 = .ok (.iload_n 3, 1) := by decide +kernel
theorem dX8_failingPaths_16 : decode cX8_failingPaths 16 = .ok (.if_icmp .ge 26, 3) := by decide +kernel
theorem dX8_failingPaths_19 : decode cX8_failingPaths 19 = .ok (.aload_n 2, 1) := by decide +kernel
theorem dX8_failingPaths_20 : decode cX8_failingPaths 20 = .ok (.iload 4, 2) := by decide +kernel
theorem dX8_failingPaths_22 : decode cX8_failingPaths 22 = .ok (.aaload, 1) := by decide +kernel
theorem dX8_failingPaths_23 : decode cX8_failingPaths 23 = .ok (.astore 5, 2) := by decide +kernel
theorem dX8_failingPaths_25 : decode cX8_failingPaths 25 = .ok (.iload_n 1, 1) := by decide +kernel
theorem dX8_failingPaths_26 : decode cX8_failingPaths 26 = .ok (.aload 5, 2) := by decide +kernel
theorem dX8_failingPaths_28 : decode cX8_failingPaths 28 = .ok (.invokevirtual 102, 3) := by decide +kernel
theorem dX8_failingPaths_31 : decode cX8_failingPaths 31 = .ok (.invokestatic 98, 3) := by decide +kernel
theorem dX8_failingPaths_34 : decode cX8_failingPaths 34 = .ok (.iadd, 1) := by decide +kernel
theorem dX8_failingPaths_35 : decode cX8_failingPaths 35 = .ok (.istore_n 1, 1) := by decide +kernel
theorem dX8_failingPaths_36 : decode cX8_failingPaths 36 = .ok (.iinc 4 1, 3) := by decide +kernel
theorem dX8_failingPaths_39 : decode cX8_failingPaths 39 = .ok (.goto (-26), 3) := by decide +kernel
theorem dX8_failingPaths_42 : decode cX8_failingPaths 42 = .ok (.iload_n 1, 1) := by decide +kernel
theorem dX8_failingPaths_43 : decode cX8_failingPaths 43 = .ok (.ireturn, 1) := by decide +kernel
set_option maxRecDepth 20000 in
theorem ggX8_placeInTrust_X8_pathAt : GoodIn wsX8_placeInTrust wsX8_pathAt := goodIn_r _ [7, 1, 2, 21, 22, 23, 24, 25, 26, 27, 28, 29, 30] (by decide +kernel) (by decide +kernel)
set_option maxRecDepth 20000 in
theorem gX8_placeInTrust_X8_pathAt : GoodIn wsX8_placeInTrust (wsV RX8 73 RX8 yX8_pathAt wsX8_pathAt) := goodIn_app (goodIn_of _ (by decide +kernel)) ggX8_placeInTrust_X8_pathAt
set_option maxRecDepth 20000 in
theorem ggX8_placeInTrust_X3_isTrustedBefore : GoodIn wsX8_placeInTrust wsX3_isTrustedBefore := goodIn_r _ [12, 13, 14, 15, 16, 17, 18, 19, 11, 20, 31, 32, 33, 34, 35, 36, 37, 38, 39, 40, 41, 42, 43, 44, 45, 46] (by decide +kernel) (by decide +kernel)
set_option maxRecDepth 20000 in
theorem gX8_placeInTrust_X3_isTrustedBefore : GoodIn wsX8_placeInTrust (wsV RX8 106 RX3 yX3_isTrustedBefore wsX3_isTrustedBefore) := goodIn_app (goodIn_of _ (by decide +kernel)) ggX8_placeInTrust_X3_isTrustedBefore
theorem dX8_placeInTrust_0 : decode cX8_placeInTrust 0 = .ok (.aload_n 0, 1) := by decide +kernel
theorem dX8_placeInTrust_1 : decode cX8_placeInTrust 1 = .ok (.iload_n 1, 1) := by decide +kernel
theorem dX8_placeInTrust_2 : decode cX8_placeInTrust 2 = .ok (.invokevirtual 73, 3) := by decide +kernel
theorem dX8_placeInTrust_5 : decode cX8_placeInTrust 5 = .ok (.astore_n 2, 1) := by decide +kernel
theorem dX8_placeInTrust_6 : decode cX8_placeInTrust 6 = .ok (.iconst 0, 1) := by decide +kernel
theorem dX8_placeInTrust_7 : decode cX8_placeInTrust 7 = .ok (.istore_n 3, 1) := by decide +kernel
theorem dX8_placeInTrust_8 : decode cX8_placeInTrust 8 = .ok (.iconst 0, 1) := by decide +kernel
theorem dX8_placeInTrust_9 : decode cX8_placeInTrust 9 = .ok (.istore 4, 2) := by decide +kernel
theorem dX8_placeInTrust_11 : decode cX8_placeInTrust 11 = .ok (.iload 4, 2) := by decide +kernel
theorem dX8_placeInTrust_13 : decode cX8_placeInTrust 13 = .ok (.iconst 4, 1) := by decide +kernel
theorem dX8_placeInTrust_14 : decode cX8_placeInTrust 14 = .ok (.if_icmp .ge 56, 3) := by decide +kernel
theorem dX8_placeInTrust_17 : decode cX8_placeInTrust 17 = .ok (.iload 4, 2) := by decide +kernel
theorem dX8_placeInTrust_19 : decode cX8_placeInTrust 19 = .ok (.aload_n 0, 1) := by decide +kernel
theorem dX8_placeInTrust_20 : decode cX8_placeInTrust 20 = .ok (.getfield 40, 3) := by decide +kernel
theorem dX8_placeInTrust_23 : decode cX8_placeInTrust 23 = .ok (.if_icmp .ge 47, 3) := by decide +kernel
theorem dX8_placeInTrust_26 : decode cX8_placeInTrust 26 = .ok (.aload_n 2, 1) := by decide +kernel
theorem dX8_placeInTrust_27 : decode cX8_placeInTrust 27 = .ok (.ifnull 43, 3) := by decide +kernel
theorem dX8_placeInTrust_30 : decode cX8_placeInTrust 30 = .ok (.iload 4, 2) := by decide +kernel
theorem dX8_placeInTrust_32 : decode cX8_placeInTrust 32 = .ok (.iload_n 1, 1) := by decide +kernel
theorem dX8_placeInTrust_33 : decode cX8_placeInTrust 33 = .ok (.if_icmp .eq 31, 3) := by decide +kernel
theorem dX8_placeInTrust_36 : decode cX8_placeInTrust 36 = .ok (.aload_n 0, 1) := by decide +kernel
theorem dX8_placeInTrust_37 : decode cX8_placeInTrust 37 = .ok (.getfield 11, 3) := by decide +kernel
theorem dX8_placeInTrust_40 : decode cX8_placeInTrust 40 = .ok (.iload 4, 2) := by decide +kernel
theorem dX8_placeInTrust_42 : decode cX8_placeInTrust 42 = .ok (.aaload, 1) := by decide +kernel
theorem dX8_placeInTrust_43 : decode cX8_placeInTrust 43 = .ok (.aload_n 2, 1) := by decide +kernel
theorem dX8_placeInTrust_44 : decode cX8_placeInTrust 44 = .ok (.iload 4, 2) := by decide +kernel
theorem dX8_placeInTrust_46 : decode cX8_placeInTrust 46 = .ok (.iload_n 1, 1) := by decide +kernel
theorem dX8_placeInTrust_47 : decode cX8_placeInTrust 47 = .ok (.if_icmp .ge 7, 3) := by decide +kernel
theorem dX8_placeInTrust_50 : decode cX8_placeInTrust 50 = .ok (.iconst 1, 1) := by decide +kernel
theorem dX8_placeInTrust_51 : decode cX8_placeInTrust 51 = .ok (.goto 4, 3) := by decide +kernel
theorem dX8_placeInTrust_54 : decode cX8_placeInTrust 54 = .ok (.iconst 0, 1) := by decide +kernel
theorem dX8_placeInTrust_55 : decode cX8_placeInTrust 55 = .ok (.invokevirtual 106, 3) := by decide +kernel
theorem dX8_placeInTrust_58 : decode cX8_placeInTrust 58 = .ok (.ifCond .eq 6, 3) := by decide +kernel
theorem dX8_placeInTrust_61 : decode cX8_placeInTrust 61 = .ok (.iinc 3 1, 3) := by decide +kernel
theorem dX8_placeInTrust_64 : decode cX8_placeInTrust 64 = .ok (.iinc 4 1, 3) := by decide +kernel
theorem dX8_placeInTrust_67 : decode cX8_placeInTrust 67 = .ok (.goto (-56), 3) := by decide +kernel
theorem dX8_placeInTrust_70 : decode cX8_placeInTrust 70 = .ok (.iload_n 3, 1) := by decide +kernel
theorem dX8_placeInTrust_71 : decode cX8_placeInTrust 71 = .ok (.ireturn, 1) := by decide +kernel
theorem dX8_countVolume_0 : decode cX8_countVolume 0 = .ok (.iload_n 1, 1) := by decide +kernel
theorem dX8_countVolume_1 : decode cX8_countVolume 1 = .ok (.i2l, 1) := by decide +kernel
theorem dX8_countVolume_2 : decode cX8_countVolume 2 = .ok (.aload_n 0, 1) := by decide +kernel
theorem dX8_countVolume_3 : decode cX8_countVolume 3 = .ok (.getfield 24, 3) := by decide +kernel
theorem dX8_countVolume_6 : decode cX8_countVolume 6 = .ok (.iconst 3, 1) := by decide +kernel
theorem dX8_countVolume_7 : decode cX8_countVolume 7 = .ok (.iaload, 1) := by decide +kernel
theorem dX8_countVolume_8 : decode cX8_countVolume 8 = .ok (.i2l, 1) := by decide +kernel
theorem dX8_countVolume_9 : decode cX8_countVolume 9 = .ok (.lmul, 1) := by decide +kernel
theorem dX8_countVolume_10 : decode cX8_countVolume 10 = .ok (.aload_n 0, 1) := by decide +kernel
theorem dX8_countVolume_11 : decode cX8_countVolume 11 = .ok (.getfield 24, 3) := by decide +kernel
theorem dX8_countVolume_14 : decode cX8_countVolume 14 = .ok (.iconst 4, 1) := by decide +kernel
theorem dX8_countVolume_15 : decode cX8_countVolume 15 = .ok (.iaload, 1) := by decide +kernel
theorem dX8_countVolume_16 : decode cX8_countVolume 16 = .ok (.i2l, 1) := by decide +kernel
theorem dX8_countVolume_17 : decode cX8_countVolume 17 = .ok (.lmul, 1) := by decide +kernel
theorem dX8_countVolume_18 : decode cX8_countVolume 18 = .ok (.ldc2_w 110, 3) := by decide +kernel
theorem dX8_countVolume_21 : decode cX8_countVolume 21 = .ok (.ldiv, 1) := by decide +kernel
theorem dX8_countVolume_22 : decode cX8_countVolume 22 = .ok (.lstore_n 2, 1) := by decide +kernel
theorem dX8_countVolume_23 : decode cX8_countVolume 23 = .ok (.lload_n 2, 1) := by decide +kernel
theorem dX8_countVolume_24 : decode cX8_countVolume 24 = .ok (.lconst 0, 1) := by decide +kernel
theorem dX8_countVolume_25 : decode cX8_countVolume 25 = .ok (.lcmp, 1) := by decide +kernel
theorem dX8_countVolume_26 : decode cX8_countVolume 26 = .ok (.ifCond .le 16, 3) := by decide +kernel
theorem dX8_countVolume_29 : decode cX8_countVolume 29 = .ok (.aload_n 0, 1) := by decide +kernel
theorem dX8_countVolume_30 : decode cX8_countVolume 30 = .ok (.dup, 1) := by decide +kernel
theorem dX8_countVolume_31 : decode cX8_countVolume 31 = .ok (.getfield 66, 3) := by decide +kernel
theorem dX8_countVolume_34 : decode cX8_countVolume 34 = .ok (.lload_n 2, 1) := by decide +kernel
theorem dX8_countVolume_35 : decode cX8_countVolume 35 = .ok (.ladd, 1) := by decide +kernel
theorem dX8_countVolume_36 : decode cX8_countVolume 36 = .ok (.putfield 66, 3) := by decide +kernel
theorem dX8_countVolume_39 : decode cX8_countVolume 39 = .ok (.goto 13, 3) := by decide +kernel
theorem dX8_countVolume_42 : decode cX8_countVolume 42 = .ok (.aload_n 0, 1) := by decide +kernel
theorem dX8_countVolume_43 : decode cX8_countVolume 43 = .ok (.dup, 1) := by decide +kernel
theorem dX8_countVolume_44 : decode cX8_countVolume 44 = .ok (.getfield 70, 3) := by decide +kernel
theorem dX8_countVolume_47 : decode cX8_countVolume 47 = .ok (.lload_n 2, 1) := by decide +kernel
theorem dX8_countVolume_48 : decode cX8_countVolume 48 = .ok (.lsub, 1) := by decide +kernel
theorem dX8_countVolume_49 : decode cX8_countVolume 49 = .ok (.putfield 70, 3) := by decide +kernel
theorem dX8_countVolume_52 : decode cX8_countVolume 52 = .ok (.return_, 1) := by decide +kernel
theorem dX9_init_0 : decode cX9_init 0 = .ok (.aload_n 0, 1) := by decide +kernel
theorem dX9_init_1 : decode cX9_init 1 = .ok (.invokespecial 3, 3) := by decide +kernel
theorem dX9_init_4 : decode cX9_init 4 = .ok (.aload_n 0, 1) := by decide +kernel
theorem dX9_init_5 : decode cX9_init 5 = .ok (.bipush 100, 2) := by decide +kernel
theorem dX9_init_7 : decode cX9_init 7 = .ok (.newarray .int, 2) := by decide +kernel
theorem dX9_init_9 : decode cX9_init 9 = .ok (.putfield 9, 3) := by decide +kernel
theorem dX9_init_12 : decode cX9_init 12 = .ok (.return_, 1) := by decide +kernel
theorem dX9_put_0 : decode cX9_put 0 = .ok (.aload_n 0, 1) := by decide +kernel
theorem dX9_put_1 : decode cX9_put 1 = .ok (.getfield 15, 3) := by decide +kernel
theorem dX9_put_4 : decode cX9_put 4 = .ok (.ifCond .lt 32, 3) := by decide +kernel
theorem dX9_put_7 : decode cX9_put 7 = .ok (.aload_n 0, 1) := by decide +kernel
theorem dX9_put_8 : decode cX9_put 8 = .ok (.getfield 15, 3) := by decide +kernel
theorem dX9_put_11 : decode cX9_put 11 = .ok (.bipush 100, 2) := by decide +kernel
theorem dX9_put_13 : decode cX9_put 13 = .ok (.if_icmp .ge 23, 3) := by decide +kernel
theorem dX9_put_16 : decode cX9_put 16 = .ok (.aload_n 0, 1) := by decide +kernel
theorem dX9_put_17 : decode cX9_put 17 = .ok (.getfield 9, 3) := by decide +kernel
theorem dX9_put_20 : decode cX9_put 20 = .ok (.aload_n 0, 1) := by decide +kernel
theorem dX9_put_21 : decode cX9_put 21 = .ok (.getfield 15, 3) := by decide +kernel
theorem dX9_put_24 : decode cX9_put 24 = .ok (.iload_n 1, 1) := by decide +kernel
theorem dX9_put_25 : decode cX9_put 25 = .ok (.iastore, 1) := by decide +kernel
theorem dX9_put_26 : decode cX9_put 26 = .ok (.aload_n 0, 1) := by decide +kernel
theorem dX9_put_27 : decode cX9_put 27 = .ok (.dup, 1) := by decide +kernel
theorem dX9_put_28 : decode cX9_put 28 = .ok (.getfield 15, 3) := by decide +kernel
theorem dX9_put_31 : decode cX9_put 31 = .ok (.iconst 1, 1) := by decide +kernel
theorem dX9_put_32 : decode cX9_put 32 = .ok (.iadd, 1) := by decide +kernel
theorem dX9_put_33 : decode cX9_put 33 = .ok (.putfield 15, 3) := by decide +kernel
theorem dX9_put_36 : decode cX9_put 36 = .ok (.return_, 1) := by decide +kernel
theorem dX9_at_0 : decode cX9_at 0 = .ok (.iload_n 1, 1) := by decide +kernel
theorem dX9_at_1 : decode cX9_at 1 = .ok (.ifCond .lt 26, 3) := by decide +kernel
theorem dX9_at_4 : decode cX9_at 4 = .ok (.iload_n 1, 1) := by decide +kernel
theorem dX9_at_5 : decode cX9_at 5 = .ok (.aload_n 0, 1) := by decide +kernel
theorem dX9_at_6 : decode cX9_at 6 = .ok (.getfield 15, 3) := by decide +kernel
theorem dX9_at_9 : decode cX9_at 9 = .ok (.if_icmp .ge 18, 3) := by decide +kernel
theorem dX9_at_12 : decode cX9_at 12 = .ok (.iload_n 1, 1) := by decide +kernel
theorem dX9_at_13 : decode cX9_at 13 = .ok (.bipush 100, 2) := by decide +kernel
theorem dX9_at_15 : decode cX9_at 15 = .ok (.if_icmp .ge 12, 3) := by decide +kernel
theorem dX9_at_18 : decode cX9_at 18 = .ok (.aload_n 0, 1) := by decide +kernel
theorem dX9_at_19 : decode cX9_at 19 = .ok (.getfield 9, 3) := by decide +kernel
theorem dX9_at_22 : decode cX9_at 22 = .ok (.iload_n 1, 1) := by decide +kernel
theorem dX9_at_23 : decode cX9_at 23 = .ok (.iaload, 1) := by decide +kernel
theorem dX9_at_24 : decode cX9_at 24 = .ok (.goto 4, 3) := by decide +kernel
theorem dX9_at_27 : decode cX9_at 27 = .ok (.iconst (-1), 1) := by decide +kernel
theorem dX9_at_28 : decode cX9_at 28 = .ok (.ireturn, 1) := by decide +kernel
