theorem dX11_append_42 : decode cX11_append 42 = .ok (.iadd, 1) := by decide +kernel
theorem dX11_append_43 : decode cX11_append 43 = .ok (.putfield 211, 3) := by decide +kernel
theorem dX11_append_46 : decode cX11_append 46 = .ok (.aload_n 0, 1) := by decide +kernel
theorem dX11_append_47 : decode cX11_append 47 = .ok (.getfield 211, 3) := by decide +kernel
theorem dX11_append_50 : decode cX11_append 50 = .ok (.ireturn, 1) := by decide +kernel
theorem dX11_clearText_0 : decode cX11_clearText 0 = .ok (.aload_n 0, 1) := by decide +kernel
theorem dX11_clearText_1 : decode cX11_clearText 1 = .ok (.getfield 211, 3) := by decide +kernel
theorem dX11_clearText_4 : decode cX11_clearText 4 = .ok (.istore_n 1, 1) := by decide +kernel
theorem dX11_clearText_5 : decode cX11_clearText 5 = .ok (.aload_n 0, 1) := by decide +kernel
theorem dX11_clearText_6 : decode cX11_clearText 6 = .ok (.iconst 0, 1) := by decide +kernel
theorem dX11_clearText_7 : decode cX11_clearText 7 = .ok (.putfield 211, 3) := by decide +kernel
theorem dX11_clearText_10 : decode cX11_clearText 10 = .ok (.iload_n 1, 1) := by decide +kernel
theorem dX11_clearText_11 : decode cX11_clearText 11 = .ok (.ireturn, 1) := by decide +kernel
theorem dX11_here_0 : decode cX11_here 0 = .ok (.aload_n 0, 1) := by decide +kernel
theorem dX11_here_1 : decode cX11_here 1 = .ok (.getfield 214, 3) := by decide +kernel
theorem dX11_here_4 : decode cX11_here 4 = .ok (.aload_n 0, 1) := by decide +kernel
theorem dX11_here_5 : decode cX11_here 5 = .ok (.getfield 211, 3) := by decide +kernel
theorem dX11_here_8 : decode cX11_here 8 = .ok (.if_icmp .ge 15, 3) := by decide +kernel
theorem dX11_here_11 : decode cX11_here 11 = .ok (.aload_n 0, 1) := by decide +kernel
theorem dX11_here_12 : decode cX11_here 12 = .ok (.getfield 33, 3) := by decide +kernel
theorem dX11_here_15 : decode cX11_here 15 = .ok (.aload_n 0, 1) := by decide +kernel
theorem dX11_here_16 : decode cX11_here 16 = .ok (.getfield 214, 3) := by decide +kernel
theorem dX11_here_19 : decode cX11_here 19 = .ok (.iaload, 1) := by decide +kernel
theorem dX11_here_20 : decode cX11_here 20 = .ok (.goto 4, 3) := by decide +kernel
theorem dX11_here_23 : decode cX11_here 23 = .ok (.iconst (-1), 1) := by decide +kernel
theorem dX11_here_24 : decode cX11_here 24 = .ok (.ireturn, 1) := by decide +kernel
set_option maxRecDepth 20000 in
theorem ggX11_passes_X11_here : GoodIn wsX11_passes wsX11_here := goodIn_r _ [6, 1, 7, 8, 9, 10, 11, 12, 13, 14, 15, 16, 17, 18, 19, 20, 21, 22, 23, 24, 25, 26, 27, 28, 29, 30, 31, 32, 33] (by decide +kernel) (by decide +kernel)
set_option maxRecDepth 20000 in
theorem gX11_passes_X11_here : GoodIn wsX11_passes (wsV RX11 217 RX11 yX11_here wsX11_here) := goodIn_app (goodIn_of _ (by decide +kernel)) ggX11_passes_X11_here
theorem dX11_passes_0 : decode cX11_passes 0 = .ok (.aload_n 0, 1) := by decide +kernel
theorem dX11_passes_1 : decode cX11_passes 1 = .ok (.invokevirtual 217, 3) := by decide +kernel
theorem dX11_passes_4 : decode cX11_passes 4 = .ok (.iload_n 1, 1) := by decide +kernel
theorem dX11_passes_5 : decode cX11_passes 5 = .ok (.if_icmp .ne 7, 3) := by decide +kernel
theorem dX11_passes_8 : decode cX11_passes 8 = .ok (.iconst 1, 1) := by decide +kernel
theorem dX11_passes_9 : decode cX11_passes 9 = .ok (.goto 4, 3) := by decide +kernel
theorem dX11_passes_12 : decode cX11_passes 12 = .ok (.iconst 0, 1) := by decide +kernel
theorem dX11_passes_13 : decode cX11_passes 13 = .ok (.istore_n 2, 1) := by decide +kernel
theorem dX11_passes_14 : decode cX11_passes 14 = .ok (.aload_n 0, 1) := by decide +kernel
theorem dX11_passes_15 : decode cX11_passes 15 = .ok (.dup, 1) := by decide +kernel
theorem dX11_passes_16 : decode cX11_passes 16 = .ok (.getfield 214, 3) := by decide +kernel
theorem dX11_passes_19 : decode cX11_passes 19 = .ok (.iload_n 2, 1) := by decide +kernel
theorem dX11_passes_20 : decode cX11_passes 20 = .ok (.ifCond .eq 7, 3) := by decide +kernel
theorem dX11_passes_23 : decode cX11_passes 23 = .ok (.iconst 1, 1) := by decide +kernel
theorem dX11_passes_24 : decode cX11_passes 24 = .ok (.goto 4, 3) := by decide +kernel
theorem dX11_passes_27 : decode cX11_passes 27 = .ok (.iconst 0, 1) := by decide +kernel
theorem dX11_passes_28 : decode cX11_passes 28 = .ok (.iadd, 1) := by decide +kernel
theorem dX11_passes_29 : decode cX11_passes 29 = .ok (.putfield 214, 3) := by decide +kernel
theorem dX11_passes_32 : decode cX11_passes 32 = .ok (.iload_n 2, 1) := by decide +kernel
theorem dX11_passes_33 : decode cX11_passes 33 = .ok (.ireturn, 1) := by decide +kernel
set_option maxRecDepth 20000 in
theorem ggX11_readNumber_X11_here : GoodIn wsX11_readNumber wsX11_here := goodIn_r _ [8, 1, 9, 3, 13, 14, 15, 16, 17, 18, 19, 20, 21, 22, 23, 24, 25, 26, 27, 28, 29, 30, 31, 32, 33, 34, 35, 36, 37] (by decide +kernel) (by decide +kernel)
set_option maxRecDepth 20000 in
theorem gX11_readNumber_X11_here : GoodIn wsX11_readNumber (wsV RX11 217 RX11 yX11_here wsX11_here) := goodIn_app (goodIn_of _ (by decide +kernel)) ggX11_readNumber_X11_here
set_option maxRecDepth 20000 in
theorem ggX11_readNumber_X11_in : GoodIn wsX11_readNumber wsX11_in := goodIn_r _ [12] (by decide +kernel) (by decide +kernel)
set_option maxRecDepth 20000 in
theorem gX11_readNumber_X11_in : GoodIn wsX11_readNumber (va_wsS RX11 64 yX11_in wsX11_in) := goodIn_app (goodIn_of _ (by decide +kernel)) ggX11_readNumber_X11_in
theorem dX11_readNumber_0 : decode cX11_readNumber 0 = .ok (.aload_n 0, 1) := by decide +kernel
theorem dX11_readNumber_1 : decode cX11_readNumber 1 = .ok (.getfield 214, 3) := by decide +kernel
theorem dX11_readNumber_4 : decode cX11_readNumber 4 = .ok (.istore 4, 2) := by decide +kernel
theorem dX11_readNumber_6 : decode cX11_readNumber 6 = .ok (.aload_n 0, 1) := by decide +kernel
theorem dX11_readNumber_7 : decode cX11_readNumber 7 = .ok (.getfield 54, 3) := by decide +kernel
theorem dX11_readNumber_10 : decode cX11_readNumber 10 = .ok (.iload_n 1, 1) := by decide +kernel
theorem dX11_readNumber_11 : decode cX11_readNumber 11 = .ok (.iconst 0, 1) := by decide +kernel
theorem dX11_readNumber_12 : decode cX11_readNumber 12 = .ok (.iastore, 1) := by decide +kernel
theorem dX11_readNumber_13 : decode cX11_readNumber 13 = .ok (.aload_n 0, 1) := by decide +kernel
theorem dX11_readNumber_14 : decode cX11_readNumber 14 = .ok (.invokevirtual 217, 3) := by decide +kernel
theorem dX11_readNumber_17 : decode cX11_readNumber 17 = .ok (.bipush 48, 2) := by decide +kernel
theorem dX11_readNumber_19 : decode cX11_readNumber 19 = .ok (.bipush 57, 2) := by decide +kernel
theorem dX11_readNumber_21 : decode cX11_readNumber 21 = .ok (.invokestatic 64, 3) := by decide +kernel
theorem dX11_readNumber_24 : decode cX11_readNumber 24 = .ok (.ifCond .eq 72, 3) := by decide +kernel
theorem dX11_readNumber_27 : decode cX11_readNumber 27 = .ok (.aload_n 0, 1) := by decide +kernel
theorem dX11_readNumber_28 : decode cX11_readNumber 28 = .ok (.getfield 214, 3) := by decide +kernel
theorem dX11_readNumber_31 : decode cX11_readNumber 31 = .ok (.iload 4, 2) := by decide +kernel
theorem dX11_readNumber_33 : decode cX11_readNumber 33 = .ok (.bipush 7, 2) := by decide +kernel
theorem dX11_readNumber_35 : decode cX11_readNumber 35 = .ok (.iadd, 1) := by decide +kernel
theorem dX11_readNumber_36 : decode cX11_readNumber 36 = .ok (.if_icmp .ge 60, 3) := by decide +kernel
theorem dX11_readNumber_39 : decode cX11_readNumber 39 = .ok (.aload_n 0, 1) := by decide +kernel
theorem dX11_readNumber_40 : decode cX11_readNumber 40 = .ok (.getfield 214, 3) := by decide +kernel
theorem dX11_readNumber_43 : decode cX11_readNumber 43 = .ok (.iload 4, 2) := by decide +kernel
theorem dX11_readNumber_45 : decode cX11_readNumber 45 = .ok (.if_icmp .eq 15, 3) := by decide +kernel
theorem dX11_readNumber_48 : decode cX11_readNumber 48 = .ok (.aload_n 0, 1) := by decide +kernel
theorem dX11_readNumber_49 : decode cX11_readNumber 49 = .ok (.getfield 33, 3) := by decide +kernel
theorem dX11_readNumber_52 : decode cX11_readNumber 52 = .ok (.iload 4, 2) := by decide +kernel
theorem dX11_readNumber_54 : decode cX11_readNumber 54 = .ok (.iaload, 1) := by decide +kernel
theorem dX11_readNumber_55 : decode cX11_readNumber 55 = .ok (.bipush 48, 2) := by decide +kernel
theorem dX11_readNumber_57 : decode cX11_readNumber 57 = .ok (.if_icmp .eq 39, 3) := by decide +kernel
theorem dX11_readNumber_60 : decode cX11_readNumber 60 = .ok (.aload_n 0, 1) := by decide +kernel
theorem dX11_readNumber_61 : decode cX11_readNumber 61 = .ok (.getfield 54, 3) := by decide +kernel
theorem dX11_readNumber_64 : decode cX11_readNumber 64 = .ok (.iload_n 1, 1) := by decide +kernel
theorem dX11_readNumber_65 : decode cX11_readNumber 65 = .ok (.bipush 10, 2) := by decide +kernel
theorem dX11_readNumber_67 : decode cX11_readNumber 67 = .ok (.aload_n 0, 1) := by decide +kernel
theorem dX11_readNumber_68 : decode cX11_readNumber 68 = .ok (.getfield 54, 3) := by decide +kernel
theorem dX11_readNumber_71 : decode cX11_readNumber 71 = .ok (.iload_n 1, 1) := by decide +kernel
theorem dX11_readNumber_72 : decode cX11_readNumber 72 = .ok (.iaload, 1) := by decide +kernel
theorem dX11_readNumber_73 : decode cX11_readNumber 73 = .ok (.imul, 1) := by decide +kernel
theorem dX11_readNumber_74 : decode cX11_readNumber 74 = .ok (.aload_n 0, 1) := by decide +kernel
theorem dX11_readNumber_75 : decode cX11_readNumber 75 = .ok (.invokevirtual 217, 3) := by decide +kernel
theorem dX11_readNumber_78 : decode cX11_readNumber 78 = .ok (.iadd, 1) := by decide +kernel
theorem dX11_readNumber_79 : decode cX11_readNumber 79 = .ok (.bipush 48, 2) := by decide +kernel
theorem dX11_readNumber_81 : decode cX11_readNumber 81 = .ok (.isub, 1) := by decide +kernel
theorem dX11_readNumber_82 : decode cX11_readNumber 82 = .ok (.iastore, 1) := by decide +kernel
theorem dX11_readNumber_83 : decode cX11_readNumber 83 = .ok (.aload_n 0, 1) := by decide +kernel
theorem dX11_readNumber_84 : decode cX11_readNumber 84 = .ok (.dup, 1) := by decide +kernel
theorem dX11_readNumber_85 : decode cX11_readNumber 85 = .ok (.getfield 214, 3) := by decide +kernel
theorem dX11_readNumber_88 : decode cX11_readNumber 88 = .ok (.iconst 1, 1) := by decide +kernel
theorem dX11_readNumber_89 : decode cX11_readNumber 89 = .ok (.iadd, 1) := by decide +kernel
theorem dX11_readNumber_90 : decode cX11_readNumber 90 = .ok (.putfield 214, 3) := by decide +kernel
theorem dX11_readNumber_93 : decode cX11_readNumber 93 = .ok (.goto (-80), 3) := by decide +kernel
theorem dX11_readNumber_96 : decode cX11_readNumber 96 = .ok (.aload_n 0, 1) := by decide +kernel
theorem dX11_readNumber_97 : decode cX11_readNumber 97 = .ok (.getfield 214, 3) := by decide +kernel
theorem dX11_readNumber_100 : decode cX11_readNumber 100 = .ok (.iload 4, 2) := by decide +kernel
theorem dX11_readNumber_102 : decode cX11_readNumber 102 = .ok (.if_icmp .le 21, 3) := by decide +kernel
theorem dX11_readNumber_105 : decode cX11_readNumber 105 = .ok (.aload_n 0, 1) := by decide +kernel
theorem dX11_readNumber_106 : decode cX11_readNumber 106 = .ok (.getfield 54, 3) := by decide +kernel
theorem dX11_readNumber_109 : decode cX11_readNumber 109 = .ok (.iload_n 1, 1) := by decide +kernel
theorem dX11_readNumber_110 : decode cX11_readNumber 110 = .ok (.iaload, 1) := by decide +kernel
theorem dX11_readNumber_111 : decode cX11_readNumber 111 = .ok (.iload_n 2, 1) := by decide +kernel
theorem dX11_readNumber_112 : decode cX11_readNumber 112 = .ok (.iload_n 3, 1) := by decide +kernel
theorem dX11_readNumber_113 : decode cX11_readNumber 113 = .ok (.invokestatic 64, 3) := by decide +kernel
theorem dX11_readNumber_116 : decode cX11_readNumber 116 = .ok (.ifCond .eq 7, 3) := by decide +kernel
theorem dX11_readNumber_119 : decode cX11_readNumber 119 = .ok (.iconst 1, 1) := by decide +kernel
theorem dX11_readNumber_120 : decode cX11_readNumber 120 = .ok (.goto 4, 3) := by decide +kernel
theorem dX11_readNumber_123 : decode cX11_readNumber 123 = .ok (.iconst 0, 1) := by decide +kernel
theorem dX11_readNumber_124 : decode cX11_readNumber 124 = .ok (.istore 5, 2) := by decide +kernel
theorem dX11_readNumber_126 : decode cX11_readNumber 126 = .ok (.aload_n 0, 1) := by decide +kernel
theorem dX11_readNumber_127 : decode cX11_readNumber 127 = .ok (.iload 5, 2) := by decide +kernel
theorem dX11_readNumber_129 : decode cX11_readNumber 129 = .ok (.ifCond .eq 10, 3) := by decide +kernel
theorem dX11_readNumber_132 : decode cX11_readNumber 132 = .ok (.aload_n 0, 1) := by decide +kernel
theorem dX11_readNumber_133 : decode cX11_readNumber 133 = .ok (.getfield 214, 3) := by decide +kernel
theorem dX11_readNumber_136 : decode cX11_readNumber 136 = .ok (.goto 5, 3) := by decide +kernel
theorem dX11_readNumber_139 : decode cX11_readNumber 139 = .ok (.iload 4, 2) := by decide +kernel
theorem dX11_readNumber_141 : decode cX11_readNumber 141 = .ok (.putfield 214, 3) := by decide +kernel
theorem dX11_readNumber_144 : decode cX11_readNumber 144 = .ok (.iload 5, 2) := by decide +kernel
theorem dX11_readNumber_146 : decode cX11_readNumber 146 = .ok (.ireturn, 1) := by decide +kernel
set_option maxRecDepth 20000 in
theorem ggX11_readAct_X11_here : GoodIn wsX11_readAct wsX11_here := goodIn_r _ [8, 2, 9, 10, 23, 24, 25, 26, 27, 28, 29, 30, 31, 32, 33, 34, 35, 36, 37, 38, 39, 40, 41, 42, 43, 44, 45, 46, 47] (by decide +kernel) (by decide +kernel)
set_option maxRecDepth 20000 in
theorem gX11_readAct_X11_here : GoodIn wsX11_readAct (wsV RX11 217 RX11 yX11_here wsX11_here) := goodIn_app (goodIn_of _ (by decide +kernel)) ggX11_readAct_X11_here
set_option maxRecDepth 20000 in
theorem ggX11_readAct_X11_readNumber : GoodIn wsX11_readAct wsX11_readNumber := goodIn_r _ [14, 2, 15, 10, 4, 5, 6, 7, 8, 9, 16, 17, 18, 23, 24, 25, 26, 27, 28, 29, 30, 31, 32, 33, 34, 35, 36, 37, 38, 39, 40, 41, 42, 43, 44, 45, 46, 47] (by decide +kernel) (by decide +kernel)
set_option maxRecDepth 20000 in
theorem gX11_readAct_X11_readNumber : GoodIn wsX11_readAct (wsV RX11 223 RX11 yX11_readNumber wsX11_readNumber) := goodIn_app (goodIn_of _ (by decide +kernel)) ggX11_readAct_X11_readNumber
set_option maxRecDepth 20000 in
theorem ggX11_readAct_X11_passes : GoodIn wsX11_readAct wsX11_passes := goodIn_r _ [22, 2, 4, 5, 6, 7, 8, 9, 10, 23, 24, 25, 26, 27, 28, 29, 30, 31, 32, 33, 34, 35, 36, 37, 38, 39, 40, 41, 42, 43, 44, 45, 46, 47] (by decide +kernel) (by decide +kernel)
set_option maxRecDepth 20000 in
theorem gX11_readAct_X11_passes : GoodIn wsX11_readAct (wsV RX11 226 RX11 yX11_passes wsX11_passes) := goodIn_app (goodIn_of _ (by decide +kernel)) ggX11_readAct_X11_passes
theorem dX11_readAct_0 : decode cX11_readAct 0 = .ok (.aload_n 0, 1) := by decide +kernel
theorem dX11_readAct_1 : decode cX11_readAct 1 = .ok (.aload_n 0, 1) := by decide +kernel
theorem dX11_readAct_2 : decode cX11_readAct 2 = .ok (.invokevirtual 217, 3) := by decide +kernel
theorem dX11_readAct_5 : decode cX11_readAct 5 = .ok (.putfield 220, 3) := by decide +kernel
theorem dX11_readAct_8 : decode cX11_readAct 8 = .ok (.aload_n 0, 1) := by decide +kernel
theorem dX11_readAct_9 : decode cX11_readAct 9 = .ok (.getfield 220, 3) := by decide +kernel
theorem dX11_readAct_12 : decode cX11_readAct 12 = .ok (.bipush 115, 2) := by decide +kernel
theorem dX11_readAct_14 : decode cX11_readAct 14 = .ok (.if_icmp .eq 23, 3) := by decide +kernel
theorem dX11_readAct_17 : decode cX11_readAct 17 = .ok (.aload_n 0, 1) := by decide +kernel
theorem dX11_readAct_18 : decode cX11_readAct 18 = .ok (.getfield 220, 3) := by decide +kernel
theorem dX11_readAct_21 : decode cX11_readAct 21 = .ok (.bipush 99, 2) := by decide +kernel
theorem dX11_readAct_23 : decode cX11_readAct 23 = .ok (.if_icmp .eq 14, 3) := by decide +kernel
theorem dX11_readAct_26 : decode cX11_readAct 26 = .ok (.aload_n 0, 1) := by decide +kernel
theorem dX11_readAct_27 : decode cX11_readAct 27 = .ok (.getfield 220, 3) := by decide +kernel
theorem dX11_readAct_30 : decode cX11_readAct 30 = .ok (.bipush 119, 2) := by decide +kernel
theorem dX11_readAct_32 : decode cX11_readAct 32 = .ok (.if_icmp .eq 5, 3) := by decide +kernel
theorem dX11_readAct_35 : decode cX11_readAct 35 = .ok (.iconst 0, 1) := by decide +kernel
theorem dX11_readAct_36 : decode cX11_readAct 36 = .ok (.ireturn, 1) := by decide +kernel
theorem dX11_readAct_37 : decode cX11_readAct 37 = .ok (.aload_n 0, 1) := by decide +kernel
theorem dX11_readAct_38 : decode cX11_readAct 38 = .ok (.dup, 1) := by decide +kernel
theorem dX11_readAct_39 : decode cX11_readAct 39 = .ok (.getfield 214, 3) := by decide +kernel
theorem dX11_readAct_42 : decode cX11_readAct 42 = .ok (.iconst 1, 1) := by decide +kernel
theorem dX11_readAct_43 : decode cX11_readAct 43 = .ok (.iadd, 1) := by decide +kernel
theorem dX11_readAct_44 : decode cX11_readAct 44 = .ok (.putfield 214, 3) := by decide +kernel
theorem dX11_readAct_47 : decode cX11_readAct 47 = .ok (.aload_n 0, 1) := by decide +kernel
theorem dX11_readAct_48 : decode cX11_readAct 48 = .ok (.getfield 220, 3) := by decide +kernel
theorem dX11_readAct_51 : decode cX11_readAct 51 = .ok (.bipush 115, 2) := by decide +kernel
theorem dX11_readAct_53 : decode cX11_readAct 53 = .ok (.if_icmp .ne 77, 3) := by decide +kernel
theorem dX11_readAct_56 : decode cX11_readAct 56 = .ok (.aload_n 0, 1) := by decide +kernel
theorem dX11_readAct_57 : decode cX11_readAct 57 = .ok (.iconst 0, 1) := by decide +kernel
theorem dX11_readAct_58 : decode cX11_readAct 58 = .ok (.iconst 0, 1) := by decide +kernel
theorem dX11_readAct_59 : decode cX11_readAct 59 = .ok (.iconst 3, 1) := by decide +kernel
theorem dX11_readAct_60 : decode cX11_readAct 60 = .ok (.invokevirtual 223, 3) := by decide +kernel
theorem dX11_readAct_63 : decode cX11_readAct 63 = .ok (.ifCond .eq 71, 3) := by decide +kernel
theorem dX11_readAct_66 : decode cX11_readAct 66 = .ok (.aload_n 0, 1) := by decide +kernel
theorem dX11_readAct_67 : decode cX11_readAct 67 = .ok (.bipush 102, 2) := by decide +kernel
theorem dX11_readAct_69 : decode cX11_readAct 69 = .ok (.invokevirtual 226, 3) := by decide +kernel
theorem dX11_readAct_72 : decode cX11_readAct 72 = .ok (.ifCond .eq 62, 3) := by decide +kernel
theorem dX11_readAct_75 : decode cX11_readAct 75 = .ok (.aload_n 0, 1) := by decide +kernel
theorem dX11_readAct_76 : decode cX11_readAct 76 = .ok (.iconst 1, 1) := by decide +kernel
theorem dX11_readAct_77 : decode cX11_readAct 77 = .ok (.sipush 1000, 3) := by decide +kernel
theorem dX11_readAct_80 : decode cX11_readAct 80 = .ok (.ldc 116, 2) := by decide +kernel
theorem dX11_readAct_82 : decode cX11_readAct 82 = .ok (.invokevirtual 223, 3) := by decide +kernel
theorem dX11_readAct_85 : decode cX11_readAct 85 = .ok (.ifCond .eq 49, 3) := by decide +kernel
theorem dX11_readAct_88 : decode cX11_readAct 88 = .ok (.aload_n 0, 1) := by decide +kernel
theorem dX11_readAct_89 : decode cX11_readAct 89 = .ok (.bipush 98, 2) := by decide +kernel
theorem dX11_readAct_91 : decode cX11_readAct 91 = .ok (.invokevirtual 226, 3) := by decide +kernel
theorem dX11_readAct_94 : decode cX11_readAct 94 = .ok (.ifCond .eq 40, 3) := by decide +kernel
theorem dX11_readAct_97 : decode cX11_readAct 97 = .ok (.aload_n 0, 1) := by decide +kernel
theorem dX11_readAct_98 : decode cX11_readAct 98 = .ok (.iconst 2, 1) := by decide +kernel
theorem dX11_readAct_99 : decode cX11_readAct 99 = .ok (.sipush 1000, 3) := by decide +kernel
theorem dX11_readAct_102 : decode cX11_readAct 102 = .ok (.ldc 116, 2) := by decide +kernel
theorem dX11_readAct_104 : decode cX11_readAct 104 = .ok (.invokevirtual 223, 3) := by decide +kernel
theorem dX11_readAct_107 : decode cX11_readAct 107 = .ok (.ifCond .eq 27, 3) := by decide +kernel
theorem dX11_readAct_110 : decode cX11_readAct 110 = .ok (.aload_n 0, 1) := by decide +kernel
theorem dX11_readAct_111 : decode cX11_readAct 111 = .ok (.bipush 113, 2) := by decide +kernel
theorem dX11_readAct_113 : decode cX11_readAct 113 = .ok (.invokevirtual 226, 3) := by decide +kernel
theorem dX11_readAct_116 : decode cX11_readAct 116 = .ok (.ifCond .eq 18, 3) := by decide +kernel
theorem dX11_readAct_119 : decode cX11_readAct 119 = .ok (.aload_n 0, 1) := by decide +kernel
theorem dX11_readAct_120 : decode cX11_readAct 120 = .ok (.iconst 3, 1) := by decide +kernel
theorem dX11_readAct_121 : decode cX11_readAct 121 = .ok (.iconst 0, 1) := by decide +kernel
theorem dX11_readAct_122 : decode cX11_readAct 122 = .ok (.bipush 100, 2) := by decide +kernel
theorem dX11_readAct_124 : decode cX11_readAct 124 = .ok (.invokevirtual 223, 3) := by decide +kernel
theorem dX11_readAct_127 : decode cX11_readAct 127 = .ok (.ifCond .eq 7, 3) := by decide +kernel
theorem dX11_readAct_130 : decode cX11_readAct 130 = .ok (.iconst 1, 1) := by decide +kernel
theorem dX11_readAct_131 : decode cX11_readAct 131 = .ok (.goto 4, 3) := by decide +kernel
theorem dX11_readAct_134 : decode cX11_readAct 134 = .ok (.iconst 0, 1) := by decide +kernel
theorem dX11_readAct_135 : decode cX11_readAct 135 = .ok (.istore_n 1, 1) := by decide +kernel
theorem dX11_readAct_136 : decode cX11_readAct 136 = .ok (.iload_n 1, 1) := by decide +kernel
theorem dX11_readAct_137 : decode cX11_readAct 137 = .ok (.ifCond .eq 16, 3) := by decide +kernel
theorem dX11_readAct_140 : decode cX11_readAct 140 = .ok (.aload_n 0, 1) := by decide +kernel
theorem dX11_readAct_141 : decode cX11_readAct 141 = .ok (.bipush 59, 2) := by decide +kernel
theorem dX11_readAct_143 : decode cX11_readAct 143 = .ok (.invokevirtual 226, 3) := by decide +kernel
theorem dX11_readAct_146 : decode cX11_readAct 146 = .ok (.ifCond .eq 7, 3) := by decide +kernel
theorem dX11_readAct_149 : decode cX11_readAct 149 = .ok (.iconst 1, 1) := by decide +kernel
theorem dX11_readAct_150 : decode cX11_readAct 150 = .ok (.goto 4, 3) := by decide +kernel
theorem dX11_readAct_153 : decode cX11_readAct 153 = .ok (.iconst 0, 1) := by decide +kernel
theorem dX11_readAct_154 : decode cX11_readAct 154 = .ok (.ireturn, 1) := by decide +kernel
set_option maxRecDepth 20000 in
theorem ggX11_faultOf_X11_readAct : GoodIn wsX11_faultOf wsX11_readAct := goodIn_r _ [7, 8, 1, 9, 10, 11, 12, 6, 13, 2, 14, 15, 16, 17, 18, 19, 20, 21, 22, 23, 24, 25, 26, 27, 28, 29, 30, 31, 32, 33, 34, 35, 36, 37, 38, 39, 40, 41, 42, 43, 44, 45, 46, 47, 48, 49, 50, 51] (by decide +kernel) (by decide +kernel)
set_option maxRecDepth 20000 in
theorem gX11_faultOf_X11_readAct : GoodIn wsX11_faultOf (wsV RX11 229 RX11 yX11_readAct wsX11_readAct) := goodIn_app (goodIn_of _ (by decide +kernel)) ggX11_faultOf_X11_readAct
theorem dX11_faultOf_0 : decode cX11_faultOf 0 = .ok (.aload_n 0, 1) := by decide +kernel
theorem dX11_faultOf_1 : decode cX11_faultOf 1 = .ok (.iconst 0, 1) := by decide +kernel
theorem dX11_faultOf_2 : decode cX11_faultOf 2 = .ok (.putfield 214, 3) := by decide +kernel
theorem dX11_faultOf_5 : decode cX11_faultOf 5 = .ok (.aload_n 0, 1) := by decide +kernel
theorem dX11_faultOf_6 : decode cX11_faultOf 6 = .ok (.getfield 214, 3) := by decide +kernel
theorem dX11_faultOf_9 : decode cX11_faultOf 9 = .ok (.aload_n 0, 1) := by decide +kernel
theorem dX11_faultOf_10 : decode cX11_faultOf 10 = .ok (.getfield 211, 3) := by decide +kernel
theorem dX11_faultOf_13 : decode cX11_faultOf 13 = .ok (.if_icmp .ge 15, 3) := by decide +kernel
theorem dX11_faultOf_16 : decode cX11_faultOf 16 = .ok (.aload_n 0, 1) := by decide +kernel
theorem dX11_faultOf_17 : decode cX11_faultOf 17 = .ok (.invokevirtual 229, 3) := by decide +kernel
theorem dX11_faultOf_20 : decode cX11_faultOf 20 = .ok (.ifCond .ne (-15), 3) := by decide +kernel
theorem dX11_faultOf_23 : decode cX11_faultOf 23 = .ok (.aload_n 0, 1) := by decide +kernel
theorem dX11_faultOf_24 : decode cX11_faultOf 24 = .ok (.getfield 214, 3) := by decide +kernel
theorem dX11_faultOf_27 : decode cX11_faultOf 27 = .ok (.ireturn, 1) := by decide +kernel
theorem dX11_faultOf_28 : decode cX11_faultOf 28 = .ok (.iconst (-1), 1) := by decide +kernel
theorem dX11_faultOf_29 : decode cX11_faultOf 29 = .ok (.ireturn, 1) := by decide +kernel
set_option maxRecDepth 20000 in
theorem ggX11_faultPosition_X11_faultOf : GoodIn wsX11_faultPosition wsX11_faultOf := goodIn_r _ [6, 7, 8, 9, 10, 11, 5, 12, 13, 14, 15, 16, 17, 18, 19, 20, 21, 22, 23, 24, 25, 26, 27, 28, 29, 30, 31, 32, 33, 34, 35, 36, 37, 38, 39, 40, 41, 42, 43, 44, 45, 46, 47, 48, 49, 50, 51, 52, 53, 54, 55, 56] (by decide +kernel) (by decide +kernel)
set_option maxRecDepth 20000 in
theorem gX11_faultPosition_X11_faultOf : GoodIn wsX11_faultPosition (wsV RX11 233 RX11 yX11_faultOf wsX11_faultOf) := goodIn_app (goodIn_of _ (by decide +kernel)) ggX11_faultPosition_X11_faultOf
theorem dX11_faultPosition_0 : decode cX11_faultPosition 0 = .ok (.aload_n 0, 1) := by decide +kernel
theorem dX11_faultPosition_1 : decode cX11_faultPosition 1 = .ok (.invokevirtual 233, 3) := by decide +kernel
theorem dX11_faultPosition_4 : decode cX11_faultPosition 4 = .ok (.istore_n 1, 1) := by decide +kernel
theorem dX11_faultPosition_5 : decode cX11_faultPosition 5 = .ok (.iload_n 1, 1) := by decide +kernel
theorem dX11_faultPosition_6 : decode cX11_faultPosition 6 = .ok (.ifCond .ge 8, 3) := by decide +kernel
theorem dX11_faultPosition_9 : decode cX11_faultPosition 9 = .ok (.ldc 77, 2) := by decide +kernel
theorem dX11_faultPosition_11 : decode cX11_faultPosition 11 = .ok (.goto 4, 3) := by decide +kernel
theorem dX11_faultPosition_14 : decode cX11_faultPosition 14 = .ok (.iload_n 1, 1) := by decide +kernel
theorem dX11_faultPosition_15 : decode cX11_faultPosition 15 = .ok (.ireturn, 1) := by decide +kernel
set_option maxRecDepth 20000 in
theorem ggX11_does_X11_whyShot : GoodIn wsX11_does wsX11_whyShot := goodIn_r _ [8, 9, 10, 11, 12, 13, 7, 14, 3, 15, 16, 17, 18, 19, 20, 21, 22, 23, 24, 25, 26, 27, 28, 29, 140, 141, 142, 143, 144, 145, 146, 147, 148, 149, 150, 151, 152, 153, 154, 155, 156, 157, 158, 159, 160, 161, 162, 163, 164] (by decide +kernel) (by decide +kernel)
set_option maxRecDepth 20000 in
theorem gX11_does_X11_whyShot : GoodIn wsX11_does (wsV RX11 128 RX11 yX11_whyShot wsX11_whyShot) := goodIn_app (goodIn_of _ (by decide +kernel)) ggX11_does_X11_whyShot
set_option maxRecDepth 20000 in
theorem ggX11_does_X11_shoots : GoodIn wsX11_does wsX11_shoots := goodIn_r _ [33, 3, 34, 35, 36, 7, 37, 38, 39, 40, 41, 42, 26, 27, 28, 29, 140, 141, 142, 143, 144, 145, 146, 147, 148, 149, 150, 151, 152, 153, 154, 155, 156, 157, 158, 159, 160, 161, 162, 163, 164] (by decide +kernel) (by decide +kernel)
set_option maxRecDepth 20000 in
theorem gX11_does_X11_shoots : GoodIn wsX11_does (wsV RX11 132 RX11 yX11_shoots wsX11_shoots) := goodIn_app (goodIn_of _ (by decide +kernel)) ggX11_does_X11_shoots
set_option maxRecDepth 20000 in
theorem ggX11_does_X11_closes : GoodIn wsX11_does wsX11_closes := goodIn_r _ [46, 3, 42, 47, 48, 49, 50, 51, 7, 52, 53, 54, 55, 56, 57, 58, 59, 60, 61, 62, 63, 64, 65, 66, 26, 27, 28, 29, 67, 68, 69, 70, 71, 72, 73, 74, 75, 76, 77, 78, 79, 80, 81, 82, 83, 84, 85, 86, 87, 88, 89, 90, 91, 92, 93, 94, 95, 96, 97, 98, 99, 100, 101, 102, 103, 104, 105, 106, 107, 108, 109, 110, 111, 112, 113, 114, 115, 116, 117, 118, 119, 120, 121, 122, 123, 124, 125, 126, 127, 34, 35, 36, 37, 128, 129, 130, 131, 140, 141, 142, 143, 144, 145, 146, 147, 148, 149, 150, 151, 152, 153, 154, 155, 156, 157, 158, 159, 160, 161, 162, 163, 164] (by decide +kernel) (by decide +kernel)
set_option maxRecDepth 20000 in
theorem gX11_does_X11_closes : GoodIn wsX11_does (wsV RX11 201 RX11 yX11_closes wsX11_closes) := goodIn_app (goodIn_of _ (by decide +kernel)) ggX11_does_X11_closes
set_option maxRecDepth 20000 in
theorem ggX11_does_X11_swaps : GoodIn wsX11_does wsX11_swaps := goodIn_r _ [135, 3, 42, 26, 27, 28, 7, 29, 136, 137, 138, 139, 34, 35, 36, 37, 140, 141, 142, 143, 144, 145, 146, 147, 148, 149, 150, 151, 152, 153, 154, 155, 156, 157, 158, 159, 160, 161, 162, 163, 164] (by decide +kernel) (by decide +kernel)
set_option maxRecDepth 20000 in
theorem gX11_does_X11_swaps : GoodIn wsX11_does (wsV RX11 208 RX11 yX11_swaps wsX11_swaps) := goodIn_app (goodIn_of _ (by decide +kernel)) ggX11_does_X11_swaps
theorem dX11_does_0 : decode cX11_does 0 = .ok (.aload_n 0, 1) := by decide +kernel
theorem dX11_does_1 : decode cX11_does 1 = .ok (.getfield 220, 3) := by decide +kernel
theorem dX11_does_4 : decode cX11_does 4 = .ok (.bipush 115, 2) := by decide +kernel
theorem dX11_does_6 : decode cX11_does 6 = .ok (.if_icmp .ne 67, 3) := by decide +kernel
theorem dX11_does_9 : decode cX11_does 9 = .ok (.aload_n 0, 1) := by decide +kernel
theorem dX11_does_10 : decode cX11_does 10 = .ok (.aload_n 0, 1) := by decide +kernel
theorem dX11_does_11 : decode cX11_does 11 = .ok (.getfield 54, 3) := by decide +kernel
theorem dX11_does_14 : decode cX11_does 14 = .ok (.iconst 0, 1) := by decide +kernel
theorem dX11_does_15 : decode cX11_does 15 = .ok (.iaload, 1) := by decide +kernel
theorem dX11_does_16 : decode cX11_does 16 = .ok (.aload_n 0, 1) := by decide +kernel
theorem dX11_does_17 : decode cX11_does 17 = .ok (.getfield 54, 3) := by decide +kernel
theorem dX11_does_20 : decode cX11_does 20 = .ok (.iconst 1, 1) := by decide +kernel
theorem dX11_does_21 : decode cX11_does 21 = .ok (.iaload, 1) := by decide +kernel
theorem dX11_does_22 : decode cX11_does 22 = .ok (.aload_n 0, 1) := by decide +kernel
theorem dX11_does_23 : decode cX11_does 23 = .ok (.getfield 54, 3) := by decide +kernel
theorem dX11_does_26 : decode cX11_does 26 = .ok (.iconst 2, 1) := by decide +kernel
theorem dX11_does_27 : decode cX11_does 27 = .ok (.iaload, 1) := by decide +kernel
theorem dX11_does_28 : decode cX11_does 28 = .ok (.aload_n 0, 1) := by decide +kernel
theorem dX11_does_29 : decode cX11_does 29 = .ok (.getfield 54, 3) := by decide +kernel
theorem dX11_does_32 : decode cX11_does 32 = .ok (.iconst 3, 1) := by decide +kernel
theorem dX11_does_33 : decode cX11_does 33 = .ok (.iaload, 1) := by decide +kernel
theorem dX11_does_34 : decode cX11_does 34 = .ok (.invokevirtual 128, 3) := by decide +kernel
theorem dX11_does_37 : decode cX11_does 37 = .ok (.ifCond .ge 5, 3) := by decide +kernel
theorem dX11_does_40 : decode cX11_does 40 = .ok (.iconst 0, 1) := by decide +kernel
theorem dX11_does_41 : decode cX11_does 41 = .ok (.ireturn, 1) := by decide +kernel
theorem dX11_does_42 : decode cX11_does 42 = .ok (.aload_n 0, 1) := by decide +kernel
theorem dX11_does_43 : decode cX11_does 43 = .ok (.aload_n 0, 1) := by decide +kernel
theorem dX11_does_44 : decode cX11_does 44 = .ok (.getfield 54, 3) := by decide +kernel
theorem dX11_does_47 : decode cX11_does 47 = .ok (.iconst 0, 1) := by decide +kernel
theorem dX11_does_48 : decode cX11_does 48 = .ok (.iaload, 1) := by decide +kernel
theorem dX11_does_49 : decode cX11_does 49 = .ok (.aload_n 0, 1) := by decide +kernel
theorem dX11_does_50 : decode cX11_does 50 = .ok (.getfield 54, 3) := by decide +kernel
theorem dX11_does_53 : decode cX11_does 53 = .ok (.iconst 1, 1) := by decide +kernel
theorem dX11_does_54 : decode cX11_does 54 = .ok (.iaload, 1) := by decide +kernel
theorem dX11_does_55 : decode cX11_does 55 = .ok (.aload_n 0, 1) := by decide +kernel
theorem dX11_does_56 : decode cX11_does 56 = .ok (.getfield 54, 3) := by decide +kernel
theorem dX11_does_59 : decode cX11_does 59 = .ok (.iconst 2, 1) := by decide +kernel
theorem dX11_does_60 : decode cX11_does 60 = .ok (.iaload, 1) := by decide +kernel
theorem dX11_does_61 : decode cX11_does 61 = .ok (.aload_n 0, 1) := by decide +kernel
theorem dX11_does_62 : decode cX11_does 62 = .ok (.getfield 54, 3) := by decide +kernel
theorem dX11_does_65 : decode cX11_does 65 = .ok (.iconst 3, 1) := by decide +kernel
theorem dX11_does_66 : decode cX11_does 66 = .ok (.iaload, 1) := by decide +kernel
theorem dX11_does_67 : decode cX11_does 67 = .ok (.invokevirtual 132, 3) := by decide +kernel
theorem dX11_does_70 : decode cX11_does 70 = .ok (.istore_n 1, 1) := by decide +kernel
theorem dX11_does_71 : decode cX11_does 71 = .ok (.iconst 1, 1) := by decide +kernel
theorem dX11_does_72 : decode cX11_does 72 = .ok (.ireturn, 1) := by decide +kernel
theorem dX11_does_73 : decode cX11_does 73 = .ok (.aload_n 0, 1) := by decide +kernel
theorem dX11_does_74 : decode cX11_does 74 = .ok (.getfield 220, 3) := by decide +kernel
theorem dX11_does_77 : decode cX11_does 77 = .ok (.bipush 99, 2) := by decide +kernel
theorem dX11_does_79 : decode cX11_does 79 = .ok (.if_icmp .ne 15, 3) := by decide +kernel
theorem dX11_does_82 : decode cX11_does 82 = .ok (.aload_n 0, 1) := by decide +kernel
theorem dX11_does_83 : decode cX11_does 83 = .ok (.getfield 7, 3) := by decide +kernel
theorem dX11_does_86 : decode cX11_does 86 = .ok (.bipush 64, 2) := by decide +kernel
theorem dX11_does_88 : decode cX11_does 88 = .ok (.iaload, 1) := by decide +kernel
theorem dX11_does_89 : decode cX11_does 89 = .ok (.ifCond .ne 5, 3) := by decide +kernel
theorem dX11_does_92 : decode cX11_does 92 = .ok (.iconst 0, 1) := by decide +kernel
theorem dX11_does_93 : decode cX11_does 93 = .ok (.ireturn, 1) := by decide +kernel
theorem dX11_does_94 : decode cX11_does 94 = .ok (.aload_n 0, 1) := by decide +kernel
theorem dX11_does_95 : decode cX11_does 95 = .ok (.getfield 220, 3) := by decide +kernel
theorem dX11_does_98 : decode cX11_does 98 = .ok (.bipush 99, 2) := by decide +kernel
theorem dX11_does_100 : decode cX11_does 100 = .ok (.if_icmp .ne 10, 3) := by decide +kernel
theorem dX11_does_103 : decode cX11_does 103 = .ok (.aload_n 0, 1) := by decide +kernel
theorem dX11_does_104 : decode cX11_does 104 = .ok (.invokevirtual 201, 3) := by decide +kernel
theorem dX11_does_107 : decode cX11_does 107 = .ok (.goto 7, 3) := by decide +kernel
theorem dX11_does_110 : decode cX11_does 110 = .ok (.aload_n 0, 1) := by decide +kernel
theorem dX11_does_111 : decode cX11_does 111 = .ok (.invokevirtual 208, 3) := by decide +kernel
theorem dX11_does_114 : decode cX11_does 114 = .ok (.istore_n 1, 1) := by decide +kernel
theorem dX11_does_115 : decode cX11_does 115 = .ok (.iconst 1, 1) := by decide +kernel
theorem dX11_does_116 : decode cX11_does 116 = .ok (.ireturn, 1) := by decide +kernel
set_option maxRecDepth 20000 in
theorem ggX11_run_X11_faultOf : GoodIn wsX11_run wsX11_faultOf := goodIn_r _ [8, 2, 3, 9, 10, 11, 7, 12, 13, 14, 15, 16, 17, 18, 19, 20, 21, 22, 23, 24, 25, 26, 27, 28, 29, 30, 31, 175, 176, 177, 178, 179, 180, 181, 182, 183, 184, 185, 186, 187, 188, 189, 190, 191, 192, 193, 194, 195, 196, 197, 198, 199] (by decide +kernel) (by decide +kernel)
set_option maxRecDepth 20000 in
theorem gX11_run_X11_faultOf : GoodIn wsX11_run (wsV RX11 233 RX11 yX11_faultOf wsX11_faultOf) := goodIn_app (goodIn_of _ (by decide +kernel)) ggX11_run_X11_faultOf
set_option maxRecDepth 20000 in
theorem ggX11_run_X11_records : GoodIn wsX11_run wsX11_records := goodIn_r _ [35, 36, 37, 38, 39, 40, 175, 176, 177, 178, 179, 180, 181, 182, 183, 184, 185, 186, 187, 188, 189, 190, 191, 192, 193, 194, 195, 196, 197, 198, 199] (by decide +kernel) (by decide +kernel)
set_option maxRecDepth 20000 in
theorem gX11_run_X11_records : GoodIn wsX11_run (wsV RX11 70 RX11 yX11_records wsX11_records) := goodIn_app (goodIn_of _ (by decide +kernel)) ggX11_run_X11_records
set_option maxRecDepth 20000 in
theorem ggX11_run_X11_readAct : GoodIn wsX11_run wsX11_readAct := goodIn_r _ [12, 13, 2, 14, 15, 16, 17, 7, 18, 3, 19, 20, 21, 22, 23, 24, 25, 26, 27, 28, 29, 30, 31, 175, 176, 177, 178, 179, 180, 181, 182, 183, 184, 185, 186, 187, 188, 189, 190, 191, 192, 193, 194, 195, 196, 197, 198, 199] (by decide +kernel) (by decide +kernel)
set_option maxRecDepth 20000 in
theorem gX11_run_X11_readAct : GoodIn wsX11_run (wsV RX11 229 RX11 yX11_readAct wsX11_readAct) := goodIn_app (goodIn_of _ (by decide +kernel)) ggX11_run_X11_readAct
set_option maxRecDepth 20000 in
theorem ggX11_run_X11_does : GoodIn wsX11_run wsX11_does := goodIn_r _ [44, 13, 24, 39, 45, 46, 47, 7, 48, 49, 50, 51, 52, 53, 54, 25, 26, 27, 55, 56, 57, 14, 58, 59, 60, 61, 62, 63, 64, 65, 66, 67, 68, 69, 70, 71, 72, 73, 74, 75, 76, 77, 78, 79, 80, 81, 82, 83, 40, 84, 85, 86, 87, 88, 89, 90, 91, 92, 93, 94, 95, 96, 97, 98, 99, 100, 101, 102, 103, 104, 105, 106, 107, 108, 109, 110, 111, 112, 113, 114, 115, 116, 117, 118, 119, 120, 121, 122, 123, 124, 125, 126, 127, 128, 129, 130, 131, 132, 133, 134, 135, 136, 137, 138, 139, 140, 141, 142, 143, 144, 145, 146, 147, 148, 149, 150, 151, 152, 153, 154, 155, 156, 157, 158, 159, 160, 161, 162, 163, 164, 165, 166, 167, 168, 169, 170, 171, 172, 173, 174, 175, 176, 177, 178, 179, 180, 181, 182, 183, 184, 185, 186, 187, 188, 189, 190, 191, 192, 193, 194, 195, 196, 197, 198, 199] (by decide +kernel) (by decide +kernel)
set_option maxRecDepth 20000 in
theorem gX11_run_X11_does : GoodIn wsX11_run (wsV RX11 236 RX11 yX11_does wsX11_does) := goodIn_app (goodIn_of _ (by decide +kernel)) ggX11_run_X11_does
theorem dX11_run_0 : decode cX11_run 0 = .ok (.aload_n 0, 1) := by decide +kernel
theorem dX11_run_1 : decode cX11_run 1 = .ok (.invokevirtual 233, 3) := by decide +kernel
theorem dX11_run_4 : decode cX11_run 4 = .ok (.ifCond .lt 6, 3) := by decide +kernel
theorem dX11_run_7 : decode cX11_run 7 = .ok (.ldc 98, 2) := by decide +kernel
theorem dX11_run_9 : decode cX11_run 9 = .ok (.ireturn, 1) := by decide +kernel
theorem dX11_run_10 : decode cX11_run 10 = .ok (.aload_n 0, 1) := by decide +kernel
theorem dX11_run_11 : decode cX11_run 11 = .ok (.invokevirtual 70, 3) := by decide +kernel
theorem dX11_run_14 : decode cX11_run 14 = .ok (.aload_n 0, 1) := by decide +kernel
theorem dX11_run_15 : decode cX11_run 15 = .ok (.iconst 0, 1) := by decide +kernel
theorem dX11_run_16 : decode cX11_run 16 = .ok (.putfield 214, 3) := by decide +kernel
theorem dX11_run_19 : decode cX11_run 19 = .ok (.iconst 0, 1) := by decide +kernel
theorem dX11_run_20 : decode cX11_run 20 = .ok (.istore_n 1, 1) := by decide +kernel
theorem dX11_run_21 : decode cX11_run 21 = .ok (.aload_n 0, 1) := by decide +kernel
theorem dX11_run_22 : decode cX11_run 22 = .ok (.getfield 214, 3) := by decide +kernel
theorem dX11_run_25 : decode cX11_run 25 = .ok (.aload_n 0, 1) := by decide +kernel
theorem dX11_run_26 : decode cX11_run 26 = .ok (.getfield 211, 3) := by decide +kernel
theorem dX11_run_29 : decode cX11_run 29 = .ok (.if_icmp .ge 23, 3) := by decide +kernel
theorem dX11_run_32 : decode cX11_run 32 = .ok (.aload_n 0, 1) := by decide +kernel
theorem dX11_run_33 : decode cX11_run 33 = .ok (.invokevirtual 229, 3) := by decide +kernel
theorem dX11_run_36 : decode cX11_run 36 = .ok (.ifCond .eq 16, 3) := by decide +kernel
theorem dX11_run_39 : decode cX11_run 39 = .ok (.aload_n 0, 1) := by decide +kernel
theorem dX11_run_40 : decode cX11_run 40 = .ok (.invokevirtual 236, 3) := by decide +kernel
theorem dX11_run_43 : decode cX11_run 43 = .ok (.ifCond .eq 9, 3) := by decide +kernel
theorem dX11_run_46 : decode cX11_run 46 = .ok (.iinc 1 1, 3) := by decide +kernel
theorem dX11_run_49 : decode cX11_run 49 = .ok (.goto (-28), 3) := by decide +kernel
theorem dX11_run_52 : decode cX11_run 52 = .ok (.iload_n 1, 1) := by decide +kernel
theorem dX11_run_53 : decode cX11_run 53 = .ok (.ireturn, 1) := by decide +kernel
theorem dX11_undo_0 : decode cX11_undo 0 = .ok (.aload_n 0, 1) := by decide +kernel
theorem dX11_undo_1 : decode cX11_undo 1 = .ok (.getfield 60, 3) := by decide +kernel
theorem dX11_undo_4 : decode cX11_undo 4 = .ok (.ifCond .ne 6, 3) := by decide +kernel
theorem dX11_undo_7 : decode cX11_undo 7 = .ok (.ldc 98, 2) := by decide +kernel
theorem dX11_undo_9 : decode cX11_undo 9 = .ok (.ireturn, 1) := by decide +kernel
theorem dX11_undo_10 : decode cX11_undo 10 = .ok (.aload_n 0, 1) := by decide +kernel
theorem dX11_undo_11 : decode cX11_undo 11 = .ok (.dup, 1) := by decide +kernel
theorem dX11_undo_12 : decode cX11_undo 12 = .ok (.getfield 60, 3) := by decide +kernel
theorem dX11_undo_15 : decode cX11_undo 15 = .ok (.iconst 1, 1) := by decide +kernel
theorem dX11_undo_16 : decode cX11_undo 16 = .ok (.isub, 1) := by decide +kernel
theorem dX11_undo_17 : decode cX11_undo 17 = .ok (.putfield 60, 3) := by decide +kernel
theorem dX11_undo_20 : decode cX11_undo 20 = .ok (.iconst 0, 1) := by decide +kernel
theorem dX11_undo_21 : decode cX11_undo 21 = .ok (.istore_n 1, 1) := by decide +kernel
theorem dX11_undo_22 : decode cX11_undo 22 = .ok (.iload_n 1, 1) := by decide +kernel
theorem dX11_undo_23 : decode cX11_undo 23 = .ok (.sipush 159, 3) := by decide +kernel
theorem dX11_undo_26 : decode cX11_undo 26 = .ok (.if_icmp .ge 30, 3) := by decide +kernel
theorem dX11_undo_29 : decode cX11_undo 29 = .ok (.aload_n 0, 1) := by decide +kernel
theorem dX11_undo_30 : decode cX11_undo 30 = .ok (.getfield 7, 3) := by decide +kernel
theorem dX11_undo_33 : decode cX11_undo 33 = .ok (.iload_n 1, 1) := by decide +kernel
theorem dX11_undo_34 : decode cX11_undo 34 = .ok (.aload_n 0, 1) := by decide +kernel
theorem dX11_undo_35 : decode cX11_undo 35 = .ok (.getfield 17, 3) := by decide +kernel
theorem dX11_undo_38 : decode cX11_undo 38 = .ok (.sipush 159, 3) := by decide +kernel
theorem dX11_undo_41 : decode cX11_undo 41 = .ok (.aload_n 0, 1) := by decide +kernel
theorem dX11_undo_42 : decode cX11_undo 42 = .ok (.getfield 60, 3) := by decide +kernel
theorem dX11_undo_45 : decode cX11_undo 45 = .ok (.imul, 1) := by decide +kernel
theorem dX11_undo_46 : decode cX11_undo 46 = .ok (.iload_n 1, 1) := by decide +kernel
theorem dX11_undo_47 : decode cX11_undo 47 = .ok (.iadd, 1) := by decide +kernel
theorem dX11_undo_48 : decode cX11_undo 48 = .ok (.iaload, 1) := by decide +kernel
theorem dX11_undo_49 : decode cX11_undo 49 = .ok (.iastore, 1) := by decide +kernel
theorem dX11_undo_50 : decode cX11_undo 50 = .ok (.iinc 1 1, 3) := by decide +kernel
theorem dX11_undo_53 : decode cX11_undo 53 = .ok (.goto (-31), 3) := by decide +kernel
theorem dX11_undo_56 : decode cX11_undo 56 = .ok (.aload_n 0, 1) := by decide +kernel
theorem dX11_undo_57 : decode cX11_undo 57 = .ok (.getfield 13, 3) := by decide +kernel
theorem dX11_undo_60 : decode cX11_undo 60 = .ok (.iconst 0, 1) := by decide +kernel
theorem dX11_undo_61 : decode cX11_undo 61 = .ok (.aload_n 0, 1) := by decide +kernel
theorem dX11_undo_62 : decode cX11_undo 62 = .ok (.getfield 20, 3) := by decide +kernel
theorem dX11_undo_65 : decode cX11_undo 65 = .ok (.iconst 2, 1) := by decide +kernel
theorem dX11_undo_66 : decode cX11_undo 66 = .ok (.aload_n 0, 1) := by decide +kernel
theorem dX11_undo_67 : decode cX11_undo 67 = .ok (.getfield 60, 3) := by decide +kernel
theorem dX11_undo_70 : decode cX11_undo 70 = .ok (.imul, 1) := by decide +kernel
theorem dX11_undo_71 : decode cX11_undo 71 = .ok (.laload, 1) := by decide +kernel
theorem dX11_undo_72 : decode cX11_undo 72 = .ok (.lastore, 1) := by decide +kernel
theorem dX11_undo_73 : decode cX11_undo 73 = .ok (.aload_n 0, 1) := by decide +kernel
theorem dX11_undo_74 : decode cX11_undo 74 = .ok (.getfield 13, 3) := by decide +kernel
theorem dX11_undo_77 : decode cX11_undo 77 = .ok (.iconst 1, 1) := by decide +kernel
theorem dX11_undo_78 : decode cX11_undo 78 = .ok (.aload_n 0, 1) := by decide +kernel
theorem dX11_undo_79 : decode cX11_undo 79 = .ok (.getfield 20, 3) := by decide +kernel
theorem dX11_undo_82 : decode cX11_undo 82 = .ok (.iconst 2, 1) := by decide +kernel
theorem dX11_undo_83 : decode cX11_undo 83 = .ok (.aload_n 0, 1) := by decide +kernel
theorem dX11_undo_84 : decode cX11_undo 84 = .ok (.getfield 60, 3) := by decide +kernel
theorem dX11_undo_87 : decode cX11_undo 87 = .ok (.imul, 1) := by decide +kernel
theorem dX11_undo_88 : decode cX11_undo 88 = .ok (.iconst 1, 1) := by decide +kernel
theorem dX11_undo_89 : decode cX11_undo 89 = .ok (.iadd, 1) := by decide +kernel
theorem dX11_undo_90 : decode cX11_undo 90 = .ok (.laload, 1) := by decide +kernel
theorem dX11_undo_91 : decode cX11_undo 91 = .ok (.lastore, 1) := by decide +kernel
theorem dX11_undo_92 : decode cX11_undo 92 = .ok (.aload_n 0, 1) := by decide +kernel
theorem dX11_undo_93 : decode cX11_undo 93 = .ok (.getfield 60, 3) := by decide +kernel
theorem dX11_undo_96 : decode cX11_undo 96 = .ok (.ireturn, 1) := by decide +kernel
set_option maxRecDepth 20000 in
theorem ggX11_save_X11_in : GoodIn wsX11_save wsX11_in := goodIn_r _ [10] (by decide +kernel) (by decide +kernel)
set_option maxRecDepth 20000 in
theorem gX11_save_X11_in : GoodIn wsX11_save (va_wsS RX11 64 yX11_in wsX11_in) := goodIn_app (goodIn_of _ (by decide +kernel)) ggX11_save_X11_in
theorem dX11_save_0 : decode cX11_save 0 = .ok (.iload_n 1, 1) := by decide +kernel
theorem dX11_save_1 : decode cX11_save 1 = .ok (.iconst 0, 1) := by decide +kernel
theorem dX11_save_2 : decode cX11_save 2 = .ok (.iconst 1, 1) := by decide +kernel
theorem dX11_save_3 : decode cX11_save 3 = .ok (.invokestatic 64, 3) := by decide +kernel
theorem dX11_save_6 : decode cX11_save 6 = .ok (.ifCond .ne 6, 3) := by decide +kernel
theorem dX11_save_9 : decode cX11_save 9 = .ok (.ldc 82, 2) := by decide +kernel
theorem dX11_save_11 : decode cX11_save 11 = .ok (.ireturn, 1) := by decide +kernel
theorem dX11_save_12 : decode cX11_save 12 = .ok (.iconst 0, 1) := by decide +kernel
theorem dX11_save_13 : decode cX11_save 13 = .ok (.istore_n 2, 1) := by decide +kernel
theorem dX11_save_14 : decode cX11_save 14 = .ok (.iload_n 2, 1) := by decide +kernel
theorem dX11_save_15 : decode cX11_save 15 = .ok (.sipush 159, 3) := by decide +kernel
theorem dX11_save_18 : decode cX11_save 18 = .ok (.if_icmp .ge 27, 3) := by decide +kernel
theorem dX11_save_21 : decode cX11_save 21 = .ok (.aload_n 0, 1) := by decide +kernel
theorem dX11_save_22 : decode cX11_save 22 = .ok (.getfield 23, 3) := by decide +kernel
theorem dX11_save_25 : decode cX11_save 25 = .ok (.sipush 159, 3) := by decide +kernel
theorem dX11_save_28 : decode cX11_save 28 = .ok (.iload_n 1, 1) := by decide +kernel
theorem dX11_save_29 : decode cX11_save 29 = .ok (.imul, 1) := by decide +kernel
theorem dX11_save_30 : decode cX11_save 30 = .ok (.iload_n 2, 1) := by decide +kernel
theorem dX11_save_31 : decode cX11_save 31 = .ok (.iadd, 1) := by decide +kernel
theorem dX11_save_32 : decode cX11_save 32 = .ok (.aload_n 0, 1) := by decide +kernel
theorem dX11_save_33 : decode cX11_save 33 = .ok (.getfield 7, 3) := by decide +kernel
theorem dX11_save_36 : decode cX11_save 36 = .ok (.iload_n 2, 1) := by decide +kernel
theorem dX11_save_37 : decode cX11_save 37 = .ok (.iaload, 1) := by decide +kernel
theorem dX11_save_38 : decode cX11_save 38 = .ok (.iastore, 1) := by decide +kernel
theorem dX11_save_39 : decode cX11_save 39 = .ok (.iinc 2 1, 3) := by decide +kernel
theorem dX11_save_42 : decode cX11_save 42 = .ok (.goto (-28), 3) := by decide +kernel
theorem dX11_save_45 : decode cX11_save 45 = .ok (.aload_n 0, 1) := by decide +kernel
theorem dX11_save_46 : decode cX11_save 46 = .ok (.getfield 26, 3) := by decide +kernel
theorem dX11_save_49 : decode cX11_save 49 = .ok (.iconst 2, 1) := by decide +kernel
theorem dX11_save_50 : decode cX11_save 50 = .ok (.iload_n 1, 1) := by decide +kernel
theorem dX11_save_51 : decode cX11_save 51 = .ok (.imul, 1) := by decide +kernel
theorem dX11_save_52 : decode cX11_save 52 = .ok (.aload_n 0, 1) := by decide +kernel
theorem dX11_save_53 : decode cX11_save 53 = .ok (.getfield 13, 3) := by decide +kernel
theorem dX11_save_56 : decode cX11_save 56 = .ok (.iconst 0, 1) := by decide +kernel
theorem dX11_save_57 : decode cX11_save 57 = .ok (.laload, 1) := by decide +kernel
theorem dX11_save_58 : decode cX11_save 58 = .ok (.lastore, 1) := by decide +kernel
theorem dX11_save_59 : decode cX11_save 59 = .ok (.aload_n 0, 1) := by decide +kernel
theorem dX11_save_60 : decode cX11_save 60 = .ok (.getfield 26, 3) := by decide +kernel
theorem dX11_save_63 : decode cX11_save 63 = .ok (.iconst 2, 1) := by decide +kernel
theorem dX11_save_64 : decode cX11_save 64 = .ok (.iload_n 1, 1) := by decide +kernel
theorem dX11_save_65 : decode cX11_save 65 = .ok (.imul, 1) := by decide +kernel
theorem dX11_save_66 : decode cX11_save 66 = .ok (.iconst 1, 1) := by decide +kernel
theorem dX11_save_67 : decode cX11_save 67 = .ok (.iadd, 1) := by decide +kernel
theorem dX11_save_68 : decode cX11_save 68 = .ok (.aload_n 0, 1) := by decide +kernel
theorem dX11_save_69 : decode cX11_save 69 = .ok (.getfield 13, 3) := by decide +kernel
theorem dX11_save_72 : decode cX11_save 72 = .ok (.iconst 1, 1) := by decide +kernel
theorem dX11_save_73 : decode cX11_save 73 = .ok (.laload, 1) := by decide +kernel
theorem dX11_save_74 : decode cX11_save 74 = .ok (.lastore, 1) := by decide +kernel
theorem dX11_save_75 : decode cX11_save 75 = .ok (.aload_n 0, 1) := by decide +kernel
theorem dX11_save_76 : decode cX11_save 76 = .ok (.getfield 29, 3) := by decide +kernel
theorem dX11_save_79 : decode cX11_save 79 = .ok (.iload_n 1, 1) := by decide +kernel
theorem dX11_save_80 : decode cX11_save 80 = .ok (.iconst 1, 1) := by decide +kernel
theorem dX11_save_81 : decode cX11_save 81 = .ok (.bastore, 1) := by decide +kernel
theorem dX11_save_82 : decode cX11_save 82 = .ok (.aload_n 0, 1) := by decide +kernel
theorem dX11_save_83 : decode cX11_save 83 = .ok (.getfield 7, 3) := by decide +kernel
theorem dX11_save_86 : decode cX11_save 86 = .ok (.bipush 84, 2) := by decide +kernel
theorem dX11_save_88 : decode cX11_save 88 = .ok (.iaload, 1) := by decide +kernel
theorem dX11_save_89 : decode cX11_save 89 = .ok (.ireturn, 1) := by decide +kernel
set_option maxRecDepth 20000 in
theorem ggX11_restore_X11_in : GoodIn wsX11_restore wsX11_in := goodIn_r _ [11] (by decide +kernel) (by decide +kernel)
set_option maxRecDepth 20000 in
theorem gX11_restore_X11_in : GoodIn wsX11_restore (va_wsS RX11 64 yX11_in wsX11_in) := goodIn_app (goodIn_of _ (by decide +kernel)) ggX11_restore_X11_in
set_option maxRecDepth 20000 in
theorem ggX11_restore_X11_records : GoodIn wsX11_restore wsX11_records := goodIn_r _ [15, 16, 17, 18, 4, 6, 19, 20, 21, 22, 23, 24, 25, 26, 27, 28, 29, 30, 31, 32, 33, 34, 35, 36, 37, 38, 39, 40, 41, 42, 43] (by decide +kernel) (by decide +kernel)
set_option maxRecDepth 20000 in
theorem gX11_restore_X11_records : GoodIn wsX11_restore (wsV RX11 70 RX11 yX11_records wsX11_records) := goodIn_app (goodIn_of _ (by decide +kernel)) ggX11_restore_X11_records
theorem dX11_restore_0 : decode cX11_restore 0 = .ok (.iload_n 1, 1) := by decide +kernel
theorem dX11_restore_1 : decode cX11_restore 1 = .ok (.iconst 0, 1) := by decide +kernel
theorem dX11_restore_2 : decode cX11_restore 2 = .ok (.iconst 1, 1) := by decide +kernel
theorem dX11_restore_3 : decode cX11_restore 3 = .ok (.invokestatic 64, 3) := by decide +kernel
theorem dX11_restore_6 : decode cX11_restore 6 = .ok (.ifCond .ne 6, 3) := by decide +kernel
theorem dX11_restore_9 : decode cX11_restore 9 = .ok (.ldc 82, 2) := by decide +kernel
theorem dX11_restore_11 : decode cX11_restore 11 = .ok (.ireturn, 1) := by decide +kernel
theorem dX11_restore_12 : decode cX11_restore 12 = .ok (.aload_n 0, 1) := by decide +kernel
theorem dX11_restore_13 : decode cX11_restore 13 = .ok (.getfield 29, 3) := by decide +kernel
theorem dX11_restore_16 : decode cX11_restore 16 = .ok (.iload_n 1, 1) := by decide +kernel
theorem dX11_restore_17 : decode cX11_restore 17 = .ok (.baload, 1) := by decide +kernel
theorem dX11_restore_18 : decode cX11_restore 18 = .ok (.ifCond .ne 6, 3) := by decide +kernel
theorem dX11_restore_21 : decode cX11_restore 21 = .ok (.ldc 98, 2) := by decide +kernel
theorem dX11_restore_23 : decode cX11_restore 23 = .ok (.ireturn, 1) := by decide +kernel
theorem dX11_restore_24 : decode cX11_restore 24 = .ok (.aload_n 0, 1) := by decide +kernel
theorem dX11_restore_25 : decode cX11_restore 25 = .ok (.invokevirtual 70, 3) := by decide +kernel
theorem dX11_restore_28 : decode cX11_restore 28 = .ok (.iconst 0, 1) := by decide +kernel
theorem dX11_restore_29 : decode cX11_restore 29 = .ok (.istore_n 2, 1) := by decide +kernel
theorem dX11_restore_30 : decode cX11_restore 30 = .ok (.iload_n 2, 1) := by decide +kernel
theorem dX11_restore_31 : decode cX11_restore 31 = .ok (.sipush 159, 3) := by decide +kernel
theorem dX11_restore_34 : decode cX11_restore 34 = .ok (.if_icmp .ge 27, 3) := by decide +kernel
theorem dX11_restore_37 : decode cX11_restore 37 = .ok (.aload_n 0, 1) := by decide +kernel
theorem dX11_restore_38 : decode cX11_restore 38 = .ok (.getfield 7, 3) := by decide +kernel
theorem dX11_restore_41 : decode cX11_restore 41 = .ok (.iload_n 2, 1) := by decide +kernel
theorem dX11_restore_42 : decode cX11_restore 42 = .ok (.aload_n 0, 1) := by decide +kernel
theorem dX11_restore_43 : decode cX11_restore 43 = .ok (.getfield 23, 3) := by decide +kernel
theorem dX11_restore_46 : decode cX11_restore 46 = .ok (.sipush 159, 3) := by decide +kernel
theorem dX11_restore_49 : decode cX11_restore 49 = .ok (.iload_n 1, 1) := by decide +kernel
theorem dX11_restore_50 : decode cX11_restore 50 = .ok (.imul, 1) := by decide +kernel
theorem dX11_restore_51 : decode cX11_restore 51 = .ok (.iload_n 2, 1) := by decide +kernel
theorem dX11_restore_52 : decode cX11_restore 52 = .ok (.iadd, 1) := by decide +kernel
theorem dX11_restore_53 : decode cX11_restore 53 = .ok (.iaload, 1) := by decide +kernel
theorem dX11_restore_54 : decode cX11_restore 54 = .ok (.iastore, 1) := by decide +kernel
theorem dX11_restore_55 : decode cX11_restore 55 = .ok (.iinc 2 1, 3) := by decide +kernel
theorem dX11_restore_58 : decode cX11_restore 58 = .ok (.goto (-28), 3) := by decide +kernel
theorem dX11_restore_61 : decode cX11_restore 61 = .ok (.aload_n 0, 1) := by decide +kernel
theorem dX11_restore_62 : decode cX11_restore 62 = .ok (.getfield 13, 3) := by decide +kernel
theorem dX11_restore_65 : decode cX11_restore 65 = .ok (.iconst 0, 1) := by decide +kernel
theorem dX11_restore_66 : decode cX11_restore 66 = .ok (.aload_n 0, 1) := by decide +kernel
theorem dX11_restore_67 : decode cX11_restore 67 = .ok (.getfield 26, 3) := by decide +kernel
theorem dX11_restore_70 : decode cX11_restore 70 = .ok (.iconst 2, 1) := by decide +kernel
theorem dX11_restore_71 : decode cX11_restore 71 = .ok (.iload_n 1, 1) := by decide +kernel
theorem dX11_restore_72 : decode cX11_restore 72 = .ok (.imul, 1) := by decide +kernel
theorem dX11_restore_73 : decode cX11_restore 73 = .ok (.laload, 1) := by decide +kernel
theorem dX11_restore_74 : decode cX11_restore 74 = .ok (.lastore, 1) := by decide +kernel
theorem dX11_restore_75 : decode cX11_restore 75 = .ok (.aload_n 0, 1) := by decide +kernel
theorem dX11_restore_76 : decode cX11_restore 76 = .ok (.getfield 13, 3) := by decide +kernel
theorem dX11_restore_79 : decode cX11_restore 79 = .ok (.iconst 1, 1) := by decide +kernel
theorem dX11_restore_80 : decode cX11_restore 80 = .ok (.aload_n 0, 1) := by decide +kernel
theorem dX11_restore_81 : decode cX11_restore 81 = .ok (.getfield 26, 3) := by decide +kernel
theorem dX11_restore_84 : decode cX11_restore 84 = .ok (.iconst 2, 1) := by decide +kernel
theorem dX11_restore_85 : decode cX11_restore 85 = .ok (.iload_n 1, 1) := by decide +kernel
theorem dX11_restore_86 : decode cX11_restore 86 = .ok (.imul, 1) := by decide +kernel
theorem dX11_restore_87 : decode cX11_restore 87 = .ok (.iconst 1, 1) := by decide +kernel
theorem dX11_restore_88 : decode cX11_restore 88 = .ok (.iadd, 1) := by decide +kernel
theorem dX11_restore_89 : decode cX11_restore 89 = .ok (.laload, 1) := by decide +kernel
theorem dX11_restore_90 : decode cX11_restore 90 = .ok (.lastore, 1) := by decide +kernel
theorem dX11_restore_91 : decode cX11_restore 91 = .ok (.aload_n 0, 1) := by decide +kernel
theorem dX11_restore_92 : decode cX11_restore 92 = .ok (.getfield 7, 3) := by decide +kernel
theorem dX11_restore_95 : decode cX11_restore 95 = .ok (.bipush 84, 2) := by decide +kernel
theorem dX11_restore_97 : decode cX11_restore 97 = .ok (.iaload, 1) := by decide +kernel
theorem dX11_restore_98 : decode cX11_restore 98 = .ok (.ireturn, 1) := by decide +kernel
set_option maxRecDepth 20000 in
theorem ggX11_fails_X11_of : GoodIn wsX11_fails wsX11_of := goodIn_r _ [5, 6, 7, 8, 9, 10, 11, 12, 13, 14, 15, 16, 17, 18, 19, 20, 21, 22, 23, 24, 25, 26, 27, 28, 29, 30, 31] (by decide +kernel) (by decide +kernel)
set_option maxRecDepth 20000 in
theorem gX11_fails_X11_of : GoodIn wsX11_fails (wsV RX11 83 RX11 yX11_of wsX11_of) := goodIn_app (goodIn_of _ (by decide +kernel)) ggX11_fails_X11_of
theorem dX11_fails_0 : decode cX11_fails 0 = .ok (.aload_n 0, 1) := by decide +kernel
theorem dX11_fails_1 : decode cX11_fails 1 = .ok (.iload_n 1, 1) := by decide +kernel
theorem dX11_fails_2 : decode cX11_fails 2 = .ok (.bipush 10, 2) := by decide +kernel
theorem dX11_fails_4 : decode cX11_fails 4 = .ok (.invokevirtual 83, 3) := by decide +kernel
theorem dX11_fails_7 : decode cX11_fails 7 = .ok (.iconst 3, 1) := by decide +kernel
theorem dX11_fails_8 : decode cX11_fails 8 = .ok (.if_icmp .lt 7, 3) := by decide +kernel
theorem dX11_fails_11 : decode cX11_fails 11 = .ok (.iconst 1, 1) := by decide +kernel
theorem dX11_fails_12 : decode cX11_fails 12 = .ok (.goto 4, 3) := by decide +kernel
theorem dX11_fails_15 : decode cX11_fails 15 = .ok (.iconst 0, 1) := by decide +kernel
theorem dX11_fails_16 : decode cX11_fails 16 = .ok (.ireturn, 1) := by decide +kernel
set_option maxRecDepth 20000 in
theorem ggX11_path_X11_isPath : GoodIn wsX11_path wsX11_isPath := goodIn_r _ [7, 8, 9, 10, 6, 11, 20, 21, 22, 23, 24, 25, 26, 27, 28, 29, 30, 31, 32, 33, 34, 35, 36, 37, 38, 39, 40, 41, 42, 43, 44] (by decide +kernel) (by decide +kernel)
set_option maxRecDepth 20000 in
theorem gX11_path_X11_isPath : GoodIn wsX11_path (wsV RX11 78 RX11 yX11_isPath wsX11_isPath) := goodIn_app (goodIn_of _ (by decide +kernel)) ggX11_path_X11_isPath
set_option maxRecDepth 20000 in
theorem ggX11_path_X11_in : GoodIn wsX11_path wsX11_in := goodIn_r _ [11] (by decide +kernel) (by decide +kernel)
set_option maxRecDepth 20000 in
theorem gX11_path_X11_in : GoodIn wsX11_path (va_wsS RX11 64 yX11_in wsX11_in) := goodIn_app (goodIn_of _ (by decide +kernel)) ggX11_path_X11_in
set_option maxRecDepth 20000 in
theorem ggX11_path_X11_fails : GoodIn wsX11_path wsX11_fails := goodIn_r _ [15, 16, 17, 18, 6, 19, 8, 20, 21, 22, 23, 24, 25, 26, 27, 28, 29, 30, 31, 32, 33, 34, 35, 36, 37, 38, 39, 40, 41, 42, 43, 44] (by decide +kernel) (by decide +kernel)
set_option maxRecDepth 20000 in
theorem gX11_path_X11_fails : GoodIn wsX11_path (wsV RX11 239 RX11 yX11_fails wsX11_fails) := goodIn_app (goodIn_of _ (by decide +kernel)) ggX11_path_X11_fails
set_option maxRecDepth 20000 in
theorem ggX11_path_X11_of : GoodIn wsX11_path wsX11_of := goodIn_r _ [19, 8, 20, 21, 22, 23, 24, 25, 26, 27, 28, 29, 30, 31, 32, 33, 34, 35, 36, 37, 38, 39, 40, 41, 42, 43, 44] (by decide +kernel) (by decide +kernel)
set_option maxRecDepth 20000 in
theorem gX11_path_X11_of : GoodIn wsX11_path (wsV RX11 83 RX11 yX11_of wsX11_of) := goodIn_app (goodIn_of _ (by decide +kernel)) ggX11_path_X11_of
theorem dX11_path_0 : decode cX11_path 0 = .ok (.aload_n 0, 1) := by decide +kernel
theorem dX11_path_1 : decode cX11_path 1 = .ok (.iload_n 1, 1) := by decide +kernel
theorem dX11_path_2 : decode cX11_path 2 = .ok (.invokevirtual 78, 3) := by decide +kernel
theorem dX11_path_5 : decode cX11_path 5 = .ok (.ifCond .ne 6, 3) := by decide +kernel
theorem dX11_path_8 : decode cX11_path 8 = .ok (.ldc 82, 2) := by decide +kernel
theorem dX11_path_10 : decode cX11_path 10 = .ok (.ireturn, 1) := by decide +kernel
theorem dX11_path_11 : decode cX11_path 11 = .ok (.iload_n 2, 1) := by decide +kernel
theorem dX11_path_12 : decode cX11_path 12 = .ok (.iconst 0, 1) := by decide +kernel
theorem dX11_path_13 : decode cX11_path 13 = .ok (.bipush 13, 2) := by decide +kernel
theorem dX11_path_15 : decode cX11_path 15 = .ok (.invokestatic 64, 3) := by decide +kernel
theorem dX11_path_18 : decode cX11_path 18 = .ok (.ifCond .ne 6, 3) := by decide +kernel
theorem dX11_path_21 : decode cX11_path 21 = .ok (.ldc 68, 2) := by decide +kernel
theorem dX11_path_23 : decode cX11_path 23 = .ok (.ireturn, 1) := by decide +kernel
theorem dX11_path_24 : decode cX11_path 24 = .ok (.iload_n 2, 1) := by decide +kernel
theorem dX11_path_25 : decode cX11_path 25 = .ok (.bipush 13, 2) := by decide +kernel
theorem dX11_path_27 : decode cX11_path 27 = .ok (.if_icmp .ne 19, 3) := by decide +kernel
theorem dX11_path_30 : decode cX11_path 30 = .ok (.aload_n 0, 1) := by decide +kernel
theorem dX11_path_31 : decode cX11_path 31 = .ok (.iload_n 1, 1) := by decide +kernel
theorem dX11_path_32 : decode cX11_path 32 = .ok (.invokevirtual 239, 3) := by decide +kernel
theorem dX11_path_35 : decode cX11_path 35 = .ok (.ifCond .eq 7, 3) := by decide +kernel
theorem dX11_path_38 : decode cX11_path 38 = .ok (.iconst 1, 1) := by decide +kernel
theorem dX11_path_39 : decode cX11_path 39 = .ok (.goto 13, 3) := by decide +kernel
theorem dX11_path_42 : decode cX11_path 42 = .ok (.iconst 0, 1) := by decide +kernel
theorem dX11_path_43 : decode cX11_path 43 = .ok (.goto 9, 3) := by decide +kernel
theorem dX11_path_46 : decode cX11_path 46 = .ok (.aload_n 0, 1) := by decide +kernel
theorem dX11_path_47 : decode cX11_path 47 = .ok (.iload_n 1, 1) := by decide +kernel
theorem dX11_path_48 : decode cX11_path 48 = .ok (.iload_n 2, 1) := by decide +kernel
theorem dX11_path_49 : decode cX11_path 49 = .ok (.invokevirtual 83, 3) := by decide +kernel
theorem dX11_path_52 : decode cX11_path 52 = .ok (.ireturn, 1) := by decide +kernel
set_option maxRecDepth 20000 in
theorem ggX11_told_X11_isPath : GoodIn wsX11_told wsX11_isPath := goodIn_r _ [8, 9, 10, 11, 7, 12, 17, 18, 19, 20, 21, 22, 23, 24, 25, 26, 27, 28, 29, 30, 31, 32, 33, 34, 35, 36, 37, 38, 39, 40, 41] (by decide +kernel) (by decide +kernel)
set_option maxRecDepth 20000 in
theorem gX11_told_X11_isPath : GoodIn wsX11_told (wsV RX11 78 RX11 yX11_isPath wsX11_isPath) := goodIn_app (goodIn_of _ (by decide +kernel)) ggX11_told_X11_isPath
set_option maxRecDepth 20000 in
theorem ggX11_told_X11_in : GoodIn wsX11_told wsX11_in := goodIn_r _ [12] (by decide +kernel) (by decide +kernel)
set_option maxRecDepth 20000 in
theorem gX11_told_X11_in : GoodIn wsX11_told (va_wsS RX11 64 yX11_in wsX11_in) := goodIn_app (goodIn_of _ (by decide +kernel)) ggX11_told_X11_in
set_option maxRecDepth 20000 in
theorem ggX11_told_X11_of : GoodIn wsX11_told wsX11_of := goodIn_r _ [16, 9, 17, 18, 19, 20, 21, 22, 23, 24, 25, 26, 27, 28, 29, 30, 31, 32, 33, 34, 35, 36, 37, 38, 39, 40, 41] (by decide +kernel) (by decide +kernel)
set_option maxRecDepth 20000 in
theorem gX11_told_X11_of : GoodIn wsX11_told (wsV RX11 83 RX11 yX11_of wsX11_of) := goodIn_app (goodIn_of _ (by decide +kernel)) ggX11_told_X11_of
theorem dX11_told_0 : decode cX11_told 0 = .ok (.aload_n 0, 1) := by decide +kernel
theorem dX11_told_1 : decode cX11_told 1 = .ok (.iload_n 1, 1) := by decide +kernel
theorem dX11_told_2 : decode cX11_told 2 = .ok (.invokevirtual 78, 3) := by decide +kernel
theorem dX11_told_5 : decode cX11_told 5 = .ok (.ifCond .ne 6, 3) := by decide +kernel
theorem dX11_told_8 : decode cX11_told 8 = .ok (.ldc 82, 2) := by decide +kernel
theorem dX11_told_10 : decode cX11_told 10 = .ok (.ireturn, 1) := by decide +kernel
theorem dX11_told_11 : decode cX11_told 11 = .ok (.iload_n 2, 1) := by decide +kernel
theorem dX11_told_12 : decode cX11_told 12 = .ok (.iconst 0, 1) := by decide +kernel
theorem dX11_told_13 : decode cX11_told 13 = .ok (.iconst 2, 1) := by decide +kernel
theorem dX11_told_14 : decode cX11_told 14 = .ok (.invokestatic 64, 3) := by decide +kernel
theorem dX11_told_17 : decode cX11_told 17 = .ok (.ifCond .ne 6, 3) := by decide +kernel
theorem dX11_told_20 : decode cX11_told 20 = .ok (.ldc 68, 2) := by decide +kernel
theorem dX11_told_22 : decode cX11_told 22 = .ok (.ireturn, 1) := by decide +kernel
theorem dX11_told_23 : decode cX11_told 23 = .ok (.aload_n 0, 1) := by decide +kernel
theorem dX11_told_24 : decode cX11_told 24 = .ok (.iload_n 1, 1) := by decide +kernel
theorem dX11_told_25 : decode cX11_told 25 = .ok (.bipush 13, 2) := by decide +kernel
theorem dX11_told_27 : decode cX11_told 27 = .ok (.invokevirtual 83, 3) := by decide +kernel
theorem dX11_told_30 : decode cX11_told 30 = .ok (.ldc 77, 2) := by decide +kernel
theorem dX11_told_32 : decode cX11_told 32 = .ok (.if_icmp .ne 8, 3) := by decide +kernel
theorem dX11_told_35 : decode cX11_told 35 = .ok (.ldc 77, 2) := by decide +kernel
theorem dX11_told_37 : decode cX11_told 37 = .ok (.goto 12, 3) := by decide +kernel
theorem dX11_told_40 : decode cX11_told 40 = .ok (.aload_n 0, 1) := by decide +kernel
theorem dX11_told_41 : decode cX11_told 41 = .ok (.iload_n 1, 1) := by decide +kernel
theorem dX11_told_42 : decode cX11_told 42 = .ok (.bipush 13, 2) := by decide +kernel
theorem dX11_told_44 : decode cX11_told 44 = .ok (.iload_n 2, 1) := by decide +kernel
theorem dX11_told_45 : decode cX11_told 45 = .ok (.iadd, 1) := by decide +kernel
theorem dX11_told_46 : decode cX11_told 46 = .ok (.invokevirtual 83, 3) := by decide +kernel
theorem dX11_told_49 : decode cX11_told 49 = .ok (.ireturn, 1) := by decide +kernel
set_option maxRecDepth 20000 in
theorem ggX11_sound_X11_isPath : GoodIn wsX11_sound wsX11_isPath := goodIn_r _ [10, 11, 12, 13, 9, 14, 19, 20, 21, 22, 23, 24, 25, 26, 27, 28, 29, 30, 31, 32, 33, 34, 35, 36, 37, 38, 39, 40, 41, 42, 43] (by decide +kernel) (by decide +kernel)
set_option maxRecDepth 20000 in
theorem gX11_sound_X11_isPath : GoodIn wsX11_sound (wsV RX11 78 RX11 yX11_isPath wsX11_isPath) := goodIn_app (goodIn_of _ (by decide +kernel)) ggX11_sound_X11_isPath
set_option maxRecDepth 20000 in
theorem ggX11_sound_X11_of : GoodIn wsX11_sound wsX11_of := goodIn_r _ [18, 11, 19, 20, 21, 22, 23, 24, 25, 26, 27, 28, 29, 30, 31, 32, 33, 34, 35, 36, 37, 38, 39, 40, 41, 42, 43] (by decide +kernel) (by decide +kernel)
set_option maxRecDepth 20000 in
theorem gX11_sound_X11_of : GoodIn wsX11_sound (wsV RX11 83 RX11 yX11_of wsX11_of) := goodIn_app (goodIn_of _ (by decide +kernel)) ggX11_sound_X11_of
theorem dX11_sound_0 : decode cX11_sound 0 = .ok (.aload_n 0, 1) := by decide +kernel
theorem dX11_sound_1 : decode cX11_sound 1 = .ok (.iload_n 1, 1) := by decide +kernel
theorem dX11_sound_2 : decode cX11_sound 2 = .ok (.invokevirtual 78, 3) := by decide +kernel
theorem dX11_sound_5 : decode cX11_sound 5 = .ok (.ifCond .ne 7, 3) := by decide +kernel
theorem dX11_sound_8 : decode cX11_sound 8 = .ok (.ldc2_w 242, 3) := by decide +kernel
theorem dX11_sound_11 : decode cX11_sound 11 = .ok (.lreturn, 1) := by decide +kernel
theorem dX11_sound_12 : decode cX11_sound 12 = .ok (.aload_n 0, 1) := by decide +kernel
theorem dX11_sound_13 : decode cX11_sound 13 = .ok (.iload_n 1, 1) := by decide +kernel
theorem dX11_sound_14 : decode cX11_sound 14 = .ok (.iconst 5, 1) := by decide +kernel
theorem dX11_sound_15 : decode cX11_sound 15 = .ok (.invokevirtual 83, 3) := by decide +kernel
theorem dX11_sound_18 : decode cX11_sound 18 = .ok (.ldc 77, 2) := by decide +kernel
theorem dX11_sound_20 : decode cX11_sound 20 = .ok (.if_icmp .ne 7, 3) := by decide +kernel
theorem dX11_sound_23 : decode cX11_sound 23 = .ok (.ldc2_w 244, 3) := by decide +kernel
theorem dX11_sound_26 : decode cX11_sound 26 = .ok (.lreturn, 1) := by decide +kernel
theorem dX11_sound_27 : decode cX11_sound 27 = .ok (.aload_n 0, 1) := by decide +kernel
theorem dX11_sound_28 : decode cX11_sound 28 = .ok (.iload_n 1, 1) := by decide +kernel
theorem dX11_sound_29 : decode cX11_sound 29 = .ok (.iconst 5, 1) := by decide +kernel
theorem dX11_sound_30 : decode cX11_sound 30 = .ok (.invokevirtual 83, 3) := by decide +kernel
theorem dX11_sound_33 : decode cX11_sound 33 = .ok (.aload_n 0, 1) := by decide +kernel
theorem dX11_sound_34 : decode cX11_sound 34 = .ok (.iload_n 1, 1) := by decide +kernel
theorem dX11_sound_35 : decode cX11_sound 35 = .ok (.iconst 4, 1) := by decide +kernel
theorem dX11_sound_36 : decode cX11_sound 36 = .ok (.invokevirtual 83, 3) := by decide +kernel
theorem dX11_sound_39 : decode cX11_sound 39 = .ok (.isub, 1) := by decide +kernel
theorem dX11_sound_40 : decode cX11_sound 40 = .ok (.i2l, 1) := by decide +kernel
theorem dX11_sound_41 : decode cX11_sound 41 = .ok (.lstore_n 2, 1) := by decide +kernel
theorem dX11_sound_42 : decode cX11_sound 42 = .ok (.aload_n 0, 1) := by decide +kernel
theorem dX11_sound_43 : decode cX11_sound 43 = .ok (.iload_n 1, 1) := by decide +kernel
theorem dX11_sound_44 : decode cX11_sound 44 = .ok (.bipush 6, 2) := by decide +kernel
theorem dX11_sound_46 : decode cX11_sound 46 = .ok (.invokevirtual 83, 3) := by decide +kernel
theorem dX11_sound_49 : decode cX11_sound 49 = .ok (.aload_n 0, 1) := by decide +kernel
theorem dX11_sound_50 : decode cX11_sound 50 = .ok (.iload_n 1, 1) := by decide +kernel
theorem dX11_sound_51 : decode cX11_sound 51 = .ok (.iconst 4, 1) := by decide +kernel
theorem dX11_sound_52 : decode cX11_sound 52 = .ok (.invokevirtual 83, 3) := by decide +kernel
theorem dX11_sound_55 : decode cX11_sound 55 = .ok (.isub, 1) := by decide +kernel
theorem dX11_sound_56 : decode cX11_sound 56 = .ok (.i2l, 1) := by decide +kernel
theorem dX11_sound_57 : decode cX11_sound 57 = .ok (.lstore 4, 2) := by decide +kernel
theorem dX11_sound_59 : decode cX11_sound 59 = .ok (.aload_n 0, 1) := by decide +kernel
theorem dX11_sound_60 : decode cX11_sound 60 = .ok (.iload_n 1, 1) := by decide +kernel
theorem dX11_sound_61 : decode cX11_sound 61 = .ok (.iconst 0, 1) := by decide +kernel
theorem dX11_sound_62 : decode cX11_sound 62 = .ok (.invokevirtual 83, 3) := by decide +kernel
theorem dX11_sound_65 : decode cX11_sound 65 = .ok (.i2l, 1) := by decide +kernel
theorem dX11_sound_66 : decode cX11_sound 66 = .ok (.ldc2_w 106, 3) := by decide +kernel
theorem dX11_sound_69 : decode cX11_sound 69 = .ok (.lmul, 1) := by decide +kernel
theorem dX11_sound_70 : decode cX11_sound 70 = .ok (.lload_n 2, 1) := by decide +kernel
theorem dX11_sound_71 : decode cX11_sound 71 = .ok (.lload 4, 2) := by decide +kernel
theorem dX11_sound_73 : decode cX11_sound 73 = .ok (.ladd, 1) := by decide +kernel
theorem dX11_sound_74 : decode cX11_sound 74 = .ok (.lmul, 1) := by decide +kernel
theorem dX11_sound_75 : decode cX11_sound 75 = .ok (.lload_n 2, 1) := by decide +kernel
theorem dX11_sound_76 : decode cX11_sound 76 = .ok (.lload 4, 2) := by decide +kernel
theorem dX11_sound_78 : decode cX11_sound 78 = .ok (.lmul, 1) := by decide +kernel
theorem dX11_sound_79 : decode cX11_sound 79 = .ok (.ldc2_w 108, 3) := by decide +kernel
theorem dX11_sound_82 : decode cX11_sound 82 = .ok (.ldiv, 1) := by decide +kernel
theorem dX11_sound_83 : decode cX11_sound 83 = .ok (.ldiv, 1) := by decide +kernel
theorem dX11_sound_84 : decode cX11_sound 84 = .ok (.lreturn, 1) := by decide +kernel
set_option maxRecDepth 20000 in
theorem ggX11_factor_X11_in : GoodIn wsX11_factor wsX11_in := goodIn_r _ [7] (by decide +kernel) (by decide +kernel)
set_option maxRecDepth 20000 in
theorem gX11_factor_X11_in : GoodIn wsX11_factor (va_wsS RX11 64 yX11_in wsX11_in) := goodIn_app (goodIn_of _ (by decide +kernel)) ggX11_factor_X11_in
set_option maxRecDepth 20000 in
theorem ggX11_factor_X11_factorFor : GoodIn wsX11_factor wsX11_factorFor := goodIn_r _ [11, 12, 13, 14, 15, 6, 16, 17, 18, 19, 20, 21, 22, 23, 24, 25, 26, 27, 28, 29, 30, 31, 32, 33, 34, 35, 36, 37, 38, 39, 40, 41, 42, 43, 44, 45, 46, 47, 48, 49] (by decide +kernel) (by decide +kernel)
set_option maxRecDepth 20000 in
theorem gX11_factor_X11_factorFor : GoodIn wsX11_factor (wsV RX11 182 RX11 yX11_factorFor wsX11_factorFor) := goodIn_app (goodIn_of _ (by decide +kernel)) ggX11_factor_X11_factorFor
theorem dX11_factor_0 : decode cX11_factor 0 = .ok (.iload_n 1, 1) := by decide +kernel
theorem dX11_factor_1 : decode cX11_factor 1 = .ok (.ldc 246, 2) := by decide +kernel
theorem dX11_factor_3 : decode cX11_factor 3 = .ok (.ldc 91, 2) := by decide +kernel
theorem dX11_factor_5 : decode cX11_factor 5 = .ok (.invokestatic 64, 3) := by decide +kernel
theorem dX11_factor_8 : decode cX11_factor 8 = .ok (.ifCond .eq 12, 3) := by decide +kernel
theorem dX11_factor_11 : decode cX11_factor 11 = .ok (.aload_n 0, 1) := by decide +kernel
theorem dX11_factor_12 : decode cX11_factor 12 = .ok (.iload_n 1, 1) := by decide +kernel
theorem dX11_factor_13 : decode cX11_factor 13 = .ok (.i2l, 1) := by decide +kernel
theorem dX11_factor_14 : decode cX11_factor 14 = .ok (.invokevirtual 182, 3) := by decide +kernel
theorem dX11_factor_17 : decode cX11_factor 17 = .ok (.goto 5, 3) := by decide +kernel
theorem dX11_factor_20 : decode cX11_factor 20 = .ok (.ldc 68, 2) := by decide +kernel
theorem dX11_factor_22 : decode cX11_factor 22 = .ok (.ireturn, 1) := by decide +kernel
set_option maxRecDepth 20000 in
theorem ggX11_round_X11_in : GoodIn wsX11_round wsX11_in := goodIn_r _ [7] (by decide +kernel) (by decide +kernel)
set_option maxRecDepth 20000 in
theorem gX11_round_X11_in : GoodIn wsX11_round (va_wsS RX11 64 yX11_in wsX11_in) := goodIn_app (goodIn_of _ (by decide +kernel)) ggX11_round_X11_in
theorem dX11_round_0 : decode cX11_round 0 = .ok (.iload_n 1, 1) := by decide +kernel
theorem dX11_round_1 : decode cX11_round 1 = .ok (.iconst 0, 1) := by decide +kernel
theorem dX11_round_2 : decode cX11_round 2 = .ok (.aload_n 0, 1) := by decide +kernel
theorem dX11_round_3 : decode cX11_round 3 = .ok (.getfield 7, 3) := by decide +kernel
theorem dX11_round_6 : decode cX11_round 6 = .ok (.bipush 86, 2) := by decide +kernel
theorem dX11_round_8 : decode cX11_round 8 = .ok (.iaload, 1) := by decide +kernel
theorem dX11_round_9 : decode cX11_round 9 = .ok (.iconst 1, 1) := by decide +kernel
theorem dX11_round_10 : decode cX11_round 10 = .ok (.isub, 1) := by decide +kernel
theorem dX11_round_11 : decode cX11_round 11 = .ok (.invokestatic 64, 3) := by decide +kernel
theorem dX11_round_14 : decode cX11_round 14 = .ok (.ifCond .ne 6, 3) := by decide +kernel
theorem dX11_round_17 : decode cX11_round 17 = .ok (.ldc 82, 2) := by decide +kernel
theorem dX11_round_19 : decode cX11_round 19 = .ok (.ireturn, 1) := by decide +kernel
theorem dX11_round_20 : decode cX11_round 20 = .ok (.iload_n 2, 1) := by decide +kernel
theorem dX11_round_21 : decode cX11_round 21 = .ok (.iconst 0, 1) := by decide +kernel
theorem dX11_round_22 : decode cX11_round 22 = .ok (.iconst 5, 1) := by decide +kernel
theorem dX11_round_23 : decode cX11_round 23 = .ok (.invokestatic 64, 3) := by decide +kernel
theorem dX11_round_26 : decode cX11_round 26 = .ok (.ifCond .eq 20, 3) := by decide +kernel
theorem dX11_round_29 : decode cX11_round 29 = .ok (.aload_n 0, 1) := by decide +kernel
theorem dX11_round_30 : decode cX11_round 30 = .ok (.getfield 7, 3) := by decide +kernel
theorem dX11_round_33 : decode cX11_round 33 = .ok (.bipush 87, 2) := by decide +kernel
theorem dX11_round_35 : decode cX11_round 35 = .ok (.bipush 6, 2) := by decide +kernel
theorem dX11_round_37 : decode cX11_round 37 = .ok (.iload_n 1, 1) := by decide +kernel
theorem dX11_round_38 : decode cX11_round 38 = .ok (.imul, 1) := by decide +kernel
theorem dX11_round_39 : decode cX11_round 39 = .ok (.iadd, 1) := by decide +kernel
theorem dX11_round_40 : decode cX11_round 40 = .ok (.iload_n 2, 1) := by decide +kernel
theorem dX11_round_41 : decode cX11_round 41 = .ok (.iadd, 1) := by decide +kernel
theorem dX11_round_42 : decode cX11_round 42 = .ok (.iaload, 1) := by decide +kernel
theorem dX11_round_43 : decode cX11_round 43 = .ok (.goto 5, 3) := by decide +kernel
theorem dX11_round_46 : decode cX11_round 46 = .ok (.ldc 68, 2) := by decide +kernel
theorem dX11_round_48 : decode cX11_round 48 = .ok (.ireturn, 1) := by decide +kernel
set_option maxRecDepth 20000 in
theorem ggX11_volume_X11_in : GoodIn wsX11_volume wsX11_in := goodIn_r _ [6] (by decide +kernel) (by decide +kernel)
set_option maxRecDepth 20000 in
theorem gX11_volume_X11_in : GoodIn wsX11_volume (va_wsS RX11 64 yX11_in wsX11_in) := goodIn_app (goodIn_of _ (by decide +kernel)) ggX11_volume_X11_in
theorem dX11_volume_0 : decode cX11_volume 0 = .ok (.iload_n 1, 1) := by decide +kernel
theorem dX11_volume_1 : decode cX11_volume 1 = .ok (.iconst 0, 1) := by decide +kernel
theorem dX11_volume_2 : decode cX11_volume 2 = .ok (.iconst 2, 1) := by decide +kernel
theorem dX11_volume_3 : decode cX11_volume 3 = .ok (.invokestatic 64, 3) := by decide +kernel
