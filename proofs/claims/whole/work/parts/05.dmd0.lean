theorem dX11_append_42 : decode cX11_append 42 = .ok (.iadd, 1) := by decide +kernel
theorem dX11_append_43 : decode cX11_append 43 = .ok (.putfield 211, 3) := by decide +kernel
theorem dX11_append_46 : decode cX11_append 46 = .ok (.aload_n 0, 1) := by decide +kernel
theorem dX11_append_47 : decode cX11_append 47 = .ok (.getfield 211, 3) := by decide +kernel
theorem dX11_append_50 : decode cX11_append 50 = .ok (.ireturn, 1) := by decide +kernel
theorem dX11_clearText_0 : decode cX11_clearText 0 = .ok (.aload_n 0, 1) := by decide +kernel
theorem dX11_clearText_1 : decode cX11_clearText 1 = .ok (.getfield 211, 3) := by decide +kernel
theorem dX11_clearText_4 : decode cX11_clearText 4 = .ok (.istore_n 1, 1) := by decide +kernel
theorem dX11_clearText_5 : decode cX11_clearText 5 = .ok (.aload_n 0, 1) := by decide +kernel
theorem dX11_clearText_6 : decode cX11_clearText 6 = .ok (.iconst 0, 1) := by decide +kernel
theorem dX11_clearText_7 : decode cX11_clearText 7 = .ok (.putfield 211, 3) := by decide +kernel
theorem dX11_clearText_10 : decode cX11_clearText 10 = .ok (.iload_n 1, 1) := by decide +kernel
theorem dX11_clearText_11 : decode cX11_clearText 11 = .ok (.ireturn, 1) := by decide +kernel
theorem dX11_here_0 : decode cX11_here 0 = .ok (.aload_n 0, 1) := by decide +kernel
theorem dX11_here_1 : decode cX11_here 1 = .ok (.getfield 214, 3) := by decide +kernel
theorem dX11_here_4 : decode cX11_here 4 = .ok (.aload_n 0, 1) := by decide +kernel
theorem dX11_here_5 : decode cX11_here 5 = .ok (.getfield 211, 3) := by decide +kernel
theorem dX11_here_8 : decode cX11_here 8 = .ok (.if_icmp .ge 15, 3) := by decide +kernel
theorem dX11_here_11 : decode cX11_here 11 = .ok (.aload_n 0, 1) := by decide +kernel
theorem dX11_here_12 : decode cX11_here 12 = .ok (.getfield 33, 3) := by decide +kernel
theorem dX11_here_15 : decode cX11_here 15 = .ok (.aload_n 0, 1) := by decide +kernel
theorem dX11_here_16 : decode cX11_here 16 = .ok (.getfield 214, 3) := by decide +kernel
theorem dX11_here_19 : decode cX11_here 19 = .ok (.iaload, 1) := by decide +kernel
theorem dX11_here_20 : decode cX11_here 20 = .ok (.goto 4, 3) := by decide +kernel
theorem dX11_here_23 : decode cX11_here 23 = .ok (.iconst (-1), 1) := by decide +kernel
theorem dX11_here_24 : decode cX11_here 24 = .ok (.ireturn, 1) := by decide +kernel
set_option maxRecDepth 20000 in
theorem ggX11_passes_X11_here : GoodIn wsX11_passes wsX11_here := goodIn_r _ [6, 1, 7, 8, 9, 10, 11, 12, 13, 14, 15, 16, 17, 18, 19, 20, 21, 22, 23, 24, 25, 26, 27, 28, 29, 30, 31, 32, 33] (by decide +kernel) (by decide +kernel)
set_option maxRecDepth 20000 in
theorem gX11_passes_X11_here : GoodIn wsX11_passes (wsV RX11 217 RX11 yX11_here wsX11_here) := goodIn_app (goodIn_of _ (by decide +kernel)) ggX11_passes_X11_here
theorem dX11_passes_0 : decode cX11_passes 0 = .ok (.aload_n 0, 1) := by decide +kernel
theorem dX11_passes_1 : decode cX11_passes 1 = .ok (.invokevirtual 217, 3) := by decide +kernel
theorem dX11_passes_4 : decode cX11_passes 4 = .ok (.iload_n 1, 1) := by decide +kernel
theorem dX11_passes_5 : decode cX11_passes 5 = .ok (.if_icmp .ne 7, 3) := by decide +kernel
theorem dX11_passes_8 : decode cX11_passes 8 = .ok (.iconst 1, 1) := by decide +kernel
theorem dX11_passes_9 : decode cX11_passes 9 = .ok (.goto 4, 3) := by decide +kernel
theorem dX11_passes_12 : decode cX11_passes 12 = .ok (.iconst 0, 1) := by decide +kernel
theorem dX11_passes_13 : decode cX11_passes 13 = .ok (.istore_n 2, 1) := by decide +kernel
theorem dX11_passes_14 : decode cX11_passes 14 = .ok (.aload_n 0, 1) := by decide +kernel
theorem dX11_passes_15 : decode cX11_passes 15 = .ok (.dup, 1) := by decide +kernel
theorem dX11_passes_16 : decode cX11_passes 16 = .ok (.getfield 214, 3) := by decide +kernel
theorem dX11_passes_19 : decode cX11_passes 19 = .ok (.iload_n 2, 1) := by decide +kernel
theorem dX11_passes_20 : decode cX11_passes 20 = .ok (.ifCond .eq 7, 3) := by decide +kernel
theorem dX11_passes_23 : decode cX11_passes 23 = .ok (.iconst 1, 1) := by decide +kernel
theorem dX11_passes_24 : decode cX11_passes 24 = .ok (.goto 4, 3) := by decide +kernel
theorem dX11_passes_27 : decode cX11_passes 27 = .ok (.iconst 0, 1) := by decide +kernel
theorem dX11_passes_28 : decode cX11_passes 28 = .ok (.iadd, 1) := by decide +kernel
theorem dX11_passes_29 : decode cX11_passes 29 = .ok (.putfield 214, 3) := by decide +kernel
theorem dX11_passes_32 : decode cX11_passes 32 = .ok (.iload_n 2, 1) := by decide +kernel
theorem dX11_passes_33 : decode cX11_passes 33 = .ok (.ireturn, 1) := by decide +kernel
set_option maxRecDepth 20000 in
theorem ggX11_readNumber_X11_here : GoodIn wsX11_readNumber wsX11_here := goodIn_r _ [8, 1, 9, 3, 13, 14, 15, 16, 17, 18, 19, 20, 21, 22, 23, 24, 25, 26, 27, 28, 29, 30, 31, 32, 33, 34, 35, 36, 37] (by decide +kernel) (by decide +kernel)
set_option maxRecDepth 20000 in
theorem gX11_readNumber_X11_here : GoodIn wsX11_readNumber (wsV RX11 217 RX11 yX11_here wsX11_here) := goodIn_app (goodIn_of _ (by decide +kernel)) ggX11_readNumber_X11_here
set_option maxRecDepth 20000 in
theorem ggX11_readNumber_X11_in : GoodIn wsX11_readNumber wsX11_in := goodIn_r _ [12] (by decide +kernel) (by decide +kernel)
set_option maxRecDepth 20000 in
theorem gX11_readNumber_X11_in : GoodIn wsX11_readNumber (va_wsS RX11 64 yX11_in wsX11_in) := goodIn_app (goodIn_of _ (by decide +kernel)) ggX11_readNumber_X11_in
theorem dX11_readNumber_0 : decode cX11_readNumber 0 = .ok (.aload_n 0, 1) := by decide +kernel
theorem dX11_readNumber_1 : decode cX11_readNumber 1 = .ok (.getfield 214, 3) := by decide +kernel
theorem dX11_readNumber_4 : decode cX11_readNumber 4 = .ok (.istore 4, 2) := by decide +kernel
theorem dX11_readNumber_6 : decode cX11_readNumber 6 = .ok (.aload_n 0, 1) := by decide +kernel
theorem dX11_readNumber_7 : decode cX11_readNumber 7 = .ok (.getfield 54, 3) := by decide +kernel
theorem dX11_readNumber_10 : decode cX11_readNumber 10 = .ok (.iload_n 1, 1) := by decide +kernel
theorem dX11_readNumber_11 : decode cX11_readNumber 11 = .ok (.iconst 0, 1) := by decide +kernel
theorem dX11_readNumber_12 : decode cX11_readNumber 12 = .ok (.iastore, 1) := by decide +kernel
theorem dX11_readNumber_13 : decode cX11_readNumber 13 = .ok (.aload_n 0, 1) := by decide +kernel
theorem dX11_readNumber_14 : decode cX11_readNumber 14 = .ok (.invokevirtual 217, 3) := by decide +kernel
theorem dX11_readNumber_17 : decode cX11_readNumber 17 = .ok (.bipush 48, 2) := by decide +kernel
theorem dX11_readNumber_19 : decode cX11_readNumber 19 = .ok (.bipush 57, 2) := by decide +kernel
theorem dX11_readNumber_21 : decode cX11_readNumber 21 = .ok (.invokestatic 64, 3) := by decide +kernel
theorem dX11_readNumber_24 : decode cX11_readNumber 24 = .ok (.ifCond .eq 72, 3) := by decide +kernel
theorem dX11_readNumber_27 : decode cX11_readNumber 27 = .ok (.aload_n 0, 1) := by decide +kernel
theorem dX11_readNumber_28 : decode cX11_readNumber 28 = .ok (.getfield 214, 3) := by decide +kernel
theorem dX11_readNumber_31 : decode cX11_readNumber 31 = .ok (.iload 4, 2) := by decide +kernel
theorem dX11_readNumber_33 : decode cX11_readNumber 33 = .ok (.bipush 7, 2) := by decide +kernel
theorem dX11_readNumber_35 : decode cX11_readNumber 35 = .ok (.iadd, 1) := by decide +kernel
theorem dX11_readNumber_36 : decode cX11_readNumber 36 = .ok (.if_icmp .ge 60, 3) := by decide +kernel
theorem dX11_readNumber_39 : decode cX11_readNumber 39 = .ok (.aload_n 0, 1) := by decide +kernel
theorem dX11_readNumber_40 : decode cX11_readNumber 40 = .ok (.getfield 214, 3) := by decide +kernel
theorem dX11_readNumber_43 : decode cX11_readNumber 43 = .ok (.iload 4, 2) := by decide +kernel
theorem dX11_readNumber_45 : decode cX11_readNumber 45 = .ok (.if_icmp .eq 15, 3) := by decide +kernel
theorem dX11_readNumber_48 : decode cX11_readNumber 48 = .ok (.aload_n 0, 1) := by decide +kernel
theorem dX11_readNumber_49 : decode cX11_readNumber 49 = .ok (.getfield 33, 3) := by decide +kernel
theorem dX11_readNumber_52 : decode cX11_readNumber 52 = .ok (.iload 4, 2) := by decide +kernel
theorem dX11_readNumber_54 : decode cX11_readNumber 54 = .ok (.iaload, 1) := by decide +kernel
theorem dX11_readNumber_55 : decode cX11_readNumber 55 = .ok (.bipush 48, 2) := by decide +kernel
theorem dX11_readNumber_57 : decode cX11_readNumber 57 = .ok (.if_icmp .eq 39, 3) := by decide +kernel
theorem dX11_readNumber_60 : decode cX11_readNumber 60 = .ok (.aload_n 0, 1) := by decide +kernel
theorem dX11_readNumber_61 : decode cX11_readNumber 61 = .ok (.getfield 54, 3) := by decide +kernel
theorem dX11_readNumber_64 : decode cX11_readNumber 64 = .ok (.iload_n 1, 1) := by decide +kernel
theorem dX11_readNumber_65 : decode cX11_readNumber 65 = .ok (.bipush 10, 2) := by decide +kernel
theorem dX11_readNumber_67 : decode cX11_readNumber 67 = .ok (.aload_n 0, 1) := by decide +kernel
theorem dX11_readNumber_68 : decode cX11_readNumber 68 = .ok (.getfield 54, 3) := by decide +kernel
theorem dX11_readNumber_71 : decode cX11_readNumber 71 = .ok (.iload_n 1, 1) := by decide +kernel
theorem dX11_readNumber_72 : decode cX11_readNumber 72 = .ok (.iaload, 1) := by decide +kernel
theorem dX11_readNumber_73 : decode cX11_readNumber 73 = .ok (.imul, 1) := by decide +kernel
theorem dX11_readNumber_74 : decode cX11_readNumber 74 = .ok (.aload_n 0, 1) := by decide +kernel
theorem dX11_readNumber_75 : decode cX11_readNumber 75 = .ok (.invokevirtual 217, 3) := by decide +kernel
theorem dX11_readNumber_78 : decode cX11_readNumber 78 = .ok (.iadd, 1) := by decide +kernel
theorem dX11_readNumber_79 : decode cX11_readNumber 79 = .ok (.bipush 48, 2) := by decide +kernel
theorem dX11_readNumber_81 : decode cX11_readNumber 81 = .ok (.isub, 1) := by decide +kernel
theorem dX11_readNumber_82 : decode cX11_readNumber 82 = .ok (.iastore, 1) := by decide +kernel
theorem dX11_readNumber_83 : decode cX11_readNumber 83 = .ok (.aload_n 0, 1) := by decide +kernel
theorem dX11_readNumber_84 : decode cX11_readNumber 84 = .ok (.dup, 1) := by decide +kernel
theorem dX11_readNumber_85 : decode cX11_readNumber 85 = .ok (.getfield 214, 3) := by decide +kernel
theorem dX11_readNumber_88 : decode cX11_readNumber 88 = .ok (.iconst 1, 1) := by decide +kernel
theorem dX11_readNumber_89 : decode cX11_readNumber 89 = .ok (.iadd, 1) := by decide +kernel
theorem dX11_readNumber_90 : decode cX11_readNumber 90 = .ok (.putfield 214, 3) := by decide +kernel
theorem dX11_readNumber_93 : decode cX11_readNumber 93 = .ok (.goto (-80), 3) := by decide +kernel
theorem dX11_readNumber_96 : decode cX11_readNumber 96 = .ok (.aload_n 0, 1) := by decide +kernel
theorem dX11_readNumber_97 : decode cX11_readNumber 97 = .ok (.getfield 214, 3) := by decide +kernel
theorem dX11_readNumber_100 : decode cX11_readNumber 100 = .ok (.iload 4, 2) := by decide +kernel
theorem dX11_readNumber_102 : decode cX11_readNumber 102 = .ok (.if_icmp .le 21, 3) := by decide +kernel
theorem dX11_readNumber_105 : decode cX11_readNumber 105 = .ok (.aload_n 0, 1) := by decide +kernel
theorem dX11_readNumber_106 : decode cX11_readNumber 106 = .ok (.getfield 54, 3) := by decide +kernel
theorem dX11_readNumber_109 : decode cX11_readNumber 109 = .ok (.iload_n 1, 1) := by decide +kernel
theorem dX11_readNumber_110 : decode cX11_readNumber 110 = .ok (.iaload, 1) := by decide +kernel
theorem dX11_readNumber_111 : decode cX11_readNumber 111 = .ok (.iload_n 2, 1) := by decide +kernel
theorem dX11_readNumber_112 : decode cX11_readNumber 112 = .ok (.iload_n 3, 1) := by decide +kernel
theorem dX11_readNumber_113 : decode cX11_readNumber 113 = .ok (.invokestatic 64, 3) := by decide +kernel
theorem dX11_readNumber_116 : decode cX11_readNumber 116 = .ok (.ifCond .eq 7, 3) := by decide +kernel
theorem dX11_readNumber_119 : decode cX11_readNumber 119 = .ok (.iconst 1, 1) := by decide +kernel
theorem dX11_readNumber_120 : decode cX11_readNumber 120 = .ok (.goto 4, 3) := by decide +kernel
theorem dX11_readNumber_123 : decode cX11_readNumber 123 = .ok (.iconst 0, 1) := by decide +kernel
theorem dX11_readNumber_124 : decode cX11_readNumber 124 = .ok (.istore 5, 2) := by decide +kernel
theorem dX11_readNumber_126 : decode cX11_readNumber 126 = .ok (.aload_n 0, 1) := by decide +kernel
theorem dX11_readNumber_127 : decode cX11_readNumber 127 = .ok (.iload 5, 2) := by decide +kernel
theorem dX11_readNumber_129 : decode cX11_readNumber 129 = .ok (.ifCond .eq 10, 3) := by decide +kernel
theorem dX11_readNumber_132 : decode cX11_readNumber 132 = .ok (.aload_n 0, 1) := by decide +kernel
theorem dX11_readNumber_133 : decode cX11_readNumber 133 = .ok (.getfield 214, 3) := by decide +kernel
theorem dX11_readNumber_136 : decode cX11_readNumber 136 = .ok (.goto 5, 3) := by decide +kernel
theorem dX11_readNumber_139 : decode cX11_readNumber 139 = .ok (.iload 4, 2) := by decide +kernel
theorem dX11_readNumber_141 : decode cX11_readNumber 141 = .ok (.putfield 214, 3) := by decide +kernel
theorem dX11_readNumber_144 : decode cX11_readNumber 144 = .ok (.iload 5, 2) := by decide +kernel
theorem dX11_readNumber_146 : decode cX11_readNumber 146 = .ok (.ireturn, 1) := by decide +kernel
set_option maxRecDepth 20000 in
theorem ggX11_readAct_X11_here : GoodIn wsX11_readAct wsX11_here := goodIn_r _ [8, 2, 9, 10, 23, 24, 25, 26, 27, 28, 29, 30, 31, 32, 33, 34, 35, 36, 37, 38, 39, 40, 41, 42, 43, 44, 45, 46, 47] (by decide +kernel) (by decide +kernel)
set_option maxRecDepth 20000 in
theorem gX11_readAct_X11_here : GoodIn wsX11_readAct (wsV RX11 217 RX11 yX11_here wsX11_here) := goodIn_app (goodIn_of _ (by decide +kernel)) ggX11_readAct_X11_here
set_option maxRecDepth 20000 in
theorem ggX11_readAct_X11_readNumber : GoodIn wsX11_readAct wsX11_readNumber := goodIn_r _ [14, 2, 15, 10, 4, 5, 6, 7, 8, 9, 16, 17, 18, 23, 24, 25, 26, 27, 28, 29, 30, 31, 32, 33, 34, 35, 36, 37, 38, 39, 40, 41, 42, 43, 44, 45, 46, 47] (by decide +kernel) (by decide +kernel)
set_option maxRecDepth 20000 in
theorem gX11_readAct_X11_readNumber : GoodIn wsX11_readAct (wsV RX11 223 RX11 yX11_readNumber wsX11_readNumber) := goodIn_app (goodIn_of _ (by decide +kernel)) ggX11_readAct_X11_readNumber
set_option maxRecDepth 20000 in
theorem ggX11_readAct_X11_passes : GoodIn wsX11_readAct wsX11_passes := goodIn_r _ [22, 2, 4, 5, 6, 7, 8, 9, 10, 23, 24, 25, 26, 27, 28, 29, 30, 31, 32, 33, 34, 35, 36, 37, 38, 39, 40, 41, 42, 43, 44, 45, 46, 47] (by decide +kernel) (by decide +kernel)
set_option maxRecDepth 20000 in
theorem gX11_readAct_X11_passes : GoodIn wsX11_readAct (wsV RX11 226 RX11 yX11_passes wsX11_passes) := goodIn_app (goodIn_of _ (by decide +kernel)) ggX11_readAct_X11_passes
theorem dX11_readAct_0 : decode cX11_readAct 0 = .ok (.aload_n 0, 1) := by decide +kernel
theorem dX11_readAct_1 : decode cX11_readAct 1 = .ok (.aload_n 0, 1) := by decide +kernel
theorem dX11_readAct_2 : decode cX11_readAct 2 = .ok (.invokevirtual 217, 3) := by decide +kernel
theorem dX11_readAct_5 : decode cX11_readAct 5 = .ok (.putfield 220, 3) := by decide +kernel
theorem dX11_readAct_8 : decode cX11_readAct 8 = .ok (.aload_n 0, 1) := by decide +kernel
theorem dX11_readAct_9 : decode cX11_readAct 9 = .ok (.getfield 220, 3) := by decide +kernel
theorem dX11_readAct_12 : decode cX11_readAct 12 = .ok (.bipush 115, 2) := by decide +kernel
theorem dX11_readAct_14 : decode cX11_readAct 14 = .ok (.if_icmp .eq 23, 3) := by decide +kernel
theorem dX11_readAct_17 : decode cX11_readAct 17 = .ok (.aload_n 0, 1) := by decide +kernel
theorem dX11_readAct_18 : decode cX11_readAct 18 = .ok (.getfield 220, 3) := by decide +kernel
theorem dX11_readAct_21 : decode cX11_readAct 21 = .ok (.bipush 99, 2) := by decide +kernel
theorem dX11_readAct_23 : decode cX11_readAct 23 = .ok (.if_icmp .eq 14, 3) := by decide +kernel
theorem dX11_readAct_26 : decode cX11_readAct 26 = .ok (.aload_n 0, 1) := by decide +kernel
theorem dX11_readAct_27 : decode cX11_readAct 27 = .ok (.getfield 220, 3) := by decide +kernel
theorem dX11_readAct_30 : decode cX11_readAct 30 = .ok (.bipush 119, 2) := by decide +kernel
theorem dX11_readAct_32 : decode cX11_readAct 32 = .ok (.if_icmp .eq 5, 3) := by decide +kernel
theorem dX11_readAct_35 : decode cX11_readAct 35 = .ok (.iconst 0, 1) := by decide +kernel
theorem dX11_readAct_36 : decode cX11_readAct 36 = .ok (.ireturn, 1) := by decide +kernel
theorem dX11_readAct_37 : decode cX11_readAct 37 = .ok (.aload_n 0, 1) := by decide +kernel
theorem dX11_readAct_38 : decode cX11_readAct 38 = .ok (.dup, 1) := by decide +kernel
theorem dX11_readAct_39 : decode cX11_readAct 39 = .ok (.getfield 214, 3) := by decide +kernel
theorem dX11_readAct_42 : decode cX11_readAct 42 = .ok (.iconst 1, 1) := by decide +kernel
theorem dX11_readAct_43 : decode cX11_readAct 43 = .ok (.iadd, 1) := by decide +kernel
theorem dX11_readAct_44 : decode cX11_readAct 44 = .ok (.putfield 214, 3) := by decide +kernel
theorem dX11_readAct_47 : decode cX11_readAct 47 = .ok (.aload_n 0, 1) := by decide +kernel
theorem dX11_readAct_48 : decode cX11_readAct 48 = .ok (.getfield 220, 3) := by decide +kernel
theorem dX11_readAct_51 : decode cX11_readAct 51 = .ok (.bipush 115, 2) := by decide +kernel
theorem dX11_readAct_53 : decode cX11_readAct 53 = .ok (.if_icmp .ne 77, 3) := by decide +kernel
theorem dX11_readAct_56 : decode cX11_readAct 56 = .ok (.aload_n 0, 1) := by decide +kernel
theorem dX11_readAct_57 : decode cX11_readAct 57 = .ok (.iconst 0, 1) := by decide +kernel
theorem dX11_readAct_58 : decode cX11_readAct 58 = .ok (.iconst 0, 1) := by decide +kernel
theorem dX11_readAct_59 : decode cX11_readAct 59 = .ok (.iconst 3, 1) := by decide +kernel
theorem dX11_readAct_60 : decode cX11_readAct 60 = .ok (.invokevirtual 223, 3) := by decide +kernel
theorem dX11_readAct_63 : decode cX11_readAct 63 = .ok (.ifCond .eq 71, 3) := by decide +kernel
theorem dX11_readAct_66 : decode cX11_readAct 66 = .ok (.aload_n 0, 1) := by decide +kernel
theorem dX11_readAct_67 : decode cX11_readAct 67 = .ok (.bipush 102, 2) := by decide +kernel
theorem dX11_readAct_69 : decode cX11_readAct 69 = .ok (.invokevirtual 226, 3) := by decide +kernel
theorem dX11_readAct_72 : decode cX11_readAct 72 = .ok (.ifCond .eq 62, 3) := by decide +kernel
theorem dX11_readAct_75 : decode cX11_readAct 75 = .ok (.aload_n 0, 1) := by decide +kernel
theorem dX11_readAct_76 : decode cX11_readAct 76 = .ok (.iconst 1, 1) := by decide +kernel
theorem dX11_readAct_77 : decode cX11_readAct 77 = .ok (.sipush 1000, 3) := by decide +kernel
theorem dX11_readAct_80 : decode cX11_readAct 80 = .ok (.ldc 116, 2) := by decide +kernel
theorem dX11_readAct_82 : decode cX11_readAct 82 = .ok (.invokevirtual 223, 3) := by decide +kernel
theorem dX11_readAct_85 : decode cX11_readAct 85 = .ok (.ifCond .eq 49, 3) := by decide +kernel
theorem dX11_readAct_88 : decode cX11_readAct 88 = .ok (.aload_n 0, 1) := by decide +kernel
theorem dX11_readAct_89 : decode cX11_readAct 89 = .ok (.bipush 98, 2) := by decide +kernel
theorem dX11_readAct_91 : decode cX11_readAct 91 = .ok (.invokevirtual 226, 3) := by decide +kernel
theorem dX11_readAct_94 : decode cX11_readAct 94 = .ok (.ifCond .eq 40, 3) := by decide +kernel
theorem dX11_readAct_97 : decode cX11_readAct 97 = .ok (.aload_n 0, 1) := by decide +kernel
theorem dX11_readAct_98 : decode cX11_readAct 98 = .ok (.iconst 2, 1) := by decide +kernel
theorem dX11_readAct_99 : decode cX11_readAct 99 = .ok (.sipush 1000, 3) := by decide +kernel
theorem dX11_readAct_102 : decode cX11_readAct 102 = .ok (.ldc 116, 2) := by decide +kernel
theorem dX11_readAct_104 : decode cX11_readAct 104 = .ok (.invokevirtual 223, 3) := by decide +kernel
theorem dX11_readAct_107 : decode cX11_readAct 107 = .ok (.ifCond .eq 27, 3) := by decide +kernel
theorem dX11_readAct_110 : decode cX11_readAct 110 = .ok (.aload_n 0, 1) := by decide +kernel
theorem dX11_readAct_111 : decode cX11_readAct 111 = .ok (.bipush 113, 2) := by decide +kernel
theorem dX11_readAct_113 : decode cX11_readAct 113 = .ok (.invokevirtual 226, 3) := by decide +kernel
theorem dX11_readAct_116 : decode cX11_readAct 116 = .ok (.ifCond .eq 18, 3) := by decide +kernel
theorem dX11_readAct_119 : decode cX11_readAct 119 = .ok (.aload_n 0, 1) := by decide +kernel
theorem dX11_readAct_120 : decode cX11_readAct 120 = .ok (.iconst 3, 1) := by decide +kernel
theorem dX11_readAct_121 : decode cX11_readAct 121 = .ok (.iconst 0, 1) := by decide +kernel
theorem dX11_readAct_122 : decode cX11_readAct 122 = .ok (.bipush 100, 2) := by decide +kernel
theorem dX11_readAct_124 : decode cX11_readAct 124 = .ok (.invokevirtual 223, 3) := by decide +kernel
theorem dX11_readAct_127 : decode cX11_readAct 127 = .ok (.ifCond .eq 7, 3) := by decide +kernel
theorem dX11_readAct_130 : decode cX11_readAct 130 = .ok (.iconst 1, 1) := by decide +kernel
theorem dX11_readAct_131 : decode cX11_readAct 131 = .ok (.goto 4, 3) := by decide +kernel
theorem dX11_readAct_134 : decode cX11_readAct 134 = .ok (.iconst 0, 1) := by decide +kernel
theorem dX11_readAct_135 : decode cX11_readAct 135 = .ok (.istore_n 1, 1) := by decide +kernel
theorem dX11_readAct_136 : decode cX11_readAct 136 = .ok (.iload_n 1, 1) := by decide +kernel
theorem dX11_readAct_137 : decode cX11_readAct 137 = .ok (.ifCond .eq 16, 3) := by decide +kernel
theorem dX11_readAct_140 : decode cX11_readAct 140 = .ok (.aload_n 0, 1) := by decide +kernel
theorem dX11_readAct_141 : decode cX11_readAct 141 = .ok (.bipush 59, 2) := by decide +kernel
theorem dX11_readAct_143 : decode cX11_readAct 143 = .ok (.invokevirtual 226, 3) := by decide +kernel
theorem dX11_readAct_146 : decode cX11_readAct 146 = .ok (.ifCond .eq 7, 3) := by decide +kernel
theorem dX11_readAct_149 : decode cX11_readAct 149 = .ok (.iconst 1, 1) := by decide +kernel
theorem dX11_readAct_150 : decode cX11_readAct 150 = .ok (.goto 4, 3) := by decide +kernel
theorem dX11_readAct_153 : decode cX11_readAct 153 = .ok (.iconst 0, 1) := by decide +kernel
theorem dX11_readAct_154 : decode cX11_readAct 154 = .ok (.ireturn, 1) := by decide +kernel
set_option maxRecDepth 20000 in
theorem ggX11_faultOf_X11_readAct : GoodIn wsX11_faultOf wsX11_readAct := goodIn_r _ [7, 8, 1, 9, 10, 11, 12, 6, 13, 2, 14, 15, 16, 17, 18, 19, 20, 21, 22, 23, 24, 25, 26, 27, 28, 29, 30, 31, 32, 33, 34, 35, 36, 37, 38, 39, 40, 41, 42, 43, 44, 45, 46, 47, 48, 49, 50, 51] (by decide +kernel) (by decide +kernel)
set_option maxRecDepth 20000 in
theorem gX11_faultOf_X11_readAct : GoodIn wsX11_faultOf (wsV RX11 229 RX11 yX11_readAct wsX11_readAct) := goodIn_app (goodIn_of _ (by decide +kernel)) ggX11_faultOf_X11_readAct
theorem dX11_faultOf_0 : decode cX11_faultOf 0 = .ok (.aload_n 0, 1) := by decide +kernel
theorem dX11_faultOf_1 : decode cX11_faultOf 1 = .ok (.iconst 0, 1) := by decide +kernel
theorem dX11_faultOf_2 : decode cX11_faultOf 2 = .ok (.putfield 214, 3) := by decide +kernel
theorem dX11_faultOf_5 : decode cX11_faultOf 5 = .ok (.aload_n 0, 1) := by decide +kernel
theorem dX11_faultOf_6 : decode cX11_faultOf 6 = .ok (.getfield 214, 3) := by decide +kernel
theorem dX11_faultOf_9 : decode cX11_faultOf 9 = .ok (.aload_n 0, 1) := by decide +kernel
theorem dX11_faultOf_10 : decode cX11_faultOf 10 = .ok (.getfield 211, 3) := by decide +kernel
theorem dX11_faultOf_13 : decode cX11_faultOf 13 = .ok (.if_icmp .ge 15, 3) := by decide +kernel
theorem dX11_faultOf_16 : decode cX11_faultOf 16 = .ok (.aload_n 0, 1) := by decide +kernel
theorem dX11_faultOf_17 : decode cX11_faultOf 17 = .ok (.invokevirtual 229, 3) := by decide +kernel
theorem dX11_faultOf_20 : decode cX11_faultOf 20 = .ok (.ifCond .ne (-15), 3) := by decide +kernel
theorem dX11_faultOf_23 : decode cX11_faultOf 23 = .ok (.aload_n 0, 1) := by decide +kernel
theorem dX11_faultOf_24 : decode cX11_faultOf 24 = .ok (.getfield 214, 3) := by decide +kernel
theorem dX11_faultOf_27 : decode cX11_faultOf 27 = .ok (.ireturn, 1) := by decide +kernel
theorem dX11_faultOf_28 : decode cX11_faultOf 28 = .ok (.iconst (-1), 1) := by decide +kernel
theorem dX11_faultOf_29 : decode cX11_faultOf 29 = .ok (.ireturn, 1) := by decide +kernel
set_option maxRecDepth 20000 in
theorem ggX11_faultPosition_X11_faultOf : GoodIn wsX11_faultPosition wsX11_faultOf := goodIn_r _ [6, 7, 8, 9, 10, 11, 5, 12, 13, 14, 15, 16, 17, 18, 19, 20, 21, 22, 23, 24, 25, 26, 27, 28, 29, 30, 31, 32, 33, 34, 35, 36, 37, 38, 39, 40, 41, 42, 43, 44, 45, 46, 47, 48, 49, 50, 51, 52, 53, 54, 55, 56] (by decide +kernel) (by decide +kernel)
set_option maxRecDepth 20000 in
theorem gX11_faultPosition_X11_faultOf : GoodIn wsX11_faultPosition (wsV RX11 233 RX11 yX11_faultOf wsX11_faultOf) := goodIn_app (goodIn_of _ (by decide +kernel)) ggX11_faultPosition_X11_faultOf
theorem dX11_faultPosition_0 : decode cX11_faultPosition 0 = .ok (.aload_n 0, 1) := by decide +kernel
theorem dX11_faultPosition_1 : decode cX11_faultPosition 1 = .ok (.invokevirtual 233, 3) := by decide +kernel
theorem dX11_faultPosition_4 : decode cX11_faultPosition 4 = .ok (.istore_n 1, 1) := by decide +kernel
theorem dX11_faultPosition_5 : decode cX11_faultPosition 5 = .ok (.iload_n 1, 1) := by decide +kernel
theorem dX11_faultPosition_6 : decode cX11_faultPosition 6 = .ok (.ifCond .ge 8, 3) := by decide +kernel
theorem dX11_faultPosition_9 : decode cX11_faultPosition 9 = .ok (.ldc 77, 2) := by decide +kernel
theorem dX11_faultPosition_11 : decode cX11_faultPosition 11 = .ok (.goto 4, 3) := by decide +kernel
theorem dX11_faultPosition_14 : decode cX11_faultPosition 14 = .ok (.iload_n 1, 1) := by decide +kernel
theorem dX11_faultPosition_15 : decode cX11_faultPosition 15 = .ok (.ireturn, 1) := by decide +kernel
set_option maxRecDepth 20000 in
theorem ggX11_does_X11_whyShot : GoodIn wsX11_does wsX11_whyShot := goodIn_r _ [8, 9, 10, 11, 12, 13, 7, 14, 3, 15, 16, 17, 18, 19, 20, 21, 22, 23, 24, 25, 26, 27, 28, 29, 140, 141, 142, 143, 144, 145, 146, 147, 148, 149, 150, 151, 152, 153, 154, 155, 156, 157, 158, 159, 160, 161, 162, 163, 164] (by decide +kernel) (by decide +kernel)
set_option maxRecDepth 20000 in
theorem gX11_does_X11_whyShot : GoodIn wsX11_does (wsV RX11 128 RX11 yX11_whyShot wsX11_whyShot) := goodIn_app (goodIn_of _ (by decide +kernel)) ggX11_does_X11_whyShot
set_option maxRecDepth 20000 in
theorem ggX11_does_X11_shoots : GoodIn wsX11_does wsX11_shoots := goodIn_r _ [33, 3, 34, 35, 36, 7, 37, 38, 39, 40, 41, 42, 26, 27, 28, 29, 140, 141, 142, 143, 144, 145, 146, 147, 148, 149, 150, 151, 152, 153, 154, 155, 156, 157, 158, 159, 160, 161, 162, 163, 164] (by decide +kernel) (by decide +kernel)
set_option maxRecDepth 20000 in
theorem gX11_does_X11_shoots : GoodIn wsX11_does (wsV RX11 132 RX11 yX11_shoots wsX11_shoots) := goodIn_app (goodIn_of _ (by decide +kernel)) ggX11_does_X11_shoots
set_option maxRecDepth 20000 in
theorem ggX11_does_X11_closes : GoodIn wsX11_does wsX11_closes := goodIn_r _ [46, 3, 42, 47, 48, 49, 50, 51, 7, 52, 53, 54, 55, 56, 57, 58, 59, 60, 61, 62, 63, 64, 65, 66, 26, 27, 28, 29, 67, 68, 69, 70, 71, 72, 73, 74, 75, 76, 77, 78, 79, 80, 81, 82, 83, 84, 85, 86, 87, 88, 89, 90, 91, 92, 93, 94, 95, 96, 97, 98, 99, 100, 101, 102, 103, 104, 105, 106, 107, 108, 109, 110, 111, 112, 113, 114, 115, 116, 117, 118, 119, 120, 121, 122, 123, 124, 125, 126, 127, 34, 35, 36, 37, 128, 129, 130, 131, 140, 141, 142, 143, 144, 145, 146, 147, 148, 149, 150, 151, 152, 153, 154, 155, 156, 157, 158, 159, 160, 161, 162, 163, 164] (by decide +kernel) (by decide +kernel)
set_option maxRecDepth 20000 in
theorem gX11_does_X11_closes : GoodIn wsX11_does (wsV RX11 201 RX11 yX11_closes wsX11_closes) := goodIn_app (goodIn_of _ (by decide +kernel)) ggX11_does_X11_closes
