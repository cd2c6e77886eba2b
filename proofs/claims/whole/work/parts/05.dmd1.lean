set_option maxRecDepth 20000 in
theorem ggX11_does_X11_swaps : GoodIn wsX11_does wsX11_swaps := goodIn_r _ [135, 3, 42, 26, 27, 28, 7, 29, 136, 137, 138, 139, 34, 35, 36, 37, 140, 141, 142, 143, 144, 145, 146, 147, 148, 149, 150, 151, 152, 153, 154, 155, 156, 157, 158, 159, 160, 161, 162, 163, 164] (by decide +kernel) (by decide +kernel)
set_option maxRecDepth 20000 in
theorem gX11_does_X11_swaps : GoodIn wsX11_does (wsV RX11 208 RX11 yX11_swaps wsX11_swaps) := goodIn_app (goodIn_of _ (by decide +kernel)) ggX11_does_X11_swaps
theorem dX11_does_0 : decode cX11_does 0 = .ok (.aload_n 0, 1) := by decide +kernel
theorem dX11_does_1 : decode cX11_does 1 = .ok (.getfield 220, 3) := by decide +kernel
theorem dX11_does_4 : decode cX11_does 4 = .ok (.bipush 115, 2) := by decide +kernel
theorem dX11_does_6 : decode cX11_does 6 = .ok (.if_icmp .ne 67, 3) := by decide +kernel
theorem dX11_does_9 : decode cX11_does 9 = .ok (.aload_n 0, 1) := by decide +kernel
theorem dX11_does_10 : decode cX11_does 10 = .ok (.aload_n 0, 1) := by decide +kernel
theorem dX11_does_11 : decode cX11_does 11 = .ok (.getfield 54, 3) := by decide +kernel
theorem dX11_does_14 : decode cX11_does 14 = .ok (.iconst 0, 1) := by decide +kernel
theorem dX11_does_15 : decode cX11_does 15 = .ok (.iaload, 1) := by decide +kernel
theorem dX11_does_16 : decode cX11_does 16 = .ok (.aload_n 0, 1) := by decide +kernel
theorem dX11_does_17 : decode cX11_does 17 = .ok (.getfield 54, 3) := by decide +kernel
theorem dX11_does_20 : decode cX11_does 20 = .ok (.iconst 1, 1) := by decide +kernel
theorem dX11_does_21 : decode cX11_does 21 = .ok (.iaload, 1) := by decide +kernel
theorem dX11_does_22 : decode cX11_does 22 = .ok (.aload_n 0, 1) := by decide +kernel
theorem dX11_does_23 : decode cX11_does 23 = .ok (.getfield 54, 3) := by decide +kernel
theorem dX11_does_26 : decode cX11_does 26 = .ok (.iconst 2, 1) := by decide +kernel
theorem dX11_does_27 : decode cX11_does 27 = .ok (.iaload, 1) := by decide +kernel
theorem dX11_does_28 : decode cX11_does 28 = .ok (.aload_n 0, 1) := by decide +kernel
theorem dX11_does_29 : decode cX11_does 29 = .ok (.getfield 54, 3) := by decide +kernel
theorem dX11_does_32 : decode cX11_does 32 = .ok (.iconst 3, 1) := by decide +kernel
theorem dX11_does_33 : decode cX11_does 33 = .ok (.iaload, 1) := by decide +kernel
theorem dX11_does_34 : decode cX11_does 34 = .ok (.invokevirtual 128, 3) := by decide +kernel
theorem dX11_does_37 : decode cX11_does 37 = .ok (.ifCond .ge 5, 3) := by decide +kernel
theorem dX11_does_40 : decode cX11_does 40 = .ok (.iconst 0, 1) := by decide +kernel
theorem dX11_does_41 : decode cX11_does 41 = .ok (.ireturn, 1) := by decide +kernel
theorem dX11_does_42 : decode cX11_does 42 = .ok (.aload_n 0, 1) := by decide +kernel
theorem dX11_does_43 : decode cX11_does 43 = .ok (.aload_n 0, 1) := by decide +kernel
theorem dX11_does_44 : decode cX11_does 44 = .ok (.getfield 54, 3) := by decide +kernel
theorem dX11_does_47 : decode cX11_does 47 = .ok (.iconst 0, 1) := by decide +kernel
theorem dX11_does_48 : decode cX11_does 48 = .ok (.iaload, 1) := by decide +kernel
theorem dX11_does_49 : decode cX11_does 49 = .ok (.aload_n 0, 1) := by decide +kernel
theorem dX11_does_50 : decode cX11_does 50 = .ok (.getfield 54, 3) := by decide +kernel
theorem dX11_does_53 : decode cX11_does 53 = .ok (.iconst 1, 1) := by decide +kernel
theorem dX11_does_54 : decode cX11_does 54 = .ok (.iaload, 1) := by decide +kernel
theorem dX11_does_55 : decode cX11_does 55 = .ok (.aload_n 0, 1) := by decide +kernel
theorem dX11_does_56 : decode cX11_does 56 = .ok (.getfield 54, 3) := by decide +kernel
theorem dX11_does_59 : decode cX11_does 59 = .ok (.iconst 2, 1) := by decide +kernel
theorem dX11_does_60 : decode cX11_does 60 = .ok (.iaload, 1) := by decide +kernel
theorem dX11_does_61 : decode cX11_does 61 = .ok (.aload_n 0, 1) := by decide +kernel
theorem dX11_does_62 : decode cX11_does 62 = .ok (.getfield 54, 3) := by decide +kernel
theorem dX11_does_65 : decode cX11_does 65 = .ok (.iconst 3, 1) := by decide +kernel
theorem dX11_does_66 : decode cX11_does 66 = .ok (.iaload, 1) := by decide +kernel
theorem dX11_does_67 : decode cX11_does 67 = .ok (.invokevirtual 132, 3) := by decide +kernel
theorem dX11_does_70 : decode cX11_does 70 = .ok (.istore_n 1, 1) := by decide +kernel
theorem dX11_does_71 : decode cX11_does 71 = .ok (.iconst 1, 1) := by decide +kernel
theorem dX11_does_72 : decode cX11_does 72 = .ok (.ireturn, 1) := by decide +kernel
theorem dX11_does_73 : decode cX11_does 73 = .ok (.aload_n 0, 1) := by decide +kernel
theorem dX11_does_74 : decode cX11_does 74 = .ok (.getfield 220, 3) := by decide +kernel
theorem dX11_does_77 : decode cX11_does 77 = .ok (.bipush 99, 2) := by decide +kernel
theorem dX11_does_79 : decode cX11_does 79 = .ok (.if_icmp .ne 15, 3) := by decide +kernel
theorem dX11_does_82 : decode cX11_does 82 = .ok (.aload_n 0, 1) := by decide +kernel
theorem dX11_does_83 : decode cX11_does 83 = .ok (.getfield 7, 3) := by decide +kernel
theorem dX11_does_86 : decode cX11_does 86 = .ok (.bipush 64, 2) := by decide +kernel
theorem dX11_does_88 : decode cX11_does 88 = .ok (.iaload, 1) := by decide +kernel
theorem dX11_does_89 : decode cX11_does 89 = .ok (.ifCond .ne 5, 3) := by decide +kernel
theorem dX11_does_92 : decode cX11_does 92 = .ok (.iconst 0, 1) := by decide +kernel
theorem dX11_does_93 : decode cX11_does 93 = .ok (.ireturn, 1) := by decide +kernel
theorem dX11_does_94 : decode cX11_does 94 = .ok (.aload_n 0, 1) := by decide +kernel
theorem dX11_does_95 : decode cX11_does 95 = .ok (.getfield 220, 3) := by decide +kernel
theorem dX11_does_98 : decode cX11_does 98 = .ok (.bipush 99, 2) := by decide +kernel
theorem dX11_does_100 : decode cX11_does 100 = .ok (.if_icmp .ne 10, 3) := by decide +kernel
theorem dX11_does_103 : decode cX11_does 103 = .ok (.aload_n 0, 1) := by decide +kernel
theorem dX11_does_104 : decode cX11_does 104 = .ok (.invokevirtual 201, 3) := by decide +kernel
theorem dX11_does_107 : decode cX11_does 107 = .ok (.goto 7, 3) := by decide +kernel
theorem dX11_does_110 : decode cX11_does 110 = .ok (.aload_n 0, 1) := by decide +kernel
theorem dX11_does_111 : decode cX11_does 111 = .ok (.invokevirtual 208, 3) := by decide +kernel
theorem dX11_does_114 : decode cX11_does 114 = .ok (.istore_n 1, 1) := by decide +kernel
theorem dX11_does_115 : decode cX11_does 115 = .ok (.iconst 1, 1) := by decide +kernel
theorem dX11_does_116 : decode cX11_does 116 = .ok (.ireturn, 1) := by decide +kernel
set_option maxRecDepth 20000 in
theorem ggX11_run_X11_faultOf : GoodIn wsX11_run wsX11_faultOf := goodIn_r _ [8, 2, 3, 9, 10, 11, 7, 12, 13, 14, 15, 16, 17, 18, 19, 20, 21, 22, 23, 24, 25, 26, 27, 28, 29, 30, 31, 175, 176, 177, 178, 179, 180, 181, 182, 183, 184, 185, 186, 187, 188, 189, 190, 191, 192, 193, 194, 195, 196, 197, 198, 199] (by decide +kernel) (by decide +kernel)
set_option maxRecDepth 20000 in
theorem gX11_run_X11_faultOf : GoodIn wsX11_run (wsV RX11 233 RX11 yX11_faultOf wsX11_faultOf) := goodIn_app (goodIn_of _ (by decide +kernel)) ggX11_run_X11_faultOf
set_option maxRecDepth 20000 in
theorem ggX11_run_X11_records : GoodIn wsX11_run wsX11_records := goodIn_r _ [35, 36, 37, 38, 39, 40, 175, 176, 177, 178, 179, 180, 181, 182, 183, 184, 185, 186, 187, 188, 189, 190, 191, 192, 193, 194, 195, 196, 197, 198, 199] (by decide +kernel) (by decide +kernel)
set_option maxRecDepth 20000 in
theorem gX11_run_X11_records : GoodIn wsX11_run (wsV RX11 70 RX11 yX11_records wsX11_records) := goodIn_app (goodIn_of _ (by decide +kernel)) ggX11_run_X11_records
set_option maxRecDepth 20000 in
theorem ggX11_run_X11_readAct : GoodIn wsX11_run wsX11_readAct := goodIn_r _ [12, 13, 2, 14, 15, 16, 17, 7, 18, 3, 19, 20, 21, 22, 23, 24, 25, 26, 27, 28, 29, 30, 31, 175, 176, 177, 178, 179, 180, 181, 182, 183, 184, 185, 186, 187, 188, 189, 190, 191, 192, 193, 194, 195, 196, 197, 198, 199] (by decide +kernel) (by decide +kernel)
set_option maxRecDepth 20000 in
theorem gX11_run_X11_readAct : GoodIn wsX11_run (wsV RX11 229 RX11 yX11_readAct wsX11_readAct) := goodIn_app (goodIn_of _ (by decide +kernel)) ggX11_run_X11_readAct
