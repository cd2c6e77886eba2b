theorem dX11_factorFor_14 : decode cX11_factorFor 14 = .ok (.getfield 7, 3) := by decide +kernel
theorem dX11_factorFor_17 : decode cX11_factorFor 17 = .ok (.bipush 65, 2) := by decide +kernel
theorem dX11_factorFor_19 : decode cX11_factorFor 19 = .ok (.iaload, 1) := by decide +kernel
theorem dX11_factorFor_20 : decode cX11_factorFor 20 = .ok (.istore 5, 2) := by decide +kernel
theorem dX11_factorFor_22 : decode cX11_factorFor 22 = .ok (.iload 5, 2) := by decide +kernel
theorem dX11_factorFor_24 : decode cX11_factorFor 24 = .ok (.ifCond .ne 7, 3) := by decide +kernel
theorem dX11_factorFor_27 : decode cX11_factorFor 27 = .ok (.sipush 1000, 3) := by decide +kernel
theorem dX11_factorFor_30 : decode cX11_factorFor 30 = .ok (.ireturn, 1) := by decide +kernel
theorem dX11_factorFor_31 : decode cX11_factorFor 31 = .ok (.lload_n 3, 1) := by decide +kernel
theorem dX11_factorFor_32 : decode cX11_factorFor 32 = .ok (.aload_n 0, 1) := by decide +kernel
theorem dX11_factorFor_33 : decode cX11_factorFor 33 = .ok (.iconst 0, 1) := by decide +kernel
theorem dX11_factorFor_34 : decode cX11_factorFor 34 = .ok (.invokevirtual 87, 3) := by decide +kernel
theorem dX11_factorFor_37 : decode cX11_factorFor 37 = .ok (.i2l, 1) := by decide +kernel
theorem dX11_factorFor_38 : decode cX11_factorFor 38 = .ok (.lcmp, 1) := by decide +kernel
theorem dX11_factorFor_39 : decode cX11_factorFor 39 = .ok (.ifCond .gt 9, 3) := by decide +kernel
theorem dX11_factorFor_42 : decode cX11_factorFor 42 = .ok (.aload_n 0, 1) := by decide +kernel
theorem dX11_factorFor_43 : decode cX11_factorFor 43 = .ok (.iconst 0, 1) := by decide +kernel
theorem dX11_factorFor_44 : decode cX11_factorFor 44 = .ok (.invokevirtual 95, 3) := by decide +kernel
theorem dX11_factorFor_47 : decode cX11_factorFor 47 = .ok (.ireturn, 1) := by decide +kernel
theorem dX11_factorFor_48 : decode cX11_factorFor 48 = .ok (.lload_n 3, 1) := by decide +kernel
theorem dX11_factorFor_49 : decode cX11_factorFor 49 = .ok (.aload_n 0, 1) := by decide +kernel
theorem dX11_factorFor_50 : decode cX11_factorFor 50 = .ok (.iload 5, 2) := by decide +kernel
theorem dX11_factorFor_52 : decode cX11_factorFor 52 = .ok (.iconst 1, 1) := by decide +kernel
theorem dX11_factorFor_53 : decode cX11_factorFor 53 = .ok (.isub, 1) := by decide +kernel
theorem dX11_factorFor_54 : decode cX11_factorFor 54 = .ok (.invokevirtual 87, 3) := by decide +kernel
theorem dX11_factorFor_57 : decode cX11_factorFor 57 = .ok (.i2l, 1) := by decide +kernel
theorem dX11_factorFor_58 : decode cX11_factorFor 58 = .ok (.lcmp, 1) := by decide +kernel
theorem dX11_factorFor_59 : decode cX11_factorFor 59 = .ok (.ifCond .lt 12, 3) := by decide +kernel
theorem dX11_factorFor_62 : decode cX11_factorFor 62 = .ok (.aload_n 0, 1) := by decide +kernel
theorem dX11_factorFor_63 : decode cX11_factorFor 63 = .ok (.iload 5, 2) := by decide +kernel
theorem dX11_factorFor_65 : decode cX11_factorFor 65 = .ok (.iconst 1, 1) := by decide +kernel
theorem dX11_factorFor_66 : decode cX11_factorFor 66 = .ok (.isub, 1) := by decide +kernel
theorem dX11_factorFor_67 : decode cX11_factorFor 67 = .ok (.invokevirtual 95, 3) := by decide +kernel
theorem dX11_factorFor_70 : decode cX11_factorFor 70 = .ok (.ireturn, 1) := by decide +kernel
theorem dX11_factorFor_71 : decode cX11_factorFor 71 = .ok (.aload_n 0, 1) := by decide +kernel
theorem dX11_factorFor_72 : decode cX11_factorFor 72 = .ok (.lload_n 3, 1) := by decide +kernel
theorem dX11_factorFor_73 : decode cX11_factorFor 73 = .ok (.l2i, 1) := by decide +kernel
theorem dX11_factorFor_74 : decode cX11_factorFor 74 = .ok (.invokevirtual 92, 3) := by decide +kernel
theorem dX11_factorFor_77 : decode cX11_factorFor 77 = .ok (.istore 6, 2) := by decide +kernel
theorem dX11_factorFor_79 : decode cX11_factorFor 79 = .ok (.aload_n 0, 1) := by decide +kernel
theorem dX11_factorFor_80 : decode cX11_factorFor 80 = .ok (.iload 6, 2) := by decide +kernel
theorem dX11_factorFor_82 : decode cX11_factorFor 82 = .ok (.invokevirtual 87, 3) := by decide +kernel
theorem dX11_factorFor_85 : decode cX11_factorFor 85 = .ok (.i2l, 1) := by decide +kernel
theorem dX11_factorFor_86 : decode cX11_factorFor 86 = .ok (.lload_n 3, 1) := by decide +kernel
theorem dX11_factorFor_87 : decode cX11_factorFor 87 = .ok (.lcmp, 1) := by decide +kernel
theorem dX11_factorFor_88 : decode cX11_factorFor 88 = .ok (.ifCond .ne 10, 3) := by decide +kernel
theorem dX11_factorFor_91 : decode cX11_factorFor 91 = .ok (.aload_n 0, 1) := by decide +kernel
theorem dX11_factorFor_92 : decode cX11_factorFor 92 = .ok (.iload 6, 2) := by decide +kernel
theorem dX11_factorFor_94 : decode cX11_factorFor 94 = .ok (.invokevirtual 95, 3) := by decide +kernel
theorem dX11_factorFor_97 : decode cX11_factorFor 97 = .ok (.ireturn, 1) := by decide +kernel
theorem dX11_factorFor_98 : decode cX11_factorFor 98 = .ok (.aload_n 0, 1) := by decide +kernel
theorem dX11_factorFor_99 : decode cX11_factorFor 99 = .ok (.iload 6, 2) := by decide +kernel
theorem dX11_factorFor_101 : decode cX11_factorFor 101 = .ok (.iconst 1, 1) := by decide +kernel
theorem dX11_factorFor_102 : decode cX11_factorFor 102 = .ok (.isub, 1) := by decide +kernel
theorem dX11_factorFor_103 : decode cX11_factorFor 103 = .ok (.invokevirtual 87, 3) := by decide +kernel
theorem dX11_factorFor_106 : decode cX11_factorFor 106 = .ok (.i2l, 1) := by decide +kernel
theorem dX11_factorFor_107 : decode cX11_factorFor 107 = .ok (.lstore 7, 2) := by decide +kernel
theorem dX11_factorFor_109 : decode cX11_factorFor 109 = .ok (.aload_n 0, 1) := by decide +kernel
theorem dX11_factorFor_110 : decode cX11_factorFor 110 = .ok (.iload 6, 2) := by decide +kernel
theorem dX11_factorFor_112 : decode cX11_factorFor 112 = .ok (.invokevirtual 87, 3) := by decide +kernel
theorem dX11_factorFor_115 : decode cX11_factorFor 115 = .ok (.i2l, 1) := by decide +kernel
theorem dX11_factorFor_116 : decode cX11_factorFor 116 = .ok (.lstore 9, 2) := by decide +kernel
theorem dX11_factorFor_118 : decode cX11_factorFor 118 = .ok (.aload_n 0, 1) := by decide +kernel
theorem dX11_factorFor_119 : decode cX11_factorFor 119 = .ok (.iload 6, 2) := by decide +kernel
theorem dX11_factorFor_121 : decode cX11_factorFor 121 = .ok (.iconst 1, 1) := by decide +kernel
theorem dX11_factorFor_122 : decode cX11_factorFor 122 = .ok (.isub, 1) := by decide +kernel
theorem dX11_factorFor_123 : decode cX11_factorFor 123 = .ok (.invokevirtual 95, 3) := by decide +kernel
theorem dX11_factorFor_126 : decode cX11_factorFor 126 = .ok (.i2l, 1) := by decide +kernel
theorem dX11_factorFor_127 : decode cX11_factorFor 127 = .ok (.lload 9, 2) := by decide +kernel
theorem dX11_factorFor_129 : decode cX11_factorFor 129 = .ok (.lload_n 3, 1) := by decide +kernel
theorem dX11_factorFor_130 : decode cX11_factorFor 130 = .ok (.lsub, 1) := by decide +kernel
theorem dX11_factorFor_131 : decode cX11_factorFor 131 = .ok (.lmul, 1) := by decide +kernel
theorem dX11_factorFor_132 : decode cX11_factorFor 132 = .ok (.aload_n 0, 1) := by decide +kernel
theorem dX11_factorFor_133 : decode cX11_factorFor 133 = .ok (.iload 6, 2) := by decide +kernel
theorem dX11_factorFor_135 : decode cX11_factorFor 135 = .ok (.invokevirtual 95, 3) := by decide +kernel
theorem dX11_factorFor_138 : decode cX11_factorFor 138 = .ok (.i2l, 1) := by decide +kernel
theorem dX11_factorFor_139 : decode cX11_factorFor 139 = .ok (.lload_n 3, 1) := by decide +kernel
theorem dX11_factorFor_140 : decode cX11_factorFor 140 = .ok (.lload 7, 2) := by decide +kernel
theorem dX11_factorFor_142 : decode cX11_factorFor 142 = .ok (.lsub, 1) := by decide +kernel
theorem dX11_factorFor_143 : decode cX11_factorFor 143 = .ok (.lmul, 1) := by decide +kernel
theorem dX11_factorFor_144 : decode cX11_factorFor 144 = .ok (.ladd, 1) := by decide +kernel
theorem dX11_factorFor_145 : decode cX11_factorFor 145 = .ok (.lload 9, 2) := by decide +kernel
theorem dX11_factorFor_147 : decode cX11_factorFor 147 = .ok (.lload 7, 2) := by decide +kernel
theorem dX11_factorFor_149 : decode cX11_factorFor 149 = .ok (.lsub, 1) := by decide +kernel
theorem dX11_factorFor_150 : decode cX11_factorFor 150 = .ok (.ldiv, 1) := by decide +kernel
theorem dX11_factorFor_151 : decode cX11_factorFor 151 = .ok (.l2i, 1) := by decide +kernel
theorem dX11_factorFor_152 : decode cX11_factorFor 152 = .ok (.ireturn, 1) := by decide +kernel
set_option maxRecDepth 20000 in
theorem ggX11_velocityOf_X11_of : GoodIn wsX11_velocityOf wsX11_of := goodIn_r _ [8, 9, 13, 14, 15, 16, 17, 18, 19, 20, 21, 22, 23, 24, 25, 26, 27, 28, 29, 30, 31, 32, 33, 34, 35, 36, 37] (by decide +kernel) (by decide +kernel)
set_option maxRecDepth 20000 in
theorem gX11_velocityOf_X11_of : GoodIn wsX11_velocityOf (wsV RX11 83 RX11 yX11_of wsX11_of) := goodIn_app (goodIn_of _ (by decide +kernel)) ggX11_velocityOf_X11_of
set_option maxRecDepth 20000 in
theorem ggX11_velocityOf_X11_held : GoodIn wsX11_velocityOf wsX11_held := goodIn_r _ [12] (by decide +kernel) (by decide +kernel)
set_option maxRecDepth 20000 in
theorem gX11_velocityOf_X11_held : GoodIn wsX11_velocityOf (va_wsS RX11 112 yX11_held wsX11_held) := goodIn_app (goodIn_of _ (by decide +kernel)) ggX11_velocityOf_X11_held
theorem dX11_velocityOf_0 : decode cX11_velocityOf 0 = .ok (.iload_n 2, 1) := by decide +kernel
theorem dX11_velocityOf_1 : decode cX11_velocityOf 1 = .ok (.aload_n 0, 1) := by decide +kernel
theorem dX11_velocityOf_2 : decode cX11_velocityOf 2 = .ok (.iload_n 1, 1) := by decide +kernel
theorem dX11_velocityOf_3 : decode cX11_velocityOf 3 = .ok (.iconst 4, 1) := by decide +kernel
theorem dX11_velocityOf_4 : decode cX11_velocityOf 4 = .ok (.invokevirtual 83, 3) := by decide +kernel
theorem dX11_velocityOf_7 : decode cX11_velocityOf 7 = .ok (.isub, 1) := by decide +kernel
theorem dX11_velocityOf_8 : decode cX11_velocityOf 8 = .ok (.i2l, 1) := by decide +kernel
theorem dX11_velocityOf_9 : decode cX11_velocityOf 9 = .ok (.lstore 4, 2) := by decide +kernel
theorem dX11_velocityOf_11 : decode cX11_velocityOf 11 = .ok (.iload_n 3, 1) := by decide +kernel
theorem dX11_velocityOf_12 : decode cX11_velocityOf 12 = .ok (.aload_n 0, 1) := by decide +kernel
theorem dX11_velocityOf_13 : decode cX11_velocityOf 13 = .ok (.iload_n 1, 1) := by decide +kernel
theorem dX11_velocityOf_14 : decode cX11_velocityOf 14 = .ok (.iconst 4, 1) := by decide +kernel
theorem dX11_velocityOf_15 : decode cX11_velocityOf 15 = .ok (.invokevirtual 83, 3) := by decide +kernel
theorem dX11_velocityOf_18 : decode cX11_velocityOf 18 = .ok (.isub, 1) := by decide +kernel
theorem dX11_velocityOf_19 : decode cX11_velocityOf 19 = .ok (.i2l, 1) := by decide +kernel
theorem dX11_velocityOf_20 : decode cX11_velocityOf 20 = .ok (.lstore 6, 2) := by decide +kernel
theorem dX11_velocityOf_22 : decode cX11_velocityOf 22 = .ok (.aload_n 0, 1) := by decide +kernel
theorem dX11_velocityOf_23 : decode cX11_velocityOf 23 = .ok (.iload_n 1, 1) := by decide +kernel
theorem dX11_velocityOf_24 : decode cX11_velocityOf 24 = .ok (.iconst 0, 1) := by decide +kernel
theorem dX11_velocityOf_25 : decode cX11_velocityOf 25 = .ok (.invokevirtual 83, 3) := by decide +kernel
theorem dX11_velocityOf_28 : decode cX11_velocityOf 28 = .ok (.i2l, 1) := by decide +kernel
theorem dX11_velocityOf_29 : decode cX11_velocityOf 29 = .ok (.aload_n 0, 1) := by decide +kernel
theorem dX11_velocityOf_30 : decode cX11_velocityOf 30 = .ok (.iload_n 1, 1) := by decide +kernel
theorem dX11_velocityOf_31 : decode cX11_velocityOf 31 = .ok (.iconst 0, 1) := by decide +kernel
theorem dX11_velocityOf_32 : decode cX11_velocityOf 32 = .ok (.invokevirtual 83, 3) := by decide +kernel
theorem dX11_velocityOf_35 : decode cX11_velocityOf 35 = .ok (.i2l, 1) := by decide +kernel
theorem dX11_velocityOf_36 : decode cX11_velocityOf 36 = .ok (.lmul, 1) := by decide +kernel
theorem dX11_velocityOf_37 : decode cX11_velocityOf 37 = .ok (.ldc2_w 106, 3) := by decide +kernel
theorem dX11_velocityOf_40 : decode cX11_velocityOf 40 = .ok (.lmul, 1) := by decide +kernel
theorem dX11_velocityOf_41 : decode cX11_velocityOf 41 = .ok (.aload_n 0, 1) := by decide +kernel
theorem dX11_velocityOf_42 : decode cX11_velocityOf 42 = .ok (.iload_n 1, 1) := by decide +kernel
theorem dX11_velocityOf_43 : decode cX11_velocityOf 43 = .ok (.iconst 1, 1) := by decide +kernel
theorem dX11_velocityOf_44 : decode cX11_velocityOf 44 = .ok (.invokevirtual 83, 3) := by decide +kernel
theorem dX11_velocityOf_47 : decode cX11_velocityOf 47 = .ok (.i2l, 1) := by decide +kernel
theorem dX11_velocityOf_48 : decode cX11_velocityOf 48 = .ok (.ldiv, 1) := by decide +kernel
theorem dX11_velocityOf_49 : decode cX11_velocityOf 49 = .ok (.lstore 8, 2) := by decide +kernel
theorem dX11_velocityOf_51 : decode cX11_velocityOf 51 = .ok (.lload 8, 2) := by decide +kernel
theorem dX11_velocityOf_53 : decode cX11_velocityOf 53 = .ok (.lload 6, 2) := by decide +kernel
theorem dX11_velocityOf_55 : decode cX11_velocityOf 55 = .ok (.lload 4, 2) := by decide +kernel
theorem dX11_velocityOf_57 : decode cX11_velocityOf 57 = .ok (.lsub, 1) := by decide +kernel
theorem dX11_velocityOf_58 : decode cX11_velocityOf 58 = .ok (.lmul, 1) := by decide +kernel
theorem dX11_velocityOf_59 : decode cX11_velocityOf 59 = .ok (.lload 4, 2) := by decide +kernel
theorem dX11_velocityOf_61 : decode cX11_velocityOf 61 = .ok (.lload 6, 2) := by decide +kernel
theorem dX11_velocityOf_63 : decode cX11_velocityOf 63 = .ok (.lmul, 1) := by decide +kernel
theorem dX11_velocityOf_64 : decode cX11_velocityOf 64 = .ok (.ldc2_w 108, 3) := by decide +kernel
theorem dX11_velocityOf_67 : decode cX11_velocityOf 67 = .ok (.ldiv, 1) := by decide +kernel
theorem dX11_velocityOf_68 : decode cX11_velocityOf 68 = .ok (.ldiv, 1) := by decide +kernel
theorem dX11_velocityOf_69 : decode cX11_velocityOf 69 = .ok (.ldc2_w 110, 3) := by decide +kernel
theorem dX11_velocityOf_72 : decode cX11_velocityOf 72 = .ok (.invokestatic 112, 3) := by decide +kernel
theorem dX11_velocityOf_75 : decode cX11_velocityOf 75 = .ok (.l2i, 1) := by decide +kernel
theorem dX11_velocityOf_76 : decode cX11_velocityOf 76 = .ok (.ireturn, 1) := by decide +kernel
set_option maxRecDepth 20000 in
theorem ggX11_isAbove_X11_of : GoodIn wsX11_isAbove wsX11_of := goodIn_r _ [5, 6, 7, 8, 9, 10, 11, 12, 13, 14, 15, 16, 17, 18, 19, 20, 21, 22, 23, 24, 25, 26, 27, 28, 29, 30, 31] (by decide +kernel) (by decide +kernel)
set_option maxRecDepth 20000 in
theorem gX11_isAbove_X11_of : GoodIn wsX11_isAbove (wsV RX11 83 RX11 yX11_of wsX11_of) := goodIn_app (goodIn_of _ (by decide +kernel)) ggX11_isAbove_X11_of
theorem dX11_isAbove_0 : decode cX11_isAbove 0 = .ok (.iload_n 2, 1) := by decide +kernel
theorem dX11_isAbove_1 : decode cX11_isAbove 1 = .ok (.aload_n 0, 1) := by decide +kernel
theorem dX11_isAbove_2 : decode cX11_isAbove 2 = .ok (.iload_n 1, 1) := by decide +kernel
theorem dX11_isAbove_3 : decode cX11_isAbove 3 = .ok (.iconst 4, 1) := by decide +kernel
theorem dX11_isAbove_4 : decode cX11_isAbove 4 = .ok (.invokevirtual 83, 3) := by decide +kernel
theorem dX11_isAbove_7 : decode cX11_isAbove 7 = .ok (.sipush 1000, 3) := by decide +kernel
theorem dX11_isAbove_10 : decode cX11_isAbove 10 = .ok (.iadd, 1) := by decide +kernel
theorem dX11_isAbove_11 : decode cX11_isAbove 11 = .ok (.if_icmp .lt 7, 3) := by decide +kernel
theorem dX11_isAbove_14 : decode cX11_isAbove 14 = .ok (.iconst 1, 1) := by decide +kernel
theorem dX11_isAbove_15 : decode cX11_isAbove 15 = .ok (.goto 4, 3) := by decide +kernel
theorem dX11_isAbove_18 : decode cX11_isAbove 18 = .ok (.iconst 0, 1) := by decide +kernel
theorem dX11_isAbove_19 : decode cX11_isAbove 19 = .ok (.ireturn, 1) := by decide +kernel
set_option maxRecDepth 20000 in
theorem ggX11_isTime_X11_in : GoodIn wsX11_isTime wsX11_in := goodIn_r _ [5] (by decide +kernel) (by decide +kernel)
set_option maxRecDepth 20000 in
theorem gX11_isTime_X11_in : GoodIn wsX11_isTime (va_wsS RX11 64 yX11_in wsX11_in) := goodIn_app (goodIn_of _ (by decide +kernel)) ggX11_isTime_X11_in
theorem dX11_isTime_0 : decode cX11_isTime 0 = .ok (.iload_n 0, 1) := by decide +kernel
theorem dX11_isTime_1 : decode cX11_isTime 1 = .ok (.sipush 1000, 3) := by decide +kernel
theorem dX11_isTime_4 : decode cX11_isTime 4 = .ok (.ldc 116, 2) := by decide +kernel
theorem dX11_isTime_6 : decode cX11_isTime 6 = .ok (.invokestatic 64, 3) := by decide +kernel
theorem dX11_isTime_9 : decode cX11_isTime 9 = .ok (.ireturn, 1) := by decide +kernel
set_option maxRecDepth 20000 in
theorem ggX11_shots_X11_of : GoodIn wsX11_shots wsX11_of := goodIn_r _ [7, 1, 8, 9, 10, 11, 12, 13, 14, 15, 16, 17, 18, 19, 20, 21, 22, 23, 24, 25, 26, 27, 28, 29, 30, 31, 32] (by decide +kernel) (by decide +kernel)
set_option maxRecDepth 20000 in
theorem gX11_shots_X11_of : GoodIn wsX11_shots (wsV RX11 83 RX11 yX11_of wsX11_of) := goodIn_app (goodIn_of _ (by decide +kernel)) ggX11_shots_X11_of
theorem dX11_shots_0 : decode cX11_shots 0 = .ok (.iconst 0, 1) := by decide +kernel
theorem dX11_shots_1 : decode cX11_shots 1 = .ok (.istore_n 1, 1) := by decide +kernel
theorem dX11_shots_2 : decode cX11_shots 2 = .ok (.iconst 0, 1) := by decide +kernel
theorem dX11_shots_3 : decode cX11_shots 3 = .ok (.istore_n 2, 1) := by decide +kernel
theorem dX11_shots_4 : decode cX11_shots 4 = .ok (.iload_n 2, 1) := by decide +kernel
theorem dX11_shots_5 : decode cX11_shots 5 = .ok (.aload_n 0, 1) := by decide +kernel
theorem dX11_shots_6 : decode cX11_shots 6 = .ok (.getfield 7, 3) := by decide +kernel
theorem dX11_shots_9 : decode cX11_shots 9 = .ok (.bipush 64, 2) := by decide +kernel
theorem dX11_shots_11 : decode cX11_shots 11 = .ok (.iaload, 1) := by decide +kernel
theorem dX11_shots_12 : decode cX11_shots 12 = .ok (.if_icmp .ge 29, 3) := by decide +kernel
theorem dX11_shots_15 : decode cX11_shots 15 = .ok (.iload_n 1, 1) := by decide +kernel
theorem dX11_shots_16 : decode cX11_shots 16 = .ok (.aload_n 0, 1) := by decide +kernel
theorem dX11_shots_17 : decode cX11_shots 17 = .ok (.iload_n 2, 1) := by decide +kernel
theorem dX11_shots_18 : decode cX11_shots 18 = .ok (.bipush 13, 2) := by decide +kernel
theorem dX11_shots_20 : decode cX11_shots 20 = .ok (.invokevirtual 83, 3) := by decide +kernel
theorem dX11_shots_23 : decode cX11_shots 23 = .ok (.ldc 77, 2) := by decide +kernel
theorem dX11_shots_25 : decode cX11_shots 25 = .ok (.if_icmp .ne 7, 3) := by decide +kernel
theorem dX11_shots_28 : decode cX11_shots 28 = .ok (.iconst 0, 1) := by decide +kernel
theorem dX11_shots_29 : decode cX11_shots 29 = .ok (.goto 4, 3) := by decide +kernel
theorem dX11_shots_32 : decode cX11_shots 32 = .ok (.iconst 1, 1) := by decide +kernel
theorem dX11_shots_33 : decode cX11_shots 33 = .ok (.iadd, 1) := by decide +kernel
theorem dX11_shots_34 : decode cX11_shots 34 = .ok (.istore_n 1, 1) := by decide +kernel
theorem dX11_shots_35 : decode cX11_shots 35 = .ok (.iinc 2 1, 3) := by decide +kernel
theorem dX11_shots_38 : decode cX11_shots 38 = .ok (.goto (-34), 3) := by decide +kernel
theorem dX11_shots_41 : decode cX11_shots 41 = .ok (.iload_n 1, 1) := by decide +kernel
theorem dX11_shots_42 : decode cX11_shots 42 = .ok (.ireturn, 1) := by decide +kernel
set_option maxRecDepth 20000 in
theorem ggX11_whyShot_X11_isPath : GoodIn wsX11_whyShot wsX11_isPath := goodIn_r _ [7, 8, 9, 10, 6, 11, 24, 25, 26, 27, 28, 29, 30, 31, 32, 33, 34, 35, 36, 37, 38, 39, 40, 41, 42, 43, 44, 45, 46, 47, 48] (by decide +kernel) (by decide +kernel)
set_option maxRecDepth 20000 in
theorem gX11_whyShot_X11_isPath : GoodIn wsX11_whyShot (wsV RX11 78 RX11 yX11_isPath wsX11_isPath) := goodIn_app (goodIn_of _ (by decide +kernel)) ggX11_whyShot_X11_isPath
set_option maxRecDepth 20000 in
theorem ggX11_whyShot_X11_isTime : GoodIn wsX11_whyShot wsX11_isTime := goodIn_r _ [14, 15, 9, 10, 6, 11] (by decide +kernel) (by decide +kernel)
set_option maxRecDepth 20000 in
theorem gX11_whyShot_X11_isTime : GoodIn wsX11_whyShot (va_wsS RX11 117 yX11_isTime wsX11_isTime) := goodIn_app (goodIn_of _ (by decide +kernel)) ggX11_whyShot_X11_isTime
set_option maxRecDepth 20000 in
theorem ggX11_whyShot_X11_in : GoodIn wsX11_whyShot wsX11_in := goodIn_r _ [11] (by decide +kernel) (by decide +kernel)
set_option maxRecDepth 20000 in
theorem gX11_whyShot_X11_in : GoodIn wsX11_whyShot (va_wsS RX11 64 yX11_in wsX11_in) := goodIn_app (goodIn_of _ (by decide +kernel)) ggX11_whyShot_X11_in
set_option maxRecDepth 20000 in
theorem ggX11_whyShot_X11_isAbove : GoodIn wsX11_whyShot wsX11_isAbove := goodIn_r _ [19, 20, 21, 22, 6, 23, 8, 24, 25, 26, 27, 28, 29, 30, 31, 32, 33, 34, 35, 36, 37, 38, 39, 40, 41, 42, 43, 44, 45, 46, 47, 48] (by decide +kernel) (by decide +kernel)
set_option maxRecDepth 20000 in
theorem gX11_whyShot_X11_isAbove : GoodIn wsX11_whyShot (wsV RX11 120 RX11 yX11_isAbove wsX11_isAbove) := goodIn_app (goodIn_of _ (by decide +kernel)) ggX11_whyShot_X11_isAbove
theorem dX11_whyShot_0 : decode cX11_whyShot 0 = .ok (.aload_n 0, 1) := by decide +kernel
theorem dX11_whyShot_1 : decode cX11_whyShot 1 = .ok (.iload_n 1, 1) := by decide +kernel
theorem dX11_whyShot_2 : decode cX11_whyShot 2 = .ok (.invokevirtual 78, 3) := by decide +kernel
theorem dX11_whyShot_5 : decode cX11_whyShot 5 = .ok (.ifCond .ne 6, 3) := by decide +kernel
theorem dX11_whyShot_8 : decode cX11_whyShot 8 = .ok (.ldc 82, 2) := by decide +kernel
theorem dX11_whyShot_10 : decode cX11_whyShot 10 = .ok (.ireturn, 1) := by decide +kernel
theorem dX11_whyShot_11 : decode cX11_whyShot 11 = .ok (.iload_n 2, 1) := by decide +kernel
theorem dX11_whyShot_12 : decode cX11_whyShot 12 = .ok (.invokestatic 117, 3) := by decide +kernel
theorem dX11_whyShot_15 : decode cX11_whyShot 15 = .ok (.ifCond .eq 43, 3) := by decide +kernel
theorem dX11_whyShot_18 : decode cX11_whyShot 18 = .ok (.iload_n 3, 1) := by decide +kernel
theorem dX11_whyShot_19 : decode cX11_whyShot 19 = .ok (.invokestatic 117, 3) := by decide +kernel
theorem dX11_whyShot_22 : decode cX11_whyShot 22 = .ok (.ifCond .eq 36, 3) := by decide +kernel
theorem dX11_whyShot_25 : decode cX11_whyShot 25 = .ok (.iload 4, 2) := by decide +kernel
theorem dX11_whyShot_27 : decode cX11_whyShot 27 = .ok (.iconst 0, 1) := by decide +kernel
theorem dX11_whyShot_28 : decode cX11_whyShot 28 = .ok (.bipush 100, 2) := by decide +kernel
theorem dX11_whyShot_30 : decode cX11_whyShot 30 = .ok (.invokestatic 64, 3) := by decide +kernel
theorem dX11_whyShot_33 : decode cX11_whyShot 33 = .ok (.ifCond .eq 25, 3) := by decide +kernel
theorem dX11_whyShot_36 : decode cX11_whyShot 36 = .ok (.aload_n 0, 1) := by decide +kernel
theorem dX11_whyShot_37 : decode cX11_whyShot 37 = .ok (.iload_n 1, 1) := by decide +kernel
theorem dX11_whyShot_38 : decode cX11_whyShot 38 = .ok (.iload_n 2, 1) := by decide +kernel
theorem dX11_whyShot_39 : decode cX11_whyShot 39 = .ok (.invokevirtual 120, 3) := by decide +kernel
theorem dX11_whyShot_42 : decode cX11_whyShot 42 = .ok (.ifCond .eq 16, 3) := by decide +kernel
theorem dX11_whyShot_45 : decode cX11_whyShot 45 = .ok (.aload_n 0, 1) := by decide +kernel
theorem dX11_whyShot_46 : decode cX11_whyShot 46 = .ok (.iload_n 1, 1) := by decide +kernel
theorem dX11_whyShot_47 : decode cX11_whyShot 47 = .ok (.iload_n 3, 1) := by decide +kernel
theorem dX11_whyShot_48 : decode cX11_whyShot 48 = .ok (.invokevirtual 120, 3) := by decide +kernel
theorem dX11_whyShot_51 : decode cX11_whyShot 51 = .ok (.ifCond .eq 7, 3) := by decide +kernel
theorem dX11_whyShot_54 : decode cX11_whyShot 54 = .ok (.iconst 1, 1) := by decide +kernel
theorem dX11_whyShot_55 : decode cX11_whyShot 55 = .ok (.goto 4, 3) := by decide +kernel
theorem dX11_whyShot_58 : decode cX11_whyShot 58 = .ok (.iconst 0, 1) := by decide +kernel
theorem dX11_whyShot_59 : decode cX11_whyShot 59 = .ok (.istore 5, 2) := by decide +kernel
theorem dX11_whyShot_61 : decode cX11_whyShot 61 = .ok (.iload 5, 2) := by decide +kernel
theorem dX11_whyShot_63 : decode cX11_whyShot 63 = .ok (.ifCond .eq 7, 3) := by decide +kernel
theorem dX11_whyShot_66 : decode cX11_whyShot 66 = .ok (.iconst 0, 1) := by decide +kernel
theorem dX11_whyShot_67 : decode cX11_whyShot 67 = .ok (.goto 5, 3) := by decide +kernel
theorem dX11_whyShot_70 : decode cX11_whyShot 70 = .ok (.ldc 68, 2) := by decide +kernel
theorem dX11_whyShot_72 : decode cX11_whyShot 72 = .ok (.ireturn, 1) := by decide +kernel
set_option maxRecDepth 20000 in
theorem ggX11_shoots_X11_lay : GoodIn wsX11_shoots wsX11_lay := goodIn_r _ [6, 1, 16, 17, 18, 19, 20, 21, 22, 23, 24, 25, 26, 27, 28, 29, 30, 31, 32, 33, 34, 35, 36, 37, 38, 39, 40] (by decide +kernel) (by decide +kernel)
set_option maxRecDepth 20000 in
theorem gX11_shoots_X11_lay : GoodIn wsX11_shoots (wsV RX11 73 RX11 yX11_lay wsX11_lay) := goodIn_app (goodIn_of _ (by decide +kernel)) ggX11_shoots_X11_lay
set_option maxRecDepth 20000 in
theorem ggX11_shoots_X11_shots : GoodIn wsX11_shoots wsX11_shots := goodIn_r _ [10, 1, 11, 12, 13, 14, 5, 15, 16, 17, 18, 19, 20, 21, 22, 23, 24, 25, 26, 27, 28, 29, 30, 31, 32, 33, 34, 35, 36, 37, 38, 39, 40] (by decide +kernel) (by decide +kernel)
set_option maxRecDepth 20000 in
theorem gX11_shoots_X11_shots : GoodIn wsX11_shoots (wsV RX11 124 RX11 yX11_shots wsX11_shots) := goodIn_app (goodIn_of _ (by decide +kernel)) ggX11_shoots_X11_shots
theorem dX11_shoots_0 : decode cX11_shoots 0 = .ok (.aload_n 0, 1) := by decide +kernel
theorem dX11_shoots_1 : decode cX11_shoots 1 = .ok (.iload_n 1, 1) := by decide +kernel
theorem dX11_shoots_2 : decode cX11_shoots 2 = .ok (.bipush 13, 2) := by decide +kernel
theorem dX11_shoots_4 : decode cX11_shoots 4 = .ok (.aload_n 0, 1) := by decide +kernel
theorem dX11_shoots_5 : decode cX11_shoots 5 = .ok (.getfield 7, 3) := by decide +kernel
theorem dX11_shoots_8 : decode cX11_shoots 8 = .ok (.bipush 83, 2) := by decide +kernel
theorem dX11_shoots_10 : decode cX11_shoots 10 = .ok (.iaload, 1) := by decide +kernel
theorem dX11_shoots_11 : decode cX11_shoots 11 = .ok (.iadd, 1) := by decide +kernel
theorem dX11_shoots_12 : decode cX11_shoots 12 = .ok (.iload_n 2, 1) := by decide +kernel
theorem dX11_shoots_13 : decode cX11_shoots 13 = .ok (.invokevirtual 73, 3) := by decide +kernel
theorem dX11_shoots_16 : decode cX11_shoots 16 = .ok (.aload_n 0, 1) := by decide +kernel
theorem dX11_shoots_17 : decode cX11_shoots 17 = .ok (.iload_n 1, 1) := by decide +kernel
theorem dX11_shoots_18 : decode cX11_shoots 18 = .ok (.bipush 14, 2) := by decide +kernel
theorem dX11_shoots_20 : decode cX11_shoots 20 = .ok (.aload_n 0, 1) := by decide +kernel
theorem dX11_shoots_21 : decode cX11_shoots 21 = .ok (.getfield 7, 3) := by decide +kernel
theorem dX11_shoots_24 : decode cX11_shoots 24 = .ok (.bipush 83, 2) := by decide +kernel
theorem dX11_shoots_26 : decode cX11_shoots 26 = .ok (.iaload, 1) := by decide +kernel
theorem dX11_shoots_27 : decode cX11_shoots 27 = .ok (.isub, 1) := by decide +kernel
theorem dX11_shoots_28 : decode cX11_shoots 28 = .ok (.iload_n 3, 1) := by decide +kernel
theorem dX11_shoots_29 : decode cX11_shoots 29 = .ok (.invokevirtual 73, 3) := by decide +kernel
theorem dX11_shoots_32 : decode cX11_shoots 32 = .ok (.aload_n 0, 1) := by decide +kernel
theorem dX11_shoots_33 : decode cX11_shoots 33 = .ok (.iload_n 1, 1) := by decide +kernel
theorem dX11_shoots_34 : decode cX11_shoots 34 = .ok (.bipush 15, 2) := by decide +kernel
theorem dX11_shoots_36 : decode cX11_shoots 36 = .ok (.iload 4, 2) := by decide +kernel
theorem dX11_shoots_38 : decode cX11_shoots 38 = .ok (.invokevirtual 73, 3) := by decide +kernel
theorem dX11_shoots_41 : decode cX11_shoots 41 = .ok (.aload_n 0, 1) := by decide +kernel
theorem dX11_shoots_42 : decode cX11_shoots 42 = .ok (.invokevirtual 124, 3) := by decide +kernel
theorem dX11_shoots_45 : decode cX11_shoots 45 = .ok (.ireturn, 1) := by decide +kernel
set_option maxRecDepth 20000 in
theorem ggX11_shot_X11_whyShot : GoodIn wsX11_shot wsX11_whyShot := goodIn_r _ [5, 6, 7, 8, 9, 10, 4, 11, 12, 13, 14, 15, 16, 17, 18, 19, 20, 21, 22, 23, 24, 25, 26, 27, 49, 50, 51, 52, 53, 54, 55, 56, 57, 58, 59, 60, 61, 62, 63, 64, 65, 66, 67, 68, 69, 70, 71, 72, 73] (by decide +kernel) (by decide +kernel)
set_option maxRecDepth 20000 in
theorem gX11_shot_X11_whyShot : GoodIn wsX11_shot (wsV RX11 128 RX11 yX11_whyShot wsX11_whyShot) := goodIn_app (goodIn_of _ (by decide +kernel)) ggX11_shot_X11_whyShot
set_option maxRecDepth 20000 in
theorem ggX11_shot_X11_records : GoodIn wsX11_shot wsX11_records := goodIn_r _ [31, 32, 33, 34, 12, 35, 49, 50, 51, 52, 53, 54, 55, 56, 57, 58, 59, 60, 61, 62, 63, 64, 65, 66, 67, 68, 69, 70, 71, 72, 73] (by decide +kernel) (by decide +kernel)
set_option maxRecDepth 20000 in
theorem gX11_shot_X11_records : GoodIn wsX11_shot (wsV RX11 70 RX11 yX11_records wsX11_records) := goodIn_app (goodIn_of _ (by decide +kernel)) ggX11_shot_X11_records
set_option maxRecDepth 20000 in
theorem ggX11_shot_X11_shoots : GoodIn wsX11_shot wsX11_shoots := goodIn_r _ [39, 12, 40, 41, 42, 4, 43, 44, 45, 46, 47, 48, 24, 25, 26, 27, 49, 50, 51, 52, 53, 54, 55, 56, 57, 58, 59, 60, 61, 62, 63, 64, 65, 66, 67, 68, 69, 70, 71, 72, 73] (by decide +kernel) (by decide +kernel)
set_option maxRecDepth 20000 in
theorem gX11_shot_X11_shoots : GoodIn wsX11_shot (wsV RX11 132 RX11 yX11_shoots wsX11_shoots) := goodIn_app (goodIn_of _ (by decide +kernel)) ggX11_shot_X11_shoots
theorem dX11_shot_0 : decode cX11_shot 0 = .ok (.aload_n 0, 1) := by decide +kernel
theorem dX11_shot_1 : decode cX11_shot 1 = .ok (.iload_n 1, 1) := by decide +kernel
theorem dX11_shot_2 : decode cX11_shot 2 = .ok (.iload_n 2, 1) := by decide +kernel
theorem dX11_shot_3 : decode cX11_shot 3 = .ok (.iload_n 3, 1) := by decide +kernel
theorem dX11_shot_4 : decode cX11_shot 4 = .ok (.iload 4, 2) := by decide +kernel
theorem dX11_shot_6 : decode cX11_shot 6 = .ok (.invokevirtual 128, 3) := by decide +kernel
theorem dX11_shot_9 : decode cX11_shot 9 = .ok (.istore 5, 2) := by decide +kernel
theorem dX11_shot_11 : decode cX11_shot 11 = .ok (.iload 5, 2) := by decide +kernel
theorem dX11_shot_13 : decode cX11_shot 13 = .ok (.ifCond .ge 6, 3) := by decide +kernel
theorem dX11_shot_16 : decode cX11_shot 16 = .ok (.iload 5, 2) := by decide +kernel
theorem dX11_shot_18 : decode cX11_shot 18 = .ok (.ireturn, 1) := by decide +kernel
theorem dX11_shot_19 : decode cX11_shot 19 = .ok (.aload_n 0, 1) := by decide +kernel
theorem dX11_shot_20 : decode cX11_shot 20 = .ok (.invokevirtual 70, 3) := by decide +kernel
theorem dX11_shot_23 : decode cX11_shot 23 = .ok (.aload_n 0, 1) := by decide +kernel
theorem dX11_shot_24 : decode cX11_shot 24 = .ok (.iload_n 1, 1) := by decide +kernel
theorem dX11_shot_25 : decode cX11_shot 25 = .ok (.iload_n 2, 1) := by decide +kernel
theorem dX11_shot_26 : decode cX11_shot 26 = .ok (.iload_n 3, 1) := by decide +kernel
theorem dX11_shot_27 : decode cX11_shot 27 = .ok (.iload 4, 2) := by decide +kernel
theorem dX11_shot_29 : decode cX11_shot 29 = .ok (.invokevirtual 132, 3) := by decide +kernel
theorem dX11_shot_32 : decode cX11_shot 32 = .ok (.ireturn, 1) := by decide +kernel
theorem dX11_rounded_0 : decode cX11_rounded 0 = .ok (.iload_n 0, 1) := by decide +kernel
theorem dX11_rounded_1 : decode cX11_rounded 1 = .ok (.ifCond .ge 8, 3) := by decide +kernel
theorem dX11_rounded_4 : decode cX11_rounded 4 = .ok (.iload_n 0, 1) := by decide +kernel
theorem dX11_rounded_5 : decode cX11_rounded 5 = .ok (.ineg, 1) := by decide +kernel
theorem dX11_rounded_6 : decode cX11_rounded 6 = .ok (.goto 4, 3) := by decide +kernel
theorem dX11_rounded_9 : decode cX11_rounded 9 = .ok (.iload_n 0, 1) := by decide +kernel
theorem dX11_rounded_10 : decode cX11_rounded 10 = .ok (.istore_n 2, 1) := by decide +kernel
theorem dX11_rounded_11 : decode cX11_rounded 11 = .ok (.iload_n 2, 1) := by decide +kernel
theorem dX11_rounded_12 : decode cX11_rounded 12 = .ok (.iload_n 1, 1) := by decide +kernel
theorem dX11_rounded_13 : decode cX11_rounded 13 = .ok (.idiv, 1) := by decide +kernel
theorem dX11_rounded_14 : decode cX11_rounded 14 = .ok (.iconst 2, 1) := by decide +kernel
theorem dX11_rounded_15 : decode cX11_rounded 15 = .ok (.iload_n 2, 1) := by decide +kernel
theorem dX11_rounded_16 : decode cX11_rounded 16 = .ok (.iload_n 1, 1) := by decide +kernel
theorem dX11_rounded_17 : decode cX11_rounded 17 = .ok (.irem, 1) := by decide +kernel
theorem dX11_rounded_18 : decode cX11_rounded 18 = .ok (.imul, 1) := by decide +kernel
theorem dX11_rounded_19 : decode cX11_rounded 19 = .ok (.iload_n 1, 1) := by decide +kernel
theorem dX11_rounded_20 : decode cX11_rounded 20 = .ok (.if_icmp .le 7, 3) := by decide +kernel
theorem dX11_rounded_23 : decode cX11_rounded 23 = .ok (.iconst 1, 1) := by decide +kernel
theorem dX11_rounded_24 : decode cX11_rounded 24 = .ok (.goto 4, 3) := by decide +kernel
theorem dX11_rounded_27 : decode cX11_rounded 27 = .ok (.iconst 0, 1) := by decide +kernel
theorem dX11_rounded_28 : decode cX11_rounded 28 = .ok (.iadd, 1) := by decide +kernel
theorem dX11_rounded_29 : decode cX11_rounded 29 = .ok (.istore_n 3, 1) := by decide +kernel
theorem dX11_rounded_30 : decode cX11_rounded 30 = .ok (.iload_n 0, 1) := by decide +kernel
theorem dX11_rounded_31 : decode cX11_rounded 31 = .ok (.ifCond .ge 8, 3) := by decide +kernel
theorem dX11_rounded_34 : decode cX11_rounded 34 = .ok (.iload_n 3, 1) := by decide +kernel
theorem dX11_rounded_35 : decode cX11_rounded 35 = .ok (.ineg, 1) := by decide +kernel
theorem dX11_rounded_36 : decode cX11_rounded 36 = .ok (.goto 4, 3) := by decide +kernel
theorem dX11_rounded_39 : decode cX11_rounded 39 = .ok (.iload_n 3, 1) := by decide +kernel
theorem dX11_rounded_40 : decode cX11_rounded 40 = .ok (.ireturn, 1) := by decide +kernel
set_option maxRecDepth 20000 in
theorem ggX11_takeShifts_X11_of : GoodIn wsX11_takeShifts wsX11_of := goodIn_r _ [10, 1, 14, 15, 16, 17, 18, 19, 20, 21, 22, 23, 24, 25, 26, 27, 28, 29, 30, 31, 32, 33, 34, 35, 36, 37, 38] (by decide +kernel) (by decide +kernel)
set_option maxRecDepth 20000 in
theorem gX11_takeShifts_X11_of : GoodIn wsX11_takeShifts (wsV RX11 83 RX11 yX11_of wsX11_of) := goodIn_app (goodIn_of _ (by decide +kernel)) ggX11_takeShifts_X11_of
set_option maxRecDepth 20000 in
theorem ggX11_takeShifts_X11_rounded : GoodIn wsX11_takeShifts wsX11_rounded := goodIn_r _ [13] (by decide +kernel) (by decide +kernel)
set_option maxRecDepth 20000 in
theorem gX11_takeShifts_X11_rounded : GoodIn wsX11_takeShifts (va_wsS RX11 135 yX11_rounded wsX11_rounded) := goodIn_app (goodIn_of _ (by decide +kernel)) ggX11_takeShifts_X11_rounded
theorem dX11_takeShifts_0 : decode cX11_takeShifts 0 = .ok (.iconst 0, 1) := by decide +kernel
theorem dX11_takeShifts_1 : decode cX11_takeShifts 1 = .ok (.istore_n 1, 1) := by decide +kernel
theorem dX11_takeShifts_2 : decode cX11_takeShifts 2 = .ok (.iload_n 1, 1) := by decide +kernel
theorem dX11_takeShifts_3 : decode cX11_takeShifts 3 = .ok (.aload_n 0, 1) := by decide +kernel
theorem dX11_takeShifts_4 : decode cX11_takeShifts 4 = .ok (.getfield 7, 3) := by decide +kernel
theorem dX11_takeShifts_7 : decode cX11_takeShifts 7 = .ok (.bipush 64, 2) := by decide +kernel
theorem dX11_takeShifts_9 : decode cX11_takeShifts 9 = .ok (.iaload, 1) := by decide +kernel
theorem dX11_takeShifts_10 : decode cX11_takeShifts 10 = .ok (.if_icmp .ge 148, 3) := by decide +kernel
theorem dX11_takeShifts_13 : decode cX11_takeShifts 13 = .ok (.aload_n 0, 1) := by decide +kernel
theorem dX11_takeShifts_14 : decode cX11_takeShifts 14 = .ok (.getfield 36, 3) := by decide +kernel
theorem dX11_takeShifts_17 : decode cX11_takeShifts 17 = .ok (.iload_n 1, 1) := by decide +kernel
theorem dX11_takeShifts_18 : decode cX11_takeShifts 18 = .ok (.aload_n 0, 1) := by decide +kernel
theorem dX11_takeShifts_19 : decode cX11_takeShifts 19 = .ok (.iload_n 1, 1) := by decide +kernel
theorem dX11_takeShifts_20 : decode cX11_takeShifts 20 = .ok (.bipush 13, 2) := by decide +kernel
theorem dX11_takeShifts_22 : decode cX11_takeShifts 22 = .ok (.invokevirtual 83, 3) := by decide +kernel
theorem dX11_takeShifts_25 : decode cX11_takeShifts 25 = .ok (.ldc 77, 2) := by decide +kernel
theorem dX11_takeShifts_27 : decode cX11_takeShifts 27 = .ok (.if_icmp .ne 7, 3) := by decide +kernel
theorem dX11_takeShifts_30 : decode cX11_takeShifts 30 = .ok (.iconst 0, 1) := by decide +kernel
theorem dX11_takeShifts_31 : decode cX11_takeShifts 31 = .ok (.goto 25, 3) := by decide +kernel
theorem dX11_takeShifts_34 : decode cX11_takeShifts 34 = .ok (.aload_n 0, 1) := by decide +kernel
theorem dX11_takeShifts_35 : decode cX11_takeShifts 35 = .ok (.iload_n 1, 1) := by decide +kernel
theorem dX11_takeShifts_36 : decode cX11_takeShifts 36 = .ok (.bipush 15, 2) := by decide +kernel
theorem dX11_takeShifts_38 : decode cX11_takeShifts 38 = .ok (.invokevirtual 83, 3) := by decide +kernel
theorem dX11_takeShifts_41 : decode cX11_takeShifts 41 = .ok (.aload_n 0, 1) := by decide +kernel
theorem dX11_takeShifts_42 : decode cX11_takeShifts 42 = .ok (.getfield 7, 3) := by decide +kernel
theorem dX11_takeShifts_45 : decode cX11_takeShifts 45 = .ok (.bipush 78, 2) := by decide +kernel
theorem dX11_takeShifts_47 : decode cX11_takeShifts 47 = .ok (.iaload, 1) := by decide +kernel
theorem dX11_takeShifts_48 : decode cX11_takeShifts 48 = .ok (.if_icmp .ge 7, 3) := by decide +kernel
theorem dX11_takeShifts_51 : decode cX11_takeShifts 51 = .ok (.iconst 1, 1) := by decide +kernel
theorem dX11_takeShifts_52 : decode cX11_takeShifts 52 = .ok (.goto 4, 3) := by decide +kernel
theorem dX11_takeShifts_55 : decode cX11_takeShifts 55 = .ok (.iconst 4, 1) := by decide +kernel
theorem dX11_takeShifts_56 : decode cX11_takeShifts 56 = .ok (.iastore, 1) := by decide +kernel
theorem dX11_takeShifts_57 : decode cX11_takeShifts 57 = .ok (.aload_n 0, 1) := by decide +kernel
theorem dX11_takeShifts_58 : decode cX11_takeShifts 58 = .ok (.getfield 42, 3) := by decide +kernel
theorem dX11_takeShifts_61 : decode cX11_takeShifts 61 = .ok (.iload_n 1, 1) := by decide +kernel
theorem dX11_takeShifts_62 : decode cX11_takeShifts 62 = .ok (.aload_n 0, 1) := by decide +kernel
theorem dX11_takeShifts_63 : decode cX11_takeShifts 63 = .ok (.getfield 36, 3) := by decide +kernel
theorem dX11_takeShifts_66 : decode cX11_takeShifts 66 = .ok (.iload_n 1, 1) := by decide +kernel
theorem dX11_takeShifts_67 : decode cX11_takeShifts 67 = .ok (.iaload, 1) := by decide +kernel
theorem dX11_takeShifts_68 : decode cX11_takeShifts 68 = .ok (.iconst 4, 1) := by decide +kernel
theorem dX11_takeShifts_69 : decode cX11_takeShifts 69 = .ok (.if_icmp .ne 18, 3) := by decide +kernel
theorem dX11_takeShifts_72 : decode cX11_takeShifts 72 = .ok (.aload_n 0, 1) := by decide +kernel
theorem dX11_takeShifts_73 : decode cX11_takeShifts 73 = .ok (.iload_n 1, 1) := by decide +kernel
theorem dX11_takeShifts_74 : decode cX11_takeShifts 74 = .ok (.iconst 5, 1) := by decide +kernel
theorem dX11_takeShifts_75 : decode cX11_takeShifts 75 = .ok (.invokevirtual 83, 3) := by decide +kernel
theorem dX11_takeShifts_78 : decode cX11_takeShifts 78 = .ok (.ldc 77, 2) := by decide +kernel
theorem dX11_takeShifts_80 : decode cX11_takeShifts 80 = .ok (.if_icmp .eq 7, 3) := by decide +kernel
theorem dX11_takeShifts_83 : decode cX11_takeShifts 83 = .ok (.iconst 1, 1) := by decide +kernel
theorem dX11_takeShifts_84 : decode cX11_takeShifts 84 = .ok (.goto 4, 3) := by decide +kernel
theorem dX11_takeShifts_87 : decode cX11_takeShifts 87 = .ok (.iconst 0, 1) := by decide +kernel
theorem dX11_takeShifts_88 : decode cX11_takeShifts 88 = .ok (.bastore, 1) := by decide +kernel
theorem dX11_takeShifts_89 : decode cX11_takeShifts 89 = .ok (.iconst 0, 1) := by decide +kernel
theorem dX11_takeShifts_90 : decode cX11_takeShifts 90 = .ok (.istore_n 2, 1) := by decide +kernel
theorem dX11_takeShifts_91 : decode cX11_takeShifts 91 = .ok (.iload_n 2, 1) := by decide +kernel
theorem dX11_takeShifts_92 : decode cX11_takeShifts 92 = .ok (.iconst 2, 1) := by decide +kernel
theorem dX11_takeShifts_93 : decode cX11_takeShifts 93 = .ok (.if_icmp .ge 59, 3) := by decide +kernel
theorem dX11_takeShifts_96 : decode cX11_takeShifts 96 = .ok (.aload_n 0, 1) := by decide +kernel
theorem dX11_takeShifts_97 : decode cX11_takeShifts 97 = .ok (.getfield 39, 3) := by decide +kernel
theorem dX11_takeShifts_100 : decode cX11_takeShifts 100 = .ok (.iconst 2, 1) := by decide +kernel
theorem dX11_takeShifts_101 : decode cX11_takeShifts 101 = .ok (.iload_n 1, 1) := by decide +kernel
theorem dX11_takeShifts_102 : decode cX11_takeShifts 102 = .ok (.imul, 1) := by decide +kernel
theorem dX11_takeShifts_103 : decode cX11_takeShifts 103 = .ok (.iload_n 2, 1) := by decide +kernel
theorem dX11_takeShifts_104 : decode cX11_takeShifts 104 = .ok (.iadd, 1) := by decide +kernel
theorem dX11_takeShifts_105 : decode cX11_takeShifts 105 = .ok (.aload_n 0, 1) := by decide +kernel
theorem dX11_takeShifts_106 : decode cX11_takeShifts 106 = .ok (.getfield 42, 3) := by decide +kernel
theorem dX11_takeShifts_109 : decode cX11_takeShifts 109 = .ok (.iload_n 1, 1) := by decide +kernel
theorem dX11_takeShifts_110 : decode cX11_takeShifts 110 = .ok (.baload, 1) := by decide +kernel
theorem dX11_takeShifts_111 : decode cX11_takeShifts 111 = .ok (.ifCond .eq 33, 3) := by decide +kernel
theorem dX11_takeShifts_114 : decode cX11_takeShifts 114 = .ok (.aload_n 0, 1) := by decide +kernel
theorem dX11_takeShifts_115 : decode cX11_takeShifts 115 = .ok (.iload_n 1, 1) := by decide +kernel
theorem dX11_takeShifts_116 : decode cX11_takeShifts 116 = .ok (.bipush 13, 2) := by decide +kernel
theorem dX11_takeShifts_118 : decode cX11_takeShifts 118 = .ok (.iload_n 2, 1) := by decide +kernel
theorem dX11_takeShifts_119 : decode cX11_takeShifts 119 = .ok (.iadd, 1) := by decide +kernel
theorem dX11_takeShifts_120 : decode cX11_takeShifts 120 = .ok (.invokevirtual 83, 3) := by decide +kernel
theorem dX11_takeShifts_123 : decode cX11_takeShifts 123 = .ok (.aload_n 0, 1) := by decide +kernel
theorem dX11_takeShifts_124 : decode cX11_takeShifts 124 = .ok (.iload_n 1, 1) := by decide +kernel
theorem dX11_takeShifts_125 : decode cX11_takeShifts 125 = .ok (.iconst 5, 1) := by decide +kernel
theorem dX11_takeShifts_126 : decode cX11_takeShifts 126 = .ok (.iload_n 2, 1) := by decide +kernel
theorem dX11_takeShifts_127 : decode cX11_takeShifts 127 = .ok (.iadd, 1) := by decide +kernel
theorem dX11_takeShifts_128 : decode cX11_takeShifts 128 = .ok (.invokevirtual 83, 3) := by decide +kernel
theorem dX11_takeShifts_131 : decode cX11_takeShifts 131 = .ok (.isub, 1) := by decide +kernel
theorem dX11_takeShifts_132 : decode cX11_takeShifts 132 = .ok (.aload_n 0, 1) := by decide +kernel
theorem dX11_takeShifts_133 : decode cX11_takeShifts 133 = .ok (.iload_n 1, 1) := by decide +kernel
theorem dX11_takeShifts_134 : decode cX11_takeShifts 134 = .ok (.iconst 3, 1) := by decide +kernel
theorem dX11_takeShifts_135 : decode cX11_takeShifts 135 = .ok (.invokevirtual 83, 3) := by decide +kernel
theorem dX11_takeShifts_138 : decode cX11_takeShifts 138 = .ok (.invokestatic 135, 3) := by decide +kernel
theorem dX11_takeShifts_141 : decode cX11_takeShifts 141 = .ok (.goto 4, 3) := by decide +kernel
theorem dX11_takeShifts_144 : decode cX11_takeShifts 144 = .ok (.iconst 0, 1) := by decide +kernel
theorem dX11_takeShifts_145 : decode cX11_takeShifts 145 = .ok (.iastore, 1) := by decide +kernel
theorem dX11_takeShifts_146 : decode cX11_takeShifts 146 = .ok (.iinc 2 1, 3) := by decide +kernel
theorem dX11_takeShifts_149 : decode cX11_takeShifts 149 = .ok (.goto (-58), 3) := by decide +kernel
theorem dX11_takeShifts_152 : decode cX11_takeShifts 152 = .ok (.iinc 1 1, 3) := by decide +kernel
theorem dX11_takeShifts_155 : decode cX11_takeShifts 155 = .ok (.goto (-153), 3) := by decide +kernel
theorem dX11_takeShifts_158 : decode cX11_takeShifts 158 = .ok (.return_, 1) := by decide +kernel
set_option maxRecDepth 20000 in
theorem ggX11_weightOf_X11_of : GoodIn wsX11_weightOf wsX11_of := goodIn_r _ [8, 1, 9, 10, 11, 12, 13, 14, 15, 16, 17, 18, 19, 20, 21, 22, 23, 24, 25, 26, 27, 28, 29, 30, 31, 32, 33] (by decide +kernel) (by decide +kernel)
set_option maxRecDepth 20000 in
theorem gX11_weightOf_X11_of : GoodIn wsX11_weightOf (wsV RX11 83 RX11 yX11_of wsX11_of) := goodIn_app (goodIn_of _ (by decide +kernel)) ggX11_weightOf_X11_of
theorem dX11_weightOf_0 : decode cX11_weightOf 0 = .ok (.iconst 0, 1) := by decide +kernel
theorem dX11_weightOf_1 : decode cX11_weightOf 1 = .ok (.istore_n 3, 1) := by decide +kernel
theorem dX11_weightOf_2 : decode cX11_weightOf 2 = .ok (.iconst 0, 1) := by decide +kernel
theorem dX11_weightOf_3 : decode cX11_weightOf 3 = .ok (.istore 4, 2) := by decide +kernel
theorem dX11_weightOf_5 : decode cX11_weightOf 5 = .ok (.iload 4, 2) := by decide +kernel
theorem dX11_weightOf_7 : decode cX11_weightOf 7 = .ok (.aload_n 0, 1) := by decide +kernel
theorem dX11_weightOf_8 : decode cX11_weightOf 8 = .ok (.getfield 7, 3) := by decide +kernel
theorem dX11_weightOf_11 : decode cX11_weightOf 11 = .ok (.bipush 64, 2) := by decide +kernel
theorem dX11_weightOf_13 : decode cX11_weightOf 13 = .ok (.iaload, 1) := by decide +kernel
theorem dX11_weightOf_14 : decode cX11_weightOf 14 = .ok (.if_icmp .ge 52, 3) := by decide +kernel
theorem dX11_weightOf_17 : decode cX11_weightOf 17 = .ok (.iload_n 3, 1) := by decide +kernel
theorem dX11_weightOf_18 : decode cX11_weightOf 18 = .ok (.aload_n 0, 1) := by decide +kernel
theorem dX11_weightOf_19 : decode cX11_weightOf 19 = .ok (.getfield 42, 3) := by decide +kernel
theorem dX11_weightOf_22 : decode cX11_weightOf 22 = .ok (.iload 4, 2) := by decide +kernel
theorem dX11_weightOf_24 : decode cX11_weightOf 24 = .ok (.baload, 1) := by decide +kernel
theorem dX11_weightOf_25 : decode cX11_weightOf 25 = .ok (.ifCond .eq 32, 3) := by decide +kernel
theorem dX11_weightOf_28 : decode cX11_weightOf 28 = .ok (.iload_n 1, 1) := by decide +kernel
theorem dX11_weightOf_29 : decode cX11_weightOf 29 = .ok (.ifCond .lt 18, 3) := by decide +kernel
theorem dX11_weightOf_32 : decode cX11_weightOf 32 = .ok (.aload_n 0, 1) := by decide +kernel
theorem dX11_weightOf_33 : decode cX11_weightOf 33 = .ok (.getfield 39, 3) := by decide +kernel
theorem dX11_weightOf_36 : decode cX11_weightOf 36 = .ok (.iconst 2, 1) := by decide +kernel
theorem dX11_weightOf_37 : decode cX11_weightOf 37 = .ok (.iload 4, 2) := by decide +kernel
theorem dX11_weightOf_39 : decode cX11_weightOf 39 = .ok (.imul, 1) := by decide +kernel
theorem dX11_weightOf_40 : decode cX11_weightOf 40 = .ok (.iload_n 1, 1) := by decide +kernel
theorem dX11_weightOf_41 : decode cX11_weightOf 41 = .ok (.iadd, 1) := by decide +kernel
theorem dX11_weightOf_42 : decode cX11_weightOf 42 = .ok (.iaload, 1) := by decide +kernel
theorem dX11_weightOf_43 : decode cX11_weightOf 43 = .ok (.iload_n 2, 1) := by decide +kernel
theorem dX11_weightOf_44 : decode cX11_weightOf 44 = .ok (.if_icmp .ne 13, 3) := by decide +kernel
theorem dX11_weightOf_47 : decode cX11_weightOf 47 = .ok (.aload_n 0, 1) := by decide +kernel
theorem dX11_weightOf_48 : decode cX11_weightOf 48 = .ok (.iload 4, 2) := by decide +kernel
theorem dX11_weightOf_50 : decode cX11_weightOf 50 = .ok (.iconst 2, 1) := by decide +kernel
theorem dX11_weightOf_51 : decode cX11_weightOf 51 = .ok (.invokevirtual 83, 3) := by decide +kernel
theorem dX11_weightOf_54 : decode cX11_weightOf 54 = .ok (.goto 4, 3) := by decide +kernel
theorem dX11_weightOf_57 : decode cX11_weightOf 57 = .ok (.iconst 0, 1) := by decide +kernel
theorem dX11_weightOf_58 : decode cX11_weightOf 58 = .ok (.iadd, 1) := by decide +kernel
theorem dX11_weightOf_59 : decode cX11_weightOf 59 = .ok (.istore_n 3, 1) := by decide +kernel
theorem dX11_weightOf_60 : decode cX11_weightOf 60 = .ok (.iinc 4 1, 3) := by decide +kernel
theorem dX11_weightOf_63 : decode cX11_weightOf 63 = .ok (.goto (-58), 3) := by decide +kernel
theorem dX11_weightOf_66 : decode cX11_weightOf 66 = .ok (.iload_n 3, 1) := by decide +kernel
theorem dX11_weightOf_67 : decode cX11_weightOf 67 = .ok (.ireturn, 1) := by decide +kernel
set_option maxRecDepth 20000 in
theorem ggX11_vote_X11_weightOf : GoodIn wsX11_vote wsX11_weightOf := goodIn_r _ [10, 1, 3, 2, 11, 12, 13, 9, 14, 15, 16, 17, 18, 19, 20, 21, 22, 23, 24, 25, 26, 27, 28, 29, 30, 31, 32, 33, 34, 35, 36, 37, 38, 39] (by decide +kernel) (by decide +kernel)
set_option maxRecDepth 20000 in
theorem gX11_vote_X11_weightOf : GoodIn wsX11_vote (wsV RX11 138 RX11 yX11_weightOf wsX11_weightOf) := goodIn_app (goodIn_of _ (by decide +kernel)) ggX11_vote_X11_weightOf
theorem dX11_vote_0 : decode cX11_vote 0 = .ok (.aload_n 0, 1) := by decide +kernel
theorem dX11_vote_1 : decode cX11_vote 1 = .ok (.iconst (-1), 1) := by decide +kernel
theorem dX11_vote_2 : decode cX11_vote 2 = .ok (.iconst 0, 1) := by decide +kernel
theorem dX11_vote_3 : decode cX11_vote 3 = .ok (.invokevirtual 138, 3) := by decide +kernel
theorem dX11_vote_6 : decode cX11_vote 6 = .ok (.istore_n 2, 1) := by decide +kernel
theorem dX11_vote_7 : decode cX11_vote 7 = .ok (.iconst 0, 1) := by decide +kernel
theorem dX11_vote_8 : decode cX11_vote 8 = .ok (.istore_n 3, 1) := by decide +kernel
theorem dX11_vote_9 : decode cX11_vote 9 = .ok (.iconst 0, 1) := by decide +kernel
theorem dX11_vote_10 : decode cX11_vote 10 = .ok (.istore 4, 2) := by decide +kernel
theorem dX11_vote_12 : decode cX11_vote 12 = .ok (.iload 4, 2) := by decide +kernel
theorem dX11_vote_14 : decode cX11_vote 14 = .ok (.aload_n 0, 1) := by decide +kernel
theorem dX11_vote_15 : decode cX11_vote 15 = .ok (.getfield 7, 3) := by decide +kernel
theorem dX11_vote_18 : decode cX11_vote 18 = .ok (.bipush 64, 2) := by decide +kernel
theorem dX11_vote_20 : decode cX11_vote 20 = .ok (.iaload, 1) := by decide +kernel
theorem dX11_vote_21 : decode cX11_vote 21 = .ok (.if_icmp .ge 121, 3) := by decide +kernel
theorem dX11_vote_24 : decode cX11_vote 24 = .ok (.aload_n 0, 1) := by decide +kernel
theorem dX11_vote_25 : decode cX11_vote 25 = .ok (.getfield 39, 3) := by decide +kernel
theorem dX11_vote_28 : decode cX11_vote 28 = .ok (.iconst 2, 1) := by decide +kernel
theorem dX11_vote_29 : decode cX11_vote 29 = .ok (.iload 4, 2) := by decide +kernel
theorem dX11_vote_31 : decode cX11_vote 31 = .ok (.imul, 1) := by decide +kernel
theorem dX11_vote_32 : decode cX11_vote 32 = .ok (.iload_n 1, 1) := by decide +kernel
theorem dX11_vote_33 : decode cX11_vote 33 = .ok (.iadd, 1) := by decide +kernel
theorem dX11_vote_34 : decode cX11_vote 34 = .ok (.iaload, 1) := by decide +kernel
theorem dX11_vote_35 : decode cX11_vote 35 = .ok (.istore 5, 2) := by decide +kernel
theorem dX11_vote_37 : decode cX11_vote 37 = .ok (.aload_n 0, 1) := by decide +kernel
theorem dX11_vote_38 : decode cX11_vote 38 = .ok (.getfield 42, 3) := by decide +kernel
theorem dX11_vote_41 : decode cX11_vote 41 = .ok (.iload 4, 2) := by decide +kernel
theorem dX11_vote_43 : decode cX11_vote 43 = .ok (.baload, 1) := by decide +kernel
theorem dX11_vote_44 : decode cX11_vote 44 = .ok (.ifCond .eq 34, 3) := by decide +kernel
theorem dX11_vote_47 : decode cX11_vote 47 = .ok (.iload 5, 2) := by decide +kernel
theorem dX11_vote_49 : decode cX11_vote 49 = .ok (.ifCond .eq 29, 3) := by decide +kernel
theorem dX11_vote_52 : decode cX11_vote 52 = .ok (.aload_n 0, 1) := by decide +kernel
theorem dX11_vote_53 : decode cX11_vote 53 = .ok (.iload_n 1, 1) := by decide +kernel
theorem dX11_vote_54 : decode cX11_vote 54 = .ok (.iload 5, 2) := by decide +kernel
theorem dX11_vote_56 : decode cX11_vote 56 = .ok (.invokevirtual 138, 3) := by decide +kernel
theorem dX11_vote_59 : decode cX11_vote 59 = .ok (.bipush 100, 2) := by decide +kernel
theorem dX11_vote_61 : decode cX11_vote 61 = .ok (.imul, 1) := by decide +kernel
theorem dX11_vote_62 : decode cX11_vote 62 = .ok (.aload_n 0, 1) := by decide +kernel
theorem dX11_vote_63 : decode cX11_vote 63 = .ok (.getfield 7, 3) := by decide +kernel
theorem dX11_vote_66 : decode cX11_vote 66 = .ok (.bipush 80, 2) := by decide +kernel
theorem dX11_vote_68 : decode cX11_vote 68 = .ok (.iaload, 1) := by decide +kernel
theorem dX11_vote_69 : decode cX11_vote 69 = .ok (.iload_n 2, 1) := by decide +kernel
theorem dX11_vote_70 : decode cX11_vote 70 = .ok (.imul, 1) := by decide +kernel
theorem dX11_vote_71 : decode cX11_vote 71 = .ok (.if_icmp .lt 7, 3) := by decide +kernel
theorem dX11_vote_74 : decode cX11_vote 74 = .ok (.iconst 1, 1) := by decide +kernel
theorem dX11_vote_75 : decode cX11_vote 75 = .ok (.goto 4, 3) := by decide +kernel
theorem dX11_vote_78 : decode cX11_vote 78 = .ok (.iconst 0, 1) := by decide +kernel
theorem dX11_vote_79 : decode cX11_vote 79 = .ok (.istore 6, 2) := by decide +kernel
theorem dX11_vote_81 : decode cX11_vote 81 = .ok (.iconst 0, 1) := by decide +kernel
theorem dX11_vote_82 : decode cX11_vote 82 = .ok (.istore 7, 2) := by decide +kernel
theorem dX11_vote_84 : decode cX11_vote 84 = .ok (.iload 7, 2) := by decide +kernel
theorem dX11_vote_86 : decode cX11_vote 86 = .ok (.iload_n 3, 1) := by decide +kernel
theorem dX11_vote_87 : decode cX11_vote 87 = .ok (.if_icmp .ge 33, 3) := by decide +kernel
theorem dX11_vote_90 : decode cX11_vote 90 = .ok (.iload 6, 2) := by decide +kernel
theorem dX11_vote_92 : decode cX11_vote 92 = .ok (.ifCond .eq 19, 3) := by decide +kernel
theorem dX11_vote_95 : decode cX11_vote 95 = .ok (.aload_n 0, 1) := by decide +kernel
theorem dX11_vote_96 : decode cX11_vote 96 = .ok (.getfield 51, 3) := by decide +kernel
theorem dX11_vote_99 : decode cX11_vote 99 = .ok (.iload 7, 2) := by decide +kernel
theorem dX11_vote_101 : decode cX11_vote 101 = .ok (.iaload, 1) := by decide +kernel
theorem dX11_vote_102 : decode cX11_vote 102 = .ok (.iload 5, 2) := by decide +kernel
theorem dX11_vote_104 : decode cX11_vote 104 = .ok (.if_icmp .eq 7, 3) := by decide +kernel
theorem dX11_vote_107 : decode cX11_vote 107 = .ok (.iconst 1, 1) := by decide +kernel
theorem dX11_vote_108 : decode cX11_vote 108 = .ok (.goto 4, 3) := by decide +kernel
theorem dX11_vote_111 : decode cX11_vote 111 = .ok (.iconst 0, 1) := by decide +kernel
theorem dX11_vote_112 : decode cX11_vote 112 = .ok (.istore 6, 2) := by decide +kernel
theorem dX11_vote_114 : decode cX11_vote 114 = .ok (.iinc 7 1, 3) := by decide +kernel
theorem dX11_vote_117 : decode cX11_vote 117 = .ok (.goto (-33), 3) := by decide +kernel
theorem dX11_vote_120 : decode cX11_vote 120 = .ok (.iload 6, 2) := by decide +kernel
theorem dX11_vote_122 : decode cX11_vote 122 = .ok (.ifCond .eq 14, 3) := by decide +kernel
theorem dX11_vote_125 : decode cX11_vote 125 = .ok (.aload_n 0, 1) := by decide +kernel
theorem dX11_vote_126 : decode cX11_vote 126 = .ok (.getfield 51, 3) := by decide +kernel
theorem dX11_vote_129 : decode cX11_vote 129 = .ok (.iload_n 3, 1) := by decide +kernel
theorem dX11_vote_130 : decode cX11_vote 130 = .ok (.iload 5, 2) := by decide +kernel
theorem dX11_vote_132 : decode cX11_vote 132 = .ok (.iastore, 1) := by decide +kernel
theorem dX11_vote_133 : decode cX11_vote 133 = .ok (.iinc 3 1, 3) := by decide +kernel
theorem dX11_vote_136 : decode cX11_vote 136 = .ok (.iinc 4 1, 3) := by decide +kernel
theorem dX11_vote_139 : decode cX11_vote 139 = .ok (.goto (-127), 3) := by decide +kernel
theorem dX11_vote_142 : decode cX11_vote 142 = .ok (.aload_n 0, 1) := by decide +kernel
theorem dX11_vote_143 : decode cX11_vote 143 = .ok (.dup, 1) := by decide +kernel
theorem dX11_vote_144 : decode cX11_vote 144 = .ok (.getfield 141, 3) := by decide +kernel
theorem dX11_vote_147 : decode cX11_vote 147 = .ok (.iload_n 3, 1) := by decide +kernel
theorem dX11_vote_148 : decode cX11_vote 148 = .ok (.iadd, 1) := by decide +kernel
theorem dX11_vote_149 : decode cX11_vote 149 = .ok (.putfield 141, 3) := by decide +kernel
theorem dX11_vote_152 : decode cX11_vote 152 = .ok (.iconst 0, 1) := by decide +kernel
theorem dX11_vote_153 : decode cX11_vote 153 = .ok (.istore 4, 2) := by decide +kernel
theorem dX11_vote_155 : decode cX11_vote 155 = .ok (.iload 4, 2) := by decide +kernel
theorem dX11_vote_157 : decode cX11_vote 157 = .ok (.aload_n 0, 1) := by decide +kernel
theorem dX11_vote_158 : decode cX11_vote 158 = .ok (.getfield 7, 3) := by decide +kernel
theorem dX11_vote_161 : decode cX11_vote 161 = .ok (.bipush 64, 2) := by decide +kernel
theorem dX11_vote_163 : decode cX11_vote 163 = .ok (.iaload, 1) := by decide +kernel
theorem dX11_vote_164 : decode cX11_vote 164 = .ok (.if_icmp .ge 71, 3) := by decide +kernel
theorem dX11_vote_167 : decode cX11_vote 167 = .ok (.iconst 0, 1) := by decide +kernel
theorem dX11_vote_168 : decode cX11_vote 168 = .ok (.istore 5, 2) := by decide +kernel
theorem dX11_vote_170 : decode cX11_vote 170 = .ok (.iload 5, 2) := by decide +kernel
theorem dX11_vote_172 : decode cX11_vote 172 = .ok (.iload_n 3, 1) := by decide +kernel
theorem dX11_vote_173 : decode cX11_vote 173 = .ok (.if_icmp .ge 56, 3) := by decide +kernel
theorem dX11_vote_176 : decode cX11_vote 176 = .ok (.aload_n 0, 1) := by decide +kernel
theorem dX11_vote_177 : decode cX11_vote 177 = .ok (.getfield 39, 3) := by decide +kernel
theorem dX11_vote_180 : decode cX11_vote 180 = .ok (.iconst 2, 1) := by decide +kernel
theorem dX11_vote_181 : decode cX11_vote 181 = .ok (.iload 4, 2) := by decide +kernel
theorem dX11_vote_183 : decode cX11_vote 183 = .ok (.imul, 1) := by decide +kernel
theorem dX11_vote_184 : decode cX11_vote 184 = .ok (.iload_n 1, 1) := by decide +kernel
theorem dX11_vote_185 : decode cX11_vote 185 = .ok (.iadd, 1) := by decide +kernel
theorem dX11_vote_186 : decode cX11_vote 186 = .ok (.aload_n 0, 1) := by decide +kernel
theorem dX11_vote_187 : decode cX11_vote 187 = .ok (.getfield 39, 3) := by decide +kernel
theorem dX11_vote_190 : decode cX11_vote 190 = .ok (.iconst 2, 1) := by decide +kernel
theorem dX11_vote_191 : decode cX11_vote 191 = .ok (.iload 4, 2) := by decide +kernel
theorem dX11_vote_193 : decode cX11_vote 193 = .ok (.imul, 1) := by decide +kernel
theorem dX11_vote_194 : decode cX11_vote 194 = .ok (.iload_n 1, 1) := by decide +kernel
theorem dX11_vote_195 : decode cX11_vote 195 = .ok (.iadd, 1) := by decide +kernel
theorem dX11_vote_196 : decode cX11_vote 196 = .ok (.iaload, 1) := by decide +kernel
theorem dX11_vote_197 : decode cX11_vote 197 = .ok (.aload_n 0, 1) := by decide +kernel
theorem dX11_vote_198 : decode cX11_vote 198 = .ok (.getfield 51, 3) := by decide +kernel
theorem dX11_vote_201 : decode cX11_vote 201 = .ok (.iload 5, 2) := by decide +kernel
theorem dX11_vote_203 : decode cX11_vote 203 = .ok (.iaload, 1) := by decide +kernel
theorem dX11_vote_204 : decode cX11_vote 204 = .ok (.if_icmp .ne 7, 3) := by decide +kernel
theorem dX11_vote_207 : decode cX11_vote 207 = .ok (.iconst 0, 1) := by decide +kernel
theorem dX11_vote_208 : decode cX11_vote 208 = .ok (.goto 14, 3) := by decide +kernel
theorem dX11_vote_211 : decode cX11_vote 211 = .ok (.aload_n 0, 1) := by decide +kernel
theorem dX11_vote_212 : decode cX11_vote 212 = .ok (.getfield 39, 3) := by decide +kernel
theorem dX11_vote_215 : decode cX11_vote 215 = .ok (.iconst 2, 1) := by decide +kernel
theorem dX11_vote_216 : decode cX11_vote 216 = .ok (.iload 4, 2) := by decide +kernel
theorem dX11_vote_218 : decode cX11_vote 218 = .ok (.imul, 1) := by decide +kernel
theorem dX11_vote_219 : decode cX11_vote 219 = .ok (.iload_n 1, 1) := by decide +kernel
theorem dX11_vote_220 : decode cX11_vote 220 = .ok (.iadd, 1) := by decide +kernel
theorem dX11_vote_221 : decode cX11_vote 221 = .ok (.iaload, 1) := by decide +kernel
theorem dX11_vote_222 : decode cX11_vote 222 = .ok (.iastore, 1) := by decide +kernel
theorem dX11_vote_223 : decode cX11_vote 223 = .ok (.iinc 5 1, 3) := by decide +kernel
theorem dX11_vote_226 : decode cX11_vote 226 = .ok (.goto (-56), 3) := by decide +kernel
theorem dX11_vote_229 : decode cX11_vote 229 = .ok (.iinc 4 1, 3) := by decide +kernel
theorem dX11_vote_232 : decode cX11_vote 232 = .ok (.goto (-77), 3) := by decide +kernel
theorem dX11_vote_235 : decode cX11_vote 235 = .ok (.return_, 1) := by decide +kernel
theorem dX11_size_0 : decode cX11_size 0 = .ok (.iload_n 0, 1) := by decide +kernel
theorem dX11_size_1 : decode cX11_size 1 = .ok (.ifCond .ge 8, 3) := by decide +kernel
theorem dX11_size_4 : decode cX11_size 4 = .ok (.iload_n 0, 1) := by decide +kernel
theorem dX11_size_5 : decode cX11_size 5 = .ok (.ineg, 1) := by decide +kernel
theorem dX11_size_6 : decode cX11_size 6 = .ok (.goto 4, 3) := by decide +kernel
theorem dX11_size_9 : decode cX11_size 9 = .ok (.iload_n 0, 1) := by decide +kernel
theorem dX11_size_10 : decode cX11_size 10 = .ok (.ireturn, 1) := by decide +kernel
set_option maxRecDepth 20000 in
theorem ggX11_timeOf_X11_of : GoodIn wsX11_timeOf wsX11_of := goodIn_r _ [6, 7, 8, 9, 10, 11, 12, 13, 14, 15, 16, 17, 18, 19, 20, 21, 22, 23, 24, 25, 26, 27, 28, 29, 30, 31, 32] (by decide +kernel) (by decide +kernel)
set_option maxRecDepth 20000 in
theorem gX11_timeOf_X11_of : GoodIn wsX11_timeOf (wsV RX11 83 RX11 yX11_of wsX11_of) := goodIn_app (goodIn_of _ (by decide +kernel)) ggX11_timeOf_X11_of
theorem dX11_timeOf_0 : decode cX11_timeOf 0 = .ok (.aload_n 0, 1) := by decide +kernel
theorem dX11_timeOf_1 : decode cX11_timeOf 1 = .ok (.iload_n 1, 1) := by decide +kernel
theorem dX11_timeOf_2 : decode cX11_timeOf 2 = .ok (.bipush 13, 2) := by decide +kernel
theorem dX11_timeOf_4 : decode cX11_timeOf 4 = .ok (.iload_n 2, 1) := by decide +kernel
theorem dX11_timeOf_5 : decode cX11_timeOf 5 = .ok (.iadd, 1) := by decide +kernel
theorem dX11_timeOf_6 : decode cX11_timeOf 6 = .ok (.invokevirtual 83, 3) := by decide +kernel
theorem dX11_timeOf_9 : decode cX11_timeOf 9 = .ok (.i2l, 1) := by decide +kernel
theorem dX11_timeOf_10 : decode cX11_timeOf 10 = .ok (.aload_n 0, 1) := by decide +kernel
theorem dX11_timeOf_11 : decode cX11_timeOf 11 = .ok (.getfield 39, 3) := by decide +kernel
theorem dX11_timeOf_14 : decode cX11_timeOf 14 = .ok (.iconst 2, 1) := by decide +kernel
theorem dX11_timeOf_15 : decode cX11_timeOf 15 = .ok (.iload_n 1, 1) := by decide +kernel
theorem dX11_timeOf_16 : decode cX11_timeOf 16 = .ok (.imul, 1) := by decide +kernel
theorem dX11_timeOf_17 : decode cX11_timeOf 17 = .ok (.iload_n 2, 1) := by decide +kernel
theorem dX11_timeOf_18 : decode cX11_timeOf 18 = .ok (.iadd, 1) := by decide +kernel
theorem dX11_timeOf_19 : decode cX11_timeOf 19 = .ok (.iaload, 1) := by decide +kernel
theorem dX11_timeOf_20 : decode cX11_timeOf 20 = .ok (.i2l, 1) := by decide +kernel
theorem dX11_timeOf_21 : decode cX11_timeOf 21 = .ok (.aload_n 0, 1) := by decide +kernel
theorem dX11_timeOf_22 : decode cX11_timeOf 22 = .ok (.iload_n 1, 1) := by decide +kernel
theorem dX11_timeOf_23 : decode cX11_timeOf 23 = .ok (.iconst 3, 1) := by decide +kernel
theorem dX11_timeOf_24 : decode cX11_timeOf 24 = .ok (.invokevirtual 83, 3) := by decide +kernel
theorem dX11_timeOf_27 : decode cX11_timeOf 27 = .ok (.i2l, 1) := by decide +kernel
theorem dX11_timeOf_28 : decode cX11_timeOf 28 = .ok (.lmul, 1) := by decide +kernel
theorem dX11_timeOf_29 : decode cX11_timeOf 29 = .ok (.lsub, 1) := by decide +kernel
theorem dX11_timeOf_30 : decode cX11_timeOf 30 = .ok (.lreturn, 1) := by decide +kernel
set_option maxRecDepth 20000 in
theorem ggX11_isOff_X11_size : GoodIn wsX11_isOff wsX11_size := goodIn_r _ [5] (by decide +kernel) (by decide +kernel)
set_option maxRecDepth 20000 in
theorem gX11_isOff_X11_size : GoodIn wsX11_isOff (va_wsS RX11 144 yX11_size wsX11_size) := goodIn_app (goodIn_of _ (by decide +kernel)) ggX11_isOff_X11_size
set_option maxRecDepth 20000 in
theorem ggX11_isOff_X11_of : GoodIn wsX11_isOff wsX11_of := goodIn_r _ [9, 10, 15, 16, 17, 18, 19, 20, 21, 22, 23, 24, 25, 26, 27, 28, 29, 30, 31, 32, 33, 34, 35, 36, 37, 38, 39] (by decide +kernel) (by decide +kernel)
set_option maxRecDepth 20000 in
theorem gX11_isOff_X11_of : GoodIn wsX11_isOff (wsV RX11 83 RX11 yX11_of wsX11_of) := goodIn_app (goodIn_of _ (by decide +kernel)) ggX11_isOff_X11_of
set_option maxRecDepth 20000 in
theorem ggX11_isOff_X11_timeOf : GoodIn wsX11_isOff wsX11_timeOf := goodIn_r _ [14, 1, 6, 7, 8, 4, 9, 10, 15, 16, 17, 18, 19, 20, 21, 22, 23, 24, 25, 26, 27, 28, 29, 30, 31, 32, 33, 34, 35, 36, 37, 38, 39] (by decide +kernel) (by decide +kernel)
set_option maxRecDepth 20000 in
theorem gX11_isOff_X11_timeOf : GoodIn wsX11_isOff (wsV RX11 147 RX11 yX11_timeOf wsX11_timeOf) := goodIn_app (goodIn_of _ (by decide +kernel)) ggX11_isOff_X11_timeOf
theorem dX11_isOff_0 : decode cX11_isOff 0 = .ok (.aload_n 0, 1) := by decide +kernel
theorem dX11_isOff_1 : decode cX11_isOff 1 = .ok (.getfield 39, 3) := by decide +kernel
theorem dX11_isOff_4 : decode cX11_isOff 4 = .ok (.iconst 2, 1) := by decide +kernel
theorem dX11_isOff_5 : decode cX11_isOff 5 = .ok (.iload_n 1, 1) := by decide +kernel
theorem dX11_isOff_6 : decode cX11_isOff 6 = .ok (.imul, 1) := by decide +kernel
theorem dX11_isOff_7 : decode cX11_isOff 7 = .ok (.iaload, 1) := by decide +kernel
theorem dX11_isOff_8 : decode cX11_isOff 8 = .ok (.invokestatic 144, 3) := by decide +kernel
theorem dX11_isOff_11 : decode cX11_isOff 11 = .ok (.iload_n 2, 1) := by decide +kernel
theorem dX11_isOff_12 : decode cX11_isOff 12 = .ok (.if_icmp .gt 20, 3) := by decide +kernel
theorem dX11_isOff_15 : decode cX11_isOff 15 = .ok (.aload_n 0, 1) := by decide +kernel
theorem dX11_isOff_16 : decode cX11_isOff 16 = .ok (.getfield 39, 3) := by decide +kernel
theorem dX11_isOff_19 : decode cX11_isOff 19 = .ok (.iconst 2, 1) := by decide +kernel
theorem dX11_isOff_20 : decode cX11_isOff 20 = .ok (.iload_n 1, 1) := by decide +kernel
theorem dX11_isOff_21 : decode cX11_isOff 21 = .ok (.imul, 1) := by decide +kernel
theorem dX11_isOff_22 : decode cX11_isOff 22 = .ok (.iconst 1, 1) := by decide +kernel
theorem dX11_isOff_23 : decode cX11_isOff 23 = .ok (.iadd, 1) := by decide +kernel
theorem dX11_isOff_24 : decode cX11_isOff 24 = .ok (.iaload, 1) := by decide +kernel
theorem dX11_isOff_25 : decode cX11_isOff 25 = .ok (.invokestatic 144, 3) := by decide +kernel
theorem dX11_isOff_28 : decode cX11_isOff 28 = .ok (.iload_n 2, 1) := by decide +kernel
theorem dX11_isOff_29 : decode cX11_isOff 29 = .ok (.if_icmp .le 7, 3) := by decide +kernel
theorem dX11_isOff_32 : decode cX11_isOff 32 = .ok (.iconst 1, 1) := by decide +kernel
theorem dX11_isOff_33 : decode cX11_isOff 33 = .ok (.goto 4, 3) := by decide +kernel
theorem dX11_isOff_36 : decode cX11_isOff 36 = .ok (.iconst 0, 1) := by decide +kernel
theorem dX11_isOff_37 : decode cX11_isOff 37 = .ok (.istore_n 3, 1) := by decide +kernel
theorem dX11_isOff_38 : decode cX11_isOff 38 = .ok (.aload_n 0, 1) := by decide +kernel
theorem dX11_isOff_39 : decode cX11_isOff 39 = .ok (.iload_n 1, 1) := by decide +kernel
theorem dX11_isOff_40 : decode cX11_isOff 40 = .ok (.iconst 4, 1) := by decide +kernel
theorem dX11_isOff_41 : decode cX11_isOff 41 = .ok (.invokevirtual 83, 3) := by decide +kernel
theorem dX11_isOff_44 : decode cX11_isOff 44 = .ok (.sipush 1000, 3) := by decide +kernel
theorem dX11_isOff_47 : decode cX11_isOff 47 = .ok (.iadd, 1) := by decide +kernel
theorem dX11_isOff_48 : decode cX11_isOff 48 = .ok (.i2l, 1) := by decide +kernel
theorem dX11_isOff_49 : decode cX11_isOff 49 = .ok (.lstore 4, 2) := by decide +kernel
theorem dX11_isOff_51 : decode cX11_isOff 51 = .ok (.iload_n 3, 1) := by decide +kernel
theorem dX11_isOff_52 : decode cX11_isOff 52 = .ok (.ifCond .ne 27, 3) := by decide +kernel
theorem dX11_isOff_55 : decode cX11_isOff 55 = .ok (.aload_n 0, 1) := by decide +kernel
theorem dX11_isOff_56 : decode cX11_isOff 56 = .ok (.iload_n 1, 1) := by decide +kernel
theorem dX11_isOff_57 : decode cX11_isOff 57 = .ok (.iconst 0, 1) := by decide +kernel
theorem dX11_isOff_58 : decode cX11_isOff 58 = .ok (.invokevirtual 147, 3) := by decide +kernel
theorem dX11_isOff_61 : decode cX11_isOff 61 = .ok (.lload 4, 2) := by decide +kernel
theorem dX11_isOff_63 : decode cX11_isOff 63 = .ok (.lcmp, 1) := by decide +kernel
theorem dX11_isOff_64 : decode cX11_isOff 64 = .ok (.ifCond .lt 15, 3) := by decide +kernel
theorem dX11_isOff_67 : decode cX11_isOff 67 = .ok (.aload_n 0, 1) := by decide +kernel
theorem dX11_isOff_68 : decode cX11_isOff 68 = .ok (.iload_n 1, 1) := by decide +kernel
theorem dX11_isOff_69 : decode cX11_isOff 69 = .ok (.iconst 1, 1) := by decide +kernel
theorem dX11_isOff_70 : decode cX11_isOff 70 = .ok (.invokevirtual 147, 3) := by decide +kernel
theorem dX11_isOff_73 : decode cX11_isOff 73 = .ok (.lload 4, 2) := by decide +kernel
theorem dX11_isOff_75 : decode cX11_isOff 75 = .ok (.lcmp, 1) := by decide +kernel
theorem dX11_isOff_76 : decode cX11_isOff 76 = .ok (.ifCond .ge 7, 3) := by decide +kernel
theorem dX11_isOff_79 : decode cX11_isOff 79 = .ok (.iconst 1, 1) := by decide +kernel
theorem dX11_isOff_80 : decode cX11_isOff 80 = .ok (.goto 4, 3) := by decide +kernel
theorem dX11_isOff_83 : decode cX11_isOff 83 = .ok (.iconst 0, 1) := by decide +kernel
theorem dX11_isOff_84 : decode cX11_isOff 84 = .ok (.ireturn, 1) := by decide +kernel
set_option maxRecDepth 20000 in
theorem ggX11_worksOut_X11_takeShifts : GoodIn wsX11_worksOut wsX11_takeShifts := goodIn_r _ [17, 5, 7, 11, 18, 8, 19, 20, 21, 16, 22, 23, 24, 25, 59, 60, 61, 62, 63, 64, 65, 66, 67, 68, 69, 70, 71, 72, 73, 74, 75, 76, 77, 78, 79, 80, 81, 82, 83] (by decide +kernel) (by decide +kernel)
set_option maxRecDepth 20000 in
theorem gX11_worksOut_X11_takeShifts : GoodIn wsX11_worksOut (wsV RX11 160 RX11 yX11_takeShifts wsX11_takeShifts) := goodIn_app (goodIn_of _ (by decide +kernel)) ggX11_worksOut_X11_takeShifts
set_option maxRecDepth 20000 in
theorem ggX11_worksOut_X11_vote : GoodIn wsX11_worksOut wsX11_vote := goodIn_r _ [29, 5, 8, 18, 30, 1, 31, 32, 33, 16, 34, 19, 20, 21, 22, 59, 60, 61, 62, 63, 64, 65, 66, 67, 68, 69, 70, 71, 72, 73, 74, 75, 76, 77, 78, 79, 80, 81, 82, 83] (by decide +kernel) (by decide +kernel)
set_option maxRecDepth 20000 in
theorem gX11_worksOut_X11_vote : GoodIn wsX11_worksOut (wsV RX11 163 RX11 yX11_vote wsX11_vote) := goodIn_app (goodIn_of _ (by decide +kernel)) ggX11_worksOut_X11_vote
set_option maxRecDepth 20000 in
theorem ggX11_worksOut_X11_isOff : GoodIn wsX11_worksOut wsX11_isOff := goodIn_r _ [38, 8, 39, 40, 16, 41, 19, 20, 21, 22, 5, 42, 43, 44, 45, 59, 60, 61, 62, 63, 64, 65, 66, 67, 68, 69, 70, 71, 72, 73, 74, 75, 76, 77, 78, 79, 80, 81, 82, 83] (by decide +kernel) (by decide +kernel)
set_option maxRecDepth 20000 in
theorem gX11_worksOut_X11_isOff : GoodIn wsX11_worksOut (wsV RX11 167 RX11 yX11_isOff wsX11_isOff) := goodIn_app (goodIn_of _ (by decide +kernel)) ggX11_worksOut_X11_isOff
set_option maxRecDepth 20000 in
theorem ggX11_worksOut_X11_timeOf : GoodIn wsX11_worksOut wsX11_timeOf := goodIn_r _ [45, 8, 19, 20, 21, 16, 22, 5, 59, 60, 61, 62, 63, 64, 65, 66, 67, 68, 69, 70, 71, 72, 73, 74, 75, 76, 77, 78, 79, 80, 81, 82, 83] (by decide +kernel) (by decide +kernel)
set_option maxRecDepth 20000 in
theorem gX11_worksOut_X11_timeOf : GoodIn wsX11_worksOut (wsV RX11 147 RX11 yX11_timeOf wsX11_timeOf) := goodIn_app (goodIn_of _ (by decide +kernel)) ggX11_worksOut_X11_timeOf
set_option maxRecDepth 20000 in
theorem ggX11_worksOut_X11_velocityOf : GoodIn wsX11_worksOut wsX11_velocityOf := goodIn_r _ [49, 50, 12, 51, 19, 20, 21, 16, 22, 5, 52, 53, 54, 59, 60, 61, 62, 63, 64, 65, 66, 67, 68, 69, 70, 71, 72, 73, 74, 75, 76, 77, 78, 79, 80, 81, 82, 83] (by decide +kernel) (by decide +kernel)
set_option maxRecDepth 20000 in
theorem gX11_worksOut_X11_velocityOf : GoodIn wsX11_worksOut (wsV RX11 170 RX11 yX11_velocityOf wsX11_velocityOf) := goodIn_app (goodIn_of _ (by decide +kernel)) ggX11_worksOut_X11_velocityOf
set_option maxRecDepth 20000 in
theorem ggX11_worksOut_X11_weighted : GoodIn wsX11_worksOut wsX11_weighted := goodIn_r _ [58, 5, 6, 9, 19, 20, 21, 16, 22, 59, 60, 61, 62, 63, 64, 65, 66, 67, 68, 69, 70, 71, 72, 73, 74, 75, 76, 77, 78, 79, 80, 81, 82, 83] (by decide +kernel) (by decide +kernel)
set_option maxRecDepth 20000 in
theorem gX11_worksOut_X11_weighted : GoodIn wsX11_worksOut (wsV RX11 174 RX11 yX11_weighted wsX11_weighted) := goodIn_app (goodIn_of _ (by decide +kernel)) ggX11_worksOut_X11_weighted
set_option maxRecDepth 20000 in
theorem ggX11_worksOut_X11_of : GoodIn wsX11_worksOut wsX11_of := goodIn_r _ [22, 5, 59, 60, 61, 62, 63, 64, 65, 66, 67, 68, 69, 70, 71, 72, 73, 74, 75, 76, 77, 78, 79, 80, 81, 82, 83] (by decide +kernel) (by decide +kernel)
set_option maxRecDepth 20000 in
theorem gX11_worksOut_X11_of : GoodIn wsX11_worksOut (wsV RX11 83 RX11 yX11_of wsX11_of) := goodIn_app (goodIn_of _ (by decide +kernel)) ggX11_worksOut_X11_of
theorem dX11_worksOut_0 : decode cX11_worksOut 0 = .ok (.aload_n 0, 1) := by decide +kernel
theorem dX11_worksOut_1 : decode cX11_worksOut 1 = .ok (.iconst 0, 1) := by decide +kernel
theorem dX11_worksOut_2 : decode cX11_worksOut 2 = .ok (.putfield 141, 3) := by decide +kernel
theorem dX11_worksOut_5 : decode cX11_worksOut 5 = .ok (.aload_n 0, 1) := by decide +kernel
theorem dX11_worksOut_6 : decode cX11_worksOut 6 = .ok (.iconst 0, 1) := by decide +kernel
theorem dX11_worksOut_7 : decode cX11_worksOut 7 = .ok (.putfield 151, 3) := by decide +kernel
theorem dX11_worksOut_10 : decode cX11_worksOut 10 = .ok (.aload_n 0, 1) := by decide +kernel
theorem dX11_worksOut_11 : decode cX11_worksOut 11 = .ok (.iconst 0, 1) := by decide +kernel
theorem dX11_worksOut_12 : decode cX11_worksOut 12 = .ok (.putfield 154, 3) := by decide +kernel
theorem dX11_worksOut_15 : decode cX11_worksOut 15 = .ok (.aload_n 0, 1) := by decide +kernel
theorem dX11_worksOut_16 : decode cX11_worksOut 16 = .ok (.iconst 0, 1) := by decide +kernel
theorem dX11_worksOut_17 : decode cX11_worksOut 17 = .ok (.putfield 157, 3) := by decide +kernel
theorem dX11_worksOut_20 : decode cX11_worksOut 20 = .ok (.aload_n 0, 1) := by decide +kernel
theorem dX11_worksOut_21 : decode cX11_worksOut 21 = .ok (.invokevirtual 160, 3) := by decide +kernel
theorem dX11_worksOut_24 : decode cX11_worksOut 24 = .ok (.aload_n 0, 1) := by decide +kernel
theorem dX11_worksOut_25 : decode cX11_worksOut 25 = .ok (.iconst 0, 1) := by decide +kernel
theorem dX11_worksOut_26 : decode cX11_worksOut 26 = .ok (.invokevirtual 163, 3) := by decide +kernel
theorem dX11_worksOut_29 : decode cX11_worksOut 29 = .ok (.aload_n 0, 1) := by decide +kernel
theorem dX11_worksOut_30 : decode cX11_worksOut 30 = .ok (.iconst 1, 1) := by decide +kernel
theorem dX11_worksOut_31 : decode cX11_worksOut 31 = .ok (.invokevirtual 163, 3) := by decide +kernel
theorem dX11_worksOut_34 : decode cX11_worksOut 34 = .ok (.iconst 0, 1) := by decide +kernel
theorem dX11_worksOut_35 : decode cX11_worksOut 35 = .ok (.istore_n 2, 1) := by decide +kernel
theorem dX11_worksOut_36 : decode cX11_worksOut 36 = .ok (.iload_n 2, 1) := by decide +kernel
theorem dX11_worksOut_37 : decode cX11_worksOut 37 = .ok (.aload_n 0, 1) := by decide +kernel
theorem dX11_worksOut_38 : decode cX11_worksOut 38 = .ok (.getfield 7, 3) := by decide +kernel
theorem dX11_worksOut_41 : decode cX11_worksOut 41 = .ok (.bipush 64, 2) := by decide +kernel
theorem dX11_worksOut_43 : decode cX11_worksOut 43 = .ok (.iaload, 1) := by decide +kernel
theorem dX11_worksOut_44 : decode cX11_worksOut 44 = .ok (.if_icmp .ge 179, 3) := by decide +kernel
theorem dX11_worksOut_47 : decode cX11_worksOut 47 = .ok (.aload_n 0, 1) := by decide +kernel
theorem dX11_worksOut_48 : decode cX11_worksOut 48 = .ok (.getfield 48, 3) := by decide +kernel
theorem dX11_worksOut_51 : decode cX11_worksOut 51 = .ok (.iload_n 2, 1) := by decide +kernel
theorem dX11_worksOut_52 : decode cX11_worksOut 52 = .ok (.iconst 0, 1) := by decide +kernel
theorem dX11_worksOut_53 : decode cX11_worksOut 53 = .ok (.bastore, 1) := by decide +kernel
theorem dX11_worksOut_54 : decode cX11_worksOut 54 = .ok (.aload_n 0, 1) := by decide +kernel
theorem dX11_worksOut_55 : decode cX11_worksOut 55 = .ok (.getfield 36, 3) := by decide +kernel
theorem dX11_worksOut_58 : decode cX11_worksOut 58 = .ok (.iload_n 2, 1) := by decide +kernel
theorem dX11_worksOut_59 : decode cX11_worksOut 59 = .ok (.iaload, 1) := by decide +kernel
theorem dX11_worksOut_60 : decode cX11_worksOut 60 = .ok (.iconst 4, 1) := by decide +kernel
theorem dX11_worksOut_61 : decode cX11_worksOut 61 = .ok (.if_icmp .ne 113, 3) := by decide +kernel
theorem dX11_worksOut_64 : decode cX11_worksOut 64 = .ok (.aload_n 0, 1) := by decide +kernel
