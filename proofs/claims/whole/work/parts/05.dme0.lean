theorem dX11_volume_6 : decode cX11_volume 6 = .ok (.ifCond .ne 7, 3) := by decide +kernel
theorem dX11_volume_9 : decode cX11_volume 9 = .ok (.ldc2_w 247, 3) := by decide +kernel
theorem dX11_volume_12 : decode cX11_volume 12 = .ok (.lreturn, 1) := by decide +kernel
theorem dX11_volume_13 : decode cX11_volume 13 = .ok (.iload_n 1, 1) := by decide +kernel
theorem dX11_volume_14 : decode cX11_volume 14 = .ok (.iconst 2, 1) := by decide +kernel
theorem dX11_volume_15 : decode cX11_volume 15 = .ok (.if_icmp .ne 19, 3) := by decide +kernel
theorem dX11_volume_18 : decode cX11_volume 18 = .ok (.aload_n 0, 1) := by decide +kernel
theorem dX11_volume_19 : decode cX11_volume 19 = .ok (.getfield 13, 3) := by decide +kernel
theorem dX11_volume_22 : decode cX11_volume 22 = .ok (.iconst 0, 1) := by decide +kernel
theorem dX11_volume_23 : decode cX11_volume 23 = .ok (.laload, 1) := by decide +kernel
theorem dX11_volume_24 : decode cX11_volume 24 = .ok (.aload_n 0, 1) := by decide +kernel
theorem dX11_volume_25 : decode cX11_volume 25 = .ok (.getfield 13, 3) := by decide +kernel
theorem dX11_volume_28 : decode cX11_volume 28 = .ok (.iconst 1, 1) := by decide +kernel
theorem dX11_volume_29 : decode cX11_volume 29 = .ok (.laload, 1) := by decide +kernel
theorem dX11_volume_30 : decode cX11_volume 30 = .ok (.lsub, 1) := by decide +kernel
theorem dX11_volume_31 : decode cX11_volume 31 = .ok (.goto 9, 3) := by decide +kernel
theorem dX11_volume_34 : decode cX11_volume 34 = .ok (.aload_n 0, 1) := by decide +kernel
theorem dX11_volume_35 : decode cX11_volume 35 = .ok (.getfield 13, 3) := by decide +kernel
theorem dX11_volume_38 : decode cX11_volume 38 = .ok (.iload_n 1, 1) := by decide +kernel
theorem dX11_volume_39 : decode cX11_volume 39 = .ok (.laload, 1) := by decide +kernel
theorem dX11_volume_40 : decode cX11_volume 40 = .ok (.lreturn, 1) := by decide +kernel
theorem dX11_layVelocities_0 : decode cX11_layVelocities 0 = .ok (.iconst 0, 1) := by decide +kernel
theorem dX11_layVelocities_1 : decode cX11_layVelocities 1 = .ok (.istore_n 1, 1) := by decide +kernel
theorem dX11_layVelocities_2 : decode cX11_layVelocities 2 = .ok (.iconst 0, 1) := by decide +kernel
theorem dX11_layVelocities_3 : decode cX11_layVelocities 3 = .ok (.istore_n 2, 1) := by decide +kernel
theorem dX11_layVelocities_4 : decode cX11_layVelocities 4 = .ok (.iload_n 2, 1) := by decide +kernel
theorem dX11_layVelocities_5 : decode cX11_layVelocities 5 = .ok (.aload_n 0, 1) := by decide +kernel
theorem dX11_layVelocities_6 : decode cX11_layVelocities 6 = .ok (.getfield 7, 3) := by decide +kernel
theorem dX11_layVelocities_9 : decode cX11_layVelocities 9 = .ok (.bipush 86, 2) := by decide +kernel
theorem dX11_layVelocities_11 : decode cX11_layVelocities 11 = .ok (.iaload, 1) := by decide +kernel
theorem dX11_layVelocities_12 : decode cX11_layVelocities 12 = .ok (.if_icmp .ge 82, 3) := by decide +kernel
theorem dX11_layVelocities_15 : decode cX11_layVelocities 15 = .ok (.aload_n 0, 1) := by decide +kernel
theorem dX11_layVelocities_16 : decode cX11_layVelocities 16 = .ok (.getfield 7, 3) := by decide +kernel
theorem dX11_layVelocities_19 : decode cX11_layVelocities 19 = .ok (.bipush 87, 2) := by decide +kernel
theorem dX11_layVelocities_21 : decode cX11_layVelocities 21 = .ok (.bipush 6, 2) := by decide +kernel
theorem dX11_layVelocities_23 : decode cX11_layVelocities 23 = .ok (.iload_n 2, 1) := by decide +kernel
theorem dX11_layVelocities_24 : decode cX11_layVelocities 24 = .ok (.imul, 1) := by decide +kernel
theorem dX11_layVelocities_25 : decode cX11_layVelocities 25 = .ok (.iadd, 1) := by decide +kernel
theorem dX11_layVelocities_26 : decode cX11_layVelocities 26 = .ok (.iaload, 1) := by decide +kernel
theorem dX11_layVelocities_27 : decode cX11_layVelocities 27 = .ok (.istore_n 3, 1) := by decide +kernel
theorem dX11_layVelocities_28 : decode cX11_layVelocities 28 = .ok (.iload_n 3, 1) := by decide +kernel
theorem dX11_layVelocities_29 : decode cX11_layVelocities 29 = .ok (.ldc 77, 2) := by decide +kernel
theorem dX11_layVelocities_31 : decode cX11_layVelocities 31 = .ok (.if_icmp .eq 57, 3) := by decide +kernel
theorem dX11_layVelocities_34 : decode cX11_layVelocities 34 = .ok (.iload_n 1, 1) := by decide +kernel
theorem dX11_layVelocities_35 : decode cX11_layVelocities 35 = .ok (.istore 4, 2) := by decide +kernel
theorem dX11_layVelocities_37 : decode cX11_layVelocities 37 = .ok (.iload 4, 2) := by decide +kernel
theorem dX11_layVelocities_39 : decode cX11_layVelocities 39 = .ok (.ifCond .le 38, 3) := by decide +kernel
theorem dX11_layVelocities_42 : decode cX11_layVelocities 42 = .ok (.aload_n 0, 1) := by decide +kernel
theorem dX11_layVelocities_43 : decode cX11_layVelocities 43 = .ok (.getfield 57, 3) := by decide +kernel
theorem dX11_layVelocities_46 : decode cX11_layVelocities 46 = .ok (.iload 4, 2) := by decide +kernel
theorem dX11_layVelocities_48 : decode cX11_layVelocities 48 = .ok (.iconst 1, 1) := by decide +kernel
theorem dX11_layVelocities_49 : decode cX11_layVelocities 49 = .ok (.isub, 1) := by decide +kernel
theorem dX11_layVelocities_50 : decode cX11_layVelocities 50 = .ok (.iaload, 1) := by decide +kernel
theorem dX11_layVelocities_51 : decode cX11_layVelocities 51 = .ok (.iload_n 3, 1) := by decide +kernel
theorem dX11_layVelocities_52 : decode cX11_layVelocities 52 = .ok (.if_icmp .le 25, 3) := by decide +kernel
theorem dX11_layVelocities_55 : decode cX11_layVelocities 55 = .ok (.aload_n 0, 1) := by decide +kernel
theorem dX11_layVelocities_56 : decode cX11_layVelocities 56 = .ok (.getfield 57, 3) := by decide +kernel
theorem dX11_layVelocities_59 : decode cX11_layVelocities 59 = .ok (.iload 4, 2) := by decide +kernel
theorem dX11_layVelocities_61 : decode cX11_layVelocities 61 = .ok (.aload_n 0, 1) := by decide +kernel
theorem dX11_layVelocities_62 : decode cX11_layVelocities 62 = .ok (.getfield 57, 3) := by decide +kernel
theorem dX11_layVelocities_65 : decode cX11_layVelocities 65 = .ok (.iload 4, 2) := by decide +kernel
theorem dX11_layVelocities_67 : decode cX11_layVelocities 67 = .ok (.iconst 1, 1) := by decide +kernel
theorem dX11_layVelocities_68 : decode cX11_layVelocities 68 = .ok (.isub, 1) := by decide +kernel
theorem dX11_layVelocities_69 : decode cX11_layVelocities 69 = .ok (.iaload, 1) := by decide +kernel
theorem dX11_layVelocities_70 : decode cX11_layVelocities 70 = .ok (.iastore, 1) := by decide +kernel
theorem dX11_layVelocities_71 : decode cX11_layVelocities 71 = .ok (.iinc 4 (-1), 3) := by decide +kernel
theorem dX11_layVelocities_74 : decode cX11_layVelocities 74 = .ok (.goto (-37), 3) := by decide +kernel
theorem dX11_layVelocities_77 : decode cX11_layVelocities 77 = .ok (.aload_n 0, 1) := by decide +kernel
theorem dX11_layVelocities_78 : decode cX11_layVelocities 78 = .ok (.getfield 57, 3) := by decide +kernel
theorem dX11_layVelocities_81 : decode cX11_layVelocities 81 = .ok (.iload 4, 2) := by decide +kernel
theorem dX11_layVelocities_83 : decode cX11_layVelocities 83 = .ok (.iload_n 3, 1) := by decide +kernel
theorem dX11_layVelocities_84 : decode cX11_layVelocities 84 = .ok (.iastore, 1) := by decide +kernel
theorem dX11_layVelocities_85 : decode cX11_layVelocities 85 = .ok (.iinc 1 1, 3) := by decide +kernel
theorem dX11_layVelocities_88 : decode cX11_layVelocities 88 = .ok (.iinc 2 1, 3) := by decide +kernel
theorem dX11_layVelocities_91 : decode cX11_layVelocities 91 = .ok (.goto (-87), 3) := by decide +kernel
theorem dX11_layVelocities_94 : decode cX11_layVelocities 94 = .ok (.iload_n 1, 1) := by decide +kernel
theorem dX11_layVelocities_95 : decode cX11_layVelocities 95 = .ok (.ireturn, 1) := by decide +kernel
set_option maxRecDepth 20000 in
theorem ggX11_statistic_X11_in : GoodIn wsX11_statistic wsX11_in := goodIn_r _ [7] (by decide +kernel) (by decide +kernel)
set_option maxRecDepth 20000 in
theorem gX11_statistic_X11_in : GoodIn wsX11_statistic (va_wsS RX11 64 yX11_in wsX11_in) := goodIn_app (goodIn_of _ (by decide +kernel)) ggX11_statistic_X11_in
set_option maxRecDepth 20000 in
theorem ggX11_statistic_X11_layVelocities : GoodIn wsX11_statistic wsX11_layVelocities := goodIn_r _ [11, 12, 2, 3, 13, 14, 15, 16, 17, 18, 19, 20, 21, 22, 23, 24, 25, 26, 27, 28, 29, 30, 31, 32, 33, 34, 35, 36, 37] (by decide +kernel) (by decide +kernel)
set_option maxRecDepth 20000 in
theorem gX11_statistic_X11_layVelocities : GoodIn wsX11_statistic (wsV RX11 249 RX11 yX11_layVelocities wsX11_layVelocities) := goodIn_app (goodIn_of _ (by decide +kernel)) ggX11_statistic_X11_layVelocities
theorem dX11_statistic_0 : decode cX11_statistic 0 = .ok (.iload_n 1, 1) := by decide +kernel
theorem dX11_statistic_1 : decode cX11_statistic 1 = .ok (.iconst 0, 1) := by decide +kernel
theorem dX11_statistic_2 : decode cX11_statistic 2 = .ok (.iconst 4, 1) := by decide +kernel
theorem dX11_statistic_3 : decode cX11_statistic 3 = .ok (.invokestatic 64, 3) := by decide +kernel
theorem dX11_statistic_6 : decode cX11_statistic 6 = .ok (.ifCond .ne 6, 3) := by decide +kernel
theorem dX11_statistic_9 : decode cX11_statistic 9 = .ok (.ldc 68, 2) := by decide +kernel
theorem dX11_statistic_11 : decode cX11_statistic 11 = .ok (.ireturn, 1) := by decide +kernel
theorem dX11_statistic_12 : decode cX11_statistic 12 = .ok (.aload_n 0, 1) := by decide +kernel
theorem dX11_statistic_13 : decode cX11_statistic 13 = .ok (.invokevirtual 249, 3) := by decide +kernel
theorem dX11_statistic_16 : decode cX11_statistic 16 = .ok (.istore_n 2, 1) := by decide +kernel
theorem dX11_statistic_17 : decode cX11_statistic 17 = .ok (.iload_n 1, 1) := by decide +kernel
theorem dX11_statistic_18 : decode cX11_statistic 18 = .ok (.ifCond .eq 7, 3) := by decide +kernel
theorem dX11_statistic_21 : decode cX11_statistic 21 = .ok (.iload_n 2, 1) := by decide +kernel
theorem dX11_statistic_22 : decode cX11_statistic 22 = .ok (.ifCond .ne 14, 3) := by decide +kernel
theorem dX11_statistic_25 : decode cX11_statistic 25 = .ok (.iload_n 1, 1) := by decide +kernel
theorem dX11_statistic_26 : decode cX11_statistic 26 = .ok (.ifCond .ne 7, 3) := by decide +kernel
theorem dX11_statistic_29 : decode cX11_statistic 29 = .ok (.iload_n 2, 1) := by decide +kernel
theorem dX11_statistic_30 : decode cX11_statistic 30 = .ok (.goto 5, 3) := by decide +kernel
theorem dX11_statistic_33 : decode cX11_statistic 33 = .ok (.ldc 77, 2) := by decide +kernel
theorem dX11_statistic_35 : decode cX11_statistic 35 = .ok (.ireturn, 1) := by decide +kernel
theorem dX11_statistic_36 : decode cX11_statistic 36 = .ok (.lconst 0, 1) := by decide +kernel
theorem dX11_statistic_37 : decode cX11_statistic 37 = .ok (.lstore_n 3, 1) := by decide +kernel
theorem dX11_statistic_38 : decode cX11_statistic 38 = .ok (.iconst 0, 1) := by decide +kernel
theorem dX11_statistic_39 : decode cX11_statistic 39 = .ok (.istore 5, 2) := by decide +kernel
theorem dX11_statistic_41 : decode cX11_statistic 41 = .ok (.iload 5, 2) := by decide +kernel
theorem dX11_statistic_43 : decode cX11_statistic 43 = .ok (.iload_n 2, 1) := by decide +kernel
theorem dX11_statistic_44 : decode cX11_statistic 44 = .ok (.if_icmp .ge 20, 3) := by decide +kernel
theorem dX11_statistic_47 : decode cX11_statistic 47 = .ok (.lload_n 3, 1) := by decide +kernel
theorem dX11_statistic_48 : decode cX11_statistic 48 = .ok (.aload_n 0, 1) := by decide +kernel
theorem dX11_statistic_49 : decode cX11_statistic 49 = .ok (.getfield 57, 3) := by decide +kernel
theorem dX11_statistic_52 : decode cX11_statistic 52 = .ok (.iload 5, 2) := by decide +kernel
theorem dX11_statistic_54 : decode cX11_statistic 54 = .ok (.iaload, 1) := by decide +kernel
theorem dX11_statistic_55 : decode cX11_statistic 55 = .ok (.i2l, 1) := by decide +kernel
theorem dX11_statistic_56 : decode cX11_statistic 56 = .ok (.ladd, 1) := by decide +kernel
theorem dX11_statistic_57 : decode cX11_statistic 57 = .ok (.lstore_n 3, 1) := by decide +kernel
theorem dX11_statistic_58 : decode cX11_statistic 58 = .ok (.iinc 5 1, 3) := by decide +kernel
theorem dX11_statistic_61 : decode cX11_statistic 61 = .ok (.goto (-20), 3) := by decide +kernel
theorem dX11_statistic_64 : decode cX11_statistic 64 = .ok (.iload_n 1, 1) := by decide +kernel
theorem dX11_statistic_65 : decode cX11_statistic 65 = .ok (.tableswitch 49 1 3 #[27, 34, 43], 27) := by decide +kernel
theorem dX11_statistic_92 : decode cX11_statistic 92 = .ok (.aload_n 0, 1) := by decide +kernel
theorem dX11_statistic_93 : decode cX11_statistic 93 = .ok (.getfield 57, 3) := by decide +kernel
theorem dX11_statistic_96 : decode cX11_statistic 96 = .ok (.iconst 0, 1) := by decide +kernel
theorem dX11_statistic_97 : decode cX11_statistic 97 = .ok (.iaload, 1) := by decide +kernel
theorem dX11_statistic_98 : decode cX11_statistic 98 = .ok (.ireturn, 1) := by decide +kernel
theorem dX11_statistic_99 : decode cX11_statistic 99 = .ok (.aload_n 0, 1) := by decide +kernel
theorem dX11_statistic_100 : decode cX11_statistic 100 = .ok (.getfield 57, 3) := by decide +kernel
theorem dX11_statistic_103 : decode cX11_statistic 103 = .ok (.iload_n 2, 1) := by decide +kernel
theorem dX11_statistic_104 : decode cX11_statistic 104 = .ok (.iconst 1, 1) := by decide +kernel
theorem dX11_statistic_105 : decode cX11_statistic 105 = .ok (.isub, 1) := by decide +kernel
theorem dX11_statistic_106 : decode cX11_statistic 106 = .ok (.iaload, 1) := by decide +kernel
theorem dX11_statistic_107 : decode cX11_statistic 107 = .ok (.ireturn, 1) := by decide +kernel
theorem dX11_statistic_108 : decode cX11_statistic 108 = .ok (.lload_n 3, 1) := by decide +kernel
theorem dX11_statistic_109 : decode cX11_statistic 109 = .ok (.iload_n 2, 1) := by decide +kernel
theorem dX11_statistic_110 : decode cX11_statistic 110 = .ok (.i2l, 1) := by decide +kernel
theorem dX11_statistic_111 : decode cX11_statistic 111 = .ok (.ldiv, 1) := by decide +kernel
theorem dX11_statistic_112 : decode cX11_statistic 112 = .ok (.l2i, 1) := by decide +kernel
theorem dX11_statistic_113 : decode cX11_statistic 113 = .ok (.ireturn, 1) := by decide +kernel
theorem dX11_statistic_114 : decode cX11_statistic 114 = .ok (.iload_n 2, 1) := by decide +kernel
theorem dX11_statistic_115 : decode cX11_statistic 115 = .ok (.iconst 2, 1) := by decide +kernel
theorem dX11_statistic_116 : decode cX11_statistic 116 = .ok (.irem, 1) := by decide +kernel
theorem dX11_statistic_117 : decode cX11_statistic 117 = .ok (.iconst 1, 1) := by decide +kernel
theorem dX11_statistic_118 : decode cX11_statistic 118 = .ok (.if_icmp .ne 14, 3) := by decide +kernel
theorem dX11_statistic_121 : decode cX11_statistic 121 = .ok (.aload_n 0, 1) := by decide +kernel
theorem dX11_statistic_122 : decode cX11_statistic 122 = .ok (.getfield 57, 3) := by decide +kernel
theorem dX11_statistic_125 : decode cX11_statistic 125 = .ok (.iload_n 2, 1) := by decide +kernel
theorem dX11_statistic_126 : decode cX11_statistic 126 = .ok (.iconst 2, 1) := by decide +kernel
theorem dX11_statistic_127 : decode cX11_statistic 127 = .ok (.idiv, 1) := by decide +kernel
theorem dX11_statistic_128 : decode cX11_statistic 128 = .ok (.iaload, 1) := by decide +kernel
theorem dX11_statistic_129 : decode cX11_statistic 129 = .ok (.goto 24, 3) := by decide +kernel
theorem dX11_statistic_132 : decode cX11_statistic 132 = .ok (.aload_n 0, 1) := by decide +kernel
theorem dX11_statistic_133 : decode cX11_statistic 133 = .ok (.getfield 57, 3) := by decide +kernel
theorem dX11_statistic_136 : decode cX11_statistic 136 = .ok (.iload_n 2, 1) := by decide +kernel
theorem dX11_statistic_137 : decode cX11_statistic 137 = .ok (.iconst 2, 1) := by decide +kernel
theorem dX11_statistic_138 : decode cX11_statistic 138 = .ok (.idiv, 1) := by decide +kernel
theorem dX11_statistic_139 : decode cX11_statistic 139 = .ok (.iconst 1, 1) := by decide +kernel
theorem dX11_statistic_140 : decode cX11_statistic 140 = .ok (.isub, 1) := by decide +kernel
theorem dX11_statistic_141 : decode cX11_statistic 141 = .ok (.iaload, 1) := by decide +kernel
theorem dX11_statistic_142 : decode cX11_statistic 142 = .ok (.aload_n 0, 1) := by decide +kernel
theorem dX11_statistic_143 : decode cX11_statistic 143 = .ok (.getfield 57, 3) := by decide +kernel
theorem dX11_statistic_146 : decode cX11_statistic 146 = .ok (.iload_n 2, 1) := by decide +kernel
theorem dX11_statistic_147 : decode cX11_statistic 147 = .ok (.iconst 2, 1) := by decide +kernel
theorem dX11_statistic_148 : decode cX11_statistic 148 = .ok (.idiv, 1) := by decide +kernel
theorem dX11_statistic_149 : decode cX11_statistic 149 = .ok (.iaload, 1) := by decide +kernel
theorem dX11_statistic_150 : decode cX11_statistic 150 = .ok (.iadd, 1) := by decide +kernel
theorem dX11_statistic_151 : decode cX11_statistic 151 = .ok (.iconst 2, 1) := by decide +kernel
theorem dX11_statistic_152 : decode cX11_statistic 152 = .ok (.idiv, 1) := by decide +kernel
theorem dX11_statistic_153 : decode cX11_statistic 153 = .ok (.ireturn, 1) := by decide +kernel
set_option maxRecDepth 20000 in
theorem ggX11_isAhead_X11_fails : GoodIn wsX11_isAhead wsX11_fails := goodIn_r _ [5, 6, 7, 8, 4, 9, 10, 11, 12, 13, 14, 15, 16, 17, 18, 19, 20, 21, 22, 23, 24, 25, 26, 27, 28, 29, 30, 31, 32, 33, 34, 35] (by decide +kernel) (by decide +kernel)
set_option maxRecDepth 20000 in
theorem gX11_isAhead_X11_fails : GoodIn wsX11_isAhead (wsV RX11 239 RX11 yX11_fails wsX11_fails) := goodIn_app (goodIn_of _ (by decide +kernel)) ggX11_isAhead_X11_fails
set_option maxRecDepth 20000 in
theorem ggX11_isAhead_X11_of : GoodIn wsX11_isAhead wsX11_of := goodIn_r _ [9, 10, 11, 12, 13, 14, 15, 16, 17, 18, 19, 20, 21, 22, 23, 24, 25, 26, 27, 28, 29, 30, 31, 32, 33, 34, 35] (by decide +kernel) (by decide +kernel)
set_option maxRecDepth 20000 in
theorem gX11_isAhead_X11_of : GoodIn wsX11_isAhead (wsV RX11 83 RX11 yX11_of wsX11_of) := goodIn_app (goodIn_of _ (by decide +kernel)) ggX11_isAhead_X11_of
theorem dX11_isAhead_0 : decode cX11_isAhead 0 = .ok (.aload_n 0, 1) := by decide +kernel
theorem dX11_isAhead_1 : decode cX11_isAhead 1 = .ok (.iload_n 1, 1) := by decide +kernel
theorem dX11_isAhead_2 : decode cX11_isAhead 2 = .ok (.invokevirtual 239, 3) := by decide +kernel
theorem dX11_isAhead_5 : decode cX11_isAhead 5 = .ok (.aload_n 0, 1) := by decide +kernel
theorem dX11_isAhead_6 : decode cX11_isAhead 6 = .ok (.iload_n 2, 1) := by decide +kernel
theorem dX11_isAhead_7 : decode cX11_isAhead 7 = .ok (.invokevirtual 239, 3) := by decide +kernel
theorem dX11_isAhead_10 : decode cX11_isAhead 10 = .ok (.if_icmp .eq 9, 3) := by decide +kernel
theorem dX11_isAhead_13 : decode cX11_isAhead 13 = .ok (.aload_n 0, 1) := by decide +kernel
theorem dX11_isAhead_14 : decode cX11_isAhead 14 = .ok (.iload_n 2, 1) := by decide +kernel
theorem dX11_isAhead_15 : decode cX11_isAhead 15 = .ok (.invokevirtual 239, 3) := by decide +kernel
theorem dX11_isAhead_18 : decode cX11_isAhead 18 = .ok (.ireturn, 1) := by decide +kernel
theorem dX11_isAhead_19 : decode cX11_isAhead 19 = .ok (.aload_n 0, 1) := by decide +kernel
theorem dX11_isAhead_20 : decode cX11_isAhead 20 = .ok (.iload_n 1, 1) := by decide +kernel
theorem dX11_isAhead_21 : decode cX11_isAhead 21 = .ok (.bipush 10, 2) := by decide +kernel
theorem dX11_isAhead_23 : decode cX11_isAhead 23 = .ok (.invokevirtual 83, 3) := by decide +kernel
theorem dX11_isAhead_26 : decode cX11_isAhead 26 = .ok (.aload_n 0, 1) := by decide +kernel
theorem dX11_isAhead_27 : decode cX11_isAhead 27 = .ok (.iload_n 2, 1) := by decide +kernel
theorem dX11_isAhead_28 : decode cX11_isAhead 28 = .ok (.bipush 10, 2) := by decide +kernel
theorem dX11_isAhead_30 : decode cX11_isAhead 30 = .ok (.invokevirtual 83, 3) := by decide +kernel
theorem dX11_isAhead_33 : decode cX11_isAhead 33 = .ok (.if_icmp .eq 26, 3) := by decide +kernel
theorem dX11_isAhead_36 : decode cX11_isAhead 36 = .ok (.aload_n 0, 1) := by decide +kernel
theorem dX11_isAhead_37 : decode cX11_isAhead 37 = .ok (.iload_n 1, 1) := by decide +kernel
theorem dX11_isAhead_38 : decode cX11_isAhead 38 = .ok (.bipush 10, 2) := by decide +kernel
theorem dX11_isAhead_40 : decode cX11_isAhead 40 = .ok (.invokevirtual 83, 3) := by decide +kernel
theorem dX11_isAhead_43 : decode cX11_isAhead 43 = .ok (.aload_n 0, 1) := by decide +kernel
theorem dX11_isAhead_44 : decode cX11_isAhead 44 = .ok (.iload_n 2, 1) := by decide +kernel
theorem dX11_isAhead_45 : decode cX11_isAhead 45 = .ok (.bipush 10, 2) := by decide +kernel
theorem dX11_isAhead_47 : decode cX11_isAhead 47 = .ok (.invokevirtual 83, 3) := by decide +kernel
theorem dX11_isAhead_50 : decode cX11_isAhead 50 = .ok (.if_icmp .ge 7, 3) := by decide +kernel
theorem dX11_isAhead_53 : decode cX11_isAhead 53 = .ok (.iconst 1, 1) := by decide +kernel
theorem dX11_isAhead_54 : decode cX11_isAhead 54 = .ok (.goto 4, 3) := by decide +kernel
theorem dX11_isAhead_57 : decode cX11_isAhead 57 = .ok (.iconst 0, 1) := by decide +kernel
theorem dX11_isAhead_58 : decode cX11_isAhead 58 = .ok (.ireturn, 1) := by decide +kernel
theorem dX11_isAhead_59 : decode cX11_isAhead 59 = .ok (.aload_n 0, 1) := by decide +kernel
theorem dX11_isAhead_60 : decode cX11_isAhead 60 = .ok (.iload_n 1, 1) := by decide +kernel
theorem dX11_isAhead_61 : decode cX11_isAhead 61 = .ok (.bipush 11, 2) := by decide +kernel
theorem dX11_isAhead_63 : decode cX11_isAhead 63 = .ok (.invokevirtual 83, 3) := by decide +kernel
theorem dX11_isAhead_66 : decode cX11_isAhead 66 = .ok (.aload_n 0, 1) := by decide +kernel
theorem dX11_isAhead_67 : decode cX11_isAhead 67 = .ok (.iload_n 1, 1) := by decide +kernel
theorem dX11_isAhead_68 : decode cX11_isAhead 68 = .ok (.bipush 12, 2) := by decide +kernel
theorem dX11_isAhead_70 : decode cX11_isAhead 70 = .ok (.invokevirtual 83, 3) := by decide +kernel
theorem dX11_isAhead_73 : decode cX11_isAhead 73 = .ok (.iadd, 1) := by decide +kernel
theorem dX11_isAhead_74 : decode cX11_isAhead 74 = .ok (.istore_n 3, 1) := by decide +kernel
theorem dX11_isAhead_75 : decode cX11_isAhead 75 = .ok (.aload_n 0, 1) := by decide +kernel
theorem dX11_isAhead_76 : decode cX11_isAhead 76 = .ok (.iload_n 2, 1) := by decide +kernel
theorem dX11_isAhead_77 : decode cX11_isAhead 77 = .ok (.bipush 11, 2) := by decide +kernel
theorem dX11_isAhead_79 : decode cX11_isAhead 79 = .ok (.invokevirtual 83, 3) := by decide +kernel
theorem dX11_isAhead_82 : decode cX11_isAhead 82 = .ok (.aload_n 0, 1) := by decide +kernel
theorem dX11_isAhead_83 : decode cX11_isAhead 83 = .ok (.iload_n 2, 1) := by decide +kernel
theorem dX11_isAhead_84 : decode cX11_isAhead 84 = .ok (.bipush 12, 2) := by decide +kernel
theorem dX11_isAhead_86 : decode cX11_isAhead 86 = .ok (.invokevirtual 83, 3) := by decide +kernel
theorem dX11_isAhead_89 : decode cX11_isAhead 89 = .ok (.iadd, 1) := by decide +kernel
theorem dX11_isAhead_90 : decode cX11_isAhead 90 = .ok (.istore 4, 2) := by decide +kernel
theorem dX11_isAhead_92 : decode cX11_isAhead 92 = .ok (.iload_n 3, 1) := by decide +kernel
theorem dX11_isAhead_93 : decode cX11_isAhead 93 = .ok (.iload 4, 2) := by decide +kernel
theorem dX11_isAhead_95 : decode cX11_isAhead 95 = .ok (.if_icmp .eq 15, 3) := by decide +kernel
theorem dX11_isAhead_98 : decode cX11_isAhead 98 = .ok (.iload_n 3, 1) := by decide +kernel
theorem dX11_isAhead_99 : decode cX11_isAhead 99 = .ok (.iload 4, 2) := by decide +kernel
theorem dX11_isAhead_101 : decode cX11_isAhead 101 = .ok (.if_icmp .ge 7, 3) := by decide +kernel
theorem dX11_isAhead_104 : decode cX11_isAhead 104 = .ok (.iconst 1, 1) := by decide +kernel
theorem dX11_isAhead_105 : decode cX11_isAhead 105 = .ok (.goto 4, 3) := by decide +kernel
theorem dX11_isAhead_108 : decode cX11_isAhead 108 = .ok (.iconst 0, 1) := by decide +kernel
theorem dX11_isAhead_109 : decode cX11_isAhead 109 = .ok (.ireturn, 1) := by decide +kernel
theorem dX11_isAhead_110 : decode cX11_isAhead 110 = .ok (.aload_n 0, 1) := by decide +kernel
theorem dX11_isAhead_111 : decode cX11_isAhead 111 = .ok (.iload_n 1, 1) := by decide +kernel
theorem dX11_isAhead_112 : decode cX11_isAhead 112 = .ok (.iconst 2, 1) := by decide +kernel
theorem dX11_isAhead_113 : decode cX11_isAhead 113 = .ok (.invokevirtual 83, 3) := by decide +kernel
theorem dX11_isAhead_116 : decode cX11_isAhead 116 = .ok (.aload_n 0, 1) := by decide +kernel
theorem dX11_isAhead_117 : decode cX11_isAhead 117 = .ok (.iload_n 2, 1) := by decide +kernel
theorem dX11_isAhead_118 : decode cX11_isAhead 118 = .ok (.iconst 2, 1) := by decide +kernel
theorem dX11_isAhead_119 : decode cX11_isAhead 119 = .ok (.invokevirtual 83, 3) := by decide +kernel
theorem dX11_isAhead_122 : decode cX11_isAhead 122 = .ok (.if_icmp .eq 26, 3) := by decide +kernel
theorem dX11_isAhead_125 : decode cX11_isAhead 125 = .ok (.aload_n 0, 1) := by decide +kernel
theorem dX11_isAhead_126 : decode cX11_isAhead 126 = .ok (.iload_n 1, 1) := by decide +kernel
theorem dX11_isAhead_127 : decode cX11_isAhead 127 = .ok (.iconst 2, 1) := by decide +kernel
theorem dX11_isAhead_128 : decode cX11_isAhead 128 = .ok (.invokevirtual 83, 3) := by decide +kernel
theorem dX11_isAhead_131 : decode cX11_isAhead 131 = .ok (.aload_n 0, 1) := by decide +kernel
theorem dX11_isAhead_132 : decode cX11_isAhead 132 = .ok (.iload_n 2, 1) := by decide +kernel
theorem dX11_isAhead_133 : decode cX11_isAhead 133 = .ok (.iconst 2, 1) := by decide +kernel
theorem dX11_isAhead_134 : decode cX11_isAhead 134 = .ok (.invokevirtual 83, 3) := by decide +kernel
theorem dX11_isAhead_137 : decode cX11_isAhead 137 = .ok (.if_icmp .le 7, 3) := by decide +kernel
theorem dX11_isAhead_140 : decode cX11_isAhead 140 = .ok (.iconst 1, 1) := by decide +kernel
theorem dX11_isAhead_141 : decode cX11_isAhead 141 = .ok (.goto 17, 3) := by decide +kernel
theorem dX11_isAhead_144 : decode cX11_isAhead 144 = .ok (.iconst 0, 1) := by decide +kernel
theorem dX11_isAhead_145 : decode cX11_isAhead 145 = .ok (.goto 13, 3) := by decide +kernel
theorem dX11_isAhead_148 : decode cX11_isAhead 148 = .ok (.iload_n 1, 1) := by decide +kernel
theorem dX11_isAhead_149 : decode cX11_isAhead 149 = .ok (.iload_n 2, 1) := by decide +kernel
theorem dX11_isAhead_150 : decode cX11_isAhead 150 = .ok (.if_icmp .ge 7, 3) := by decide +kernel
theorem dX11_isAhead_153 : decode cX11_isAhead 153 = .ok (.iconst 1, 1) := by decide +kernel
theorem dX11_isAhead_154 : decode cX11_isAhead 154 = .ok (.goto 4, 3) := by decide +kernel
theorem dX11_isAhead_157 : decode cX11_isAhead 157 = .ok (.iconst 0, 1) := by decide +kernel
theorem dX11_isAhead_158 : decode cX11_isAhead 158 = .ok (.ireturn, 1) := by decide +kernel
set_option maxRecDepth 20000 in
theorem ggX11_trust_X11_isAhead : GoodIn wsX11_trust wsX11_isAhead := goodIn_r _ [8, 9, 10, 11, 7, 12, 13, 14, 15, 16, 2, 17, 18, 19, 20, 21, 22, 23, 24, 25, 26, 27, 28, 29, 30, 31, 32, 33, 34, 35, 36, 37, 38, 39, 40, 41] (by decide +kernel) (by decide +kernel)
set_option maxRecDepth 20000 in
theorem gX11_trust_X11_isAhead : GoodIn wsX11_trust (wsV RX11 252 RX11 yX11_isAhead wsX11_isAhead) := goodIn_app (goodIn_of _ (by decide +kernel)) ggX11_trust_X11_isAhead
theorem dX11_trust_0 : decode cX11_trust 0 = .ok (.iload_n 1, 1) := by decide +kernel
theorem dX11_trust_1 : decode cX11_trust 1 = .ok (.ifCond .ge 6, 3) := by decide +kernel
theorem dX11_trust_4 : decode cX11_trust 4 = .ok (.ldc 68, 2) := by decide +kernel
theorem dX11_trust_6 : decode cX11_trust 6 = .ok (.ireturn, 1) := by decide +kernel
theorem dX11_trust_7 : decode cX11_trust 7 = .ok (.iconst 0, 1) := by decide +kernel
theorem dX11_trust_8 : decode cX11_trust 8 = .ok (.istore_n 2, 1) := by decide +kernel
theorem dX11_trust_9 : decode cX11_trust 9 = .ok (.iload_n 2, 1) := by decide +kernel
theorem dX11_trust_10 : decode cX11_trust 10 = .ok (.aload_n 0, 1) := by decide +kernel
theorem dX11_trust_11 : decode cX11_trust 11 = .ok (.getfield 7, 3) := by decide +kernel
theorem dX11_trust_14 : decode cX11_trust 14 = .ok (.bipush 64, 2) := by decide +kernel
theorem dX11_trust_16 : decode cX11_trust 16 = .ok (.iaload, 1) := by decide +kernel
theorem dX11_trust_17 : decode cX11_trust 17 = .ok (.if_icmp .ge 63, 3) := by decide +kernel
theorem dX11_trust_20 : decode cX11_trust 20 = .ok (.iconst 0, 1) := by decide +kernel
theorem dX11_trust_21 : decode cX11_trust 21 = .ok (.istore_n 3, 1) := by decide +kernel
theorem dX11_trust_22 : decode cX11_trust 22 = .ok (.iconst 0, 1) := by decide +kernel
theorem dX11_trust_23 : decode cX11_trust 23 = .ok (.istore 4, 2) := by decide +kernel
theorem dX11_trust_25 : decode cX11_trust 25 = .ok (.iload 4, 2) := by decide +kernel
theorem dX11_trust_27 : decode cX11_trust 27 = .ok (.aload_n 0, 1) := by decide +kernel
theorem dX11_trust_28 : decode cX11_trust 28 = .ok (.getfield 7, 3) := by decide +kernel
theorem dX11_trust_31 : decode cX11_trust 31 = .ok (.bipush 64, 2) := by decide +kernel
theorem dX11_trust_33 : decode cX11_trust 33 = .ok (.iaload, 1) := by decide +kernel
theorem dX11_trust_34 : decode cX11_trust 34 = .ok (.if_icmp .ge 33, 3) := by decide +kernel
theorem dX11_trust_37 : decode cX11_trust 37 = .ok (.iload_n 3, 1) := by decide +kernel
theorem dX11_trust_38 : decode cX11_trust 38 = .ok (.iload 4, 2) := by decide +kernel
theorem dX11_trust_40 : decode cX11_trust 40 = .ok (.iload_n 2, 1) := by decide +kernel
theorem dX11_trust_41 : decode cX11_trust 41 = .ok (.if_icmp .eq 17, 3) := by decide +kernel
theorem dX11_trust_44 : decode cX11_trust 44 = .ok (.aload_n 0, 1) := by decide +kernel
theorem dX11_trust_45 : decode cX11_trust 45 = .ok (.iload 4, 2) := by decide +kernel
theorem dX11_trust_47 : decode cX11_trust 47 = .ok (.iload_n 2, 1) := by decide +kernel
theorem dX11_trust_48 : decode cX11_trust 48 = .ok (.invokevirtual 252, 3) := by decide +kernel
theorem dX11_trust_51 : decode cX11_trust 51 = .ok (.ifCond .eq 7, 3) := by decide +kernel
theorem dX11_trust_54 : decode cX11_trust 54 = .ok (.iconst 1, 1) := by decide +kernel
theorem dX11_trust_55 : decode cX11_trust 55 = .ok (.goto 4, 3) := by decide +kernel
theorem dX11_trust_58 : decode cX11_trust 58 = .ok (.iconst 0, 1) := by decide +kernel
theorem dX11_trust_59 : decode cX11_trust 59 = .ok (.iadd, 1) := by decide +kernel
theorem dX11_trust_60 : decode cX11_trust 60 = .ok (.istore_n 3, 1) := by decide +kernel
theorem dX11_trust_61 : decode cX11_trust 61 = .ok (.iinc 4 1, 3) := by decide +kernel
theorem dX11_trust_64 : decode cX11_trust 64 = .ok (.goto (-39), 3) := by decide +kernel
theorem dX11_trust_67 : decode cX11_trust 67 = .ok (.iload_n 3, 1) := by decide +kernel
theorem dX11_trust_68 : decode cX11_trust 68 = .ok (.iload_n 1, 1) := by decide +kernel
theorem dX11_trust_69 : decode cX11_trust 69 = .ok (.if_icmp .ne 5, 3) := by decide +kernel
theorem dX11_trust_72 : decode cX11_trust 72 = .ok (.iload_n 2, 1) := by decide +kernel
theorem dX11_trust_73 : decode cX11_trust 73 = .ok (.ireturn, 1) := by decide +kernel
theorem dX11_trust_74 : decode cX11_trust 74 = .ok (.iinc 2 1, 3) := by decide +kernel
theorem dX11_trust_77 : decode cX11_trust 77 = .ok (.goto (-68), 3) := by decide +kernel
theorem dX11_trust_80 : decode cX11_trust 80 = .ok (.ldc 77, 2) := by decide +kernel
theorem dX11_trust_82 : decode cX11_trust 82 = .ok (.ireturn, 1) := by decide +kernel
set_option maxRecDepth 20000 in
theorem ggX11_failing_X11_fails : GoodIn wsX11_failing wsX11_fails := goodIn_r _ [6, 7, 8, 9, 5, 10, 1, 11, 12, 13, 14, 15, 16, 17, 18, 19, 20, 21, 22, 23, 24, 25, 26, 27, 28, 29, 30, 31, 32, 33, 34, 35] (by decide +kernel) (by decide +kernel)
set_option maxRecDepth 20000 in
theorem gX11_failing_X11_fails : GoodIn wsX11_failing (wsV RX11 239 RX11 yX11_fails wsX11_fails) := goodIn_app (goodIn_of _ (by decide +kernel)) ggX11_failing_X11_fails
theorem dX11_failing_0 : decode cX11_failing 0 = .ok (.iconst 0, 1) := by decide +kernel
theorem dX11_failing_1 : decode cX11_failing 1 = .ok (.istore_n 1, 1) := by decide +kernel
theorem dX11_failing_2 : decode cX11_failing 2 = .ok (.iconst 0, 1) := by decide +kernel
theorem dX11_failing_3 : decode cX11_failing 3 = .ok (.istore_n 2, 1) := by decide +kernel
theorem dX11_failing_4 : decode cX11_failing 4 = .ok (.iload_n 2, 1) := by decide +kernel
theorem dX11_failing_5 : decode cX11_failing 5 = .ok (.aload_n 0, 1) := by decide +kernel
theorem dX11_failing_6 : decode cX11_failing 6 = .ok (.getfield 7, 3) := by decide +kernel
theorem dX11_failing_9 : decode cX11_failing 9 = .ok (.bipush 64, 2) := by decide +kernel
theorem dX11_failing_11 : decode cX11_failing 11 = .ok (.iaload, 1) := by decide +kernel
theorem dX11_failing_12 : decode cX11_failing 12 = .ok (.if_icmp .ge 25, 3) := by decide +kernel
theorem dX11_failing_15 : decode cX11_failing 15 = .ok (.iload_n 1, 1) := by decide +kernel
theorem dX11_failing_16 : decode cX11_failing 16 = .ok (.aload_n 0, 1) := by decide +kernel
theorem dX11_failing_17 : decode cX11_failing 17 = .ok (.iload_n 2, 1) := by decide +kernel
theorem dX11_failing_18 : decode cX11_failing 18 = .ok (.invokevirtual 239, 3) := by decide +kernel
theorem dX11_failing_21 : decode cX11_failing 21 = .ok (.ifCond .eq 7, 3) := by decide +kernel
theorem dX11_failing_24 : decode cX11_failing 24 = .ok (.iconst 1, 1) := by decide +kernel
theorem dX11_failing_25 : decode cX11_failing 25 = .ok (.goto 4, 3) := by decide +kernel
theorem dX11_failing_28 : decode cX11_failing 28 = .ok (.iconst 0, 1) := by decide +kernel
theorem dX11_failing_29 : decode cX11_failing 29 = .ok (.iadd, 1) := by decide +kernel
theorem dX11_failing_30 : decode cX11_failing 30 = .ok (.istore_n 1, 1) := by decide +kernel
theorem dX11_failing_31 : decode cX11_failing 31 = .ok (.iinc 2 1, 3) := by decide +kernel
theorem dX11_failing_34 : decode cX11_failing 34 = .ok (.goto (-30), 3) := by decide +kernel
theorem dX11_failing_37 : decode cX11_failing 37 = .ok (.iload_n 1, 1) := by decide +kernel
theorem dX11_failing_38 : decode cX11_failing 38 = .ok (.ireturn, 1) := by decide +kernel
set_option maxRecDepth 20000 in
theorem ggX11_total_X11_shots : GoodIn wsX11_total wsX11_shots := goodIn_r _ [9, 1, 10, 11, 12, 13, 8, 14, 26, 27, 28, 29, 30, 31, 32, 33, 34, 35, 36, 37, 38, 39, 40, 41, 42, 43, 44, 45, 46, 47, 48, 49, 50] (by decide +kernel) (by decide +kernel)
set_option maxRecDepth 20000 in
theorem gX11_total_X11_shots : GoodIn wsX11_total (wsV RX11 124 RX11 yX11_shots wsX11_shots) := goodIn_app (goodIn_of _ (by decide +kernel)) ggX11_total_X11_shots
set_option maxRecDepth 20000 in
theorem ggX11_total_X11_failing : GoodIn wsX11_total wsX11_failing := goodIn_r _ [18, 1, 19, 20, 21, 8, 22, 11, 12, 13, 14, 26, 27, 28, 29, 30, 31, 32, 33, 34, 35, 36, 37, 38, 39, 40, 41, 42, 43, 44, 45, 46, 47, 48, 49, 50] (by decide +kernel) (by decide +kernel)
set_option maxRecDepth 20000 in
theorem gX11_total_X11_failing : GoodIn wsX11_total (wsV RX11 255 RX11 yX11_failing wsX11_failing) := goodIn_app (goodIn_of _ (by decide +kernel)) ggX11_total_X11_failing
set_option maxRecDepth 20000 in
theorem ggX11_total_X11_in : GoodIn wsX11_total wsX11_in := goodIn_r _ [25] (by decide +kernel) (by decide +kernel)
set_option maxRecDepth 20000 in
theorem gX11_total_X11_in : GoodIn wsX11_total (va_wsS RX11 64 yX11_in wsX11_in) := goodIn_app (goodIn_of _ (by decide +kernel)) ggX11_total_X11_in
theorem dX11_total_0 : decode cX11_total 0 = .ok (.iload_n 1, 1) := by decide +kernel
theorem dX11_total_1 : decode cX11_total 1 = .ok (.tableswitch 111 0 9 #[55, 63, 71, 76, 76, 76, 88, 96, 101, 106], 55) := by decide +kernel
theorem dX11_total_56 : decode cX11_total 56 = .ok (.aload_n 0, 1) := by decide +kernel
theorem dX11_total_57 : decode cX11_total 57 = .ok (.getfield 7, 3) := by decide +kernel
theorem dX11_total_60 : decode cX11_total 60 = .ok (.bipush 64, 2) := by decide +kernel
theorem dX11_total_62 : decode cX11_total 62 = .ok (.iaload, 1) := by decide +kernel
theorem dX11_total_63 : decode cX11_total 63 = .ok (.ireturn, 1) := by decide +kernel
theorem dX11_total_64 : decode cX11_total 64 = .ok (.aload_n 0, 1) := by decide +kernel
theorem dX11_total_65 : decode cX11_total 65 = .ok (.getfield 7, 3) := by decide +kernel
theorem dX11_total_68 : decode cX11_total 68 = .ok (.bipush 65, 2) := by decide +kernel
theorem dX11_total_70 : decode cX11_total 70 = .ok (.iaload, 1) := by decide +kernel
theorem dX11_total_71 : decode cX11_total 71 = .ok (.ireturn, 1) := by decide +kernel
theorem dX11_total_72 : decode cX11_total 72 = .ok (.aload_n 0, 1) := by decide +kernel
theorem dX11_total_73 : decode cX11_total 73 = .ok (.invokevirtual 124, 3) := by decide +kernel
theorem dX11_total_76 : decode cX11_total 76 = .ok (.ireturn, 1) := by decide +kernel
theorem dX11_total_77 : decode cX11_total 77 = .ok (.aload_n 0, 1) := by decide +kernel
theorem dX11_total_78 : decode cX11_total 78 = .ok (.getfield 7, 3) := by decide +kernel
theorem dX11_total_81 : decode cX11_total 81 = .ok (.bipush 84, 2) := by decide +kernel
theorem dX11_total_83 : decode cX11_total 83 = .ok (.iload_n 1, 1) := by decide +kernel
theorem dX11_total_84 : decode cX11_total 84 = .ok (.iadd, 1) := by decide +kernel
theorem dX11_total_85 : decode cX11_total 85 = .ok (.iconst 3, 1) := by decide +kernel
theorem dX11_total_86 : decode cX11_total 86 = .ok (.isub, 1) := by decide +kernel
theorem dX11_total_87 : decode cX11_total 87 = .ok (.iaload, 1) := by decide +kernel
theorem dX11_total_88 : decode cX11_total 88 = .ok (.ireturn, 1) := by decide +kernel
theorem dX11_total_89 : decode cX11_total 89 = .ok (.aload_n 0, 1) := by decide +kernel
theorem dX11_total_90 : decode cX11_total 90 = .ok (.getfield 7, 3) := by decide +kernel
theorem dX11_total_93 : decode cX11_total 93 = .ok (.bipush 83, 2) := by decide +kernel
theorem dX11_total_95 : decode cX11_total 95 = .ok (.iaload, 1) := by decide +kernel
theorem dX11_total_96 : decode cX11_total 96 = .ok (.ireturn, 1) := by decide +kernel
theorem dX11_total_97 : decode cX11_total 97 = .ok (.aload_n 0, 1) := by decide +kernel
theorem dX11_total_98 : decode cX11_total 98 = .ok (.invokevirtual 255, 3) := by decide +kernel
theorem dX11_total_101 : decode cX11_total 101 = .ok (.ireturn, 1) := by decide +kernel
theorem dX11_total_102 : decode cX11_total 102 = .ok (.aload_n 0, 1) := by decide +kernel
theorem dX11_total_103 : decode cX11_total 103 = .ok (.getfield 60, 3) := by decide +kernel
theorem dX11_total_106 : decode cX11_total 106 = .ok (.ireturn, 1) := by decide +kernel
theorem dX11_total_107 : decode cX11_total 107 = .ok (.aload_n 0, 1) := by decide +kernel
theorem dX11_total_108 : decode cX11_total 108 = .ok (.getfield 211, 3) := by decide +kernel
