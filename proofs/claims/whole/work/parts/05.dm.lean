theorem dX11_init_0 : decode cX11_init 0 = .ok (.aload_n 0, 1) := by decide +kernel
theorem dX11_init_1 : decode cX11_init 1 = .ok (.invokespecial 1, 3) := by decide +kernel
theorem dX11_init_4 : decode cX11_init 4 = .ok (.aload_n 0, 1) := by decide +kernel
theorem dX11_init_5 : decode cX11_init 5 = .ok (.sipush 159, 3) := by decide +kernel
theorem dX11_init_8 : decode cX11_init 8 = .ok (.newarray .int, 2) := by decide +kernel
theorem dX11_init_10 : decode cX11_init 10 = .ok (.putfield 7, 3) := by decide +kernel
theorem dX11_init_13 : decode cX11_init 13 = .ok (.aload_n 0, 1) := by decide +kernel
theorem dX11_init_14 : decode cX11_init 14 = .ok (.iconst 2, 1) := by decide +kernel
theorem dX11_init_15 : decode cX11_init 15 = .ok (.newarray .long, 2) := by decide +kernel
theorem dX11_init_17 : decode cX11_init 17 = .ok (.putfield 13, 3) := by decide +kernel
theorem dX11_init_20 : decode cX11_init 20 = .ok (.aload_n 0, 1) := by decide +kernel
theorem dX11_init_21 : decode cX11_init 21 = .ok (.sipush 795, 3) := by decide +kernel
theorem dX11_init_24 : decode cX11_init 24 = .ok (.newarray .int, 2) := by decide +kernel
theorem dX11_init_26 : decode cX11_init 26 = .ok (.putfield 17, 3) := by decide +kernel
theorem dX11_init_29 : decode cX11_init 29 = .ok (.aload_n 0, 1) := by decide +kernel
theorem dX11_init_30 : decode cX11_init 30 = .ok (.bipush 10, 2) := by decide +kernel
theorem dX11_init_32 : decode cX11_init 32 = .ok (.newarray .long, 2) := by decide +kernel
theorem dX11_init_34 : decode cX11_init 34 = .ok (.putfield 20, 3) := by decide +kernel
theorem dX11_init_37 : decode cX11_init 37 = .ok (.aload_n 0, 1) := by decide +kernel
theorem dX11_init_38 : decode cX11_init 38 = .ok (.sipush 318, 3) := by decide +kernel
theorem dX11_init_41 : decode cX11_init 41 = .ok (.newarray .int, 2) := by decide +kernel
theorem dX11_init_43 : decode cX11_init 43 = .ok (.putfield 23, 3) := by decide +kernel
theorem dX11_init_46 : decode cX11_init 46 = .ok (.aload_n 0, 1) := by decide +kernel
theorem dX11_init_47 : decode cX11_init 47 = .ok (.iconst 4, 1) := by decide +kernel
theorem dX11_init_48 : decode cX11_init 48 = .ok (.newarray .long, 2) := by decide +kernel
theorem dX11_init_50 : decode cX11_init 50 = .ok (.putfield 26, 3) := by decide +kernel
theorem dX11_init_53 : decode cX11_init 53 = .ok (.aload_n 0, 1) := by decide +kernel
theorem dX11_init_54 : decode cX11_init 54 = .ok (.iconst 2, 1) := by decide +kernel
theorem dX11_init_55 : decode cX11_init 55 = .ok (.newarray .boolean, 2) := by decide +kernel
theorem dX11_init_57 : decode cX11_init 57 = .ok (.putfield 29, 3) := by decide +kernel
theorem dX11_init_60 : decode cX11_init 60 = .ok (.aload_n 0, 1) := by decide +kernel
theorem dX11_init_61 : decode cX11_init 61 = .ok (.bipush 100, 2) := by decide +kernel
theorem dX11_init_63 : decode cX11_init 63 = .ok (.newarray .int, 2) := by decide +kernel
theorem dX11_init_65 : decode cX11_init 65 = .ok (.putfield 33, 3) := by decide +kernel
theorem dX11_init_68 : decode cX11_init 68 = .ok (.aload_n 0, 1) := by decide +kernel
theorem dX11_init_69 : decode cX11_init 69 = .ok (.iconst 4, 1) := by decide +kernel
theorem dX11_init_70 : decode cX11_init 70 = .ok (.newarray .int, 2) := by decide +kernel
theorem dX11_init_72 : decode cX11_init 72 = .ok (.putfield 36, 3) := by decide +kernel
theorem dX11_init_75 : decode cX11_init 75 = .ok (.aload_n 0, 1) := by decide +kernel
theorem dX11_init_76 : decode cX11_init 76 = .ok (.bipush 8, 2) := by decide +kernel
theorem dX11_init_78 : decode cX11_init 78 = .ok (.newarray .int, 2) := by decide +kernel
theorem dX11_init_80 : decode cX11_init 80 = .ok (.putfield 39, 3) := by decide +kernel
theorem dX11_init_83 : decode cX11_init 83 = .ok (.aload_n 0, 1) := by decide +kernel
theorem dX11_init_84 : decode cX11_init 84 = .ok (.iconst 4, 1) := by decide +kernel
theorem dX11_init_85 : decode cX11_init 85 = .ok (.newarray .boolean, 2) := by decide +kernel
theorem dX11_init_87 : decode cX11_init 87 = .ok (.putfield 42, 3) := by decide +kernel
theorem dX11_init_90 : decode cX11_init 90 = .ok (.aload_n 0, 1) := by decide +kernel
theorem dX11_init_91 : decode cX11_init 91 = .ok (.iconst 4, 1) := by decide +kernel
theorem dX11_init_92 : decode cX11_init 92 = .ok (.newarray .long, 2) := by decide +kernel
theorem dX11_init_94 : decode cX11_init 94 = .ok (.putfield 45, 3) := by decide +kernel
theorem dX11_init_97 : decode cX11_init 97 = .ok (.aload_n 0, 1) := by decide +kernel
theorem dX11_init_98 : decode cX11_init 98 = .ok (.iconst 4, 1) := by decide +kernel
theorem dX11_init_99 : decode cX11_init 99 = .ok (.newarray .boolean, 2) := by decide +kernel
theorem dX11_init_101 : decode cX11_init 101 = .ok (.putfield 48, 3) := by decide +kernel
theorem dX11_init_104 : decode cX11_init 104 = .ok (.aload_n 0, 1) := by decide +kernel
theorem dX11_init_105 : decode cX11_init 105 = .ok (.iconst 4, 1) := by decide +kernel
theorem dX11_init_106 : decode cX11_init 106 = .ok (.newarray .int, 2) := by decide +kernel
theorem dX11_init_108 : decode cX11_init 108 = .ok (.putfield 51, 3) := by decide +kernel
theorem dX11_init_111 : decode cX11_init 111 = .ok (.aload_n 0, 1) := by decide +kernel
theorem dX11_init_112 : decode cX11_init 112 = .ok (.iconst 4, 1) := by decide +kernel
theorem dX11_init_113 : decode cX11_init 113 = .ok (.newarray .int, 2) := by decide +kernel
theorem dX11_init_115 : decode cX11_init 115 = .ok (.putfield 54, 3) := by decide +kernel
theorem dX11_init_118 : decode cX11_init 118 = .ok (.aload_n 0, 1) := by decide +kernel
theorem dX11_init_119 : decode cX11_init 119 = .ok (.bipush 12, 2) := by decide +kernel
theorem dX11_init_121 : decode cX11_init 121 = .ok (.newarray .int, 2) := by decide +kernel
theorem dX11_init_123 : decode cX11_init 123 = .ok (.putfield 57, 3) := by decide +kernel
theorem dX11_init_126 : decode cX11_init 126 = .ok (.aload_n 0, 1) := by decide +kernel
theorem dX11_init_127 : decode cX11_init 127 = .ok (.getfield 7, 3) := by decide +kernel
theorem dX11_init_130 : decode cX11_init 130 = .ok (.bipush 78, 2) := by decide +kernel
theorem dX11_init_132 : decode cX11_init 132 = .ok (.bipush 40, 2) := by decide +kernel
theorem dX11_init_134 : decode cX11_init 134 = .ok (.iastore, 1) := by decide +kernel
theorem dX11_init_135 : decode cX11_init 135 = .ok (.aload_n 0, 1) := by decide +kernel
theorem dX11_init_136 : decode cX11_init 136 = .ok (.getfield 7, 3) := by decide +kernel
theorem dX11_init_139 : decode cX11_init 139 = .ok (.bipush 79, 2) := by decide +kernel
theorem dX11_init_141 : decode cX11_init 141 = .ok (.iconst 2, 1) := by decide +kernel
theorem dX11_init_142 : decode cX11_init 142 = .ok (.iastore, 1) := by decide +kernel
theorem dX11_init_143 : decode cX11_init 143 = .ok (.aload_n 0, 1) := by decide +kernel
theorem dX11_init_144 : decode cX11_init 144 = .ok (.getfield 7, 3) := by decide +kernel
theorem dX11_init_147 : decode cX11_init 147 = .ok (.bipush 80, 2) := by decide +kernel
theorem dX11_init_149 : decode cX11_init 149 = .ok (.bipush 60, 2) := by decide +kernel
theorem dX11_init_151 : decode cX11_init 151 = .ok (.iastore, 1) := by decide +kernel
theorem dX11_init_152 : decode cX11_init 152 = .ok (.aload_n 0, 1) := by decide +kernel
theorem dX11_init_153 : decode cX11_init 153 = .ok (.getfield 7, 3) := by decide +kernel
theorem dX11_init_156 : decode cX11_init 156 = .ok (.bipush 81, 2) := by decide +kernel
theorem dX11_init_158 : decode cX11_init 158 = .ok (.sipush 10000, 3) := by decide +kernel
theorem dX11_init_161 : decode cX11_init 161 = .ok (.iastore, 1) := by decide +kernel
theorem dX11_init_162 : decode cX11_init 162 = .ok (.aload_n 0, 1) := by decide +kernel
theorem dX11_init_163 : decode cX11_init 163 = .ok (.getfield 7, 3) := by decide +kernel
theorem dX11_init_166 : decode cX11_init 166 = .ok (.bipush 82, 2) := by decide +kernel
theorem dX11_init_168 : decode cX11_init 168 = .ok (.bipush 100, 2) := by decide +kernel
theorem dX11_init_170 : decode cX11_init 170 = .ok (.iastore, 1) := by decide +kernel
theorem dX11_init_171 : decode cX11_init 171 = .ok (.return_, 1) := by decide +kernel
theorem dX11_in_0 : decode cX11_in 0 = .ok (.iload_n 0, 1) := by decide +kernel
theorem dX11_in_1 : decode cX11_in 1 = .ok (.iload_n 1, 1) := by decide +kernel
theorem dX11_in_2 : decode cX11_in 2 = .ok (.if_icmp .lt 12, 3) := by decide +kernel
theorem dX11_in_5 : decode cX11_in 5 = .ok (.iload_n 0, 1) := by decide +kernel
theorem dX11_in_6 : decode cX11_in 6 = .ok (.iload_n 2, 1) := by decide +kernel
theorem dX11_in_7 : decode cX11_in 7 = .ok (.if_icmp .gt 7, 3) := by decide +kernel
theorem dX11_in_10 : decode cX11_in 10 = .ok (.iconst 1, 1) := by decide +kernel
theorem dX11_in_11 : decode cX11_in 11 = .ok (.goto 4, 3) := by decide +kernel
theorem dX11_in_14 : decode cX11_in 14 = .ok (.iconst 0, 1) := by decide +kernel
theorem dX11_in_15 : decode cX11_in 15 = .ok (.ireturn, 1) := by decide +kernel
theorem dX11_records_0 : decode cX11_records 0 = .ok (.aload_n 0, 1) := by decide +kernel
theorem dX11_records_1 : decode cX11_records 1 = .ok (.getfield 60, 3) := by decide +kernel
theorem dX11_records_4 : decode cX11_records 4 = .ok (.iconst 5, 1) := by decide +kernel
theorem dX11_records_5 : decode cX11_records 5 = .ok (.if_icmp .ne 72, 3) := by decide +kernel
theorem dX11_records_8 : decode cX11_records 8 = .ok (.iconst 0, 1) := by decide +kernel
theorem dX11_records_9 : decode cX11_records 9 = .ok (.istore_n 1, 1) := by decide +kernel
theorem dX11_records_10 : decode cX11_records 10 = .ok (.iload_n 1, 1) := by decide +kernel
theorem dX11_records_11 : decode cX11_records 11 = .ok (.sipush 636, 3) := by decide +kernel
theorem dX11_records_14 : decode cX11_records 14 = .ok (.if_icmp .ge 25, 3) := by decide +kernel
theorem dX11_records_17 : decode cX11_records 17 = .ok (.aload_n 0, 1) := by decide +kernel
theorem dX11_records_18 : decode cX11_records 18 = .ok (.getfield 17, 3) := by decide +kernel
theorem dX11_records_21 : decode cX11_records 21 = .ok (.iload_n 1, 1) := by decide +kernel
theorem dX11_records_22 : decode cX11_records 22 = .ok (.aload_n 0, 1) := by decide +kernel
theorem dX11_records_23 : decode cX11_records 23 = .ok (.getfield 17, 3) := by decide +kernel
theorem dX11_records_26 : decode cX11_records 26 = .ok (.iload_n 1, 1) := by decide +kernel
theorem dX11_records_27 : decode cX11_records 27 = .ok (.sipush 159, 3) := by decide +kernel
theorem dX11_records_30 : decode cX11_records 30 = .ok (.iadd, 1) := by decide +kernel
theorem dX11_records_31 : decode cX11_records 31 = .ok (.iaload, 1) := by decide +kernel
theorem dX11_records_32 : decode cX11_records 32 = .ok (.iastore, 1) := by decide +kernel
theorem dX11_records_33 : decode cX11_records 33 = .ok (.iinc 1 1, 3) := by decide +kernel
theorem dX11_records_36 : decode cX11_records 36 = .ok (.goto (-26), 3) := by decide +kernel
theorem dX11_records_39 : decode cX11_records 39 = .ok (.iconst 0, 1) := by decide +kernel
theorem dX11_records_40 : decode cX11_records 40 = .ok (.istore_n 1, 1) := by decide +kernel
theorem dX11_records_41 : decode cX11_records 41 = .ok (.iload_n 1, 1) := by decide +kernel
theorem dX11_records_42 : decode cX11_records 42 = .ok (.bipush 8, 2) := by decide +kernel
theorem dX11_records_44 : decode cX11_records 44 = .ok (.if_icmp .ge 23, 3) := by decide +kernel
theorem dX11_records_47 : decode cX11_records 47 = .ok (.aload_n 0, 1) := by decide +kernel
theorem dX11_records_48 : decode cX11_records 48 = .ok (.getfield 20, 3) := by decide +kernel
theorem dX11_records_51 : decode cX11_records 51 = .ok (.iload_n 1, 1) := by decide +kernel
theorem dX11_records_52 : decode cX11_records 52 = .ok (.aload_n 0, 1) := by decide +kernel
theorem dX11_records_53 : decode cX11_records 53 = .ok (.getfield 20, 3) := by decide +kernel
theorem dX11_records_56 : decode cX11_records 56 = .ok (.iload_n 1, 1) := by decide +kernel
theorem dX11_records_57 : decode cX11_records 57 = .ok (.iconst 2, 1) := by decide +kernel
theorem dX11_records_58 : decode cX11_records 58 = .ok (.iadd, 1) := by decide +kernel
theorem dX11_records_59 : decode cX11_records 59 = .ok (.laload, 1) := by decide +kernel
theorem dX11_records_60 : decode cX11_records 60 = .ok (.lastore, 1) := by decide +kernel
theorem dX11_records_61 : decode cX11_records 61 = .ok (.iinc 1 1, 3) := by decide +kernel
theorem dX11_records_64 : decode cX11_records 64 = .ok (.goto (-23), 3) := by decide +kernel
theorem dX11_records_67 : decode cX11_records 67 = .ok (.aload_n 0, 1) := by decide +kernel
theorem dX11_records_68 : decode cX11_records 68 = .ok (.dup, 1) := by decide +kernel
theorem dX11_records_69 : decode cX11_records 69 = .ok (.getfield 60, 3) := by decide +kernel
theorem dX11_records_72 : decode cX11_records 72 = .ok (.iconst 1, 1) := by decide +kernel
theorem dX11_records_73 : decode cX11_records 73 = .ok (.isub, 1) := by decide +kernel
theorem dX11_records_74 : decode cX11_records 74 = .ok (.putfield 60, 3) := by decide +kernel
theorem dX11_records_77 : decode cX11_records 77 = .ok (.iconst 0, 1) := by decide +kernel
theorem dX11_records_78 : decode cX11_records 78 = .ok (.istore_n 1, 1) := by decide +kernel
theorem dX11_records_79 : decode cX11_records 79 = .ok (.iload_n 1, 1) := by decide +kernel
theorem dX11_records_80 : decode cX11_records 80 = .ok (.sipush 159, 3) := by decide +kernel
theorem dX11_records_83 : decode cX11_records 83 = .ok (.if_icmp .ge 30, 3) := by decide +kernel
theorem dX11_records_86 : decode cX11_records 86 = .ok (.aload_n 0, 1) := by decide +kernel
theorem dX11_records_87 : decode cX11_records 87 = .ok (.getfield 17, 3) := by decide +kernel
theorem dX11_records_90 : decode cX11_records 90 = .ok (.sipush 159, 3) := by decide +kernel
theorem dX11_records_93 : decode cX11_records 93 = .ok (.aload_n 0, 1) := by decide +kernel
theorem dX11_records_94 : decode cX11_records 94 = .ok (.getfield 60, 3) := by decide +kernel
theorem dX11_records_97 : decode cX11_records 97 = .ok (.imul, 1) := by decide +kernel
theorem dX11_records_98 : decode cX11_records 98 = .ok (.iload_n 1, 1) := by decide +kernel
theorem dX11_records_99 : decode cX11_records 99 = .ok (.iadd, 1) := by decide +kernel
theorem dX11_records_100 : decode cX11_records 100 = .ok (.aload_n 0, 1) := by decide +kernel
theorem dX11_records_101 : decode cX11_records 101 = .ok (.getfield 7, 3) := by decide +kernel
theorem dX11_records_104 : decode cX11_records 104 = .ok (.iload_n 1, 1) := by decide +kernel
theorem dX11_records_105 : decode cX11_records 105 = .ok (.iaload, 1) := by decide +kernel
theorem dX11_records_106 : decode cX11_records 106 = .ok (.iastore, 1) := by decide +kernel
theorem dX11_records_107 : decode cX11_records 107 = .ok (.iinc 1 1, 3) := by decide +kernel
theorem dX11_records_110 : decode cX11_records 110 = .ok (.goto (-31), 3) := by decide +kernel
theorem dX11_records_113 : decode cX11_records 113 = .ok (.aload_n 0, 1) := by decide +kernel
theorem dX11_records_114 : decode cX11_records 114 = .ok (.getfield 20, 3) := by decide +kernel
theorem dX11_records_117 : decode cX11_records 117 = .ok (.iconst 2, 1) := by decide +kernel
theorem dX11_records_118 : decode cX11_records 118 = .ok (.aload_n 0, 1) := by decide +kernel
theorem dX11_records_119 : decode cX11_records 119 = .ok (.getfield 60, 3) := by decide +kernel
theorem dX11_records_122 : decode cX11_records 122 = .ok (.imul, 1) := by decide +kernel
theorem dX11_records_123 : decode cX11_records 123 = .ok (.aload_n 0, 1) := by decide +kernel
theorem dX11_records_124 : decode cX11_records 124 = .ok (.getfield 13, 3) := by decide +kernel
theorem dX11_records_127 : decode cX11_records 127 = .ok (.iconst 0, 1) := by decide +kernel
theorem dX11_records_128 : decode cX11_records 128 = .ok (.laload, 1) := by decide +kernel
theorem dX11_records_129 : decode cX11_records 129 = .ok (.lastore, 1) := by decide +kernel
theorem dX11_records_130 : decode cX11_records 130 = .ok (.aload_n 0, 1) := by decide +kernel
theorem dX11_records_131 : decode cX11_records 131 = .ok (.getfield 20, 3) := by decide +kernel
theorem dX11_records_134 : decode cX11_records 134 = .ok (.iconst 2, 1) := by decide +kernel
theorem dX11_records_135 : decode cX11_records 135 = .ok (.aload_n 0, 1) := by decide +kernel
theorem dX11_records_136 : decode cX11_records 136 = .ok (.getfield 60, 3) := by decide +kernel
theorem dX11_records_139 : decode cX11_records 139 = .ok (.imul, 1) := by decide +kernel
theorem dX11_records_140 : decode cX11_records 140 = .ok (.iconst 1, 1) := by decide +kernel
theorem dX11_records_141 : decode cX11_records 141 = .ok (.iadd, 1) := by decide +kernel
theorem dX11_records_142 : decode cX11_records 142 = .ok (.aload_n 0, 1) := by decide +kernel
theorem dX11_records_143 : decode cX11_records 143 = .ok (.getfield 13, 3) := by decide +kernel
theorem dX11_records_146 : decode cX11_records 146 = .ok (.iconst 1, 1) := by decide +kernel
theorem dX11_records_147 : decode cX11_records 147 = .ok (.laload, 1) := by decide +kernel
theorem dX11_records_148 : decode cX11_records 148 = .ok (.lastore, 1) := by decide +kernel
theorem dX11_records_149 : decode cX11_records 149 = .ok (.aload_n 0, 1) := by decide +kernel
theorem dX11_records_150 : decode cX11_records 150 = .ok (.dup, 1) := by decide +kernel
theorem dX11_records_151 : decode cX11_records 151 = .ok (.getfield 60, 3) := by decide +kernel
theorem dX11_records_154 : decode cX11_records 154 = .ok (.iconst 1, 1) := by decide +kernel
theorem dX11_records_155 : decode cX11_records 155 = .ok (.iadd, 1) := by decide +kernel
theorem dX11_records_156 : decode cX11_records 156 = .ok (.putfield 60, 3) := by decide +kernel
theorem dX11_records_159 : decode cX11_records 159 = .ok (.return_, 1) := by decide +kernel
set_option maxRecDepth 20000 in
theorem ggX11_isPath_X11_in : GoodIn wsX11_isPath wsX11_in := goodIn_r _ [5] (by decide +kernel) (by decide +kernel)
set_option maxRecDepth 20000 in
theorem gX11_isPath_X11_in : GoodIn wsX11_isPath (va_wsS RX11 64 yX11_in wsX11_in) := goodIn_app (goodIn_of _ (by decide +kernel)) ggX11_isPath_X11_in
theorem dX11_isPath_0 : decode cX11_isPath 0 = .ok (.iload_n 1, 1) := by decide +kernel
theorem dX11_isPath_1 : decode cX11_isPath 1 = .ok (.iconst 0, 1) := by decide +kernel
theorem dX11_isPath_2 : decode cX11_isPath 2 = .ok (.aload_n 0, 1) := by decide +kernel
theorem dX11_isPath_3 : decode cX11_isPath 3 = .ok (.getfield 7, 3) := by decide +kernel
theorem dX11_isPath_6 : decode cX11_isPath 6 = .ok (.bipush 64, 2) := by decide +kernel
theorem dX11_isPath_8 : decode cX11_isPath 8 = .ok (.iaload, 1) := by decide +kernel
theorem dX11_isPath_9 : decode cX11_isPath 9 = .ok (.iconst 1, 1) := by decide +kernel
theorem dX11_isPath_10 : decode cX11_isPath 10 = .ok (.isub, 1) := by decide +kernel
theorem dX11_isPath_11 : decode cX11_isPath 11 = .ok (.invokestatic 64, 3) := by decide +kernel
theorem dX11_isPath_14 : decode cX11_isPath 14 = .ok (.ireturn, 1) := by decide +kernel
theorem dX11_of_0 : decode cX11_of 0 = .ok (.aload_n 0, 1) := by decide +kernel
theorem dX11_of_1 : decode cX11_of 1 = .ok (.getfield 7, 3) := by decide +kernel
theorem dX11_of_4 : decode cX11_of 4 = .ok (.bipush 16, 2) := by decide +kernel
theorem dX11_of_6 : decode cX11_of 6 = .ok (.iload_n 1, 1) := by decide +kernel
theorem dX11_of_7 : decode cX11_of 7 = .ok (.imul, 1) := by decide +kernel
theorem dX11_of_8 : decode cX11_of 8 = .ok (.iload_n 2, 1) := by decide +kernel
theorem dX11_of_9 : decode cX11_of 9 = .ok (.iadd, 1) := by decide +kernel
theorem dX11_of_10 : decode cX11_of 10 = .ok (.iaload, 1) := by decide +kernel
theorem dX11_of_11 : decode cX11_of 11 = .ok (.ireturn, 1) := by decide +kernel
theorem dX11_lay_0 : decode cX11_lay 0 = .ok (.aload_n 0, 1) := by decide +kernel
theorem dX11_lay_1 : decode cX11_lay 1 = .ok (.getfield 7, 3) := by decide +kernel
theorem dX11_lay_4 : decode cX11_lay 4 = .ok (.bipush 16, 2) := by decide +kernel
theorem dX11_lay_6 : decode cX11_lay 6 = .ok (.iload_n 1, 1) := by decide +kernel
theorem dX11_lay_7 : decode cX11_lay 7 = .ok (.imul, 1) := by decide +kernel
theorem dX11_lay_8 : decode cX11_lay 8 = .ok (.iload_n 2, 1) := by decide +kernel
theorem dX11_lay_9 : decode cX11_lay 9 = .ok (.iadd, 1) := by decide +kernel
theorem dX11_lay_10 : decode cX11_lay 10 = .ok (.iload_n 3, 1) := by decide +kernel
theorem dX11_lay_11 : decode cX11_lay 11 = .ok (.iastore, 1) := by decide +kernel
theorem dX11_lay_12 : decode cX11_lay 12 = .ok (.return_, 1) := by decide +kernel
theorem dX11_held_0 : decode cX11_held 0 = .ok (.lload_n 0, 1) := by decide +kernel
theorem dX11_held_1 : decode cX11_held 1 = .ok (.lload_n 2, 1) := by decide +kernel
theorem dX11_held_2 : decode cX11_held 2 = .ok (.lcmp, 1) := by decide +kernel
theorem dX11_held_3 : decode cX11_held 3 = .ok (.ifCond .le 7, 3) := by decide +kernel
theorem dX11_held_6 : decode cX11_held 6 = .ok (.lload_n 2, 1) := by decide +kernel
theorem dX11_held_7 : decode cX11_held 7 = .ok (.goto 16, 3) := by decide +kernel
theorem dX11_held_10 : decode cX11_held 10 = .ok (.lload_n 0, 1) := by decide +kernel
theorem dX11_held_11 : decode cX11_held 11 = .ok (.lload_n 2, 1) := by decide +kernel
theorem dX11_held_12 : decode cX11_held 12 = .ok (.lneg, 1) := by decide +kernel
theorem dX11_held_13 : decode cX11_held 13 = .ok (.lcmp, 1) := by decide +kernel
theorem dX11_held_14 : decode cX11_held 14 = .ok (.ifCond .ge 8, 3) := by decide +kernel
theorem dX11_held_17 : decode cX11_held 17 = .ok (.lload_n 2, 1) := by decide +kernel
theorem dX11_held_18 : decode cX11_held 18 = .ok (.lneg, 1) := by decide +kernel
theorem dX11_held_19 : decode cX11_held 19 = .ok (.goto 4, 3) := by decide +kernel
theorem dX11_held_22 : decode cX11_held 22 = .ok (.lload_n 0, 1) := by decide +kernel
theorem dX11_held_23 : decode cX11_held 23 = .ok (.lreturn, 1) := by decide +kernel
set_option maxRecDepth 20000 in
theorem ggX11_addPath_X11_in : GoodIn wsX11_addPath wsX11_in := goodIn_r _ [8] (by decide +kernel) (by decide +kernel)
set_option maxRecDepth 20000 in
theorem gX11_addPath_X11_in : GoodIn wsX11_addPath (va_wsS RX11 64 yX11_in wsX11_in) := goodIn_app (goodIn_of _ (by decide +kernel)) ggX11_addPath_X11_in
set_option maxRecDepth 20000 in
theorem ggX11_addPath_X11_records : GoodIn wsX11_addPath wsX11_records := goodIn_r _ [12, 13, 14, 15, 2, 16, 21, 22, 23, 24, 25, 26, 27, 28, 29, 30, 31, 32, 33, 34, 35, 36, 37, 38, 39, 40, 41, 42, 43, 44, 45] (by decide +kernel) (by decide +kernel)
set_option maxRecDepth 20000 in
theorem gX11_addPath_X11_records : GoodIn wsX11_addPath (wsV RX11 70 RX11 yX11_records wsX11_records) := goodIn_app (goodIn_of _ (by decide +kernel)) ggX11_addPath_X11_records
set_option maxRecDepth 20000 in
theorem ggX11_addPath_X11_lay : GoodIn wsX11_addPath wsX11_lay := goodIn_r _ [20, 2, 21, 22, 23, 24, 25, 26, 27, 28, 29, 30, 31, 32, 33, 34, 35, 36, 37, 38, 39, 40, 41, 42, 43, 44, 45] (by decide +kernel) (by decide +kernel)
set_option maxRecDepth 20000 in
theorem gX11_addPath_X11_lay : GoodIn wsX11_addPath (wsV RX11 73 RX11 yX11_lay wsX11_lay) := goodIn_app (goodIn_of _ (by decide +kernel)) ggX11_addPath_X11_lay
theorem dX11_addPath_0 : decode cX11_addPath 0 = .ok (.iload_n 1, 1) := by decide +kernel
theorem dX11_addPath_1 : decode cX11_addPath 1 = .ok (.bipush 50, 2) := by decide +kernel
theorem dX11_addPath_3 : decode cX11_addPath 3 = .ok (.sipush 2000, 3) := by decide +kernel
theorem dX11_addPath_6 : decode cX11_addPath 6 = .ok (.invokestatic 64, 3) := by decide +kernel
theorem dX11_addPath_9 : decode cX11_addPath 9 = .ok (.ifCond .eq 53, 3) := by decide +kernel
theorem dX11_addPath_12 : decode cX11_addPath 12 = .ok (.iload_n 2, 1) := by decide +kernel
theorem dX11_addPath_13 : decode cX11_addPath 13 = .ok (.bipush 10, 2) := by decide +kernel
theorem dX11_addPath_15 : decode cX11_addPath 15 = .ok (.iload_n 1, 1) := by decide +kernel
theorem dX11_addPath_16 : decode cX11_addPath 16 = .ok (.invokestatic 64, 3) := by decide +kernel
theorem dX11_addPath_19 : decode cX11_addPath 19 = .ok (.ifCond .eq 43, 3) := by decide +kernel
theorem dX11_addPath_22 : decode cX11_addPath 22 = .ok (.iload_n 3, 1) := by decide +kernel
theorem dX11_addPath_23 : decode cX11_addPath 23 = .ok (.iconst 1, 1) := by decide +kernel
theorem dX11_addPath_24 : decode cX11_addPath 24 = .ok (.sipush 1000, 3) := by decide +kernel
theorem dX11_addPath_27 : decode cX11_addPath 27 = .ok (.invokestatic 64, 3) := by decide +kernel
theorem dX11_addPath_30 : decode cX11_addPath 30 = .ok (.ifCond .eq 32, 3) := by decide +kernel
theorem dX11_addPath_33 : decode cX11_addPath 33 = .ok (.iload 4, 2) := by decide +kernel
theorem dX11_addPath_35 : decode cX11_addPath 35 = .ok (.bipush 100, 2) := by decide +kernel
theorem dX11_addPath_37 : decode cX11_addPath 37 = .ok (.sipush 10000, 3) := by decide +kernel
theorem dX11_addPath_40 : decode cX11_addPath 40 = .ok (.invokestatic 64, 3) := by decide +kernel
theorem dX11_addPath_43 : decode cX11_addPath 43 = .ok (.ifCond .eq 19, 3) := by decide +kernel
theorem dX11_addPath_46 : decode cX11_addPath 46 = .ok (.iload 5, 2) := by decide +kernel
theorem dX11_addPath_48 : decode cX11_addPath 48 = .ok (.iconst 0, 1) := by decide +kernel
theorem dX11_addPath_49 : decode cX11_addPath 49 = .ok (.sipush 5000, 3) := by decide +kernel
theorem dX11_addPath_52 : decode cX11_addPath 52 = .ok (.invokestatic 64, 3) := by decide +kernel
theorem dX11_addPath_55 : decode cX11_addPath 55 = .ok (.ifCond .eq 7, 3) := by decide +kernel
theorem dX11_addPath_58 : decode cX11_addPath 58 = .ok (.iconst 1, 1) := by decide +kernel
theorem dX11_addPath_59 : decode cX11_addPath 59 = .ok (.goto 4, 3) := by decide +kernel
theorem dX11_addPath_62 : decode cX11_addPath 62 = .ok (.iconst 0, 1) := by decide +kernel
theorem dX11_addPath_63 : decode cX11_addPath 63 = .ok (.istore 6, 2) := by decide +kernel
theorem dX11_addPath_65 : decode cX11_addPath 65 = .ok (.iload 6, 2) := by decide +kernel
theorem dX11_addPath_67 : decode cX11_addPath 67 = .ok (.ifCond .ne 6, 3) := by decide +kernel
theorem dX11_addPath_70 : decode cX11_addPath 70 = .ok (.ldc 68, 2) := by decide +kernel
theorem dX11_addPath_72 : decode cX11_addPath 72 = .ok (.ireturn, 1) := by decide +kernel
theorem dX11_addPath_73 : decode cX11_addPath 73 = .ok (.aload_n 0, 1) := by decide +kernel
theorem dX11_addPath_74 : decode cX11_addPath 74 = .ok (.getfield 7, 3) := by decide +kernel
theorem dX11_addPath_77 : decode cX11_addPath 77 = .ok (.bipush 64, 2) := by decide +kernel
theorem dX11_addPath_79 : decode cX11_addPath 79 = .ok (.iaload, 1) := by decide +kernel
theorem dX11_addPath_80 : decode cX11_addPath 80 = .ok (.iconst 4, 1) := by decide +kernel
theorem dX11_addPath_81 : decode cX11_addPath 81 = .ok (.if_icmp .ne 6, 3) := by decide +kernel
theorem dX11_addPath_84 : decode cX11_addPath 84 = .ok (.ldc 69, 2) := by decide +kernel
theorem dX11_addPath_86 : decode cX11_addPath 86 = .ok (.ireturn, 1) := by decide +kernel
theorem dX11_addPath_87 : decode cX11_addPath 87 = .ok (.aload_n 0, 1) := by decide +kernel
theorem dX11_addPath_88 : decode cX11_addPath 88 = .ok (.invokevirtual 70, 3) := by decide +kernel
theorem dX11_addPath_91 : decode cX11_addPath 91 = .ok (.aload_n 0, 1) := by decide +kernel
theorem dX11_addPath_92 : decode cX11_addPath 92 = .ok (.getfield 7, 3) := by decide +kernel
theorem dX11_addPath_95 : decode cX11_addPath 95 = .ok (.bipush 64, 2) := by decide +kernel
theorem dX11_addPath_97 : decode cX11_addPath 97 = .ok (.iaload, 1) := by decide +kernel
theorem dX11_addPath_98 : decode cX11_addPath 98 = .ok (.istore 7, 2) := by decide +kernel
theorem dX11_addPath_100 : decode cX11_addPath 100 = .ok (.iconst 0, 1) := by decide +kernel
theorem dX11_addPath_101 : decode cX11_addPath 101 = .ok (.istore 8, 2) := by decide +kernel
theorem dX11_addPath_103 : decode cX11_addPath 103 = .ok (.iload 8, 2) := by decide +kernel
theorem dX11_addPath_105 : decode cX11_addPath 105 = .ok (.bipush 16, 2) := by decide +kernel
theorem dX11_addPath_107 : decode cX11_addPath 107 = .ok (.if_icmp .ge 18, 3) := by decide +kernel
theorem dX11_addPath_110 : decode cX11_addPath 110 = .ok (.aload_n 0, 1) := by decide +kernel
theorem dX11_addPath_111 : decode cX11_addPath 111 = .ok (.iload 7, 2) := by decide +kernel
theorem dX11_addPath_113 : decode cX11_addPath 113 = .ok (.iload 8, 2) := by decide +kernel
theorem dX11_addPath_115 : decode cX11_addPath 115 = .ok (.iconst 0, 1) := by decide +kernel
theorem dX11_addPath_116 : decode cX11_addPath 116 = .ok (.invokevirtual 73, 3) := by decide +kernel
theorem dX11_addPath_119 : decode cX11_addPath 119 = .ok (.iinc 8 1, 3) := by decide +kernel
theorem dX11_addPath_122 : decode cX11_addPath 122 = .ok (.goto (-19), 3) := by decide +kernel
theorem dX11_addPath_125 : decode cX11_addPath 125 = .ok (.aload_n 0, 1) := by decide +kernel
theorem dX11_addPath_126 : decode cX11_addPath 126 = .ok (.iload 7, 2) := by decide +kernel
theorem dX11_addPath_128 : decode cX11_addPath 128 = .ok (.iconst 0, 1) := by decide +kernel
theorem dX11_addPath_129 : decode cX11_addPath 129 = .ok (.iload_n 1, 1) := by decide +kernel
theorem dX11_addPath_130 : decode cX11_addPath 130 = .ok (.invokevirtual 73, 3) := by decide +kernel
theorem dX11_addPath_133 : decode cX11_addPath 133 = .ok (.aload_n 0, 1) := by decide +kernel
theorem dX11_addPath_134 : decode cX11_addPath 134 = .ok (.iload 7, 2) := by decide +kernel
theorem dX11_addPath_136 : decode cX11_addPath 136 = .ok (.iconst 1, 1) := by decide +kernel
theorem dX11_addPath_137 : decode cX11_addPath 137 = .ok (.iload_n 2, 1) := by decide +kernel
theorem dX11_addPath_138 : decode cX11_addPath 138 = .ok (.invokevirtual 73, 3) := by decide +kernel
theorem dX11_addPath_141 : decode cX11_addPath 141 = .ok (.aload_n 0, 1) := by decide +kernel
theorem dX11_addPath_142 : decode cX11_addPath 142 = .ok (.iload 7, 2) := by decide +kernel
theorem dX11_addPath_144 : decode cX11_addPath 144 = .ok (.iconst 2, 1) := by decide +kernel
theorem dX11_addPath_145 : decode cX11_addPath 145 = .ok (.iload_n 3, 1) := by decide +kernel
theorem dX11_addPath_146 : decode cX11_addPath 146 = .ok (.invokevirtual 73, 3) := by decide +kernel
theorem dX11_addPath_149 : decode cX11_addPath 149 = .ok (.aload_n 0, 1) := by decide +kernel
theorem dX11_addPath_150 : decode cX11_addPath 150 = .ok (.iload 7, 2) := by decide +kernel
theorem dX11_addPath_152 : decode cX11_addPath 152 = .ok (.iconst 3, 1) := by decide +kernel
theorem dX11_addPath_153 : decode cX11_addPath 153 = .ok (.iload 4, 2) := by decide +kernel
theorem dX11_addPath_155 : decode cX11_addPath 155 = .ok (.invokevirtual 73, 3) := by decide +kernel
theorem dX11_addPath_158 : decode cX11_addPath 158 = .ok (.aload_n 0, 1) := by decide +kernel
theorem dX11_addPath_159 : decode cX11_addPath 159 = .ok (.iload 7, 2) := by decide +kernel
theorem dX11_addPath_161 : decode cX11_addPath 161 = .ok (.iconst 4, 1) := by decide +kernel
theorem dX11_addPath_162 : decode cX11_addPath 162 = .ok (.iload 5, 2) := by decide +kernel
theorem dX11_addPath_164 : decode cX11_addPath 164 = .ok (.invokevirtual 73, 3) := by decide +kernel
theorem dX11_addPath_167 : decode cX11_addPath 167 = .ok (.aload_n 0, 1) := by decide +kernel
theorem dX11_addPath_168 : decode cX11_addPath 168 = .ok (.iload 7, 2) := by decide +kernel
theorem dX11_addPath_170 : decode cX11_addPath 170 = .ok (.iconst 5, 1) := by decide +kernel
theorem dX11_addPath_171 : decode cX11_addPath 171 = .ok (.ldc 77, 2) := by decide +kernel
theorem dX11_addPath_173 : decode cX11_addPath 173 = .ok (.invokevirtual 73, 3) := by decide +kernel
theorem dX11_addPath_176 : decode cX11_addPath 176 = .ok (.aload_n 0, 1) := by decide +kernel
theorem dX11_addPath_177 : decode cX11_addPath 177 = .ok (.iload 7, 2) := by decide +kernel
theorem dX11_addPath_179 : decode cX11_addPath 179 = .ok (.bipush 6, 2) := by decide +kernel
theorem dX11_addPath_181 : decode cX11_addPath 181 = .ok (.ldc 77, 2) := by decide +kernel
theorem dX11_addPath_183 : decode cX11_addPath 183 = .ok (.invokevirtual 73, 3) := by decide +kernel
theorem dX11_addPath_186 : decode cX11_addPath 186 = .ok (.aload_n 0, 1) := by decide +kernel
theorem dX11_addPath_187 : decode cX11_addPath 187 = .ok (.iload 7, 2) := by decide +kernel
theorem dX11_addPath_189 : decode cX11_addPath 189 = .ok (.bipush 7, 2) := by decide +kernel
theorem dX11_addPath_191 : decode cX11_addPath 191 = .ok (.ldc 77, 2) := by decide +kernel
theorem dX11_addPath_193 : decode cX11_addPath 193 = .ok (.invokevirtual 73, 3) := by decide +kernel
theorem dX11_addPath_196 : decode cX11_addPath 196 = .ok (.aload_n 0, 1) := by decide +kernel
theorem dX11_addPath_197 : decode cX11_addPath 197 = .ok (.iload 7, 2) := by decide +kernel
theorem dX11_addPath_199 : decode cX11_addPath 199 = .ok (.bipush 8, 2) := by decide +kernel
theorem dX11_addPath_201 : decode cX11_addPath 201 = .ok (.ldc 77, 2) := by decide +kernel
theorem dX11_addPath_203 : decode cX11_addPath 203 = .ok (.invokevirtual 73, 3) := by decide +kernel
theorem dX11_addPath_206 : decode cX11_addPath 206 = .ok (.aload_n 0, 1) := by decide +kernel
theorem dX11_addPath_207 : decode cX11_addPath 207 = .ok (.iload 7, 2) := by decide +kernel
theorem dX11_addPath_209 : decode cX11_addPath 209 = .ok (.bipush 9, 2) := by decide +kernel
theorem dX11_addPath_211 : decode cX11_addPath 211 = .ok (.ldc 77, 2) := by decide +kernel
theorem dX11_addPath_213 : decode cX11_addPath 213 = .ok (.invokevirtual 73, 3) := by decide +kernel
theorem dX11_addPath_216 : decode cX11_addPath 216 = .ok (.aload_n 0, 1) := by decide +kernel
theorem dX11_addPath_217 : decode cX11_addPath 217 = .ok (.iload 7, 2) := by decide +kernel
theorem dX11_addPath_219 : decode cX11_addPath 219 = .ok (.bipush 13, 2) := by decide +kernel
theorem dX11_addPath_221 : decode cX11_addPath 221 = .ok (.ldc 77, 2) := by decide +kernel
theorem dX11_addPath_223 : decode cX11_addPath 223 = .ok (.invokevirtual 73, 3) := by decide +kernel
theorem dX11_addPath_226 : decode cX11_addPath 226 = .ok (.aload_n 0, 1) := by decide +kernel
theorem dX11_addPath_227 : decode cX11_addPath 227 = .ok (.getfield 7, 3) := by decide +kernel
theorem dX11_addPath_230 : decode cX11_addPath 230 = .ok (.bipush 64, 2) := by decide +kernel
theorem dX11_addPath_232 : decode cX11_addPath 232 = .ok (.dup2, 1) := by decide +kernel
theorem dX11_addPath_233 : decode cX11_addPath 233 = .ok (.iaload, 1) := by decide +kernel
theorem dX11_addPath_234 : decode cX11_addPath 234 = .ok (.iconst 1, 1) := by decide +kernel
theorem dX11_addPath_235 : decode cX11_addPath 235 = .ok (.iadd, 1) := by decide +kernel
theorem dX11_addPath_236 : decode cX11_addPath 236 = .ok (.iastore, 1) := by decide +kernel
theorem dX11_addPath_237 : decode cX11_addPath 237 = .ok (.iload 7, 2) := by decide +kernel
theorem dX11_addPath_239 : decode cX11_addPath 239 = .ok (.ireturn, 1) := by decide +kernel
set_option maxRecDepth 20000 in
theorem ggX11_setWeight_X11_isPath : GoodIn wsX11_setWeight wsX11_isPath := goodIn_r _ [7, 8, 9, 10, 6, 11, 28, 29, 30, 31, 32, 33, 34, 35, 36, 37, 38, 39, 40, 41, 42, 43, 44, 45, 46, 47, 48, 49, 50, 51, 52] (by decide +kernel) (by decide +kernel)
set_option maxRecDepth 20000 in
theorem gX11_setWeight_X11_isPath : GoodIn wsX11_setWeight (wsV RX11 78 RX11 yX11_isPath wsX11_isPath) := goodIn_app (goodIn_of _ (by decide +kernel)) ggX11_setWeight_X11_isPath
set_option maxRecDepth 20000 in
theorem ggX11_setWeight_X11_in : GoodIn wsX11_setWeight wsX11_in := goodIn_r _ [11] (by decide +kernel) (by decide +kernel)
set_option maxRecDepth 20000 in
theorem gX11_setWeight_X11_in : GoodIn wsX11_setWeight (va_wsS RX11 64 yX11_in wsX11_in) := goodIn_app (goodIn_of _ (by decide +kernel)) ggX11_setWeight_X11_in
set_option maxRecDepth 20000 in
theorem ggX11_setWeight_X11_records : GoodIn wsX11_setWeight wsX11_records := goodIn_r _ [15, 16, 17, 18, 8, 19, 28, 29, 30, 31, 32, 33, 34, 35, 36, 37, 38, 39, 40, 41, 42, 43, 44, 45, 46, 47, 48, 49, 50, 51, 52] (by decide +kernel) (by decide +kernel)
set_option maxRecDepth 20000 in
theorem gX11_setWeight_X11_records : GoodIn wsX11_setWeight (wsV RX11 70 RX11 yX11_records wsX11_records) := goodIn_app (goodIn_of _ (by decide +kernel)) ggX11_setWeight_X11_records
set_option maxRecDepth 20000 in
theorem ggX11_setWeight_X11_of : GoodIn wsX11_setWeight wsX11_of := goodIn_r _ [23, 8, 28, 29, 30, 31, 32, 33, 34, 35, 36, 37, 38, 39, 40, 41, 42, 43, 44, 45, 46, 47, 48, 49, 50, 51, 52] (by decide +kernel) (by decide +kernel)
set_option maxRecDepth 20000 in
theorem gX11_setWeight_X11_of : GoodIn wsX11_setWeight (wsV RX11 83 RX11 yX11_of wsX11_of) := goodIn_app (goodIn_of _ (by decide +kernel)) ggX11_setWeight_X11_of
set_option maxRecDepth 20000 in
theorem ggX11_setWeight_X11_lay : GoodIn wsX11_setWeight wsX11_lay := goodIn_r _ [27, 8, 28, 29, 30, 31, 32, 33, 34, 35, 36, 37, 38, 39, 40, 41, 42, 43, 44, 45, 46, 47, 48, 49, 50, 51, 52] (by decide +kernel) (by decide +kernel)
set_option maxRecDepth 20000 in
theorem gX11_setWeight_X11_lay : GoodIn wsX11_setWeight (wsV RX11 73 RX11 yX11_lay wsX11_lay) := goodIn_app (goodIn_of _ (by decide +kernel)) ggX11_setWeight_X11_lay
theorem dX11_setWeight_0 : decode cX11_setWeight 0 = .ok (.aload_n 0, 1) := by decide +kernel
theorem dX11_setWeight_1 : decode cX11_setWeight 1 = .ok (.iload_n 1, 1) := by decide +kernel
theorem dX11_setWeight_2 : decode cX11_setWeight 2 = .ok (.invokevirtual 78, 3) := by decide +kernel
theorem dX11_setWeight_5 : decode cX11_setWeight 5 = .ok (.ifCond .ne 6, 3) := by decide +kernel
theorem dX11_setWeight_8 : decode cX11_setWeight 8 = .ok (.ldc 82, 2) := by decide +kernel
theorem dX11_setWeight_10 : decode cX11_setWeight 10 = .ok (.ireturn, 1) := by decide +kernel
theorem dX11_setWeight_11 : decode cX11_setWeight 11 = .ok (.iload_n 2, 1) := by decide +kernel
theorem dX11_setWeight_12 : decode cX11_setWeight 12 = .ok (.iconst 1, 1) := by decide +kernel
theorem dX11_setWeight_13 : decode cX11_setWeight 13 = .ok (.sipush 1000, 3) := by decide +kernel
theorem dX11_setWeight_16 : decode cX11_setWeight 16 = .ok (.invokestatic 64, 3) := by decide +kernel
theorem dX11_setWeight_19 : decode cX11_setWeight 19 = .ok (.ifCond .ne 6, 3) := by decide +kernel
theorem dX11_setWeight_22 : decode cX11_setWeight 22 = .ok (.ldc 68, 2) := by decide +kernel
theorem dX11_setWeight_24 : decode cX11_setWeight 24 = .ok (.ireturn, 1) := by decide +kernel
theorem dX11_setWeight_25 : decode cX11_setWeight 25 = .ok (.aload_n 0, 1) := by decide +kernel
theorem dX11_setWeight_26 : decode cX11_setWeight 26 = .ok (.invokevirtual 70, 3) := by decide +kernel
theorem dX11_setWeight_29 : decode cX11_setWeight 29 = .ok (.aload_n 0, 1) := by decide +kernel
theorem dX11_setWeight_30 : decode cX11_setWeight 30 = .ok (.iload_n 1, 1) := by decide +kernel
theorem dX11_setWeight_31 : decode cX11_setWeight 31 = .ok (.iconst 2, 1) := by decide +kernel
theorem dX11_setWeight_32 : decode cX11_setWeight 32 = .ok (.invokevirtual 83, 3) := by decide +kernel
theorem dX11_setWeight_35 : decode cX11_setWeight 35 = .ok (.istore_n 3, 1) := by decide +kernel
theorem dX11_setWeight_36 : decode cX11_setWeight 36 = .ok (.aload_n 0, 1) := by decide +kernel
theorem dX11_setWeight_37 : decode cX11_setWeight 37 = .ok (.iload_n 1, 1) := by decide +kernel
theorem dX11_setWeight_38 : decode cX11_setWeight 38 = .ok (.iconst 2, 1) := by decide +kernel
theorem dX11_setWeight_39 : decode cX11_setWeight 39 = .ok (.iload_n 2, 1) := by decide +kernel
theorem dX11_setWeight_40 : decode cX11_setWeight 40 = .ok (.invokevirtual 73, 3) := by decide +kernel
theorem dX11_setWeight_43 : decode cX11_setWeight 43 = .ok (.iload_n 3, 1) := by decide +kernel
theorem dX11_setWeight_44 : decode cX11_setWeight 44 = .ok (.ireturn, 1) := by decide +kernel
theorem dX11_speedAt_0 : decode cX11_speedAt 0 = .ok (.aload_n 0, 1) := by decide +kernel
theorem dX11_speedAt_1 : decode cX11_speedAt 1 = .ok (.getfield 7, 3) := by decide +kernel
theorem dX11_speedAt_4 : decode cX11_speedAt 4 = .ok (.bipush 66, 2) := by decide +kernel
theorem dX11_speedAt_6 : decode cX11_speedAt 6 = .ok (.iconst 2, 1) := by decide +kernel
theorem dX11_speedAt_7 : decode cX11_speedAt 7 = .ok (.iload_n 1, 1) := by decide +kernel
theorem dX11_speedAt_8 : decode cX11_speedAt 8 = .ok (.imul, 1) := by decide +kernel
theorem dX11_speedAt_9 : decode cX11_speedAt 9 = .ok (.iadd, 1) := by decide +kernel
theorem dX11_speedAt_10 : decode cX11_speedAt 10 = .ok (.iaload, 1) := by decide +kernel
theorem dX11_speedAt_11 : decode cX11_speedAt 11 = .ok (.ireturn, 1) := by decide +kernel
theorem dX11_factorAt_0 : decode cX11_factorAt 0 = .ok (.aload_n 0, 1) := by decide +kernel
theorem dX11_factorAt_1 : decode cX11_factorAt 1 = .ok (.getfield 7, 3) := by decide +kernel
theorem dX11_factorAt_4 : decode cX11_factorAt 4 = .ok (.bipush 66, 2) := by decide +kernel
theorem dX11_factorAt_6 : decode cX11_factorAt 6 = .ok (.iconst 2, 1) := by decide +kernel
theorem dX11_factorAt_7 : decode cX11_factorAt 7 = .ok (.iload_n 1, 1) := by decide +kernel
theorem dX11_factorAt_8 : decode cX11_factorAt 8 = .ok (.imul, 1) := by decide +kernel
theorem dX11_factorAt_9 : decode cX11_factorAt 9 = .ok (.iadd, 1) := by decide +kernel
theorem dX11_factorAt_10 : decode cX11_factorAt 10 = .ok (.iconst 1, 1) := by decide +kernel
theorem dX11_factorAt_11 : decode cX11_factorAt 11 = .ok (.iadd, 1) := by decide +kernel
theorem dX11_factorAt_12 : decode cX11_factorAt 12 = .ok (.iaload, 1) := by decide +kernel
theorem dX11_factorAt_13 : decode cX11_factorAt 13 = .ok (.ireturn, 1) := by decide +kernel
set_option maxRecDepth 20000 in
theorem ggX11_placeOf_X11_speedAt : GoodIn wsX11_placeOf wsX11_speedAt := goodIn_r _ [6, 1, 7, 8, 9, 10, 11, 12, 13, 14, 15, 16, 17, 18, 19, 20, 21, 22, 23, 24, 25, 26, 27, 28, 29, 30, 31] (by decide +kernel) (by decide +kernel)
set_option maxRecDepth 20000 in
theorem gX11_placeOf_X11_speedAt : GoodIn wsX11_placeOf (wsV RX11 87 RX11 yX11_speedAt wsX11_speedAt) := goodIn_app (goodIn_of _ (by decide +kernel)) ggX11_placeOf_X11_speedAt
theorem dX11_placeOf_0 : decode cX11_placeOf 0 = .ok (.iconst 0, 1) := by decide +kernel
theorem dX11_placeOf_1 : decode cX11_placeOf 1 = .ok (.istore_n 2, 1) := by decide +kernel
theorem dX11_placeOf_2 : decode cX11_placeOf 2 = .ok (.iload_n 2, 1) := by decide +kernel
theorem dX11_placeOf_3 : decode cX11_placeOf 3 = .ok (.aload_n 0, 1) := by decide +kernel
theorem dX11_placeOf_4 : decode cX11_placeOf 4 = .ok (.getfield 7, 3) := by decide +kernel
theorem dX11_placeOf_7 : decode cX11_placeOf 7 = .ok (.bipush 65, 2) := by decide +kernel
theorem dX11_placeOf_9 : decode cX11_placeOf 9 = .ok (.iaload, 1) := by decide +kernel
theorem dX11_placeOf_10 : decode cX11_placeOf 10 = .ok (.if_icmp .ge 18, 3) := by decide +kernel
theorem dX11_placeOf_13 : decode cX11_placeOf 13 = .ok (.aload_n 0, 1) := by decide +kernel
theorem dX11_placeOf_14 : decode cX11_placeOf 14 = .ok (.iload_n 2, 1) := by decide +kernel
theorem dX11_placeOf_15 : decode cX11_placeOf 15 = .ok (.invokevirtual 87, 3) := by decide +kernel
theorem dX11_placeOf_18 : decode cX11_placeOf 18 = .ok (.iload_n 1, 1) := by decide +kernel
theorem dX11_placeOf_19 : decode cX11_placeOf 19 = .ok (.if_icmp .ge 9, 3) := by decide +kernel
theorem dX11_placeOf_22 : decode cX11_placeOf 22 = .ok (.iinc 2 1, 3) := by decide +kernel
theorem dX11_placeOf_25 : decode cX11_placeOf 25 = .ok (.goto (-23), 3) := by decide +kernel
theorem dX11_placeOf_28 : decode cX11_placeOf 28 = .ok (.iload_n 2, 1) := by decide +kernel
theorem dX11_placeOf_29 : decode cX11_placeOf 29 = .ok (.ireturn, 1) := by decide +kernel
set_option maxRecDepth 20000 in
theorem ggX11_setPoint_X11_in : GoodIn wsX11_setPoint wsX11_in := goodIn_r _ [8] (by decide +kernel) (by decide +kernel)
set_option maxRecDepth 20000 in
theorem gX11_setPoint_X11_in : GoodIn wsX11_setPoint (va_wsS RX11 64 yX11_in wsX11_in) := goodIn_app (goodIn_of _ (by decide +kernel)) ggX11_setPoint_X11_in
set_option maxRecDepth 20000 in
theorem ggX11_setPoint_X11_placeOf : GoodIn wsX11_setPoint wsX11_placeOf := goodIn_r _ [12, 3, 13, 14, 15, 7, 16, 29, 30, 31, 32, 33, 34, 35, 36, 37, 38, 39, 40, 41, 42, 43, 44, 45, 46, 47, 48, 49, 50, 51, 52, 53] (by decide +kernel) (by decide +kernel)
set_option maxRecDepth 20000 in
theorem gX11_setPoint_X11_placeOf : GoodIn wsX11_setPoint (wsV RX11 92 RX11 yX11_placeOf wsX11_placeOf) := goodIn_app (goodIn_of _ (by decide +kernel)) ggX11_setPoint_X11_placeOf
set_option maxRecDepth 20000 in
theorem ggX11_setPoint_X11_speedAt : GoodIn wsX11_setPoint wsX11_speedAt := goodIn_r _ [16, 3, 29, 30, 31, 32, 33, 34, 35, 36, 37, 38, 39, 40, 41, 42, 43, 44, 45, 46, 47, 48, 49, 50, 51, 52, 53] (by decide +kernel) (by decide +kernel)
set_option maxRecDepth 20000 in
theorem gX11_setPoint_X11_speedAt : GoodIn wsX11_setPoint (wsV RX11 87 RX11 yX11_speedAt wsX11_speedAt) := goodIn_app (goodIn_of _ (by decide +kernel)) ggX11_setPoint_X11_speedAt
set_option maxRecDepth 20000 in
theorem ggX11_setPoint_X11_records : GoodIn wsX11_setPoint wsX11_records := goodIn_r _ [20, 21, 22, 23, 3, 24, 29, 30, 31, 32, 33, 34, 35, 36, 37, 38, 39, 40, 41, 42, 43, 44, 45, 46, 47, 48, 49, 50, 51, 52, 53] (by decide +kernel) (by decide +kernel)
set_option maxRecDepth 20000 in
theorem gX11_setPoint_X11_records : GoodIn wsX11_setPoint (wsV RX11 70 RX11 yX11_records wsX11_records) := goodIn_app (goodIn_of _ (by decide +kernel)) ggX11_setPoint_X11_records
set_option maxRecDepth 20000 in
theorem ggX11_setPoint_X11_factorAt : GoodIn wsX11_setPoint wsX11_factorAt := goodIn_r _ [28, 3, 29, 30, 31, 32, 33, 34, 35, 36, 37, 38, 39, 40, 41, 42, 43, 44, 45, 46, 47, 48, 49, 50, 51, 52, 53] (by decide +kernel) (by decide +kernel)
set_option maxRecDepth 20000 in
theorem gX11_setPoint_X11_factorAt : GoodIn wsX11_setPoint (wsV RX11 95 RX11 yX11_factorAt wsX11_factorAt) := goodIn_app (goodIn_of _ (by decide +kernel)) ggX11_setPoint_X11_factorAt
theorem dX11_setPoint_0 : decode cX11_setPoint 0 = .ok (.iload_n 1, 1) := by decide +kernel
theorem dX11_setPoint_1 : decode cX11_setPoint 1 = .ok (.iconst 0, 1) := by decide +kernel
theorem dX11_setPoint_2 : decode cX11_setPoint 2 = .ok (.ldc 91, 2) := by decide +kernel
theorem dX11_setPoint_4 : decode cX11_setPoint 4 = .ok (.invokestatic 64, 3) := by decide +kernel
theorem dX11_setPoint_7 : decode cX11_setPoint 7 = .ok (.ifCond .eq 16, 3) := by decide +kernel
theorem dX11_setPoint_10 : decode cX11_setPoint 10 = .ok (.iload_n 2, 1) := by decide +kernel
theorem dX11_setPoint_11 : decode cX11_setPoint 11 = .ok (.sipush 500, 3) := by decide +kernel
theorem dX11_setPoint_14 : decode cX11_setPoint 14 = .ok (.sipush 1500, 3) := by decide +kernel
theorem dX11_setPoint_17 : decode cX11_setPoint 17 = .ok (.invokestatic 64, 3) := by decide +kernel
theorem dX11_setPoint_20 : decode cX11_setPoint 20 = .ok (.ifCond .ne 6, 3) := by decide +kernel
theorem dX11_setPoint_23 : decode cX11_setPoint 23 = .ok (.ldc 68, 2) := by decide +kernel
theorem dX11_setPoint_25 : decode cX11_setPoint 25 = .ok (.ireturn, 1) := by decide +kernel
theorem dX11_setPoint_26 : decode cX11_setPoint 26 = .ok (.aload_n 0, 1) := by decide +kernel
theorem dX11_setPoint_27 : decode cX11_setPoint 27 = .ok (.iload_n 1, 1) := by decide +kernel
theorem dX11_setPoint_28 : decode cX11_setPoint 28 = .ok (.invokevirtual 92, 3) := by decide +kernel
theorem dX11_setPoint_31 : decode cX11_setPoint 31 = .ok (.istore_n 3, 1) := by decide +kernel
theorem dX11_setPoint_32 : decode cX11_setPoint 32 = .ok (.iload_n 3, 1) := by decide +kernel
theorem dX11_setPoint_33 : decode cX11_setPoint 33 = .ok (.aload_n 0, 1) := by decide +kernel
theorem dX11_setPoint_34 : decode cX11_setPoint 34 = .ok (.getfield 7, 3) := by decide +kernel
theorem dX11_setPoint_37 : decode cX11_setPoint 37 = .ok (.bipush 65, 2) := by decide +kernel
theorem dX11_setPoint_39 : decode cX11_setPoint 39 = .ok (.iaload, 1) := by decide +kernel
theorem dX11_setPoint_40 : decode cX11_setPoint 40 = .ok (.if_icmp .ge 16, 3) := by decide +kernel
theorem dX11_setPoint_43 : decode cX11_setPoint 43 = .ok (.aload_n 0, 1) := by decide +kernel
theorem dX11_setPoint_44 : decode cX11_setPoint 44 = .ok (.iload_n 3, 1) := by decide +kernel
theorem dX11_setPoint_45 : decode cX11_setPoint 45 = .ok (.invokevirtual 87, 3) := by decide +kernel
theorem dX11_setPoint_48 : decode cX11_setPoint 48 = .ok (.iload_n 1, 1) := by decide +kernel
theorem dX11_setPoint_49 : decode cX11_setPoint 49 = .ok (.if_icmp .ne 7, 3) := by decide +kernel
theorem dX11_setPoint_52 : decode cX11_setPoint 52 = .ok (.iconst 1, 1) := by decide +kernel
theorem dX11_setPoint_53 : decode cX11_setPoint 53 = .ok (.goto 4, 3) := by decide +kernel
theorem dX11_setPoint_56 : decode cX11_setPoint 56 = .ok (.iconst 0, 1) := by decide +kernel
theorem dX11_setPoint_57 : decode cX11_setPoint 57 = .ok (.istore 4, 2) := by decide +kernel
theorem dX11_setPoint_59 : decode cX11_setPoint 59 = .ok (.iload 4, 2) := by decide +kernel
theorem dX11_setPoint_61 : decode cX11_setPoint 61 = .ok (.ifCond .ne 18, 3) := by decide +kernel
theorem dX11_setPoint_64 : decode cX11_setPoint 64 = .ok (.aload_n 0, 1) := by decide +kernel
theorem dX11_setPoint_65 : decode cX11_setPoint 65 = .ok (.getfield 7, 3) := by decide +kernel
theorem dX11_setPoint_68 : decode cX11_setPoint 68 = .ok (.bipush 65, 2) := by decide +kernel
theorem dX11_setPoint_70 : decode cX11_setPoint 70 = .ok (.iaload, 1) := by decide +kernel
theorem dX11_setPoint_71 : decode cX11_setPoint 71 = .ok (.bipush 6, 2) := by decide +kernel
theorem dX11_setPoint_73 : decode cX11_setPoint 73 = .ok (.if_icmp .ne 6, 3) := by decide +kernel
theorem dX11_setPoint_76 : decode cX11_setPoint 76 = .ok (.ldc 69, 2) := by decide +kernel
theorem dX11_setPoint_78 : decode cX11_setPoint 78 = .ok (.ireturn, 1) := by decide +kernel
theorem dX11_setPoint_79 : decode cX11_setPoint 79 = .ok (.aload_n 0, 1) := by decide +kernel
theorem dX11_setPoint_80 : decode cX11_setPoint 80 = .ok (.invokevirtual 70, 3) := by decide +kernel
theorem dX11_setPoint_83 : decode cX11_setPoint 83 = .ok (.aload_n 0, 1) := by decide +kernel
theorem dX11_setPoint_84 : decode cX11_setPoint 84 = .ok (.getfield 7, 3) := by decide +kernel
theorem dX11_setPoint_87 : decode cX11_setPoint 87 = .ok (.bipush 65, 2) := by decide +kernel
theorem dX11_setPoint_89 : decode cX11_setPoint 89 = .ok (.iaload, 1) := by decide +kernel
theorem dX11_setPoint_90 : decode cX11_setPoint 90 = .ok (.istore 5, 2) := by decide +kernel
theorem dX11_setPoint_92 : decode cX11_setPoint 92 = .ok (.iload 5, 2) := by decide +kernel
theorem dX11_setPoint_94 : decode cX11_setPoint 94 = .ok (.iload_n 3, 1) := by decide +kernel
theorem dX11_setPoint_95 : decode cX11_setPoint 95 = .ok (.if_icmp .le 56, 3) := by decide +kernel
theorem dX11_setPoint_98 : decode cX11_setPoint 98 = .ok (.iload 4, 2) := by decide +kernel
theorem dX11_setPoint_100 : decode cX11_setPoint 100 = .ok (.ifCond .ne 51, 3) := by decide +kernel
theorem dX11_setPoint_103 : decode cX11_setPoint 103 = .ok (.aload_n 0, 1) := by decide +kernel
theorem dX11_setPoint_104 : decode cX11_setPoint 104 = .ok (.getfield 7, 3) := by decide +kernel
theorem dX11_setPoint_107 : decode cX11_setPoint 107 = .ok (.bipush 66, 2) := by decide +kernel
theorem dX11_setPoint_109 : decode cX11_setPoint 109 = .ok (.iconst 2, 1) := by decide +kernel
theorem dX11_setPoint_110 : decode cX11_setPoint 110 = .ok (.iload 5, 2) := by decide +kernel
theorem dX11_setPoint_112 : decode cX11_setPoint 112 = .ok (.imul, 1) := by decide +kernel
theorem dX11_setPoint_113 : decode cX11_setPoint 113 = .ok (.iadd, 1) := by decide +kernel
theorem dX11_setPoint_114 : decode cX11_setPoint 114 = .ok (.aload_n 0, 1) := by decide +kernel
theorem dX11_setPoint_115 : decode cX11_setPoint 115 = .ok (.iload 5, 2) := by decide +kernel
theorem dX11_setPoint_117 : decode cX11_setPoint 117 = .ok (.iconst 1, 1) := by decide +kernel
theorem dX11_setPoint_118 : decode cX11_setPoint 118 = .ok (.isub, 1) := by decide +kernel
theorem dX11_setPoint_119 : decode cX11_setPoint 119 = .ok (.invokevirtual 87, 3) := by decide +kernel
theorem dX11_setPoint_122 : decode cX11_setPoint 122 = .ok (.iastore, 1) := by decide +kernel
theorem dX11_setPoint_123 : decode cX11_setPoint 123 = .ok (.aload_n 0, 1) := by decide +kernel
theorem dX11_setPoint_124 : decode cX11_setPoint 124 = .ok (.getfield 7, 3) := by decide +kernel
theorem dX11_setPoint_127 : decode cX11_setPoint 127 = .ok (.bipush 66, 2) := by decide +kernel
theorem dX11_setPoint_129 : decode cX11_setPoint 129 = .ok (.iconst 2, 1) := by decide +kernel
theorem dX11_setPoint_130 : decode cX11_setPoint 130 = .ok (.iload 5, 2) := by decide +kernel
theorem dX11_setPoint_132 : decode cX11_setPoint 132 = .ok (.imul, 1) := by decide +kernel
theorem dX11_setPoint_133 : decode cX11_setPoint 133 = .ok (.iadd, 1) := by decide +kernel
theorem dX11_setPoint_134 : decode cX11_setPoint 134 = .ok (.iconst 1, 1) := by decide +kernel
theorem dX11_setPoint_135 : decode cX11_setPoint 135 = .ok (.iadd, 1) := by decide +kernel
theorem dX11_setPoint_136 : decode cX11_setPoint 136 = .ok (.aload_n 0, 1) := by decide +kernel
theorem dX11_setPoint_137 : decode cX11_setPoint 137 = .ok (.iload 5, 2) := by decide +kernel
theorem dX11_setPoint_139 : decode cX11_setPoint 139 = .ok (.iconst 1, 1) := by decide +kernel
theorem dX11_setPoint_140 : decode cX11_setPoint 140 = .ok (.isub, 1) := by decide +kernel
theorem dX11_setPoint_141 : decode cX11_setPoint 141 = .ok (.invokevirtual 95, 3) := by decide +kernel
theorem dX11_setPoint_144 : decode cX11_setPoint 144 = .ok (.iastore, 1) := by decide +kernel
theorem dX11_setPoint_145 : decode cX11_setPoint 145 = .ok (.iinc 5 (-1), 3) := by decide +kernel
theorem dX11_setPoint_148 : decode cX11_setPoint 148 = .ok (.goto (-56), 3) := by decide +kernel
theorem dX11_setPoint_151 : decode cX11_setPoint 151 = .ok (.aload_n 0, 1) := by decide +kernel
theorem dX11_setPoint_152 : decode cX11_setPoint 152 = .ok (.getfield 7, 3) := by decide +kernel
theorem dX11_setPoint_155 : decode cX11_setPoint 155 = .ok (.bipush 66, 2) := by decide +kernel
theorem dX11_setPoint_157 : decode cX11_setPoint 157 = .ok (.iconst 2, 1) := by decide +kernel
theorem dX11_setPoint_158 : decode cX11_setPoint 158 = .ok (.iload_n 3, 1) := by decide +kernel
theorem dX11_setPoint_159 : decode cX11_setPoint 159 = .ok (.imul, 1) := by decide +kernel
theorem dX11_setPoint_160 : decode cX11_setPoint 160 = .ok (.iadd, 1) := by decide +kernel
theorem dX11_setPoint_161 : decode cX11_setPoint 161 = .ok (.iload_n 1, 1) := by decide +kernel
theorem dX11_setPoint_162 : decode cX11_setPoint 162 = .ok (.iastore, 1) := by decide +kernel
theorem dX11_setPoint_163 : decode cX11_setPoint 163 = .ok (.aload_n 0, 1) := by decide +kernel
theorem dX11_setPoint_164 : decode cX11_setPoint 164 = .ok (.getfield 7, 3) := by decide +kernel
theorem dX11_setPoint_167 : decode cX11_setPoint 167 = .ok (.bipush 66, 2) := by decide +kernel
theorem dX11_setPoint_169 : decode cX11_setPoint 169 = .ok (.iconst 2, 1) := by decide +kernel
theorem dX11_setPoint_170 : decode cX11_setPoint 170 = .ok (.iload_n 3, 1) := by decide +kernel
theorem dX11_setPoint_171 : decode cX11_setPoint 171 = .ok (.imul, 1) := by decide +kernel
theorem dX11_setPoint_172 : decode cX11_setPoint 172 = .ok (.iadd, 1) := by decide +kernel
theorem dX11_setPoint_173 : decode cX11_setPoint 173 = .ok (.iconst 1, 1) := by decide +kernel
theorem dX11_setPoint_174 : decode cX11_setPoint 174 = .ok (.iadd, 1) := by decide +kernel
theorem dX11_setPoint_175 : decode cX11_setPoint 175 = .ok (.iload_n 2, 1) := by decide +kernel
theorem dX11_setPoint_176 : decode cX11_setPoint 176 = .ok (.iastore, 1) := by decide +kernel
theorem dX11_setPoint_177 : decode cX11_setPoint 177 = .ok (.aload_n 0, 1) := by decide +kernel
theorem dX11_setPoint_178 : decode cX11_setPoint 178 = .ok (.getfield 7, 3) := by decide +kernel
theorem dX11_setPoint_181 : decode cX11_setPoint 181 = .ok (.bipush 65, 2) := by decide +kernel
theorem dX11_setPoint_183 : decode cX11_setPoint 183 = .ok (.dup2, 1) := by decide +kernel
theorem dX11_setPoint_184 : decode cX11_setPoint 184 = .ok (.iaload, 1) := by decide +kernel
theorem dX11_setPoint_185 : decode cX11_setPoint 185 = .ok (.iload 4, 2) := by decide +kernel
theorem dX11_setPoint_187 : decode cX11_setPoint 187 = .ok (.ifCond .eq 7, 3) := by decide +kernel
theorem dX11_setPoint_190 : decode cX11_setPoint 190 = .ok (.iconst 0, 1) := by decide +kernel
theorem dX11_setPoint_191 : decode cX11_setPoint 191 = .ok (.goto 4, 3) := by decide +kernel
theorem dX11_setPoint_194 : decode cX11_setPoint 194 = .ok (.iconst 1, 1) := by decide +kernel
theorem dX11_setPoint_195 : decode cX11_setPoint 195 = .ok (.iadd, 1) := by decide +kernel
theorem dX11_setPoint_196 : decode cX11_setPoint 196 = .ok (.iastore, 1) := by decide +kernel
theorem dX11_setPoint_197 : decode cX11_setPoint 197 = .ok (.aload_n 0, 1) := by decide +kernel
theorem dX11_setPoint_198 : decode cX11_setPoint 198 = .ok (.getfield 7, 3) := by decide +kernel
theorem dX11_setPoint_201 : decode cX11_setPoint 201 = .ok (.bipush 65, 2) := by decide +kernel
theorem dX11_setPoint_203 : decode cX11_setPoint 203 = .ok (.iaload, 1) := by decide +kernel
theorem dX11_setPoint_204 : decode cX11_setPoint 204 = .ok (.ireturn, 1) := by decide +kernel
set_option maxRecDepth 20000 in
theorem ggX11_removePoint_X11_in : GoodIn wsX11_removePoint wsX11_in := goodIn_r _ [8] (by decide +kernel) (by decide +kernel)
set_option maxRecDepth 20000 in
theorem gX11_removePoint_X11_in : GoodIn wsX11_removePoint (va_wsS RX11 64 yX11_in wsX11_in) := goodIn_app (goodIn_of _ (by decide +kernel)) ggX11_removePoint_X11_in
set_option maxRecDepth 20000 in
theorem ggX11_removePoint_X11_placeOf : GoodIn wsX11_removePoint wsX11_placeOf := goodIn_r _ [12, 3, 13, 14, 15, 7, 16, 29, 30, 31, 32, 33, 34, 35, 36, 37, 38, 39, 40, 41, 42, 43, 44, 45, 46, 47, 48, 49, 50, 51, 52, 53] (by decide +kernel) (by decide +kernel)
set_option maxRecDepth 20000 in
theorem gX11_removePoint_X11_placeOf : GoodIn wsX11_removePoint (wsV RX11 92 RX11 yX11_placeOf wsX11_placeOf) := goodIn_app (goodIn_of _ (by decide +kernel)) ggX11_removePoint_X11_placeOf
set_option maxRecDepth 20000 in
theorem ggX11_removePoint_X11_speedAt : GoodIn wsX11_removePoint wsX11_speedAt := goodIn_r _ [16, 3, 29, 30, 31, 32, 33, 34, 35, 36, 37, 38, 39, 40, 41, 42, 43, 44, 45, 46, 47, 48, 49, 50, 51, 52, 53] (by decide +kernel) (by decide +kernel)
set_option maxRecDepth 20000 in
theorem gX11_removePoint_X11_speedAt : GoodIn wsX11_removePoint (wsV RX11 87 RX11 yX11_speedAt wsX11_speedAt) := goodIn_app (goodIn_of _ (by decide +kernel)) ggX11_removePoint_X11_speedAt
set_option maxRecDepth 20000 in
theorem ggX11_removePoint_X11_records : GoodIn wsX11_removePoint wsX11_records := goodIn_r _ [20, 21, 22, 23, 3, 24, 29, 30, 31, 32, 33, 34, 35, 36, 37, 38, 39, 40, 41, 42, 43, 44, 45, 46, 47, 48, 49, 50, 51, 52, 53] (by decide +kernel) (by decide +kernel)
set_option maxRecDepth 20000 in
theorem gX11_removePoint_X11_records : GoodIn wsX11_removePoint (wsV RX11 70 RX11 yX11_records wsX11_records) := goodIn_app (goodIn_of _ (by decide +kernel)) ggX11_removePoint_X11_records
set_option maxRecDepth 20000 in
theorem ggX11_removePoint_X11_factorAt : GoodIn wsX11_removePoint wsX11_factorAt := goodIn_r _ [28, 3, 29, 30, 31, 32, 33, 34, 35, 36, 37, 38, 39, 40, 41, 42, 43, 44, 45, 46, 47, 48, 49, 50, 51, 52, 53] (by decide +kernel) (by decide +kernel)
set_option maxRecDepth 20000 in
theorem gX11_removePoint_X11_factorAt : GoodIn wsX11_removePoint (wsV RX11 95 RX11 yX11_factorAt wsX11_factorAt) := goodIn_app (goodIn_of _ (by decide +kernel)) ggX11_removePoint_X11_factorAt
theorem dX11_removePoint_0 : decode cX11_removePoint 0 = .ok (.iload_n 1, 1) := by decide +kernel
theorem dX11_removePoint_1 : decode cX11_removePoint 1 = .ok (.iconst 0, 1) := by decide +kernel
theorem dX11_removePoint_2 : decode cX11_removePoint 2 = .ok (.ldc 91, 2) := by decide +kernel
theorem dX11_removePoint_4 : decode cX11_removePoint 4 = .ok (.invokestatic 64, 3) := by decide +kernel
theorem dX11_removePoint_7 : decode cX11_removePoint 7 = .ok (.ifCond .ne 6, 3) := by decide +kernel
theorem dX11_removePoint_10 : decode cX11_removePoint 10 = .ok (.ldc 68, 2) := by decide +kernel
theorem dX11_removePoint_12 : decode cX11_removePoint 12 = .ok (.ireturn, 1) := by decide +kernel
theorem dX11_removePoint_13 : decode cX11_removePoint 13 = .ok (.aload_n 0, 1) := by decide +kernel
theorem dX11_removePoint_14 : decode cX11_removePoint 14 = .ok (.iload_n 1, 1) := by decide +kernel
theorem dX11_removePoint_15 : decode cX11_removePoint 15 = .ok (.invokevirtual 92, 3) := by decide +kernel
theorem dX11_removePoint_18 : decode cX11_removePoint 18 = .ok (.istore_n 2, 1) := by decide +kernel
theorem dX11_removePoint_19 : decode cX11_removePoint 19 = .ok (.iload_n 2, 1) := by decide +kernel
theorem dX11_removePoint_20 : decode cX11_removePoint 20 = .ok (.aload_n 0, 1) := by decide +kernel
theorem dX11_removePoint_21 : decode cX11_removePoint 21 = .ok (.getfield 7, 3) := by decide +kernel
theorem dX11_removePoint_24 : decode cX11_removePoint 24 = .ok (.bipush 65, 2) := by decide +kernel
theorem dX11_removePoint_26 : decode cX11_removePoint 26 = .ok (.iaload, 1) := by decide +kernel
theorem dX11_removePoint_27 : decode cX11_removePoint 27 = .ok (.if_icmp .eq 12, 3) := by decide +kernel
theorem dX11_removePoint_30 : decode cX11_removePoint 30 = .ok (.aload_n 0, 1) := by decide +kernel
theorem dX11_removePoint_31 : decode cX11_removePoint 31 = .ok (.iload_n 2, 1) := by decide +kernel
theorem dX11_removePoint_32 : decode cX11_removePoint 32 = .ok (.invokevirtual 87, 3) := by decide +kernel
theorem dX11_removePoint_35 : decode cX11_removePoint 35 = .ok (.iload_n 1, 1) := by decide +kernel
theorem dX11_removePoint_36 : decode cX11_removePoint 36 = .ok (.if_icmp .eq 6, 3) := by decide +kernel
theorem dX11_removePoint_39 : decode cX11_removePoint 39 = .ok (.ldc 98, 2) := by decide +kernel
theorem dX11_removePoint_41 : decode cX11_removePoint 41 = .ok (.ireturn, 1) := by decide +kernel
theorem dX11_removePoint_42 : decode cX11_removePoint 42 = .ok (.aload_n 0, 1) := by decide +kernel
theorem dX11_removePoint_43 : decode cX11_removePoint 43 = .ok (.invokevirtual 70, 3) := by decide +kernel
theorem dX11_removePoint_46 : decode cX11_removePoint 46 = .ok (.aload_n 0, 1) := by decide +kernel
theorem dX11_removePoint_47 : decode cX11_removePoint 47 = .ok (.iload_n 2, 1) := by decide +kernel
theorem dX11_removePoint_48 : decode cX11_removePoint 48 = .ok (.invokevirtual 95, 3) := by decide +kernel
theorem dX11_removePoint_51 : decode cX11_removePoint 51 = .ok (.istore_n 3, 1) := by decide +kernel
theorem dX11_removePoint_52 : decode cX11_removePoint 52 = .ok (.iload_n 2, 1) := by decide +kernel
theorem dX11_removePoint_53 : decode cX11_removePoint 53 = .ok (.istore 4, 2) := by decide +kernel
theorem dX11_removePoint_55 : decode cX11_removePoint 55 = .ok (.iload 4, 2) := by decide +kernel
theorem dX11_removePoint_57 : decode cX11_removePoint 57 = .ok (.iconst 1, 1) := by decide +kernel
theorem dX11_removePoint_58 : decode cX11_removePoint 58 = .ok (.iadd, 1) := by decide +kernel
theorem dX11_removePoint_59 : decode cX11_removePoint 59 = .ok (.aload_n 0, 1) := by decide +kernel
theorem dX11_removePoint_60 : decode cX11_removePoint 60 = .ok (.getfield 7, 3) := by decide +kernel
theorem dX11_removePoint_63 : decode cX11_removePoint 63 = .ok (.bipush 65, 2) := by decide +kernel
theorem dX11_removePoint_65 : decode cX11_removePoint 65 = .ok (.iaload, 1) := by decide +kernel
theorem dX11_removePoint_66 : decode cX11_removePoint 66 = .ok (.if_icmp .ge 51, 3) := by decide +kernel
theorem dX11_removePoint_69 : decode cX11_removePoint 69 = .ok (.aload_n 0, 1) := by decide +kernel
theorem dX11_removePoint_70 : decode cX11_removePoint 70 = .ok (.getfield 7, 3) := by decide +kernel
theorem dX11_removePoint_73 : decode cX11_removePoint 73 = .ok (.bipush 66, 2) := by decide +kernel
theorem dX11_removePoint_75 : decode cX11_removePoint 75 = .ok (.iconst 2, 1) := by decide +kernel
theorem dX11_removePoint_76 : decode cX11_removePoint 76 = .ok (.iload 4, 2) := by decide +kernel
theorem dX11_removePoint_78 : decode cX11_removePoint 78 = .ok (.imul, 1) := by decide +kernel
theorem dX11_removePoint_79 : decode cX11_removePoint 79 = .ok (.iadd, 1) := by decide +kernel
theorem dX11_removePoint_80 : decode cX11_removePoint 80 = .ok (.aload_n 0, 1) := by decide +kernel
theorem dX11_removePoint_81 : decode cX11_removePoint 81 = .ok (.iload 4, 2) := by decide +kernel
theorem dX11_removePoint_83 : decode cX11_removePoint 83 = .ok (.iconst 1, 1) := by decide +kernel
theorem dX11_removePoint_84 : decode cX11_removePoint 84 = .ok (.iadd, 1) := by decide +kernel
theorem dX11_removePoint_85 : decode cX11_removePoint 85 = .ok (.invokevirtual 87, 3) := by decide +kernel
theorem dX11_removePoint_88 : decode cX11_removePoint 88 = .ok (.iastore, 1) := by decide +kernel
theorem dX11_removePoint_89 : decode cX11_removePoint 89 = .ok (.aload_n 0, 1) := by decide +kernel
theorem dX11_removePoint_90 : decode cX11_removePoint 90 = .ok (.getfield 7, 3) := by decide +kernel
theorem dX11_removePoint_93 : decode cX11_removePoint 93 = .ok (.bipush 66, 2) := by decide +kernel
theorem dX11_removePoint_95 : decode cX11_removePoint 95 = .ok (.iconst 2, 1) := by decide +kernel
theorem dX11_removePoint_96 : decode cX11_removePoint 96 = .ok (.iload 4, 2) := by decide +kernel
theorem dX11_removePoint_98 : decode cX11_removePoint 98 = .ok (.imul, 1) := by decide +kernel
theorem dX11_removePoint_99 : decode cX11_removePoint 99 = .ok (.iadd, 1) := by decide +kernel
theorem dX11_removePoint_100 : decode cX11_removePoint 100 = .ok (.iconst 1, 1) := by decide +kernel
theorem dX11_removePoint_101 : decode cX11_removePoint 101 = .ok (.iadd, 1) := by decide +kernel
theorem dX11_removePoint_102 : decode cX11_removePoint 102 = .ok (.aload_n 0, 1) := by decide +kernel
theorem dX11_removePoint_103 : decode cX11_removePoint 103 = .ok (.iload 4, 2) := by decide +kernel
theorem dX11_removePoint_105 : decode cX11_removePoint 105 = .ok (.iconst 1, 1) := by decide +kernel
theorem dX11_removePoint_106 : decode cX11_removePoint 106 = .ok (.iadd, 1) := by decide +kernel
theorem dX11_removePoint_107 : decode cX11_removePoint 107 = .ok (.invokevirtual 95, 3) := by decide +kernel
theorem dX11_removePoint_110 : decode cX11_removePoint 110 = .ok (.iastore, 1) := by decide +kernel
theorem dX11_removePoint_111 : decode cX11_removePoint 111 = .ok (.iinc 4 1, 3) := by decide +kernel
theorem dX11_removePoint_114 : decode cX11_removePoint 114 = .ok (.goto (-59), 3) := by decide +kernel
theorem dX11_removePoint_117 : decode cX11_removePoint 117 = .ok (.aload_n 0, 1) := by decide +kernel
theorem dX11_removePoint_118 : decode cX11_removePoint 118 = .ok (.getfield 7, 3) := by decide +kernel
theorem dX11_removePoint_121 : decode cX11_removePoint 121 = .ok (.bipush 65, 2) := by decide +kernel
theorem dX11_removePoint_123 : decode cX11_removePoint 123 = .ok (.dup2, 1) := by decide +kernel
theorem dX11_removePoint_124 : decode cX11_removePoint 124 = .ok (.iaload, 1) := by decide +kernel
theorem dX11_removePoint_125 : decode cX11_removePoint 125 = .ok (.iconst 1, 1) := by decide +kernel
theorem dX11_removePoint_126 : decode cX11_removePoint 126 = .ok (.isub, 1) := by decide +kernel
theorem dX11_removePoint_127 : decode cX11_removePoint 127 = .ok (.iastore, 1) := by decide +kernel
theorem dX11_removePoint_128 : decode cX11_removePoint 128 = .ok (.iload_n 3, 1) := by decide +kernel
theorem dX11_removePoint_129 : decode cX11_removePoint 129 = .ok (.ireturn, 1) := by decide +kernel
theorem dX11_least_0 : decode cX11_least 0 = .ok (.iload_n 0, 1) := by decide +kernel
theorem dX11_least_1 : decode cX11_least 1 = .ok (.iconst 2, 1) := by decide +kernel
theorem dX11_least_2 : decode cX11_least 2 = .ok (.if_icmp .ge 7, 3) := by decide +kernel
theorem dX11_least_5 : decode cX11_least 5 = .ok (.iconst 0, 1) := by decide +kernel
theorem dX11_least_6 : decode cX11_least 6 = .ok (.goto 4, 3) := by decide +kernel
theorem dX11_least_9 : decode cX11_least 9 = .ok (.iconst 1, 1) := by decide +kernel
theorem dX11_least_10 : decode cX11_least 10 = .ok (.ireturn, 1) := by decide +kernel
theorem dX11_most_0 : decode cX11_most 0 = .ok (.iload_n 0, 1) := by decide +kernel
theorem dX11_most_1 : decode cX11_most 1 = .ok (.tableswitch 39 0 3 #[31, 34, 31, 36], 31) := by decide +kernel
theorem dX11_most_32 : decode cX11_most 32 = .ok (.bipush 100, 2) := by decide +kernel
theorem dX11_most_34 : decode cX11_most 34 = .ok (.ireturn, 1) := by decide +kernel
theorem dX11_most_35 : decode cX11_most 35 = .ok (.iconst 5, 1) := by decide +kernel
theorem dX11_most_36 : decode cX11_most 36 = .ok (.ireturn, 1) := by decide +kernel
theorem dX11_most_37 : decode cX11_most 37 = .ok (.ldc 99, 2) := by decide +kernel
theorem dX11_most_39 : decode cX11_most 39 = .ok (.ireturn, 1) := by decide +kernel
theorem dX11_most_40 : decode cX11_most 40 = .ok (.sipush 1000, 3) := by decide +kernel
theorem dX11_most_43 : decode cX11_most 43 = .ok (.ireturn, 1) := by decide +kernel
set_option maxRecDepth 20000 in
theorem ggX11_set_X11_in : GoodIn wsX11_set wsX11_in := goodIn_r _ [7] (by decide +kernel) (by decide +kernel)
set_option maxRecDepth 20000 in
theorem gX11_set_X11_in : GoodIn wsX11_set (va_wsS RX11 64 yX11_in wsX11_in) := goodIn_app (goodIn_of _ (by decide +kernel)) ggX11_set_X11_in
set_option maxRecDepth 20000 in
theorem ggX11_set_X11_least : GoodIn wsX11_set wsX11_least := goodIn_r _ [10] (by decide +kernel) (by decide +kernel)
set_option maxRecDepth 20000 in
theorem gX11_set_X11_least : GoodIn wsX11_set (va_wsS RX11 100 yX11_least wsX11_least) := goodIn_app (goodIn_of _ (by decide +kernel)) ggX11_set_X11_least
set_option maxRecDepth 20000 in
theorem ggX11_set_X11_most : GoodIn wsX11_set wsX11_most := goodIn_r _ [13, 14] (by decide +kernel) (by decide +kernel)
set_option maxRecDepth 20000 in
theorem gX11_set_X11_most : GoodIn wsX11_set (va_wsS RX11 103 yX11_most wsX11_most) := goodIn_app (goodIn_of _ (by decide +kernel)) ggX11_set_X11_most
set_option maxRecDepth 20000 in
theorem ggX11_set_X11_records : GoodIn wsX11_set wsX11_records := goodIn_r _ [18, 19, 20, 21, 3, 22, 23, 24, 25, 26, 27, 28, 29, 30, 31, 32, 33, 34, 35, 36, 37, 38, 39, 40, 41, 42, 43, 44, 45, 46, 47] (by decide +kernel) (by decide +kernel)
set_option maxRecDepth 20000 in
theorem gX11_set_X11_records : GoodIn wsX11_set (wsV RX11 70 RX11 yX11_records wsX11_records) := goodIn_app (goodIn_of _ (by decide +kernel)) ggX11_set_X11_records
theorem dX11_set_0 : decode cX11_set 0 = .ok (.iload_n 1, 1) := by decide +kernel
theorem dX11_set_1 : decode cX11_set 1 = .ok (.iconst 0, 1) := by decide +kernel
theorem dX11_set_2 : decode cX11_set 2 = .ok (.iconst 4, 1) := by decide +kernel
theorem dX11_set_3 : decode cX11_set 3 = .ok (.invokestatic 64, 3) := by decide +kernel
theorem dX11_set_6 : decode cX11_set 6 = .ok (.ifCond .ne 6, 3) := by decide +kernel
theorem dX11_set_9 : decode cX11_set 9 = .ok (.ldc 82, 2) := by decide +kernel
theorem dX11_set_11 : decode cX11_set 11 = .ok (.ireturn, 1) := by decide +kernel
theorem dX11_set_12 : decode cX11_set 12 = .ok (.iload_n 2, 1) := by decide +kernel
theorem dX11_set_13 : decode cX11_set 13 = .ok (.iload_n 1, 1) := by decide +kernel
theorem dX11_set_14 : decode cX11_set 14 = .ok (.invokestatic 100, 3) := by decide +kernel
theorem dX11_set_17 : decode cX11_set 17 = .ok (.iload_n 1, 1) := by decide +kernel
theorem dX11_set_18 : decode cX11_set 18 = .ok (.invokestatic 103, 3) := by decide +kernel
theorem dX11_set_21 : decode cX11_set 21 = .ok (.invokestatic 64, 3) := by decide +kernel
theorem dX11_set_24 : decode cX11_set 24 = .ok (.ifCond .ne 6, 3) := by decide +kernel
theorem dX11_set_27 : decode cX11_set 27 = .ok (.ldc 68, 2) := by decide +kernel
theorem dX11_set_29 : decode cX11_set 29 = .ok (.ireturn, 1) := by decide +kernel
theorem dX11_set_30 : decode cX11_set 30 = .ok (.aload_n 0, 1) := by decide +kernel
theorem dX11_set_31 : decode cX11_set 31 = .ok (.invokevirtual 70, 3) := by decide +kernel
theorem dX11_set_34 : decode cX11_set 34 = .ok (.aload_n 0, 1) := by decide +kernel
theorem dX11_set_35 : decode cX11_set 35 = .ok (.getfield 7, 3) := by decide +kernel
theorem dX11_set_38 : decode cX11_set 38 = .ok (.bipush 78, 2) := by decide +kernel
theorem dX11_set_40 : decode cX11_set 40 = .ok (.iload_n 1, 1) := by decide +kernel
theorem dX11_set_41 : decode cX11_set 41 = .ok (.iadd, 1) := by decide +kernel
theorem dX11_set_42 : decode cX11_set 42 = .ok (.iaload, 1) := by decide +kernel
theorem dX11_set_43 : decode cX11_set 43 = .ok (.istore_n 3, 1) := by decide +kernel
theorem dX11_set_44 : decode cX11_set 44 = .ok (.aload_n 0, 1) := by decide +kernel
theorem dX11_set_45 : decode cX11_set 45 = .ok (.getfield 7, 3) := by decide +kernel
theorem dX11_set_48 : decode cX11_set 48 = .ok (.bipush 78, 2) := by decide +kernel
theorem dX11_set_50 : decode cX11_set 50 = .ok (.iload_n 1, 1) := by decide +kernel
theorem dX11_set_51 : decode cX11_set 51 = .ok (.iadd, 1) := by decide +kernel
theorem dX11_set_52 : decode cX11_set 52 = .ok (.iload_n 2, 1) := by decide +kernel
theorem dX11_set_53 : decode cX11_set 53 = .ok (.iastore, 1) := by decide +kernel
theorem dX11_set_54 : decode cX11_set 54 = .ok (.iload_n 3, 1) := by decide +kernel
theorem dX11_set_55 : decode cX11_set 55 = .ok (.ireturn, 1) := by decide +kernel
set_option maxRecDepth 20000 in
theorem ggX11_factorFor_X11_speedAt : GoodIn wsX11_factorFor wsX11_speedAt := goodIn_r _ [6, 1, 15, 16, 17, 18, 19, 20, 21, 22, 23, 24, 25, 26, 27, 28, 29, 30, 31, 32, 33, 34, 35, 36, 37, 38, 39] (by decide +kernel) (by decide +kernel)
set_option maxRecDepth 20000 in
theorem gX11_factorFor_X11_speedAt : GoodIn wsX11_factorFor (wsV RX11 87 RX11 yX11_speedAt wsX11_speedAt) := goodIn_app (goodIn_of _ (by decide +kernel)) ggX11_factorFor_X11_speedAt
set_option maxRecDepth 20000 in
theorem ggX11_factorFor_X11_factorAt : GoodIn wsX11_factorFor wsX11_factorAt := goodIn_r _ [10, 1, 15, 16, 17, 18, 19, 20, 21, 22, 23, 24, 25, 26, 27, 28, 29, 30, 31, 32, 33, 34, 35, 36, 37, 38, 39] (by decide +kernel) (by decide +kernel)
set_option maxRecDepth 20000 in
theorem gX11_factorFor_X11_factorAt : GoodIn wsX11_factorFor (wsV RX11 95 RX11 yX11_factorAt wsX11_factorAt) := goodIn_app (goodIn_of _ (by decide +kernel)) ggX11_factorFor_X11_factorAt
set_option maxRecDepth 20000 in
theorem ggX11_factorFor_X11_placeOf : GoodIn wsX11_factorFor wsX11_placeOf := goodIn_r _ [14, 1, 2, 3, 4, 5, 6, 15, 16, 17, 18, 19, 20, 21, 22, 23, 24, 25, 26, 27, 28, 29, 30, 31, 32, 33, 34, 35, 36, 37, 38, 39] (by decide +kernel) (by decide +kernel)
set_option maxRecDepth 20000 in
theorem gX11_factorFor_X11_placeOf : GoodIn wsX11_factorFor (wsV RX11 92 RX11 yX11_placeOf wsX11_placeOf) := goodIn_app (goodIn_of _ (by decide +kernel)) ggX11_factorFor_X11_placeOf
theorem dX11_factorFor_0 : decode cX11_factorFor 0 = .ok (.lload_n 1, 1) := by decide +kernel
theorem dX11_factorFor_1 : decode cX11_factorFor 1 = .ok (.lconst 0, 1) := by decide +kernel
theorem dX11_factorFor_2 : decode cX11_factorFor 2 = .ok (.lcmp, 1) := by decide +kernel
theorem dX11_factorFor_3 : decode cX11_factorFor 3 = .ok (.ifCond .ge 8, 3) := by decide +kernel
theorem dX11_factorFor_6 : decode cX11_factorFor 6 = .ok (.lload_n 1, 1) := by decide +kernel
theorem dX11_factorFor_7 : decode cX11_factorFor 7 = .ok (.lneg, 1) := by decide +kernel
theorem dX11_factorFor_8 : decode cX11_factorFor 8 = .ok (.goto 4, 3) := by decide +kernel
theorem dX11_factorFor_11 : decode cX11_factorFor 11 = .ok (.lload_n 1, 1) := by decide +kernel
theorem dX11_factorFor_12 : decode cX11_factorFor 12 = .ok (.lstore_n 3, 1) := by decide +kernel
theorem dX11_factorFor_13 : decode cX11_factorFor 13 = .ok (.aload_n 0, 1) := by decide +kernel
theorem dX11_factorFor_14 : decode cX11_factorFor 14 = .ok (.getfield 7, 3) := by decide +kernel
theorem dX11_factorFor_17 : decode cX11_factorFor 17 = .ok (.bipush 65, 2) := by decide +kernel
theorem dX11_factorFor_19 : decode cX11_factorFor 19 = .ok (.iaload, 1) := by decide +kernel
theorem dX11_factorFor_20 : decode cX11_factorFor 20 = .ok (.istore 5, 2) := by decide +kernel
theorem dX11_factorFor_22 : decode cX11_factorFor 22 = .ok (.iload 5, 2) := by decide +kernel
theorem dX11_factorFor_24 : decode cX11_factorFor 24 = .ok (.ifCond .ne 7, 3) := by decide +kernel
theorem dX11_factorFor_27 : decode cX11_factorFor 27 = .ok (.sipush 1000, 3) := by decide +kernel
theorem dX11_factorFor_30 : decode cX11_factorFor 30 = .ok (.ireturn, 1) := by decide +kernel
theorem dX11_factorFor_31 : decode cX11_factorFor 31 = .ok (.lload_n 3, 1) := by decide +kernel
theorem dX11_factorFor_32 : decode cX11_factorFor 32 = .ok (.aload_n 0, 1) := by decide +kernel
theorem dX11_factorFor_33 : decode cX11_factorFor 33 = .ok (.iconst 0, 1) := by decide +kernel
theorem dX11_factorFor_34 : decode cX11_factorFor 34 = .ok (.invokevirtual 87, 3) := by decide +kernel
theorem dX11_factorFor_37 : decode cX11_factorFor 37 = .ok (.i2l, 1) := by decide +kernel
theorem dX11_factorFor_38 : decode cX11_factorFor 38 = .ok (.lcmp, 1) := by decide +kernel
theorem dX11_factorFor_39 : decode cX11_factorFor 39 = .ok (.ifCond .gt 9, 3) := by decide +kernel
theorem dX11_factorFor_42 : decode cX11_factorFor 42 = .ok (.aload_n 0, 1) := by decide +kernel
theorem dX11_factorFor_43 : decode cX11_factorFor 43 = .ok (.iconst 0, 1) := by decide +kernel
theorem dX11_factorFor_44 : decode cX11_factorFor 44 = .ok (.invokevirtual 95, 3) := by decide +kernel
theorem dX11_factorFor_47 : decode cX11_factorFor 47 = .ok (.ireturn, 1) := by decide +kernel
theorem dX11_factorFor_48 : decode cX11_factorFor 48 = .ok (.lload_n 3, 1) := by decide +kernel
theorem dX11_factorFor_49 : decode cX11_factorFor 49 = .ok (.aload_n 0, 1) := by decide +kernel
theorem dX11_factorFor_50 : decode cX11_factorFor 50 = .ok (.iload 5, 2) := by decide +kernel
theorem dX11_factorFor_52 : decode cX11_factorFor 52 = .ok (.iconst 1, 1) := by decide +kernel
theorem dX11_factorFor_53 : decode cX11_factorFor 53 = .ok (.isub, 1) := by decide +kernel
theorem dX11_factorFor_54 : decode cX11_factorFor 54 = .ok (.invokevirtual 87, 3) := by decide +kernel
theorem dX11_factorFor_57 : decode cX11_factorFor 57 = .ok (.i2l, 1) := by decide +kernel
theorem dX11_factorFor_58 : decode cX11_factorFor 58 = .ok (.lcmp, 1) := by decide +kernel
theorem dX11_factorFor_59 : decode cX11_factorFor 59 = .ok (.ifCond .lt 12, 3) := by decide +kernel
theorem dX11_factorFor_62 : decode cX11_factorFor 62 = .ok (.aload_n 0, 1) := by decide +kernel
theorem dX11_factorFor_63 : decode cX11_factorFor 63 = .ok (.iload 5, 2) := by decide +kernel
theorem dX11_factorFor_65 : decode cX11_factorFor 65 = .ok (.iconst 1, 1) := by decide +kernel
theorem dX11_factorFor_66 : decode cX11_factorFor 66 = .ok (.isub, 1) := by decide +kernel
theorem dX11_factorFor_67 : decode cX11_factorFor 67 = .ok (.invokevirtual 95, 3) := by decide +kernel
theorem dX11_factorFor_70 : decode cX11_factorFor 70 = .ok (.ireturn, 1) := by decide +kernel
theorem dX11_factorFor_71 : decode cX11_factorFor 71 = .ok (.aload_n 0, 1) := by decide +kernel
theorem dX11_factorFor_72 : decode cX11_factorFor 72 = .ok (.lload_n 3, 1) := by decide +kernel
theorem dX11_factorFor_73 : decode cX11_factorFor 73 = .ok (.l2i, 1) := by decide +kernel
theorem dX11_factorFor_74 : decode cX11_factorFor 74 = .ok (.invokevirtual 92, 3) := by decide +kernel
theorem dX11_factorFor_77 : decode cX11_factorFor 77 = .ok (.istore 6, 2) := by decide +kernel
theorem dX11_factorFor_79 : decode cX11_factorFor 79 = .ok (.aload_n 0, 1) := by decide +kernel
theorem dX11_factorFor_80 : decode cX11_factorFor 80 = .ok (.iload 6, 2) := by decide +kernel
theorem dX11_factorFor_82 : decode cX11_factorFor 82 = .ok (.invokevirtual 87, 3) := by decide +kernel
theorem dX11_factorFor_85 : decode cX11_factorFor 85 = .ok (.i2l, 1) := by decide +kernel
theorem dX11_factorFor_86 : decode cX11_factorFor 86 = .ok (.lload_n 3, 1) := by decide +kernel
theorem dX11_factorFor_87 : decode cX11_factorFor 87 = .ok (.lcmp, 1) := by decide +kernel
theorem dX11_factorFor_88 : decode cX11_factorFor 88 = .ok (.ifCond .ne 10, 3) := by decide +kernel
theorem dX11_factorFor_91 : decode cX11_factorFor 91 = .ok (.aload_n 0, 1) := by decide +kernel
theorem dX11_factorFor_92 : decode cX11_factorFor 92 = .ok (.iload 6, 2) := by decide +kernel
theorem dX11_factorFor_94 : decode cX11_factorFor 94 = .ok (.invokevirtual 95, 3) := by decide +kernel
theorem dX11_factorFor_97 : decode cX11_factorFor 97 = .ok (.ireturn, 1) := by decide +kernel
theorem dX11_factorFor_98 : decode cX11_factorFor 98 = .ok (.aload_n 0, 1) := by decide +kernel
theorem dX11_factorFor_99 : decode cX11_factorFor 99 = .ok (.iload 6, 2) := by decide +kernel
theorem dX11_factorFor_101 : decode cX11_factorFor 101 = .ok (.iconst 1, 1) := by decide +kernel
theorem dX11_factorFor_102 : decode cX11_factorFor 102 = .ok (.isub, 1) := by decide +kernel
theorem dX11_factorFor_103 : decode cX11_factorFor 103 = .ok (.invokevirtual 87, 3) := by decide +kernel
theorem dX11_factorFor_106 : decode cX11_factorFor 106 = .ok (.i2l, 1) := by decide +kernel
theorem dX11_factorFor_107 : decode cX11_factorFor 107 = .ok (.lstore 7, 2) := by decide +kernel
theorem dX11_factorFor_109 : decode cX11_factorFor 109 = .ok (.aload_n 0, 1) := by decide +kernel
theorem dX11_factorFor_110 : decode cX11_factorFor 110 = .ok (.iload 6, 2) := by decide +kernel
theorem dX11_factorFor_112 : decode cX11_factorFor 112 = .ok (.invokevirtual 87, 3) := by decide +kernel
theorem dX11_factorFor_115 : decode cX11_factorFor 115 = .ok (.i2l, 1) := by decide +kernel
theorem dX11_factorFor_116 : decode cX11_factorFor 116 = .ok (.lstore 9, 2) := by decide +kernel
theorem dX11_factorFor_118 : decode cX11_factorFor 118 = .ok (.aload_n 0, 1) := by decide +kernel
theorem dX11_factorFor_119 : decode cX11_factorFor 119 = .ok (.iload 6, 2) := by decide +kernel
theorem dX11_factorFor_121 : decode cX11_factorFor 121 = .ok (.iconst 1, 1) := by decide +kernel
theorem dX11_factorFor_122 : decode cX11_factorFor 122 = .ok (.isub, 1) := by decide +kernel
theorem dX11_factorFor_123 : decode cX11_factorFor 123 = .ok (.invokevirtual 95, 3) := by decide +kernel
theorem dX11_factorFor_126 : decode cX11_factorFor 126 = .ok (.i2l, 1) := by decide +kernel
theorem dX11_factorFor_127 : decode cX11_factorFor 127 = .ok (.lload 9, 2) := by decide +kernel
theorem dX11_factorFor_129 : decode cX11_factorFor 129 = .ok (.lload_n 3, 1) := by decide +kernel
theorem dX11_factorFor_130 : decode cX11_factorFor 130 = .ok (.lsub, 1) := by decide +kernel
theorem dX11_factorFor_131 : decode cX11_factorFor 131 = .ok (.lmul, 1) := by decide +kernel
theorem dX11_factorFor_132 : decode cX11_factorFor 132 = .ok (.aload_n 0, 1) := by decide +kernel
theorem dX11_factorFor_133 : decode cX11_factorFor 133 = .ok (.iload 6, 2) := by decide +kernel
theorem dX11_factorFor_135 : decode cX11_factorFor 135 = .ok (.invokevirtual 95, 3) := by decide +kernel
theorem dX11_factorFor_138 : decode cX11_factorFor 138 = .ok (.i2l, 1) := by decide +kernel
theorem dX11_factorFor_139 : decode cX11_factorFor 139 = .ok (.lload_n 3, 1) := by decide +kernel
theorem dX11_factorFor_140 : decode cX11_factorFor 140 = .ok (.lload 7, 2) := by decide +kernel
theorem dX11_factorFor_142 : decode cX11_factorFor 142 = .ok (.lsub, 1) := by decide +kernel
theorem dX11_factorFor_143 : decode cX11_factorFor 143 = .ok (.lmul, 1) := by decide +kernel
theorem dX11_factorFor_144 : decode cX11_factorFor 144 = .ok (.ladd, 1) := by decide +kernel
theorem dX11_factorFor_145 : decode cX11_factorFor 145 = .ok (.lload 9, 2) := by decide +kernel
theorem dX11_factorFor_147 : decode cX11_factorFor 147 = .ok (.lload 7, 2) := by decide +kernel
theorem dX11_factorFor_149 : decode cX11_factorFor 149 = .ok (.lsub, 1) := by decide +kernel
theorem dX11_factorFor_150 : decode cX11_factorFor 150 = .ok (.ldiv, 1) := by decide +kernel
theorem dX11_factorFor_151 : decode cX11_factorFor 151 = .ok (.l2i, 1) := by decide +kernel
theorem dX11_factorFor_152 : decode cX11_factorFor 152 = .ok (.ireturn, 1) := by decide +kernel
set_option maxRecDepth 20000 in
theorem ggX11_velocityOf_X11_of : GoodIn wsX11_velocityOf wsX11_of := goodIn_r _ [8, 9, 13, 14, 15, 16, 17, 18, 19, 20, 21, 22, 23, 24, 25, 26, 27, 28, 29, 30, 31, 32, 33, 34, 35, 36, 37] (by decide +kernel) (by decide +kernel)
set_option maxRecDepth 20000 in
theorem gX11_velocityOf_X11_of : GoodIn wsX11_velocityOf (wsV RX11 83 RX11 yX11_of wsX11_of) := goodIn_app (goodIn_of _ (by decide +kernel)) ggX11_velocityOf_X11_of
set_option maxRecDepth 20000 in
theorem ggX11_velocityOf_X11_held : GoodIn wsX11_velocityOf wsX11_held := goodIn_r _ [12] (by decide +kernel) (by decide +kernel)
set_option maxRecDepth 20000 in
theorem gX11_velocityOf_X11_held : GoodIn wsX11_velocityOf (va_wsS RX11 112 yX11_held wsX11_held) := goodIn_app (goodIn_of _ (by decide +kernel)) ggX11_velocityOf_X11_held
theorem dX11_velocityOf_0 : decode cX11_velocityOf 0 = .ok (.iload_n 2, 1) := by decide +kernel
theorem dX11_velocityOf_1 : decode cX11_velocityOf 1 = .ok (.aload_n 0, 1) := by decide +kernel
theorem dX11_velocityOf_2 : decode cX11_velocityOf 2 = .ok (.iload_n 1, 1) := by decide +kernel
theorem dX11_velocityOf_3 : decode cX11_velocityOf 3 = .ok (.iconst 4, 1) := by decide +kernel
theorem dX11_velocityOf_4 : decode cX11_velocityOf 4 = .ok (.invokevirtual 83, 3) := by decide +kernel
theorem dX11_velocityOf_7 : decode cX11_velocityOf 7 = .ok (.isub, 1) := by decide +kernel
theorem dX11_velocityOf_8 : decode cX11_velocityOf 8 = .ok (.i2l, 1) := by decide +kernel
theorem dX11_velocityOf_9 : decode cX11_velocityOf 9 = .ok (.lstore 4, 2) := by decide +kernel
theorem dX11_velocityOf_11 : decode cX11_velocityOf 11 = .ok (.iload_n 3, 1) := by decide +kernel
theorem dX11_velocityOf_12 : decode cX11_velocityOf 12 = .ok (.aload_n 0, 1) := by decide +kernel
theorem dX11_velocityOf_13 : decode cX11_velocityOf 13 = .ok (.iload_n 1, 1) := by decide +kernel
theorem dX11_velocityOf_14 : decode cX11_velocityOf 14 = .ok (.iconst 4, 1) := by decide +kernel
theorem dX11_velocityOf_15 : decode cX11_velocityOf 15 = .ok (.invokevirtual 83, 3) := by decide +kernel
theorem dX11_velocityOf_18 : decode cX11_velocityOf 18 = .ok (.isub, 1) := by decide +kernel
theorem dX11_velocityOf_19 : decode cX11_velocityOf 19 = .ok (.i2l, 1) := by decide +kernel
theorem dX11_velocityOf_20 : decode cX11_velocityOf 20 = .ok (.lstore 6, 2) := by decide +kernel
theorem dX11_velocityOf_22 : decode cX11_velocityOf 22 = .ok (.aload_n 0, 1) := by decide +kernel
theorem dX11_velocityOf_23 : decode cX11_velocityOf 23 = .ok (.iload_n 1, 1) := by decide +kernel
theorem dX11_velocityOf_24 : decode cX11_velocityOf 24 = .ok (.iconst 0, 1) := by decide +kernel
theorem dX11_velocityOf_25 : decode cX11_velocityOf 25 = .ok (.invokevirtual 83, 3) := by decide +kernel
theorem dX11_velocityOf_28 : decode cX11_velocityOf 28 = .ok (.i2l, 1) := by decide +kernel
theorem dX11_velocityOf_29 : decode cX11_velocityOf 29 = .ok (.aload_n 0, 1) := by decide +kernel
theorem dX11_velocityOf_30 : decode cX11_velocityOf 30 = .ok (.iload_n 1, 1) := by decide +kernel
theorem dX11_velocityOf_31 : decode cX11_velocityOf 31 = .ok (.iconst 0, 1) := by decide +kernel
theorem dX11_velocityOf_32 : decode cX11_velocityOf 32 = .ok (.invokevirtual 83, 3) := by decide +kernel
theorem dX11_velocityOf_35 : decode cX11_velocityOf 35 = .ok (.i2l, 1) := by decide +kernel
theorem dX11_velocityOf_36 : decode cX11_velocityOf 36 = .ok (.lmul, 1) := by decide +kernel
theorem dX11_velocityOf_37 : decode cX11_velocityOf 37 = .ok (.ldc2_w 106, 3) := by decide +kernel
theorem dX11_velocityOf_40 : decode cX11_velocityOf 40 = .ok (.lmul, 1) := by decide +kernel
theorem dX11_velocityOf_41 : decode cX11_velocityOf 41 = .ok (.aload_n 0, 1) := by decide +kernel
theorem dX11_velocityOf_42 : decode cX11_velocityOf 42 = .ok (.iload_n 1, 1) := by decide +kernel
theorem dX11_velocityOf_43 : decode cX11_velocityOf 43 = .ok (.iconst 1, 1) := by decide +kernel
theorem dX11_velocityOf_44 : decode cX11_velocityOf 44 = .ok (.invokevirtual 83, 3) := by decide +kernel
theorem dX11_velocityOf_47 : decode cX11_velocityOf 47 = .ok (.i2l, 1) := by decide +kernel
theorem dX11_velocityOf_48 : decode cX11_velocityOf 48 = .ok (.ldiv, 1) := by decide +kernel
theorem dX11_velocityOf_49 : decode cX11_velocityOf 49 = .ok (.lstore 8, 2) := by decide +kernel
theorem dX11_velocityOf_51 : decode cX11_velocityOf 51 = .ok (.lload 8, 2) := by decide +kernel
theorem dX11_velocityOf_53 : decode cX11_velocityOf 53 = .ok (.lload 6, 2) := by decide +kernel
theorem dX11_velocityOf_55 : decode cX11_velocityOf 55 = .ok (.lload 4, 2) := by decide +kernel
theorem dX11_velocityOf_57 : decode cX11_velocityOf 57 = .ok (.lsub, 1) := by decide +kernel
theorem dX11_velocityOf_58 : decode cX11_velocityOf 58 = .ok (.lmul, 1) := by decide +kernel
theorem dX11_velocityOf_59 : decode cX11_velocityOf 59 = .ok (.lload 4, 2) := by decide +kernel
theorem dX11_velocityOf_61 : decode cX11_velocityOf 61 = .ok (.lload 6, 2) := by decide +kernel
theorem dX11_velocityOf_63 : decode cX11_velocityOf 63 = .ok (.lmul, 1) := by decide +kernel
theorem dX11_velocityOf_64 : decode cX11_velocityOf 64 = .ok (.ldc2_w 108, 3) := by decide +kernel
theorem dX11_velocityOf_67 : decode cX11_velocityOf 67 = .ok (.ldiv, 1) := by decide +kernel
theorem dX11_velocityOf_68 : decode cX11_velocityOf 68 = .ok (.ldiv, 1) := by decide +kernel
theorem dX11_velocityOf_69 : decode cX11_velocityOf 69 = .ok (.ldc2_w 110, 3) := by decide +kernel
theorem dX11_velocityOf_72 : decode cX11_velocityOf 72 = .ok (.invokestatic 112, 3) := by decide +kernel
theorem dX11_velocityOf_75 : decode cX11_velocityOf 75 = .ok (.l2i, 1) := by decide +kernel
theorem dX11_velocityOf_76 : decode cX11_velocityOf 76 = .ok (.ireturn, 1) := by decide +kernel
set_option maxRecDepth 20000 in
theorem ggX11_isAbove_X11_of : GoodIn wsX11_isAbove wsX11_of := goodIn_r _ [5, 6, 7, 8, 9, 10, 11, 12, 13, 14, 15, 16, 17, 18, 19, 20, 21, 22, 23, 24, 25, 26, 27, 28, 29, 30, 31] (by decide +kernel) (by decide +kernel)
set_option maxRecDepth 20000 in
theorem gX11_isAbove_X11_of : GoodIn wsX11_isAbove (wsV RX11 83 RX11 yX11_of wsX11_of) := goodIn_app (goodIn_of _ (by decide +kernel)) ggX11_isAbove_X11_of
theorem dX11_isAbove_0 : decode cX11_isAbove 0 = .ok (.iload_n 2, 1) := by decide +kernel
theorem dX11_isAbove_1 : decode cX11_isAbove 1 = .ok (.aload_n 0, 1) := by decide +kernel
theorem dX11_isAbove_2 : decode cX11_isAbove 2 = .ok (.iload_n 1, 1) := by decide +kernel
theorem dX11_isAbove_3 : decode cX11_isAbove 3 = .ok (.iconst 4, 1) := by decide +kernel
theorem dX11_isAbove_4 : decode cX11_isAbove 4 = .ok (.invokevirtual 83, 3) := by decide +kernel
theorem dX11_isAbove_7 : decode cX11_isAbove 7 = .ok (.sipush 1000, 3) := by decide +kernel
theorem dX11_isAbove_10 : decode cX11_isAbove 10 = .ok (.iadd, 1) := by decide +kernel
theorem dX11_isAbove_11 : decode cX11_isAbove 11 = .ok (.if_icmp .lt 7, 3) := by decide +kernel
theorem dX11_isAbove_14 : decode cX11_isAbove 14 = .ok (.iconst 1, 1) := by decide +kernel
theorem dX11_isAbove_15 : decode cX11_isAbove 15 = .ok (.goto 4, 3) := by decide +kernel
theorem dX11_isAbove_18 : decode cX11_isAbove 18 = .ok (.iconst 0, 1) := by decide +kernel
theorem dX11_isAbove_19 : decode cX11_isAbove 19 = .ok (.ireturn, 1) := by decide +kernel
set_option maxRecDepth 20000 in
theorem ggX11_isTime_X11_in : GoodIn wsX11_isTime wsX11_in := goodIn_r _ [5] (by decide +kernel) (by decide +kernel)
set_option maxRecDepth 20000 in
theorem gX11_isTime_X11_in : GoodIn wsX11_isTime (va_wsS RX11 64 yX11_in wsX11_in) := goodIn_app (goodIn_of _ (by decide +kernel)) ggX11_isTime_X11_in
theorem dX11_isTime_0 : decode cX11_isTime 0 = .ok (.iload_n 0, 1) := by decide +kernel
theorem dX11_isTime_1 : decode cX11_isTime 1 = .ok (.sipush 1000, 3) := by decide +kernel
theorem dX11_isTime_4 : decode cX11_isTime 4 = .ok (.ldc 116, 2) := by decide +kernel
theorem dX11_isTime_6 : decode cX11_isTime 6 = .ok (.invokestatic 64, 3) := by decide +kernel
theorem dX11_isTime_9 : decode cX11_isTime 9 = .ok (.ireturn, 1) := by decide +kernel
set_option maxRecDepth 20000 in
theorem ggX11_shots_X11_of : GoodIn wsX11_shots wsX11_of := goodIn_r _ [7, 1, 8, 9, 10, 11, 12, 13, 14, 15, 16, 17, 18, 19, 20, 21, 22, 23, 24, 25, 26, 27, 28, 29, 30, 31, 32] (by decide +kernel) (by decide +kernel)
set_option maxRecDepth 20000 in
theorem gX11_shots_X11_of : GoodIn wsX11_shots (wsV RX11 83 RX11 yX11_of wsX11_of) := goodIn_app (goodIn_of _ (by decide +kernel)) ggX11_shots_X11_of
theorem dX11_shots_0 : decode cX11_shots 0 = .ok (.iconst 0, 1) := by decide +kernel
theorem dX11_shots_1 : decode cX11_shots 1 = .ok (.istore_n 1, 1) := by decide +kernel
theorem dX11_shots_2 : decode cX11_shots 2 = .ok (.iconst 0, 1) := by decide +kernel
theorem dX11_shots_3 : decode cX11_shots 3 = .ok (.istore_n 2, 1) := by decide +kernel
theorem dX11_shots_4 : decode cX11_shots 4 = .ok (.iload_n 2, 1) := by decide +kernel
theorem dX11_shots_5 : decode cX11_shots 5 = .ok (.aload_n 0, 1) := by decide +kernel
theorem dX11_shots_6 : decode cX11_shots 6 = .ok (.getfield 7, 3) := by decide +kernel
theorem dX11_shots_9 : decode cX11_shots 9 = .ok (.bipush 64, 2) := by decide +kernel
theorem dX11_shots_11 : decode cX11_shots 11 = .ok (.iaload, 1) := by decide +kernel
theorem dX11_shots_12 : decode cX11_shots 12 = .ok (.if_icmp .ge 29, 3) := by decide +kernel
theorem dX11_shots_15 : decode cX11_shots 15 = .ok (.iload_n 1, 1) := by decide +kernel
theorem dX11_shots_16 : decode cX11_shots 16 = .ok (.aload_n 0, 1) := by decide +kernel
theorem dX11_shots_17 : decode cX11_shots 17 = .ok (.iload_n 2, 1) := by decide +kernel
theorem dX11_shots_18 : decode cX11_shots 18 = .ok (.bipush 13, 2) := by decide +kernel
theorem dX11_shots_20 : decode cX11_shots 20 = .ok (.invokevirtual 83, 3) := by decide +kernel
theorem dX11_shots_23 : decode cX11_shots 23 = .ok (.ldc 77, 2) := by decide +kernel
theorem dX11_shots_25 : decode cX11_shots 25 = .ok (.if_icmp .ne 7, 3) := by decide +kernel
theorem dX11_shots_28 : decode cX11_shots 28 = .ok (.iconst 0, 1) := by decide +kernel
theorem dX11_shots_29 : decode cX11_shots 29 = .ok (.goto 4, 3) := by decide +kernel
theorem dX11_shots_32 : decode cX11_shots 32 = .ok (.iconst 1, 1) := by decide +kernel
theorem dX11_shots_33 : decode cX11_shots 33 = .ok (.iadd, 1) := by decide +kernel
theorem dX11_shots_34 : decode cX11_shots 34 = .ok (.istore_n 1, 1) := by decide +kernel
theorem dX11_shots_35 : decode cX11_shots 35 = .ok (.iinc 2 1, 3) := by decide +kernel
theorem dX11_shots_38 : decode cX11_shots 38 = .ok (.goto (-34), 3) := by decide +kernel
theorem dX11_shots_41 : decode cX11_shots 41 = .ok (.iload_n 1, 1) := by decide +kernel
theorem dX11_shots_42 : decode cX11_shots 42 = .ok (.ireturn, 1) := by decide +kernel
set_option maxRecDepth 20000 in
theorem ggX11_whyShot_X11_isPath : GoodIn wsX11_whyShot wsX11_isPath := goodIn_r _ [7, 8, 9, 10, 6, 11, 24, 25, 26, 27, 28, 29, 30, 31, 32, 33, 34, 35, 36, 37, 38, 39, 40, 41, 42, 43, 44, 45, 46, 47, 48] (by decide +kernel) (by decide +kernel)
set_option maxRecDepth 20000 in
theorem gX11_whyShot_X11_isPath : GoodIn wsX11_whyShot (wsV RX11 78 RX11 yX11_isPath wsX11_isPath) := goodIn_app (goodIn_of _ (by decide +kernel)) ggX11_whyShot_X11_isPath
set_option maxRecDepth 20000 in
theorem ggX11_whyShot_X11_isTime : GoodIn wsX11_whyShot wsX11_isTime := goodIn_r _ [14, 15, 9, 10, 6, 11] (by decide +kernel) (by decide +kernel)
set_option maxRecDepth 20000 in
theorem gX11_whyShot_X11_isTime : GoodIn wsX11_whyShot (va_wsS RX11 117 yX11_isTime wsX11_isTime) := goodIn_app (goodIn_of _ (by decide +kernel)) ggX11_whyShot_X11_isTime
set_option maxRecDepth 20000 in
theorem ggX11_whyShot_X11_in : GoodIn wsX11_whyShot wsX11_in := goodIn_r _ [11] (by decide +kernel) (by decide +kernel)
set_option maxRecDepth 20000 in
theorem gX11_whyShot_X11_in : GoodIn wsX11_whyShot (va_wsS RX11 64 yX11_in wsX11_in) := goodIn_app (goodIn_of _ (by decide +kernel)) ggX11_whyShot_X11_in
set_option maxRecDepth 20000 in
theorem ggX11_whyShot_X11_isAbove : GoodIn wsX11_whyShot wsX11_isAbove := goodIn_r _ [19, 20, 21, 22, 6, 23, 8, 24, 25, 26, 27, 28, 29, 30, 31, 32, 33, 34, 35, 36, 37, 38, 39, 40, 41, 42, 43, 44, 45, 46, 47, 48] (by decide +kernel) (by decide +kernel)
set_option maxRecDepth 20000 in
theorem gX11_whyShot_X11_isAbove : GoodIn wsX11_whyShot (wsV RX11 120 RX11 yX11_isAbove wsX11_isAbove) := goodIn_app (goodIn_of _ (by decide +kernel)) ggX11_whyShot_X11_isAbove
theorem dX11_whyShot_0 : decode cX11_whyShot 0 = .ok (.aload_n 0, 1) := by decide +kernel
theorem dX11_whyShot_1 : decode cX11_whyShot 1 = .ok (.iload_n 1, 1) := by decide +kernel
theorem dX11_whyShot_2 : decode cX11_whyShot 2 = .ok (.invokevirtual 78, 3) := by decide +kernel
theorem dX11_whyShot_5 : decode cX11_whyShot 5 = .ok (.ifCond .ne 6, 3) := by decide +kernel
theorem dX11_whyShot_8 : decode cX11_whyShot 8 = .ok (.ldc 82, 2) := by decide +kernel
theorem dX11_whyShot_10 : decode cX11_whyShot 10 = .ok (.ireturn, 1) := by decide +kernel
theorem dX11_whyShot_11 : decode cX11_whyShot 11 = .ok (.iload_n 2, 1) := by decide +kernel
theorem dX11_whyShot_12 : decode cX11_whyShot 12 = .ok (.invokestatic 117, 3) := by decide +kernel
theorem dX11_whyShot_15 : decode cX11_whyShot 15 = .ok (.ifCond .eq 43, 3) := by decide +kernel
theorem dX11_whyShot_18 : decode cX11_whyShot 18 = .ok (.iload_n 3, 1) := by decide +kernel
theorem dX11_whyShot_19 : decode cX11_whyShot 19 = .ok (.invokestatic 117, 3) := by decide +kernel
theorem dX11_whyShot_22 : decode cX11_whyShot 22 = .ok (.ifCond .eq 36, 3) := by decide +kernel
theorem dX11_whyShot_25 : decode cX11_whyShot 25 = .ok (.iload 4, 2) := by decide +kernel
theorem dX11_whyShot_27 : decode cX11_whyShot 27 = .ok (.iconst 0, 1) := by decide +kernel
theorem dX11_whyShot_28 : decode cX11_whyShot 28 = .ok (.bipush 100, 2) := by decide +kernel
theorem dX11_whyShot_30 : decode cX11_whyShot 30 = .ok (.invokestatic 64, 3) := by decide +kernel
theorem dX11_whyShot_33 : decode cX11_whyShot 33 = .ok (.ifCond .eq 25, 3) := by decide +kernel
theorem dX11_whyShot_36 : decode cX11_whyShot 36 = .ok (.aload_n 0, 1) := by decide +kernel
theorem dX11_whyShot_37 : decode cX11_whyShot 37 = .ok (.iload_n 1, 1) := by decide +kernel
theorem dX11_whyShot_38 : decode cX11_whyShot 38 = .ok (.iload_n 2, 1) := by decide +kernel
theorem dX11_whyShot_39 : decode cX11_whyShot 39 = .ok (.invokevirtual 120, 3) := by decide +kernel
theorem dX11_whyShot_42 : decode cX11_whyShot 42 = .ok (.ifCond .eq 16, 3) := by decide +kernel
theorem dX11_whyShot_45 : decode cX11_whyShot 45 = .ok (.aload_n 0, 1) := by decide +kernel
theorem dX11_whyShot_46 : decode cX11_whyShot 46 = .ok (.iload_n 1, 1) := by decide +kernel
theorem dX11_whyShot_47 : decode cX11_whyShot 47 = .ok (.iload_n 3, 1) := by decide +kernel
theorem dX11_whyShot_48 : decode cX11_whyShot 48 = .ok (.invokevirtual 120, 3) := by decide +kernel
theorem dX11_whyShot_51 : decode cX11_whyShot 51 = .ok (.ifCond .eq 7, 3) := by decide +kernel
theorem dX11_whyShot_54 : decode cX11_whyShot 54 = .ok (.iconst 1, 1) := by decide +kernel
theorem dX11_whyShot_55 : decode cX11_whyShot 55 = .ok (.goto 4, 3) := by decide +kernel
theorem dX11_whyShot_58 : decode cX11_whyShot 58 = .ok (.iconst 0, 1) := by decide +kernel
theorem dX11_whyShot_59 : decode cX11_whyShot 59 = .ok (.istore 5, 2) := by decide +kernel
theorem dX11_whyShot_61 : decode cX11_whyShot 61 = .ok (.iload 5, 2) := by decide +kernel
theorem dX11_whyShot_63 : decode cX11_whyShot 63 = .ok (.ifCond .eq 7, 3) := by decide +kernel
theorem dX11_whyShot_66 : decode cX11_whyShot 66 = .ok (.iconst 0, 1) := by decide +kernel
theorem dX11_whyShot_67 : decode cX11_whyShot 67 = .ok (.goto 5, 3) := by decide +kernel
theorem dX11_whyShot_70 : decode cX11_whyShot 70 = .ok (.ldc 68, 2) := by decide +kernel
theorem dX11_whyShot_72 : decode cX11_whyShot 72 = .ok (.ireturn, 1) := by decide +kernel
set_option maxRecDepth 20000 in
theorem ggX11_shoots_X11_lay : GoodIn wsX11_shoots wsX11_lay := goodIn_r _ [6, 1, 16, 17, 18, 19, 20, 21, 22, 23, 24, 25, 26, 27, 28, 29, 30, 31, 32, 33, 34, 35, 36, 37, 38, 39, 40] (by decide +kernel) (by decide +kernel)
set_option maxRecDepth 20000 in
theorem gX11_shoots_X11_lay : GoodIn wsX11_shoots (wsV RX11 73 RX11 yX11_lay wsX11_lay) := goodIn_app (goodIn_of _ (by decide +kernel)) ggX11_shoots_X11_lay
set_option maxRecDepth 20000 in
theorem ggX11_shoots_X11_shots : GoodIn wsX11_shoots wsX11_shots := goodIn_r _ [10, 1, 11, 12, 13, 14, 5, 15, 16, 17, 18, 19, 20, 21, 22, 23, 24, 25, 26, 27, 28, 29, 30, 31, 32, 33, 34, 35, 36, 37, 38, 39, 40] (by decide +kernel) (by decide +kernel)
set_option maxRecDepth 20000 in
theorem gX11_shoots_X11_shots : GoodIn wsX11_shoots (wsV RX11 124 RX11 yX11_shots wsX11_shots) := goodIn_app (goodIn_of _ (by decide +kernel)) ggX11_shoots_X11_shots
theorem dX11_shoots_0 : decode cX11_shoots 0 = .ok (.aload_n 0, 1) := by decide +kernel
theorem dX11_shoots_1 : decode cX11_shoots 1 = .ok (.iload_n 1, 1) := by decide +kernel
theorem dX11_shoots_2 : decode cX11_shoots 2 = .ok (.bipush 13, 2) := by decide +kernel
theorem dX11_shoots_4 : decode cX11_shoots 4 = .ok (.aload_n 0, 1) := by decide +kernel
theorem dX11_shoots_5 : decode cX11_shoots 5 = .ok (.getfield 7, 3) := by decide +kernel
theorem dX11_shoots_8 : decode cX11_shoots 8 = .ok (.bipush 83, 2) := by decide +kernel
theorem dX11_shoots_10 : decode cX11_shoots 10 = .ok (.iaload, 1) := by decide +kernel
theorem dX11_shoots_11 : decode cX11_shoots 11 = .ok (.iadd, 1) := by decide +kernel
theorem dX11_shoots_12 : decode cX11_shoots 12 = .ok (.iload_n 2, 1) := by decide +kernel
theorem dX11_shoots_13 : decode cX11_shoots 13 = .ok (.invokevirtual 73, 3) := by decide +kernel
theorem dX11_shoots_16 : decode cX11_shoots 16 = .ok (.aload_n 0, 1) := by decide +kernel
theorem dX11_shoots_17 : decode cX11_shoots 17 = .ok (.iload_n 1, 1) := by decide +kernel
theorem dX11_shoots_18 : decode cX11_shoots 18 = .ok (.bipush 14, 2) := by decide +kernel
theorem dX11_shoots_20 : decode cX11_shoots 20 = .ok (.aload_n 0, 1) := by decide +kernel
theorem dX11_shoots_21 : decode cX11_shoots 21 = .ok (.getfield 7, 3) := by decide +kernel
theorem dX11_shoots_24 : decode cX11_shoots 24 = .ok (.bipush 83, 2) := by decide +kernel
theorem dX11_shoots_26 : decode cX11_shoots 26 = .ok (.iaload, 1) := by decide +kernel
theorem dX11_shoots_27 : decode cX11_shoots 27 = .ok (.isub, 1) := by decide +kernel
theorem dX11_shoots_28 : decode cX11_shoots 28 = .ok (.iload_n 3, 1) := by decide +kernel
theorem dX11_shoots_29 : decode cX11_shoots 29 = .ok (.invokevirtual 73, 3) := by decide +kernel
theorem dX11_shoots_32 : decode cX11_shoots 32 = .ok (.aload_n 0, 1) := by decide +kernel
theorem dX11_shoots_33 : decode cX11_shoots 33 = .ok (.iload_n 1, 1) := by decide +kernel
theorem dX11_shoots_34 : decode cX11_shoots 34 = .ok (.bipush 15, 2) := by decide +kernel
theorem dX11_shoots_36 : decode cX11_shoots 36 = .ok (.iload 4, 2) := by decide +kernel
theorem dX11_shoots_38 : decode cX11_shoots 38 = .ok (.invokevirtual 73, 3) := by decide +kernel
theorem dX11_shoots_41 : decode cX11_shoots 41 = .ok (.aload_n 0, 1) := by decide +kernel
theorem dX11_shoots_42 : decode cX11_shoots 42 = .ok (.invokevirtual 124, 3) := by decide +kernel
theorem dX11_shoots_45 : decode cX11_shoots 45 = .ok (.ireturn, 1) := by decide +kernel
set_option maxRecDepth 20000 in
theorem ggX11_shot_X11_whyShot : GoodIn wsX11_shot wsX11_whyShot := goodIn_r _ [5, 6, 7, 8, 9, 10, 4, 11, 12, 13, 14, 15, 16, 17, 18, 19, 20, 21, 22, 23, 24, 25, 26, 27, 49, 50, 51, 52, 53, 54, 55, 56, 57, 58, 59, 60, 61, 62, 63, 64, 65, 66, 67, 68, 69, 70, 71, 72, 73] (by decide +kernel) (by decide +kernel)
set_option maxRecDepth 20000 in
theorem gX11_shot_X11_whyShot : GoodIn wsX11_shot (wsV RX11 128 RX11 yX11_whyShot wsX11_whyShot) := goodIn_app (goodIn_of _ (by decide +kernel)) ggX11_shot_X11_whyShot
set_option maxRecDepth 20000 in
theorem ggX11_shot_X11_records : GoodIn wsX11_shot wsX11_records := goodIn_r _ [31, 32, 33, 34, 12, 35, 49, 50, 51, 52, 53, 54, 55, 56, 57, 58, 59, 60, 61, 62, 63, 64, 65, 66, 67, 68, 69, 70, 71, 72, 73] (by decide +kernel) (by decide +kernel)
set_option maxRecDepth 20000 in
theorem gX11_shot_X11_records : GoodIn wsX11_shot (wsV RX11 70 RX11 yX11_records wsX11_records) := goodIn_app (goodIn_of _ (by decide +kernel)) ggX11_shot_X11_records
set_option maxRecDepth 20000 in
theorem ggX11_shot_X11_shoots : GoodIn wsX11_shot wsX11_shoots := goodIn_r _ [39, 12, 40, 41, 42, 4, 43, 44, 45, 46, 47, 48, 24, 25, 26, 27, 49, 50, 51, 52, 53, 54, 55, 56, 57, 58, 59, 60, 61, 62, 63, 64, 65, 66, 67, 68, 69, 70, 71, 72, 73] (by decide +kernel) (by decide +kernel)
set_option maxRecDepth 20000 in
theorem gX11_shot_X11_shoots : GoodIn wsX11_shot (wsV RX11 132 RX11 yX11_shoots wsX11_shoots) := goodIn_app (goodIn_of _ (by decide +kernel)) ggX11_shot_X11_shoots
theorem dX11_shot_0 : decode cX11_shot 0 = .ok (.aload_n 0, 1) := by decide +kernel
theorem dX11_shot_1 : decode cX11_shot 1 = .ok (.iload_n 1, 1) := by decide +kernel
theorem dX11_shot_2 : decode cX11_shot 2 = .ok (.iload_n 2, 1) := by decide +kernel
theorem dX11_shot_3 : decode cX11_shot 3 = .ok (.iload_n 3, 1) := by decide +kernel
theorem dX11_shot_4 : decode cX11_shot 4 = .ok (.iload 4, 2) := by decide +kernel
theorem dX11_shot_6 : decode cX11_shot 6 = .ok (.invokevirtual 128, 3) := by decide +kernel
theorem dX11_shot_9 : decode cX11_shot 9 = .ok (.istore 5, 2) := by decide +kernel
theorem dX11_shot_11 : decode cX11_shot 11 = .ok (.iload 5, 2) := by decide +kernel
theorem dX11_shot_13 : decode cX11_shot 13 = .ok (.ifCond .ge 6, 3) := by decide +kernel
theorem dX11_shot_16 : decode cX11_shot 16 = .ok (.iload 5, 2) := by decide +kernel
theorem dX11_shot_18 : decode cX11_shot 18 = .ok (.ireturn, 1) := by decide +kernel
theorem dX11_shot_19 : decode cX11_shot 19 = .ok (.aload_n 0, 1) := by decide +kernel
theorem dX11_shot_20 : decode cX11_shot 20 = .ok (.invokevirtual 70, 3) := by decide +kernel
theorem dX11_shot_23 : decode cX11_shot 23 = .ok (.aload_n 0, 1) := by decide +kernel
theorem dX11_shot_24 : decode cX11_shot 24 = .ok (.iload_n 1, 1) := by decide +kernel
theorem dX11_shot_25 : decode cX11_shot 25 = .ok (.iload_n 2, 1) := by decide +kernel
theorem dX11_shot_26 : decode cX11_shot 26 = .ok (.iload_n 3, 1) := by decide +kernel
theorem dX11_shot_27 : decode cX11_shot 27 = .ok (.iload 4, 2) := by decide +kernel
theorem dX11_shot_29 : decode cX11_shot 29 = .ok (.invokevirtual 132, 3) := by decide +kernel
theorem dX11_shot_32 : decode cX11_shot 32 = .ok (.ireturn, 1) := by decide +kernel
theorem dX11_rounded_0 : decode cX11_rounded 0 = .ok (.iload_n 0, 1) := by decide +kernel
theorem dX11_rounded_1 : decode cX11_rounded 1 = .ok (.ifCond .ge 8, 3) := by decide +kernel
theorem dX11_rounded_4 : decode cX11_rounded 4 = .ok (.iload_n 0, 1) := by decide +kernel
theorem dX11_rounded_5 : decode cX11_rounded 5 = .ok (.ineg, 1) := by decide +kernel
theorem dX11_rounded_6 : decode cX11_rounded 6 = .ok (.goto 4, 3) := by decide +kernel
theorem dX11_rounded_9 : decode cX11_rounded 9 = .ok (.iload_n 0, 1) := by decide +kernel
theorem dX11_rounded_10 : decode cX11_rounded 10 = .ok (.istore_n 2, 1) := by decide +kernel
theorem dX11_rounded_11 : decode cX11_rounded 11 = .ok (.iload_n 2, 1) := by decide +kernel
theorem dX11_rounded_12 : decode cX11_rounded 12 = .ok (.iload_n 1, 1) := by decide +kernel
theorem dX11_rounded_13 : decode cX11_rounded 13 = .ok (.idiv, 1) := by decide +kernel
theorem dX11_rounded_14 : decode cX11_rounded 14 = .ok (.iconst 2, 1) := by decide +kernel
theorem dX11_rounded_15 : decode cX11_rounded 15 = .ok (.iload_n 2, 1) := by decide +kernel
theorem dX11_rounded_16 : decode cX11_rounded 16 = .ok (.iload_n 1, 1) := by decide +kernel
theorem dX11_rounded_17 : decode cX11_rounded 17 = .ok (.irem, 1) := by decide +kernel
theorem dX11_rounded_18 : decode cX11_rounded 18 = .ok (.imul, 1) := by decide +kernel
theorem dX11_rounded_19 : decode cX11_rounded 19 = .ok (.iload_n 1, 1) := by decide +kernel
theorem dX11_rounded_20 : decode cX11_rounded 20 = .ok (.if_icmp .le 7, 3) := by decide +kernel
theorem dX11_rounded_23 : decode cX11_rounded 23 = .ok (.iconst 1, 1) := by decide +kernel
theorem dX11_rounded_24 : decode cX11_rounded 24 = .ok (.goto 4, 3) := by decide +kernel
theorem dX11_rounded_27 : decode cX11_rounded 27 = .ok (.iconst 0, 1) := by decide +kernel
theorem dX11_rounded_28 : decode cX11_rounded 28 = .ok (.iadd, 1) := by decide +kernel
theorem dX11_rounded_29 : decode cX11_rounded 29 = .ok (.istore_n 3, 1) := by decide +kernel
theorem dX11_rounded_30 : decode cX11_rounded 30 = .ok (.iload_n 0, 1) := by decide +kernel
theorem dX11_rounded_31 : decode cX11_rounded 31 = .ok (.ifCond .ge 8, 3) := by decide +kernel
theorem dX11_rounded_34 : decode cX11_rounded 34 = .ok (.iload_n 3, 1) := by decide +kernel
theorem dX11_rounded_35 : decode cX11_rounded 35 = .ok (.ineg, 1) := by decide +kernel
theorem dX11_rounded_36 : decode cX11_rounded 36 = .ok (.goto 4, 3) := by decide +kernel
theorem dX11_rounded_39 : decode cX11_rounded 39 = .ok (.iload_n 3, 1) := by decide +kernel
theorem dX11_rounded_40 : decode cX11_rounded 40 = .ok (.ireturn, 1) := by decide +kernel
set_option maxRecDepth 20000 in
theorem ggX11_takeShifts_X11_of : GoodIn wsX11_takeShifts wsX11_of := goodIn_r _ [10, 1, 14, 15, 16, 17, 18, 19, 20, 21, 22, 23, 24, 25, 26, 27, 28, 29, 30, 31, 32, 33, 34, 35, 36, 37, 38] (by decide +kernel) (by decide +kernel)
set_option maxRecDepth 20000 in
theorem gX11_takeShifts_X11_of : GoodIn wsX11_takeShifts (wsV RX11 83 RX11 yX11_of wsX11_of) := goodIn_app (goodIn_of _ (by decide +kernel)) ggX11_takeShifts_X11_of
set_option maxRecDepth 20000 in
theorem ggX11_takeShifts_X11_rounded : GoodIn wsX11_takeShifts wsX11_rounded := goodIn_r _ [13] (by decide +kernel) (by decide +kernel)
set_option maxRecDepth 20000 in
theorem gX11_takeShifts_X11_rounded : GoodIn wsX11_takeShifts (va_wsS RX11 135 yX11_rounded wsX11_rounded) := goodIn_app (goodIn_of _ (by decide +kernel)) ggX11_takeShifts_X11_rounded
theorem dX11_takeShifts_0 : decode cX11_takeShifts 0 = .ok (.iconst 0, 1) := by decide +kernel
theorem dX11_takeShifts_1 : decode cX11_takeShifts 1 = .ok (.istore_n 1, 1) := by decide +kernel
theorem dX11_takeShifts_2 : decode cX11_takeShifts 2 = .ok (.iload_n 1, 1) := by decide +kernel
theorem dX11_takeShifts_3 : decode cX11_takeShifts 3 = .ok (.aload_n 0, 1) := by decide +kernel
theorem dX11_takeShifts_4 : decode cX11_takeShifts 4 = .ok (.getfield 7, 3) := by decide +kernel
theorem dX11_takeShifts_7 : decode cX11_takeShifts 7 = .ok (.bipush 64, 2) := by decide +kernel
theorem dX11_takeShifts_9 : decode cX11_takeShifts 9 = .ok (.iaload, 1) := by decide +kernel
theorem dX11_takeShifts_10 : decode cX11_takeShifts 10 = .ok (.if_icmp .ge 148, 3) := by decide +kernel
theorem dX11_takeShifts_13 : decode cX11_takeShifts 13 = .ok (.aload_n 0, 1) := by decide +kernel
theorem dX11_takeShifts_14 : decode cX11_takeShifts 14 = .ok (.getfield 36, 3) := by decide +kernel
theorem dX11_takeShifts_17 : decode cX11_takeShifts 17 = .ok (.iload_n 1, 1) := by decide +kernel
theorem dX11_takeShifts_18 : decode cX11_takeShifts 18 = .ok (.aload_n 0, 1) := by decide +kernel
theorem dX11_takeShifts_19 : decode cX11_takeShifts 19 = .ok (.iload_n 1, 1) := by decide +kernel
theorem dX11_takeShifts_20 : decode cX11_takeShifts 20 = .ok (.bipush 13, 2) := by decide +kernel
theorem dX11_takeShifts_22 : decode cX11_takeShifts 22 = .ok (.invokevirtual 83, 3) := by decide +kernel
theorem dX11_takeShifts_25 : decode cX11_takeShifts 25 = .ok (.ldc 77, 2) := by decide +kernel
theorem dX11_takeShifts_27 : decode cX11_takeShifts 27 = .ok (.if_icmp .ne 7, 3) := by decide +kernel
theorem dX11_takeShifts_30 : decode cX11_takeShifts 30 = .ok (.iconst 0, 1) := by decide +kernel
theorem dX11_takeShifts_31 : decode cX11_takeShifts 31 = .ok (.goto 25, 3) := by decide +kernel
theorem dX11_takeShifts_34 : decode cX11_takeShifts 34 = .ok (.aload_n 0, 1) := by decide +kernel
theorem dX11_takeShifts_35 : decode cX11_takeShifts 35 = .ok (.iload_n 1, 1) := by decide +kernel
theorem dX11_takeShifts_36 : decode cX11_takeShifts 36 = .ok (.bipush 15, 2) := by decide +kernel
theorem dX11_takeShifts_38 : decode cX11_takeShifts 38 = .ok (.invokevirtual 83, 3) := by decide +kernel
theorem dX11_takeShifts_41 : decode cX11_takeShifts 41 = .ok (.aload_n 0, 1) := by decide +kernel
theorem dX11_takeShifts_42 : decode cX11_takeShifts 42 = .ok (.getfield 7, 3) := by decide +kernel
theorem dX11_takeShifts_45 : decode cX11_takeShifts 45 = .ok (.bipush 78, 2) := by decide +kernel
theorem dX11_takeShifts_47 : decode cX11_takeShifts 47 = .ok (.iaload, 1) := by decide +kernel
theorem dX11_takeShifts_48 : decode cX11_takeShifts 48 = .ok (.if_icmp .ge 7, 3) := by decide +kernel
theorem dX11_takeShifts_51 : decode cX11_takeShifts 51 = .ok (.iconst 1, 1) := by decide +kernel
theorem dX11_takeShifts_52 : decode cX11_takeShifts 52 = .ok (.goto 4, 3) := by decide +kernel
theorem dX11_takeShifts_55 : decode cX11_takeShifts 55 = .ok (.iconst 4, 1) := by decide +kernel
theorem dX11_takeShifts_56 : decode cX11_takeShifts 56 = .ok (.iastore, 1) := by decide +kernel
theorem dX11_takeShifts_57 : decode cX11_takeShifts 57 = .ok (.aload_n 0, 1) := by decide +kernel
theorem dX11_takeShifts_58 : decode cX11_takeShifts 58 = .ok (.getfield 42, 3) := by decide +kernel
theorem dX11_takeShifts_61 : decode cX11_takeShifts 61 = .ok (.iload_n 1, 1) := by decide +kernel
theorem dX11_takeShifts_62 : decode cX11_takeShifts 62 = .ok (.aload_n 0, 1) := by decide +kernel
theorem dX11_takeShifts_63 : decode cX11_takeShifts 63 = .ok (.getfield 36, 3) := by decide +kernel
theorem dX11_takeShifts_66 : decode cX11_takeShifts 66 = .ok (.iload_n 1, 1) := by decide +kernel
theorem dX11_takeShifts_67 : decode cX11_takeShifts 67 = .ok (.iaload, 1) := by decide +kernel
theorem dX11_takeShifts_68 : decode cX11_takeShifts 68 = .ok (.iconst 4, 1) := by decide +kernel
theorem dX11_takeShifts_69 : decode cX11_takeShifts 69 = .ok (.if_icmp .ne 18, 3) := by decide +kernel
theorem dX11_takeShifts_72 : decode cX11_takeShifts 72 = .ok (.aload_n 0, 1) := by decide +kernel
theorem dX11_takeShifts_73 : decode cX11_takeShifts 73 = .ok (.iload_n 1, 1) := by decide +kernel
theorem dX11_takeShifts_74 : decode cX11_takeShifts 74 = .ok (.iconst 5, 1) := by decide +kernel
theorem dX11_takeShifts_75 : decode cX11_takeShifts 75 = .ok (.invokevirtual 83, 3) := by decide +kernel
theorem dX11_takeShifts_78 : decode cX11_takeShifts 78 = .ok (.ldc 77, 2) := by decide +kernel
theorem dX11_takeShifts_80 : decode cX11_takeShifts 80 = .ok (.if_icmp .eq 7, 3) := by decide +kernel
theorem dX11_takeShifts_83 : decode cX11_takeShifts 83 = .ok (.iconst 1, 1) := by decide +kernel
theorem dX11_takeShifts_84 : decode cX11_takeShifts 84 = .ok (.goto 4, 3) := by decide +kernel
theorem dX11_takeShifts_87 : decode cX11_takeShifts 87 = .ok (.iconst 0, 1) := by decide +kernel
theorem dX11_takeShifts_88 : decode cX11_takeShifts 88 = .ok (.bastore, 1) := by decide +kernel
theorem dX11_takeShifts_89 : decode cX11_takeShifts 89 = .ok (.iconst 0, 1) := by decide +kernel
theorem dX11_takeShifts_90 : decode cX11_takeShifts 90 = .ok (.istore_n 2, 1) := by decide +kernel
theorem dX11_takeShifts_91 : decode cX11_takeShifts 91 = .ok (.iload_n 2, 1) := by decide +kernel
theorem dX11_takeShifts_92 : decode cX11_takeShifts 92 = .ok (.iconst 2, 1) := by decide +kernel
theorem dX11_takeShifts_93 : decode cX11_takeShifts 93 = .ok (.if_icmp .ge 59, 3) := by decide +kernel
theorem dX11_takeShifts_96 : decode cX11_takeShifts 96 = .ok (.aload_n 0, 1) := by decide +kernel
theorem dX11_takeShifts_97 : decode cX11_takeShifts 97 = .ok (.getfield 39, 3) := by decide +kernel
theorem dX11_takeShifts_100 : decode cX11_takeShifts 100 = .ok (.iconst 2, 1) := by decide +kernel
theorem dX11_takeShifts_101 : decode cX11_takeShifts 101 = .ok (.iload_n 1, 1) := by decide +kernel
theorem dX11_takeShifts_102 : decode cX11_takeShifts 102 = .ok (.imul, 1) := by decide +kernel
theorem dX11_takeShifts_103 : decode cX11_takeShifts 103 = .ok (.iload_n 2, 1) := by decide +kernel
theorem dX11_takeShifts_104 : decode cX11_takeShifts 104 = .ok (.iadd, 1) := by decide +kernel
theorem dX11_takeShifts_105 : decode cX11_takeShifts 105 = .ok (.aload_n 0, 1) := by decide +kernel
theorem dX11_takeShifts_106 : decode cX11_takeShifts 106 = .ok (.getfield 42, 3) := by decide +kernel
theorem dX11_takeShifts_109 : decode cX11_takeShifts 109 = .ok (.iload_n 1, 1) := by decide +kernel
theorem dX11_takeShifts_110 : decode cX11_takeShifts 110 = .ok (.baload, 1) := by decide +kernel
theorem dX11_takeShifts_111 : decode cX11_takeShifts 111 = .ok (.ifCond .eq 33, 3) := by decide +kernel
theorem dX11_takeShifts_114 : decode cX11_takeShifts 114 = .ok (.aload_n 0, 1) := by decide +kernel
theorem dX11_takeShifts_115 : decode cX11_takeShifts 115 = .ok (.iload_n 1, 1) := by decide +kernel
theorem dX11_takeShifts_116 : decode cX11_takeShifts 116 = .ok (.bipush 13, 2) := by decide +kernel
theorem dX11_takeShifts_118 : decode cX11_takeShifts 118 = .ok (.iload_n 2, 1) := by decide +kernel
theorem dX11_takeShifts_119 : decode cX11_takeShifts 119 = .ok (.iadd, 1) := by decide +kernel
theorem dX11_takeShifts_120 : decode cX11_takeShifts 120 = .ok (.invokevirtual 83, 3) := by decide +kernel
theorem dX11_takeShifts_123 : decode cX11_takeShifts 123 = .ok (.aload_n 0, 1) := by decide +kernel
theorem dX11_takeShifts_124 : decode cX11_takeShifts 124 = .ok (.iload_n 1, 1) := by decide +kernel
theorem dX11_takeShifts_125 : decode cX11_takeShifts 125 = .ok (.iconst 5, 1) := by decide +kernel
theorem dX11_takeShifts_126 : decode cX11_takeShifts 126 = .ok (.iload_n 2, 1) := by decide +kernel
theorem dX11_takeShifts_127 : decode cX11_takeShifts 127 = .ok (.iadd, 1) := by decide +kernel
theorem dX11_takeShifts_128 : decode cX11_takeShifts 128 = .ok (.invokevirtual 83, 3) := by decide +kernel
theorem dX11_takeShifts_131 : decode cX11_takeShifts 131 = .ok (.isub, 1) := by decide +kernel
theorem dX11_takeShifts_132 : decode cX11_takeShifts 132 = .ok (.aload_n 0, 1) := by decide +kernel
theorem dX11_takeShifts_133 : decode cX11_takeShifts 133 = .ok (.iload_n 1, 1) := by decide +kernel
theorem dX11_takeShifts_134 : decode cX11_takeShifts 134 = .ok (.iconst 3, 1) := by decide +kernel
theorem dX11_takeShifts_135 : decode cX11_takeShifts 135 = .ok (.invokevirtual 83, 3) := by decide +kernel
theorem dX11_takeShifts_138 : decode cX11_takeShifts 138 = .ok (.invokestatic 135, 3) := by decide +kernel
theorem dX11_takeShifts_141 : decode cX11_takeShifts 141 = .ok (.goto 4, 3) := by decide +kernel
theorem dX11_takeShifts_144 : decode cX11_takeShifts 144 = .ok (.iconst 0, 1) := by decide +kernel
theorem dX11_takeShifts_145 : decode cX11_takeShifts 145 = .ok (.iastore, 1) := by decide +kernel
theorem dX11_takeShifts_146 : decode cX11_takeShifts 146 = .ok (.iinc 2 1, 3) := by decide +kernel
theorem dX11_takeShifts_149 : decode cX11_takeShifts 149 = .ok (.goto (-58), 3) := by decide +kernel
theorem dX11_takeShifts_152 : decode cX11_takeShifts 152 = .ok (.iinc 1 1, 3) := by decide +kernel
theorem dX11_takeShifts_155 : decode cX11_takeShifts 155 = .ok (.goto (-153), 3) := by decide +kernel
theorem dX11_takeShifts_158 : decode cX11_takeShifts 158 = .ok (.return_, 1) := by decide +kernel
set_option maxRecDepth 20000 in
theorem ggX11_weightOf_X11_of : GoodIn wsX11_weightOf wsX11_of := goodIn_r _ [8, 1, 9, 10, 11, 12, 13, 14, 15, 16, 17, 18, 19, 20, 21, 22, 23, 24, 25, 26, 27, 28, 29, 30, 31, 32, 33] (by decide +kernel) (by decide +kernel)
set_option maxRecDepth 20000 in
theorem gX11_weightOf_X11_of : GoodIn wsX11_weightOf (wsV RX11 83 RX11 yX11_of wsX11_of) := goodIn_app (goodIn_of _ (by decide +kernel)) ggX11_weightOf_X11_of
theorem dX11_weightOf_0 : decode cX11_weightOf 0 = .ok (.iconst 0, 1) := by decide +kernel
theorem dX11_weightOf_1 : decode cX11_weightOf 1 = .ok (.istore_n 3, 1) := by decide +kernel
theorem dX11_weightOf_2 : decode cX11_weightOf 2 = .ok (.iconst 0, 1) := by decide +kernel
theorem dX11_weightOf_3 : decode cX11_weightOf 3 = .ok (.istore 4, 2) := by decide +kernel
theorem dX11_weightOf_5 : decode cX11_weightOf 5 = .ok (.iload 4, 2) := by decide +kernel
theorem dX11_weightOf_7 : decode cX11_weightOf 7 = .ok (.aload_n 0, 1) := by decide +kernel
theorem dX11_weightOf_8 : decode cX11_weightOf 8 = .ok (.getfield 7, 3) := by decide +kernel
theorem dX11_weightOf_11 : decode cX11_weightOf 11 = .ok (.bipush 64, 2) := by decide +kernel
theorem dX11_weightOf_13 : decode cX11_weightOf 13 = .ok (.iaload, 1) := by decide +kernel
theorem dX11_weightOf_14 : decode cX11_weightOf 14 = .ok (.if_icmp .ge 52, 3) := by decide +kernel
theorem dX11_weightOf_17 : decode cX11_weightOf 17 = .ok (.iload_n 3, 1) := by decide +kernel
theorem dX11_weightOf_18 : decode cX11_weightOf 18 = .ok (.aload_n 0, 1) := by decide +kernel
theorem dX11_weightOf_19 : decode cX11_weightOf 19 = .ok (.getfield 42, 3) := by decide +kernel
theorem dX11_weightOf_22 : decode cX11_weightOf 22 = .ok (.iload 4, 2) := by decide +kernel
theorem dX11_weightOf_24 : decode cX11_weightOf 24 = .ok (.baload, 1) := by decide +kernel
theorem dX11_weightOf_25 : decode cX11_weightOf 25 = .ok (.ifCond .eq 32, 3) := by decide +kernel
theorem dX11_weightOf_28 : decode cX11_weightOf 28 = .ok (.iload_n 1, 1) := by decide +kernel
theorem dX11_weightOf_29 : decode cX11_weightOf 29 = .ok (.ifCond .lt 18, 3) := by decide +kernel
theorem dX11_weightOf_32 : decode cX11_weightOf 32 = .ok (.aload_n 0, 1) := by decide +kernel
theorem dX11_weightOf_33 : decode cX11_weightOf 33 = .ok (.getfield 39, 3) := by decide +kernel
theorem dX11_weightOf_36 : decode cX11_weightOf 36 = .ok (.iconst 2, 1) := by decide +kernel
theorem dX11_weightOf_37 : decode cX11_weightOf 37 = .ok (.iload 4, 2) := by decide +kernel
theorem dX11_weightOf_39 : decode cX11_weightOf 39 = .ok (.imul, 1) := by decide +kernel
theorem dX11_weightOf_40 : decode cX11_weightOf 40 = .ok (.iload_n 1, 1) := by decide +kernel
theorem dX11_weightOf_41 : decode cX11_weightOf 41 = .ok (.iadd, 1) := by decide +kernel
theorem dX11_weightOf_42 : decode cX11_weightOf 42 = .ok (.iaload, 1) := by decide +kernel
theorem dX11_weightOf_43 : decode cX11_weightOf 43 = .ok (.iload_n 2, 1) := by decide +kernel
theorem dX11_weightOf_44 : decode cX11_weightOf 44 = .ok (.if_icmp .ne 13, 3) := by decide +kernel
theorem dX11_weightOf_47 : decode cX11_weightOf 47 = .ok (.aload_n 0, 1) := by decide +kernel
theorem dX11_weightOf_48 : decode cX11_weightOf 48 = .ok (.iload 4, 2) := by decide +kernel
theorem dX11_weightOf_50 : decode cX11_weightOf 50 = .ok (.iconst 2, 1) := by decide +kernel
theorem dX11_weightOf_51 : decode cX11_weightOf 51 = .ok (.invokevirtual 83, 3) := by decide +kernel
theorem dX11_weightOf_54 : decode cX11_weightOf 54 = .ok (.goto 4, 3) := by decide +kernel
theorem dX11_weightOf_57 : decode cX11_weightOf 57 = .ok (.iconst 0, 1) := by decide +kernel
theorem dX11_weightOf_58 : decode cX11_weightOf 58 = .ok (.iadd, 1) := by decide +kernel
theorem dX11_weightOf_59 : decode cX11_weightOf 59 = .ok (.istore_n 3, 1) := by decide +kernel
theorem dX11_weightOf_60 : decode cX11_weightOf 60 = .ok (.iinc 4 1, 3) := by decide +kernel
theorem dX11_weightOf_63 : decode cX11_weightOf 63 = .ok (.goto (-58), 3) := by decide +kernel
theorem dX11_weightOf_66 : decode cX11_weightOf 66 = .ok (.iload_n 3, 1) := by decide +kernel
theorem dX11_weightOf_67 : decode cX11_weightOf 67 = .ok (.ireturn, 1) := by decide +kernel
set_option maxRecDepth 20000 in
theorem ggX11_vote_X11_weightOf : GoodIn wsX11_vote wsX11_weightOf := goodIn_r _ [10, 1, 3, 2, 11, 12, 13, 9, 14, 15, 16, 17, 18, 19, 20, 21, 22, 23, 24, 25, 26, 27, 28, 29, 30, 31, 32, 33, 34, 35, 36, 37, 38, 39] (by decide +kernel) (by decide +kernel)
set_option maxRecDepth 20000 in
theorem gX11_vote_X11_weightOf : GoodIn wsX11_vote (wsV RX11 138 RX11 yX11_weightOf wsX11_weightOf) := goodIn_app (goodIn_of _ (by decide +kernel)) ggX11_vote_X11_weightOf
theorem dX11_vote_0 : decode cX11_vote 0 = .ok (.aload_n 0, 1) := by decide +kernel
theorem dX11_vote_1 : decode cX11_vote 1 = .ok (.iconst (-1), 1) := by decide +kernel
theorem dX11_vote_2 : decode cX11_vote 2 = .ok (.iconst 0, 1) := by decide +kernel
theorem dX11_vote_3 : decode cX11_vote 3 = .ok (.invokevirtual 138, 3) := by decide +kernel
theorem dX11_vote_6 : decode cX11_vote 6 = .ok (.istore_n 2, 1) := by decide +kernel
theorem dX11_vote_7 : decode cX11_vote 7 = .ok (.iconst 0, 1) := by decide +kernel
theorem dX11_vote_8 : decode cX11_vote 8 = .ok (.istore_n 3, 1) := by decide +kernel
theorem dX11_vote_9 : decode cX11_vote 9 = .ok (.iconst 0, 1) := by decide +kernel
theorem dX11_vote_10 : decode cX11_vote 10 = .ok (.istore 4, 2) := by decide +kernel
theorem dX11_vote_12 : decode cX11_vote 12 = .ok (.iload 4, 2) := by decide +kernel
theorem dX11_vote_14 : decode cX11_vote 14 = .ok (.aload_n 0, 1) := by decide +kernel
theorem dX11_vote_15 : decode cX11_vote 15 = .ok (.getfield 7, 3) := by decide +kernel
theorem dX11_vote_18 : decode cX11_vote 18 = .ok (.bipush 64, 2) := by decide +kernel
theorem dX11_vote_20 : decode cX11_vote 20 = .ok (.iaload, 1) := by decide +kernel
theorem dX11_vote_21 : decode cX11_vote 21 = .ok (.if_icmp .ge 121, 3) := by decide +kernel
theorem dX11_vote_24 : decode cX11_vote 24 = .ok (.aload_n 0, 1) := by decide +kernel
theorem dX11_vote_25 : decode cX11_vote 25 = .ok (.getfield 39, 3) := by decide +kernel
theorem dX11_vote_28 : decode cX11_vote 28 = .ok (.iconst 2, 1) := by decide +kernel
theorem dX11_vote_29 : decode cX11_vote 29 = .ok (.iload 4, 2) := by decide +kernel
theorem dX11_vote_31 : decode cX11_vote 31 = .ok (.imul, 1) := by decide +kernel
theorem dX11_vote_32 : decode cX11_vote 32 = .ok (.iload_n 1, 1) := by decide +kernel
theorem dX11_vote_33 : decode cX11_vote 33 = .ok (.iadd, 1) := by decide +kernel
theorem dX11_vote_34 : decode cX11_vote 34 = .ok (.iaload, 1) := by decide +kernel
theorem dX11_vote_35 : decode cX11_vote 35 = .ok (.istore 5, 2) := by decide +kernel
theorem dX11_vote_37 : decode cX11_vote 37 = .ok (.aload_n 0, 1) := by decide +kernel
theorem dX11_vote_38 : decode cX11_vote 38 = .ok (.getfield 42, 3) := by decide +kernel
theorem dX11_vote_41 : decode cX11_vote 41 = .ok (.iload 4, 2) := by decide +kernel
theorem dX11_vote_43 : decode cX11_vote 43 = .ok (.baload, 1) := by decide +kernel
theorem dX11_vote_44 : decode cX11_vote 44 = .ok (.ifCond .eq 34, 3) := by decide +kernel
theorem dX11_vote_47 : decode cX11_vote 47 = .ok (.iload 5, 2) := by decide +kernel
theorem dX11_vote_49 : decode cX11_vote 49 = .ok (.ifCond .eq 29, 3) := by decide +kernel
theorem dX11_vote_52 : decode cX11_vote 52 = .ok (.aload_n 0, 1) := by decide +kernel
theorem dX11_vote_53 : decode cX11_vote 53 = .ok (.iload_n 1, 1) := by decide +kernel
theorem dX11_vote_54 : decode cX11_vote 54 = .ok (.iload 5, 2) := by decide +kernel
theorem dX11_vote_56 : decode cX11_vote 56 = .ok (.invokevirtual 138, 3) := by decide +kernel
theorem dX11_vote_59 : decode cX11_vote 59 = .ok (.bipush 100, 2) := by decide +kernel
theorem dX11_vote_61 : decode cX11_vote 61 = .ok (.imul, 1) := by decide +kernel
theorem dX11_vote_62 : decode cX11_vote 62 = .ok (.aload_n 0, 1) := by decide +kernel
theorem dX11_vote_63 : decode cX11_vote 63 = .ok (.getfield 7, 3) := by decide +kernel
theorem dX11_vote_66 : decode cX11_vote 66 = .ok (.bipush 80, 2) := by decide +kernel
theorem dX11_vote_68 : decode cX11_vote 68 = .ok (.iaload, 1) := by decide +kernel
theorem dX11_vote_69 : decode cX11_vote 69 = .ok (.iload_n 2, 1) := by decide +kernel
theorem dX11_vote_70 : decode cX11_vote 70 = .ok (.imul, 1) := by decide +kernel
theorem dX11_vote_71 : decode cX11_vote 71 = .ok (.if_icmp .lt 7, 3) := by decide +kernel
theorem dX11_vote_74 : decode cX11_vote 74 = .ok (.iconst 1, 1) := by decide +kernel
theorem dX11_vote_75 : decode cX11_vote 75 = .ok (.goto 4, 3) := by decide +kernel
theorem dX11_vote_78 : decode cX11_vote 78 = .ok (.iconst 0, 1) := by decide +kernel
theorem dX11_vote_79 : decode cX11_vote 79 = .ok (.istore 6, 2) := by decide +kernel
theorem dX11_vote_81 : decode cX11_vote 81 = .ok (.iconst 0, 1) := by decide +kernel
theorem dX11_vote_82 : decode cX11_vote 82 = .ok (.istore 7, 2) := by decide +kernel
theorem dX11_vote_84 : decode cX11_vote 84 = .ok (.iload 7, 2) := by decide +kernel
theorem dX11_vote_86 : decode cX11_vote 86 = .ok (.iload_n 3, 1) := by decide +kernel
theorem dX11_vote_87 : decode cX11_vote 87 = .ok (.if_icmp .ge 33, 3) := by decide +kernel
theorem dX11_vote_90 : decode cX11_vote 90 = .ok (.iload 6, 2) := by decide +kernel
theorem dX11_vote_92 : decode cX11_vote 92 = .ok (.ifCond .eq 19, 3) := by decide +kernel
theorem dX11_vote_95 : decode cX11_vote 95 = .ok (.aload_n 0, 1) := by decide +kernel
theorem dX11_vote_96 : decode cX11_vote 96 = .ok (.getfield 51, 3) := by decide +kernel
theorem dX11_vote_99 : decode cX11_vote 99 = .ok (.iload 7, 2) := by decide +kernel
theorem dX11_vote_101 : decode cX11_vote 101 = .ok (.iaload, 1) := by decide +kernel
theorem dX11_vote_102 : decode cX11_vote 102 = .ok (.iload 5, 2) := by decide +kernel
theorem dX11_vote_104 : decode cX11_vote 104 = .ok (.if_icmp .eq 7, 3) := by decide +kernel
theorem dX11_vote_107 : decode cX11_vote 107 = .ok (.iconst 1, 1) := by decide +kernel
theorem dX11_vote_108 : decode cX11_vote 108 = .ok (.goto 4, 3) := by decide +kernel
theorem dX11_vote_111 : decode cX11_vote 111 = .ok (.iconst 0, 1) := by decide +kernel
theorem dX11_vote_112 : decode cX11_vote 112 = .ok (.istore 6, 2) := by decide +kernel
theorem dX11_vote_114 : decode cX11_vote 114 = .ok (.iinc 7 1, 3) := by decide +kernel
theorem dX11_vote_117 : decode cX11_vote 117 = .ok (.goto (-33), 3) := by decide +kernel
theorem dX11_vote_120 : decode cX11_vote 120 = .ok (.iload 6, 2) := by decide +kernel
theorem dX11_vote_122 : decode cX11_vote 122 = .ok (.ifCond .eq 14, 3) := by decide +kernel
theorem dX11_vote_125 : decode cX11_vote 125 = .ok (.aload_n 0, 1) := by decide +kernel
theorem dX11_vote_126 : decode cX11_vote 126 = .ok (.getfield 51, 3) := by decide +kernel
theorem dX11_vote_129 : decode cX11_vote 129 = .ok (.iload_n 3, 1) := by decide +kernel
theorem dX11_vote_130 : decode cX11_vote 130 = .ok (.iload 5, 2) := by decide +kernel
theorem dX11_vote_132 : decode cX11_vote 132 = .ok (.iastore, 1) := by decide +kernel
theorem dX11_vote_133 : decode cX11_vote 133 = .ok (.iinc 3 1, 3) := by decide +kernel
theorem dX11_vote_136 : decode cX11_vote 136 = .ok (.iinc 4 1, 3) := by decide +kernel
theorem dX11_vote_139 : decode cX11_vote 139 = .ok (.goto (-127), 3) := by decide +kernel
theorem dX11_vote_142 : decode cX11_vote 142 = .ok (.aload_n 0, 1) := by decide +kernel
theorem dX11_vote_143 : decode cX11_vote 143 = .ok (.dup, 1) := by decide +kernel
theorem dX11_vote_144 : decode cX11_vote 144 = .ok (.getfield 141, 3) := by decide +kernel
theorem dX11_vote_147 : decode cX11_vote 147 = .ok (.iload_n 3, 1) := by decide +kernel
theorem dX11_vote_148 : decode cX11_vote 148 = .ok (.iadd, 1) := by decide +kernel
theorem dX11_vote_149 : decode cX11_vote 149 = .ok (.putfield 141, 3) := by decide +kernel
theorem dX11_vote_152 : decode cX11_vote 152 = .ok (.iconst 0, 1) := by decide +kernel
theorem dX11_vote_153 : decode cX11_vote 153 = .ok (.istore 4, 2) := by decide +kernel
theorem dX11_vote_155 : decode cX11_vote 155 = .ok (.iload 4, 2) := by decide +kernel
theorem dX11_vote_157 : decode cX11_vote 157 = .ok (.aload_n 0, 1) := by decide +kernel
theorem dX11_vote_158 : decode cX11_vote 158 = .ok (.getfield 7, 3) := by decide +kernel
theorem dX11_vote_161 : decode cX11_vote 161 = .ok (.bipush 64, 2) := by decide +kernel
theorem dX11_vote_163 : decode cX11_vote 163 = .ok (.iaload, 1) := by decide +kernel
theorem dX11_vote_164 : decode cX11_vote 164 = .ok (.if_icmp .ge 71, 3) := by decide +kernel
theorem dX11_vote_167 : decode cX11_vote 167 = .ok (.iconst 0, 1) := by decide +kernel
theorem dX11_vote_168 : decode cX11_vote 168 = .ok (.istore 5, 2) := by decide +kernel
theorem dX11_vote_170 : decode cX11_vote 170 = .ok (.iload 5, 2) := by decide +kernel
theorem dX11_vote_172 : decode cX11_vote 172 = .ok (.iload_n 3, 1) := by decide +kernel
theorem dX11_vote_173 : decode cX11_vote 173 = .ok (.if_icmp .ge 56, 3) := by decide +kernel
theorem dX11_vote_176 : decode cX11_vote 176 = .ok (.aload_n 0, 1) := by decide +kernel
theorem dX11_vote_177 : decode cX11_vote 177 = .ok (.getfield 39, 3) := by decide +kernel
theorem dX11_vote_180 : decode cX11_vote 180 = .ok (.iconst 2, 1) := by decide +kernel
theorem dX11_vote_181 : decode cX11_vote 181 = .ok (.iload 4, 2) := by decide +kernel
theorem dX11_vote_183 : decode cX11_vote 183 = .ok (.imul, 1) := by decide +kernel
theorem dX11_vote_184 : decode cX11_vote 184 = .ok (.iload_n 1, 1) := by decide +kernel
theorem dX11_vote_185 : decode cX11_vote 185 = .ok (.iadd, 1) := by decide +kernel
theorem dX11_vote_186 : decode cX11_vote 186 = .ok (.aload_n 0, 1) := by decide +kernel
theorem dX11_vote_187 : decode cX11_vote 187 = .ok (.getfield 39, 3) := by decide +kernel
theorem dX11_vote_190 : decode cX11_vote 190 = .ok (.iconst 2, 1) := by decide +kernel
theorem dX11_vote_191 : decode cX11_vote 191 = .ok (.iload 4, 2) := by decide +kernel
theorem dX11_vote_193 : decode cX11_vote 193 = .ok (.imul, 1) := by decide +kernel
theorem dX11_vote_194 : decode cX11_vote 194 = .ok (.iload_n 1, 1) := by decide +kernel
theorem dX11_vote_195 : decode cX11_vote 195 = .ok (.iadd, 1) := by decide +kernel
theorem dX11_vote_196 : decode cX11_vote 196 = .ok (.iaload, 1) := by decide +kernel
theorem dX11_vote_197 : decode cX11_vote 197 = .ok (.aload_n 0, 1) := by decide +kernel
theorem dX11_vote_198 : decode cX11_vote 198 = .ok (.getfield 51, 3) := by decide +kernel
theorem dX11_vote_201 : decode cX11_vote 201 = .ok (.iload 5, 2) := by decide +kernel
theorem dX11_vote_203 : decode cX11_vote 203 = .ok (.iaload, 1) := by decide +kernel
theorem dX11_vote_204 : decode cX11_vote 204 = .ok (.if_icmp .ne 7, 3) := by decide +kernel
theorem dX11_vote_207 : decode cX11_vote 207 = .ok (.iconst 0, 1) := by decide +kernel
theorem dX11_vote_208 : decode cX11_vote 208 = .ok (.goto 14, 3) := by decide +kernel
theorem dX11_vote_211 : decode cX11_vote 211 = .ok (.aload_n 0, 1) := by decide +kernel
theorem dX11_vote_212 : decode cX11_vote 212 = .ok (.getfield 39, 3) := by decide +kernel
theorem dX11_vote_215 : decode cX11_vote 215 = .ok (.iconst 2, 1) := by decide +kernel
theorem dX11_vote_216 : decode cX11_vote 216 = .ok (.iload 4, 2) := by decide +kernel
theorem dX11_vote_218 : decode cX11_vote 218 = .ok (.imul, 1) := by decide +kernel
theorem dX11_vote_219 : decode cX11_vote 219 = .ok (.iload_n 1, 1) := by decide +kernel
theorem dX11_vote_220 : decode cX11_vote 220 = .ok (.iadd, 1) := by decide +kernel
theorem dX11_vote_221 : decode cX11_vote 221 = .ok (.iaload, 1) := by decide +kernel
theorem dX11_vote_222 : decode cX11_vote 222 = .ok (.iastore, 1) := by decide +kernel
theorem dX11_vote_223 : decode cX11_vote 223 = .ok (.iinc 5 1, 3) := by decide +kernel
theorem dX11_vote_226 : decode cX11_vote 226 = .ok (.goto (-56), 3) := by decide +kernel
theorem dX11_vote_229 : decode cX11_vote 229 = .ok (.iinc 4 1, 3) := by decide +kernel
theorem dX11_vote_232 : decode cX11_vote 232 = .ok (.goto (-77), 3) := by decide +kernel
theorem dX11_vote_235 : decode cX11_vote 235 = .ok (.return_, 1) := by decide +kernel
theorem dX11_size_0 : decode cX11_size 0 = .ok (.iload_n 0, 1) := by decide +kernel
theorem dX11_size_1 : decode cX11_size 1 = .ok (.ifCond .ge 8, 3) := by decide +kernel
theorem dX11_size_4 : decode cX11_size 4 = .ok (.iload_n 0, 1) := by decide +kernel
theorem dX11_size_5 : decode cX11_size 5 = .ok (.ineg, 1) := by decide +kernel
theorem dX11_size_6 : decode cX11_size 6 = .ok (.goto 4, 3) := by decide +kernel
theorem dX11_size_9 : decode cX11_size 9 = .ok (.iload_n 0, 1) := by decide +kernel
theorem dX11_size_10 : decode cX11_size 10 = .ok (.ireturn, 1) := by decide +kernel
set_option maxRecDepth 20000 in
theorem ggX11_timeOf_X11_of : GoodIn wsX11_timeOf wsX11_of := goodIn_r _ [6, 7, 8, 9, 10, 11, 12, 13, 14, 15, 16, 17, 18, 19, 20, 21, 22, 23, 24, 25, 26, 27, 28, 29, 30, 31, 32] (by decide +kernel) (by decide +kernel)
set_option maxRecDepth 20000 in
theorem gX11_timeOf_X11_of : GoodIn wsX11_timeOf (wsV RX11 83 RX11 yX11_of wsX11_of) := goodIn_app (goodIn_of _ (by decide +kernel)) ggX11_timeOf_X11_of
theorem dX11_timeOf_0 : decode cX11_timeOf 0 = .ok (.aload_n 0, 1) := by decide +kernel
theorem dX11_timeOf_1 : decode cX11_timeOf 1 = .ok (.iload_n 1, 1) := by decide +kernel
theorem dX11_timeOf_2 : decode cX11_timeOf 2 = .ok (.bipush 13, 2) := by decide +kernel
theorem dX11_timeOf_4 : decode cX11_timeOf 4 = .ok (.iload_n 2, 1) := by decide +kernel
theorem dX11_timeOf_5 : decode cX11_timeOf 5 = .ok (.iadd, 1) := by decide +kernel
theorem dX11_timeOf_6 : decode cX11_timeOf 6 = .ok (.invokevirtual 83, 3) := by decide +kernel
theorem dX11_timeOf_9 : decode cX11_timeOf 9 = .ok (.i2l, 1) := by decide +kernel
theorem dX11_timeOf_10 : decode cX11_timeOf 10 = .ok (.aload_n 0, 1) := by decide +kernel
theorem dX11_timeOf_11 : decode cX11_timeOf 11 = .ok (.getfield 39, 3) := by decide +kernel
theorem dX11_timeOf_14 : decode cX11_timeOf 14 = .ok (.iconst 2, 1) := by decide +kernel
theorem dX11_timeOf_15 : decode cX11_timeOf 15 = .ok (.iload_n 1, 1) := by decide +kernel
theorem dX11_timeOf_16 : decode cX11_timeOf 16 = .ok (.imul, 1) := by decide +kernel
theorem dX11_timeOf_17 : decode cX11_timeOf 17 = .ok (.iload_n 2, 1) := by decide +kernel
theorem dX11_timeOf_18 : decode cX11_timeOf 18 = .ok (.iadd, 1) := by decide +kernel
theorem dX11_timeOf_19 : decode cX11_timeOf 19 = .ok (.iaload, 1) := by decide +kernel
theorem dX11_timeOf_20 : decode cX11_timeOf 20 = .ok (.i2l, 1) := by decide +kernel
theorem dX11_timeOf_21 : decode cX11_timeOf 21 = .ok (.aload_n 0, 1) := by decide +kernel
theorem dX11_timeOf_22 : decode cX11_timeOf 22 = .ok (.iload_n 1, 1) := by decide +kernel
theorem dX11_timeOf_23 : decode cX11_timeOf 23 = .ok (.iconst 3, 1) := by decide +kernel
theorem dX11_timeOf_24 : decode cX11_timeOf 24 = .ok (.invokevirtual 83, 3) := by decide +kernel
theorem dX11_timeOf_27 : decode cX11_timeOf 27 = .ok (.i2l, 1) := by decide +kernel
theorem dX11_timeOf_28 : decode cX11_timeOf 28 = .ok (.lmul, 1) := by decide +kernel
theorem dX11_timeOf_29 : decode cX11_timeOf 29 = .ok (.lsub, 1) := by decide +kernel
theorem dX11_timeOf_30 : decode cX11_timeOf 30 = .ok (.lreturn, 1) := by decide +kernel
set_option maxRecDepth 20000 in
theorem ggX11_isOff_X11_size : GoodIn wsX11_isOff wsX11_size := goodIn_r _ [5] (by decide +kernel) (by decide +kernel)
set_option maxRecDepth 20000 in
theorem gX11_isOff_X11_size : GoodIn wsX11_isOff (va_wsS RX11 144 yX11_size wsX11_size) := goodIn_app (goodIn_of _ (by decide +kernel)) ggX11_isOff_X11_size
set_option maxRecDepth 20000 in
theorem ggX11_isOff_X11_of : GoodIn wsX11_isOff wsX11_of := goodIn_r _ [9, 10, 15, 16, 17, 18, 19, 20, 21, 22, 23, 24, 25, 26, 27, 28, 29, 30, 31, 32, 33, 34, 35, 36, 37, 38, 39] (by decide +kernel) (by decide +kernel)
set_option maxRecDepth 20000 in
theorem gX11_isOff_X11_of : GoodIn wsX11_isOff (wsV RX11 83 RX11 yX11_of wsX11_of) := goodIn_app (goodIn_of _ (by decide +kernel)) ggX11_isOff_X11_of
set_option maxRecDepth 20000 in
theorem ggX11_isOff_X11_timeOf : GoodIn wsX11_isOff wsX11_timeOf := goodIn_r _ [14, 1, 6, 7, 8, 4, 9, 10, 15, 16, 17, 18, 19, 20, 21, 22, 23, 24, 25, 26, 27, 28, 29, 30, 31, 32, 33, 34, 35, 36, 37, 38, 39] (by decide +kernel) (by decide +kernel)
set_option maxRecDepth 20000 in
theorem gX11_isOff_X11_timeOf : GoodIn wsX11_isOff (wsV RX11 147 RX11 yX11_timeOf wsX11_timeOf) := goodIn_app (goodIn_of _ (by decide +kernel)) ggX11_isOff_X11_timeOf
theorem dX11_isOff_0 : decode cX11_isOff 0 = .ok (.aload_n 0, 1) := by decide +kernel
theorem dX11_isOff_1 : decode cX11_isOff 1 = .ok (.getfield 39, 3) := by decide +kernel
theorem dX11_isOff_4 : decode cX11_isOff 4 = .ok (.iconst 2, 1) := by decide +kernel
theorem dX11_isOff_5 : decode cX11_isOff 5 = .ok (.iload_n 1, 1) := by decide +kernel
theorem dX11_isOff_6 : decode cX11_isOff 6 = .ok (.imul, 1) := by decide +kernel
theorem dX11_isOff_7 : decode cX11_isOff 7 = .ok (.iaload, 1) := by decide +kernel
theorem dX11_isOff_8 : decode cX11_isOff 8 = .ok (.invokestatic 144, 3) := by decide +kernel
theorem dX11_isOff_11 : decode cX11_isOff 11 = .ok (.iload_n 2, 1) := by decide +kernel
theorem dX11_isOff_12 : decode cX11_isOff 12 = .ok (.if_icmp .gt 20, 3) := by decide +kernel
theorem dX11_isOff_15 : decode cX11_isOff 15 = .ok (.aload_n 0, 1) := by decide +kernel
theorem dX11_isOff_16 : decode cX11_isOff 16 = .ok (.getfield 39, 3) := by decide +kernel
theorem dX11_isOff_19 : decode cX11_isOff 19 = .ok (.iconst 2, 1) := by decide +kernel
theorem dX11_isOff_20 : decode cX11_isOff 20 = .ok (.iload_n 1, 1) := by decide +kernel
theorem dX11_isOff_21 : decode cX11_isOff 21 = .ok (.imul, 1) := by decide +kernel
theorem dX11_isOff_22 : decode cX11_isOff 22 = .ok (.iconst 1, 1) := by decide +kernel
theorem dX11_isOff_23 : decode cX11_isOff 23 = .ok (.iadd, 1) := by decide +kernel
theorem dX11_isOff_24 : decode cX11_isOff 24 = .ok (.iaload, 1) := by decide +kernel
theorem dX11_isOff_25 : decode cX11_isOff 25 = .ok (.invokestatic 144, 3) := by decide +kernel
theorem dX11_isOff_28 : decode cX11_isOff 28 = .ok (.iload_n 2, 1) := by decide +kernel
theorem dX11_isOff_29 : decode cX11_isOff 29 = .ok (.if_icmp .le 7, 3) := by decide +kernel
theorem dX11_isOff_32 : decode cX11_isOff 32 = .ok (.iconst 1, 1) := by decide +kernel
theorem dX11_isOff_33 : decode cX11_isOff 33 = .ok (.goto 4, 3) := by decide +kernel
theorem dX11_isOff_36 : decode cX11_isOff 36 = .ok (.iconst 0, 1) := by decide +kernel
theorem dX11_isOff_37 : decode cX11_isOff 37 = .ok (.istore_n 3, 1) := by decide +kernel
theorem dX11_isOff_38 : decode cX11_isOff 38 = .ok (.aload_n 0, 1) := by decide +kernel
theorem dX11_isOff_39 : decode cX11_isOff 39 = .ok (.iload_n 1, 1) := by decide +kernel
theorem dX11_isOff_40 : decode cX11_isOff 40 = .ok (.iconst 4, 1) := by decide +kernel
theorem dX11_isOff_41 : decode cX11_isOff 41 = .ok (.invokevirtual 83, 3) := by decide +kernel
theorem dX11_isOff_44 : decode cX11_isOff 44 = .ok (.sipush 1000, 3) := by decide +kernel
theorem dX11_isOff_47 : decode cX11_isOff 47 = .ok (.iadd, 1) := by decide +kernel
theorem dX11_isOff_48 : decode cX11_isOff 48 = .ok (.i2l, 1) := by decide +kernel
theorem dX11_isOff_49 : decode cX11_isOff 49 = .ok (.lstore 4, 2) := by decide +kernel
theorem dX11_isOff_51 : decode cX11_isOff 51 = .ok (.iload_n 3, 1) := by decide +kernel
theorem dX11_isOff_52 : decode cX11_isOff 52 = .ok (.ifCond .ne 27, 3) := by decide +kernel
theorem dX11_isOff_55 : decode cX11_isOff 55 = .ok (.aload_n 0, 1) := by decide +kernel
theorem dX11_isOff_56 : decode cX11_isOff 56 = .ok (.iload_n 1, 1) := by decide +kernel
theorem dX11_isOff_57 : decode cX11_isOff 57 = .ok (.iconst 0, 1) := by decide +kernel
theorem dX11_isOff_58 : decode cX11_isOff 58 = .ok (.invokevirtual 147, 3) := by decide +kernel
theorem dX11_isOff_61 : decode cX11_isOff 61 = .ok (.lload 4, 2) := by decide +kernel
theorem dX11_isOff_63 : decode cX11_isOff 63 = .ok (.lcmp, 1) := by decide +kernel
theorem dX11_isOff_64 : decode cX11_isOff 64 = .ok (.ifCond .lt 15, 3) := by decide +kernel
theorem dX11_isOff_67 : decode cX11_isOff 67 = .ok (.aload_n 0, 1) := by decide +kernel
theorem dX11_isOff_68 : decode cX11_isOff 68 = .ok (.iload_n 1, 1) := by decide +kernel
theorem dX11_isOff_69 : decode cX11_isOff 69 = .ok (.iconst 1, 1) := by decide +kernel
theorem dX11_isOff_70 : decode cX11_isOff 70 = .ok (.invokevirtual 147, 3) := by decide +kernel
theorem dX11_isOff_73 : decode cX11_isOff 73 = .ok (.lload 4, 2) := by decide +kernel
theorem dX11_isOff_75 : decode cX11_isOff 75 = .ok (.lcmp, 1) := by decide +kernel
theorem dX11_isOff_76 : decode cX11_isOff 76 = .ok (.ifCond .ge 7, 3) := by decide +kernel
theorem dX11_isOff_79 : decode cX11_isOff 79 = .ok (.iconst 1, 1) := by decide +kernel
theorem dX11_isOff_80 : decode cX11_isOff 80 = .ok (.goto 4, 3) := by decide +kernel
theorem dX11_isOff_83 : decode cX11_isOff 83 = .ok (.iconst 0, 1) := by decide +kernel
theorem dX11_isOff_84 : decode cX11_isOff 84 = .ok (.ireturn, 1) := by decide +kernel
set_option maxRecDepth 20000 in
theorem ggX11_worksOut_X11_takeShifts : GoodIn wsX11_worksOut wsX11_takeShifts := goodIn_r _ [17, 5, 7, 11, 18, 8, 19, 20, 21, 16, 22, 23, 24, 25, 59, 60, 61, 62, 63, 64, 65, 66, 67, 68, 69, 70, 71, 72, 73, 74, 75, 76, 77, 78, 79, 80, 81, 82, 83] (by decide +kernel) (by decide +kernel)
set_option maxRecDepth 20000 in
theorem gX11_worksOut_X11_takeShifts : GoodIn wsX11_worksOut (wsV RX11 160 RX11 yX11_takeShifts wsX11_takeShifts) := goodIn_app (goodIn_of _ (by decide +kernel)) ggX11_worksOut_X11_takeShifts
set_option maxRecDepth 20000 in
theorem ggX11_worksOut_X11_vote : GoodIn wsX11_worksOut wsX11_vote := goodIn_r _ [29, 5, 8, 18, 30, 1, 31, 32, 33, 16, 34, 19, 20, 21, 22, 59, 60, 61, 62, 63, 64, 65, 66, 67, 68, 69, 70, 71, 72, 73, 74, 75, 76, 77, 78, 79, 80, 81, 82, 83] (by decide +kernel) (by decide +kernel)
set_option maxRecDepth 20000 in
theorem gX11_worksOut_X11_vote : GoodIn wsX11_worksOut (wsV RX11 163 RX11 yX11_vote wsX11_vote) := goodIn_app (goodIn_of _ (by decide +kernel)) ggX11_worksOut_X11_vote
set_option maxRecDepth 20000 in
theorem ggX11_worksOut_X11_isOff : GoodIn wsX11_worksOut wsX11_isOff := goodIn_r _ [38, 8, 39, 40, 16, 41, 19, 20, 21, 22, 5, 42, 43, 44, 45, 59, 60, 61, 62, 63, 64, 65, 66, 67, 68, 69, 70, 71, 72, 73, 74, 75, 76, 77, 78, 79, 80, 81, 82, 83] (by decide +kernel) (by decide +kernel)
set_option maxRecDepth 20000 in
theorem gX11_worksOut_X11_isOff : GoodIn wsX11_worksOut (wsV RX11 167 RX11 yX11_isOff wsX11_isOff) := goodIn_app (goodIn_of _ (by decide +kernel)) ggX11_worksOut_X11_isOff
set_option maxRecDepth 20000 in
theorem ggX11_worksOut_X11_timeOf : GoodIn wsX11_worksOut wsX11_timeOf := goodIn_r _ [45, 8, 19, 20, 21, 16, 22, 5, 59, 60, 61, 62, 63, 64, 65, 66, 67, 68, 69, 70, 71, 72, 73, 74, 75, 76, 77, 78, 79, 80, 81, 82, 83] (by decide +kernel) (by decide +kernel)
set_option maxRecDepth 20000 in
theorem gX11_worksOut_X11_timeOf : GoodIn wsX11_worksOut (wsV RX11 147 RX11 yX11_timeOf wsX11_timeOf) := goodIn_app (goodIn_of _ (by decide +kernel)) ggX11_worksOut_X11_timeOf
set_option maxRecDepth 20000 in
theorem ggX11_worksOut_X11_velocityOf : GoodIn wsX11_worksOut wsX11_velocityOf := goodIn_r _ [49, 50, 12, 51, 19, 20, 21, 16, 22, 5, 52, 53, 54, 59, 60, 61, 62, 63, 64, 65, 66, 67, 68, 69, 70, 71, 72, 73, 74, 75, 76, 77, 78, 79, 80, 81, 82, 83] (by decide +kernel) (by decide +kernel)
set_option maxRecDepth 20000 in
theorem gX11_worksOut_X11_velocityOf : GoodIn wsX11_worksOut (wsV RX11 170 RX11 yX11_velocityOf wsX11_velocityOf) := goodIn_app (goodIn_of _ (by decide +kernel)) ggX11_worksOut_X11_velocityOf
set_option maxRecDepth 20000 in
theorem ggX11_worksOut_X11_weighted : GoodIn wsX11_worksOut wsX11_weighted := goodIn_r _ [58, 5, 6, 9, 19, 20, 21, 16, 22, 59, 60, 61, 62, 63, 64, 65, 66, 67, 68, 69, 70, 71, 72, 73, 74, 75, 76, 77, 78, 79, 80, 81, 82, 83] (by decide +kernel) (by decide +kernel)
set_option maxRecDepth 20000 in
theorem gX11_worksOut_X11_weighted : GoodIn wsX11_worksOut (wsV RX11 174 RX11 yX11_weighted wsX11_weighted) := goodIn_app (goodIn_of _ (by decide +kernel)) ggX11_worksOut_X11_weighted
set_option maxRecDepth 20000 in
theorem ggX11_worksOut_X11_of : GoodIn wsX11_worksOut wsX11_of := goodIn_r _ [22, 5, 59, 60, 61, 62, 63, 64, 65, 66, 67, 68, 69, 70, 71, 72, 73, 74, 75, 76, 77, 78, 79, 80, 81, 82, 83] (by decide +kernel) (by decide +kernel)
set_option maxRecDepth 20000 in
theorem gX11_worksOut_X11_of : GoodIn wsX11_worksOut (wsV RX11 83 RX11 yX11_of wsX11_of) := goodIn_app (goodIn_of _ (by decide +kernel)) ggX11_worksOut_X11_of
theorem dX11_worksOut_0 : decode cX11_worksOut 0 = .ok (.aload_n 0, 1) := by decide +kernel
theorem dX11_worksOut_1 : decode cX11_worksOut 1 = .ok (.iconst 0, 1) := by decide +kernel
theorem dX11_worksOut_2 : decode cX11_worksOut 2 = .ok (.putfield 141, 3) := by decide +kernel
theorem dX11_worksOut_5 : decode cX11_worksOut 5 = .ok (.aload_n 0, 1) := by decide +kernel
theorem dX11_worksOut_6 : decode cX11_worksOut 6 = .ok (.iconst 0, 1) := by decide +kernel
theorem dX11_worksOut_7 : decode cX11_worksOut 7 = .ok (.putfield 151, 3) := by decide +kernel
theorem dX11_worksOut_10 : decode cX11_worksOut 10 = .ok (.aload_n 0, 1) := by decide +kernel
theorem dX11_worksOut_11 : decode cX11_worksOut 11 = .ok (.iconst 0, 1) := by decide +kernel
theorem dX11_worksOut_12 : decode cX11_worksOut 12 = .ok (.putfield 154, 3) := by decide +kernel
theorem dX11_worksOut_15 : decode cX11_worksOut 15 = .ok (.aload_n 0, 1) := by decide +kernel
theorem dX11_worksOut_16 : decode cX11_worksOut 16 = .ok (.iconst 0, 1) := by decide +kernel
theorem dX11_worksOut_17 : decode cX11_worksOut 17 = .ok (.putfield 157, 3) := by decide +kernel
theorem dX11_worksOut_20 : decode cX11_worksOut 20 = .ok (.aload_n 0, 1) := by decide +kernel
theorem dX11_worksOut_21 : decode cX11_worksOut 21 = .ok (.invokevirtual 160, 3) := by decide +kernel
theorem dX11_worksOut_24 : decode cX11_worksOut 24 = .ok (.aload_n 0, 1) := by decide +kernel
theorem dX11_worksOut_25 : decode cX11_worksOut 25 = .ok (.iconst 0, 1) := by decide +kernel
theorem dX11_worksOut_26 : decode cX11_worksOut 26 = .ok (.invokevirtual 163, 3) := by decide +kernel
theorem dX11_worksOut_29 : decode cX11_worksOut 29 = .ok (.aload_n 0, 1) := by decide +kernel
theorem dX11_worksOut_30 : decode cX11_worksOut 30 = .ok (.iconst 1, 1) := by decide +kernel
theorem dX11_worksOut_31 : decode cX11_worksOut 31 = .ok (.invokevirtual 163, 3) := by decide +kernel
theorem dX11_worksOut_34 : decode cX11_worksOut 34 = .ok (.iconst 0, 1) := by decide +kernel
theorem dX11_worksOut_35 : decode cX11_worksOut 35 = .ok (.istore_n 2, 1) := by decide +kernel
theorem dX11_worksOut_36 : decode cX11_worksOut 36 = .ok (.iload_n 2, 1) := by decide +kernel
theorem dX11_worksOut_37 : decode cX11_worksOut 37 = .ok (.aload_n 0, 1) := by decide +kernel
theorem dX11_worksOut_38 : decode cX11_worksOut 38 = .ok (.getfield 7, 3) := by decide +kernel
theorem dX11_worksOut_41 : decode cX11_worksOut 41 = .ok (.bipush 64, 2) := by decide +kernel
theorem dX11_worksOut_43 : decode cX11_worksOut 43 = .ok (.iaload, 1) := by decide +kernel
theorem dX11_worksOut_44 : decode cX11_worksOut 44 = .ok (.if_icmp .ge 179, 3) := by decide +kernel
theorem dX11_worksOut_47 : decode cX11_worksOut 47 = .ok (.aload_n 0, 1) := by decide +kernel
theorem dX11_worksOut_48 : decode cX11_worksOut 48 = .ok (.getfield 48, 3) := by decide +kernel
theorem dX11_worksOut_51 : decode cX11_worksOut 51 = .ok (.iload_n 2, 1) := by decide +kernel
theorem dX11_worksOut_52 : decode cX11_worksOut 52 = .ok (.iconst 0, 1) := by decide +kernel
theorem dX11_worksOut_53 : decode cX11_worksOut 53 = .ok (.bastore, 1) := by decide +kernel
theorem dX11_worksOut_54 : decode cX11_worksOut 54 = .ok (.aload_n 0, 1) := by decide +kernel
theorem dX11_worksOut_55 : decode cX11_worksOut 55 = .ok (.getfield 36, 3) := by decide +kernel
theorem dX11_worksOut_58 : decode cX11_worksOut 58 = .ok (.iload_n 2, 1) := by decide +kernel
theorem dX11_worksOut_59 : decode cX11_worksOut 59 = .ok (.iaload, 1) := by decide +kernel
theorem dX11_worksOut_60 : decode cX11_worksOut 60 = .ok (.iconst 4, 1) := by decide +kernel
theorem dX11_worksOut_61 : decode cX11_worksOut 61 = .ok (.if_icmp .ne 113, 3) := by decide +kernel
theorem dX11_worksOut_64 : decode cX11_worksOut 64 = .ok (.aload_n 0, 1) := by decide +kernel
theorem dX11_worksOut_65 : decode cX11_worksOut 65 = .ok (.getfield 39, 3) := by decide +kernel
theorem dX11_worksOut_68 : decode cX11_worksOut 68 = .ok (.iconst 2, 1) := by decide +kernel
theorem dX11_worksOut_69 : decode cX11_worksOut 69 = .ok (.iload_n 2, 1) := by decide +kernel
theorem dX11_worksOut_70 : decode cX11_worksOut 70 = .ok (.imul, 1) := by decide +kernel
theorem dX11_worksOut_71 : decode cX11_worksOut 71 = .ok (.iaload, 1) := by decide +kernel
theorem dX11_worksOut_72 : decode cX11_worksOut 72 = .ok (.ifCond .ne 16, 3) := by decide +kernel
theorem dX11_worksOut_75 : decode cX11_worksOut 75 = .ok (.aload_n 0, 1) := by decide +kernel
theorem dX11_worksOut_76 : decode cX11_worksOut 76 = .ok (.getfield 39, 3) := by decide +kernel
theorem dX11_worksOut_79 : decode cX11_worksOut 79 = .ok (.iconst 2, 1) := by decide +kernel
theorem dX11_worksOut_80 : decode cX11_worksOut 80 = .ok (.iload_n 2, 1) := by decide +kernel
theorem dX11_worksOut_81 : decode cX11_worksOut 81 = .ok (.imul, 1) := by decide +kernel
theorem dX11_worksOut_82 : decode cX11_worksOut 82 = .ok (.iconst 1, 1) := by decide +kernel
theorem dX11_worksOut_83 : decode cX11_worksOut 83 = .ok (.iadd, 1) := by decide +kernel
theorem dX11_worksOut_84 : decode cX11_worksOut 84 = .ok (.iaload, 1) := by decide +kernel
theorem dX11_worksOut_85 : decode cX11_worksOut 85 = .ok (.ifCond .eq 7, 3) := by decide +kernel
theorem dX11_worksOut_88 : decode cX11_worksOut 88 = .ok (.iconst 1, 1) := by decide +kernel
theorem dX11_worksOut_89 : decode cX11_worksOut 89 = .ok (.goto 4, 3) := by decide +kernel
theorem dX11_worksOut_92 : decode cX11_worksOut 92 = .ok (.iconst 0, 1) := by decide +kernel
theorem dX11_worksOut_93 : decode cX11_worksOut 93 = .ok (.istore_n 3, 1) := by decide +kernel
theorem dX11_worksOut_94 : decode cX11_worksOut 94 = .ok (.aload_n 0, 1) := by decide +kernel
theorem dX11_worksOut_95 : decode cX11_worksOut 95 = .ok (.getfield 36, 3) := by decide +kernel
theorem dX11_worksOut_98 : decode cX11_worksOut 98 = .ok (.iload_n 2, 1) := by decide +kernel
theorem dX11_worksOut_99 : decode cX11_worksOut 99 = .ok (.aload_n 0, 1) := by decide +kernel
theorem dX11_worksOut_100 : decode cX11_worksOut 100 = .ok (.iload_n 2, 1) := by decide +kernel
theorem dX11_worksOut_101 : decode cX11_worksOut 101 = .ok (.iload_n 1, 1) := by decide +kernel
theorem dX11_worksOut_102 : decode cX11_worksOut 102 = .ok (.invokevirtual 167, 3) := by decide +kernel
theorem dX11_worksOut_105 : decode cX11_worksOut 105 = .ok (.ifCond .eq 7, 3) := by decide +kernel
theorem dX11_worksOut_108 : decode cX11_worksOut 108 = .ok (.iconst 2, 1) := by decide +kernel
theorem dX11_worksOut_109 : decode cX11_worksOut 109 = .ok (.goto 12, 3) := by decide +kernel
theorem dX11_worksOut_112 : decode cX11_worksOut 112 = .ok (.iload_n 3, 1) := by decide +kernel
theorem dX11_worksOut_113 : decode cX11_worksOut 113 = .ok (.ifCond .eq 7, 3) := by decide +kernel
theorem dX11_worksOut_116 : decode cX11_worksOut 116 = .ok (.iconst 3, 1) := by decide +kernel
theorem dX11_worksOut_117 : decode cX11_worksOut 117 = .ok (.goto 4, 3) := by decide +kernel
theorem dX11_worksOut_120 : decode cX11_worksOut 120 = .ok (.iconst 4, 1) := by decide +kernel
theorem dX11_worksOut_121 : decode cX11_worksOut 121 = .ok (.iastore, 1) := by decide +kernel
theorem dX11_worksOut_122 : decode cX11_worksOut 122 = .ok (.aload_n 0, 1) := by decide +kernel
theorem dX11_worksOut_123 : decode cX11_worksOut 123 = .ok (.dup, 1) := by decide +kernel
theorem dX11_worksOut_124 : decode cX11_worksOut 124 = .ok (.getfield 151, 3) := by decide +kernel
theorem dX11_worksOut_127 : decode cX11_worksOut 127 = .ok (.aload_n 0, 1) := by decide +kernel
theorem dX11_worksOut_128 : decode cX11_worksOut 128 = .ok (.getfield 36, 3) := by decide +kernel
theorem dX11_worksOut_131 : decode cX11_worksOut 131 = .ok (.iload_n 2, 1) := by decide +kernel
theorem dX11_worksOut_132 : decode cX11_worksOut 132 = .ok (.iaload, 1) := by decide +kernel
theorem dX11_worksOut_133 : decode cX11_worksOut 133 = .ok (.iconst 3, 1) := by decide +kernel
theorem dX11_worksOut_134 : decode cX11_worksOut 134 = .ok (.if_icmp .lt 9, 3) := by decide +kernel
theorem dX11_worksOut_137 : decode cX11_worksOut 137 = .ok (.iconst 1, 1) := by decide +kernel
theorem dX11_worksOut_138 : decode cX11_worksOut 138 = .ok (.iload_n 2, 1) := by decide +kernel
theorem dX11_worksOut_139 : decode cX11_worksOut 139 = .ok (.ishl, 1) := by decide +kernel
theorem dX11_worksOut_140 : decode cX11_worksOut 140 = .ok (.goto 4, 3) := by decide +kernel
theorem dX11_worksOut_143 : decode cX11_worksOut 143 = .ok (.iconst 0, 1) := by decide +kernel
theorem dX11_worksOut_144 : decode cX11_worksOut 144 = .ok (.ior, 1) := by decide +kernel
theorem dX11_worksOut_145 : decode cX11_worksOut 145 = .ok (.putfield 151, 3) := by decide +kernel
theorem dX11_worksOut_148 : decode cX11_worksOut 148 = .ok (.aload_n 0, 1) := by decide +kernel
theorem dX11_worksOut_149 : decode cX11_worksOut 149 = .ok (.dup, 1) := by decide +kernel
theorem dX11_worksOut_150 : decode cX11_worksOut 150 = .ok (.getfield 154, 3) := by decide +kernel
theorem dX11_worksOut_153 : decode cX11_worksOut 153 = .ok (.aload_n 0, 1) := by decide +kernel
theorem dX11_worksOut_154 : decode cX11_worksOut 154 = .ok (.getfield 36, 3) := by decide +kernel
theorem dX11_worksOut_157 : decode cX11_worksOut 157 = .ok (.iload_n 2, 1) := by decide +kernel
theorem dX11_worksOut_158 : decode cX11_worksOut 158 = .ok (.iaload, 1) := by decide +kernel
theorem dX11_worksOut_159 : decode cX11_worksOut 159 = .ok (.iconst 3, 1) := by decide +kernel
theorem dX11_worksOut_160 : decode cX11_worksOut 160 = .ok (.if_icmp .ne 9, 3) := by decide +kernel
theorem dX11_worksOut_163 : decode cX11_worksOut 163 = .ok (.iconst 1, 1) := by decide +kernel
theorem dX11_worksOut_164 : decode cX11_worksOut 164 = .ok (.iload_n 2, 1) := by decide +kernel
theorem dX11_worksOut_165 : decode cX11_worksOut 165 = .ok (.ishl, 1) := by decide +kernel
theorem dX11_worksOut_166 : decode cX11_worksOut 166 = .ok (.goto 4, 3) := by decide +kernel
theorem dX11_worksOut_169 : decode cX11_worksOut 169 = .ok (.iconst 0, 1) := by decide +kernel
theorem dX11_worksOut_170 : decode cX11_worksOut 170 = .ok (.ior, 1) := by decide +kernel
theorem dX11_worksOut_171 : decode cX11_worksOut 171 = .ok (.putfield 154, 3) := by decide +kernel
theorem dX11_worksOut_174 : decode cX11_worksOut 174 = .ok (.aload_n 0, 1) := by decide +kernel
theorem dX11_worksOut_175 : decode cX11_worksOut 175 = .ok (.getfield 36, 3) := by decide +kernel
theorem dX11_worksOut_178 : decode cX11_worksOut 178 = .ok (.iload_n 2, 1) := by decide +kernel
theorem dX11_worksOut_179 : decode cX11_worksOut 179 = .ok (.iaload, 1) := by decide +kernel
theorem dX11_worksOut_180 : decode cX11_worksOut 180 = .ok (.iconst 3, 1) := by decide +kernel
theorem dX11_worksOut_181 : decode cX11_worksOut 181 = .ok (.if_icmp .lt 36, 3) := by decide +kernel
theorem dX11_worksOut_184 : decode cX11_worksOut 184 = .ok (.aload_n 0, 1) := by decide +kernel
theorem dX11_worksOut_185 : decode cX11_worksOut 185 = .ok (.getfield 45, 3) := by decide +kernel
theorem dX11_worksOut_188 : decode cX11_worksOut 188 = .ok (.iload_n 2, 1) := by decide +kernel
theorem dX11_worksOut_189 : decode cX11_worksOut 189 = .ok (.aload_n 0, 1) := by decide +kernel
theorem dX11_worksOut_190 : decode cX11_worksOut 190 = .ok (.iload_n 2, 1) := by decide +kernel
theorem dX11_worksOut_191 : decode cX11_worksOut 191 = .ok (.aload_n 0, 1) := by decide +kernel
theorem dX11_worksOut_192 : decode cX11_worksOut 192 = .ok (.iload_n 2, 1) := by decide +kernel
theorem dX11_worksOut_193 : decode cX11_worksOut 193 = .ok (.iconst 0, 1) := by decide +kernel
theorem dX11_worksOut_194 : decode cX11_worksOut 194 = .ok (.invokevirtual 147, 3) := by decide +kernel
theorem dX11_worksOut_197 : decode cX11_worksOut 197 = .ok (.l2i, 1) := by decide +kernel
theorem dX11_worksOut_198 : decode cX11_worksOut 198 = .ok (.aload_n 0, 1) := by decide +kernel
theorem dX11_worksOut_199 : decode cX11_worksOut 199 = .ok (.iload_n 2, 1) := by decide +kernel
theorem dX11_worksOut_200 : decode cX11_worksOut 200 = .ok (.iconst 1, 1) := by decide +kernel
theorem dX11_worksOut_201 : decode cX11_worksOut 201 = .ok (.invokevirtual 147, 3) := by decide +kernel
theorem dX11_worksOut_204 : decode cX11_worksOut 204 = .ok (.l2i, 1) := by decide +kernel
theorem dX11_worksOut_205 : decode cX11_worksOut 205 = .ok (.invokevirtual 170, 3) := by decide +kernel
theorem dX11_worksOut_208 : decode cX11_worksOut 208 = .ok (.i2l, 1) := by decide +kernel
theorem dX11_worksOut_209 : decode cX11_worksOut 209 = .ok (.lastore, 1) := by decide +kernel
theorem dX11_worksOut_210 : decode cX11_worksOut 210 = .ok (.aload_n 0, 1) := by decide +kernel
theorem dX11_worksOut_211 : decode cX11_worksOut 211 = .ok (.getfield 48, 3) := by decide +kernel
theorem dX11_worksOut_214 : decode cX11_worksOut 214 = .ok (.iload_n 2, 1) := by decide +kernel
theorem dX11_worksOut_215 : decode cX11_worksOut 215 = .ok (.iconst 1, 1) := by decide +kernel
theorem dX11_worksOut_216 : decode cX11_worksOut 216 = .ok (.bastore, 1) := by decide +kernel
theorem dX11_worksOut_217 : decode cX11_worksOut 217 = .ok (.iinc 2 1, 3) := by decide +kernel
theorem dX11_worksOut_220 : decode cX11_worksOut 220 = .ok (.goto (-184), 3) := by decide +kernel
theorem dX11_worksOut_223 : decode cX11_worksOut 223 = .ok (.aload_n 0, 1) := by decide +kernel
theorem dX11_worksOut_224 : decode cX11_worksOut 224 = .ok (.getfield 151, 3) := by decide +kernel
theorem dX11_worksOut_227 : decode cX11_worksOut 227 = .ok (.ifCond .ne 5, 3) := by decide +kernel
theorem dX11_worksOut_230 : decode cX11_worksOut 230 = .ok (.iconst 0, 1) := by decide +kernel
theorem dX11_worksOut_231 : decode cX11_worksOut 231 = .ok (.ireturn, 1) := by decide +kernel
theorem dX11_worksOut_232 : decode cX11_worksOut 232 = .ok (.aload_n 0, 1) := by decide +kernel
theorem dX11_worksOut_233 : decode cX11_worksOut 233 = .ok (.aload_n 0, 1) := by decide +kernel
theorem dX11_worksOut_234 : decode cX11_worksOut 234 = .ok (.invokevirtual 174, 3) := by decide +kernel
theorem dX11_worksOut_237 : decode cX11_worksOut 237 = .ok (.putfield 178, 3) := by decide +kernel
theorem dX11_worksOut_240 : decode cX11_worksOut 240 = .ok (.aload_n 0, 1) := by decide +kernel
theorem dX11_worksOut_241 : decode cX11_worksOut 241 = .ok (.getfield 178, 3) := by decide +kernel
theorem dX11_worksOut_244 : decode cX11_worksOut 244 = .ok (.lstore_n 2, 1) := by decide +kernel
theorem dX11_worksOut_245 : decode cX11_worksOut 245 = .ok (.iconst 0, 1) := by decide +kernel
theorem dX11_worksOut_246 : decode cX11_worksOut 246 = .ok (.istore 4, 2) := by decide +kernel
theorem dX11_worksOut_248 : decode cX11_worksOut 248 = .ok (.iload 4, 2) := by decide +kernel
theorem dX11_worksOut_250 : decode cX11_worksOut 250 = .ok (.aload_n 0, 1) := by decide +kernel
theorem dX11_worksOut_251 : decode cX11_worksOut 251 = .ok (.getfield 7, 3) := by decide +kernel
theorem dX11_worksOut_254 : decode cX11_worksOut 254 = .ok (.bipush 64, 2) := by decide +kernel
theorem dX11_worksOut_256 : decode cX11_worksOut 256 = .ok (.iaload, 1) := by decide +kernel
theorem dX11_worksOut_257 : decode cX11_worksOut 257 = .ok (.if_icmp .ge 75, 3) := by decide +kernel
theorem dX11_worksOut_260 : decode cX11_worksOut 260 = .ok (.aload_n 0, 1) := by decide +kernel
theorem dX11_worksOut_261 : decode cX11_worksOut 261 = .ok (.getfield 48, 3) := by decide +kernel
theorem dX11_worksOut_264 : decode cX11_worksOut 264 = .ok (.iload 4, 2) := by decide +kernel
theorem dX11_worksOut_266 : decode cX11_worksOut 266 = .ok (.baload, 1) := by decide +kernel
theorem dX11_worksOut_267 : decode cX11_worksOut 267 = .ok (.ifCond .ne 59, 3) := by decide +kernel
theorem dX11_worksOut_270 : decode cX11_worksOut 270 = .ok (.aload_n 0, 1) := by decide +kernel
theorem dX11_worksOut_271 : decode cX11_worksOut 271 = .ok (.iload 4, 2) := by decide +kernel
theorem dX11_worksOut_273 : decode cX11_worksOut 273 = .ok (.bipush 7, 2) := by decide +kernel
theorem dX11_worksOut_275 : decode cX11_worksOut 275 = .ok (.invokevirtual 83, 3) := by decide +kernel
theorem dX11_worksOut_278 : decode cX11_worksOut 278 = .ok (.ldc 77, 2) := by decide +kernel
theorem dX11_worksOut_280 : decode cX11_worksOut 280 = .ok (.if_icmp .eq 46, 3) := by decide +kernel
theorem dX11_worksOut_283 : decode cX11_worksOut 283 = .ok (.aload_n 0, 1) := by decide +kernel
theorem dX11_worksOut_284 : decode cX11_worksOut 284 = .ok (.getfield 45, 3) := by decide +kernel
theorem dX11_worksOut_287 : decode cX11_worksOut 287 = .ok (.iload 4, 2) := by decide +kernel
theorem dX11_worksOut_289 : decode cX11_worksOut 289 = .ok (.lload_n 2, 1) := by decide +kernel
theorem dX11_worksOut_290 : decode cX11_worksOut 290 = .ok (.aload_n 0, 1) := by decide +kernel
theorem dX11_worksOut_291 : decode cX11_worksOut 291 = .ok (.iload 4, 2) := by decide +kernel
theorem dX11_worksOut_293 : decode cX11_worksOut 293 = .ok (.bipush 7, 2) := by decide +kernel
theorem dX11_worksOut_295 : decode cX11_worksOut 295 = .ok (.invokevirtual 83, 3) := by decide +kernel
theorem dX11_worksOut_298 : decode cX11_worksOut 298 = .ok (.i2l, 1) := by decide +kernel
theorem dX11_worksOut_299 : decode cX11_worksOut 299 = .ok (.lmul, 1) := by decide +kernel
theorem dX11_worksOut_300 : decode cX11_worksOut 300 = .ok (.ldc2_w 108, 3) := by decide +kernel
theorem dX11_worksOut_303 : decode cX11_worksOut 303 = .ok (.ldiv, 1) := by decide +kernel
theorem dX11_worksOut_304 : decode cX11_worksOut 304 = .ok (.lastore, 1) := by decide +kernel
theorem dX11_worksOut_305 : decode cX11_worksOut 305 = .ok (.aload_n 0, 1) := by decide +kernel
theorem dX11_worksOut_306 : decode cX11_worksOut 306 = .ok (.getfield 48, 3) := by decide +kernel
theorem dX11_worksOut_309 : decode cX11_worksOut 309 = .ok (.iload 4, 2) := by decide +kernel
theorem dX11_worksOut_311 : decode cX11_worksOut 311 = .ok (.iconst 1, 1) := by decide +kernel
theorem dX11_worksOut_312 : decode cX11_worksOut 312 = .ok (.bastore, 1) := by decide +kernel
theorem dX11_worksOut_313 : decode cX11_worksOut 313 = .ok (.aload_n 0, 1) := by decide +kernel
theorem dX11_worksOut_314 : decode cX11_worksOut 314 = .ok (.dup, 1) := by decide +kernel
theorem dX11_worksOut_315 : decode cX11_worksOut 315 = .ok (.getfield 157, 3) := by decide +kernel
theorem dX11_worksOut_318 : decode cX11_worksOut 318 = .ok (.iconst 1, 1) := by decide +kernel
theorem dX11_worksOut_319 : decode cX11_worksOut 319 = .ok (.iload 4, 2) := by decide +kernel
theorem dX11_worksOut_321 : decode cX11_worksOut 321 = .ok (.ishl, 1) := by decide +kernel
theorem dX11_worksOut_322 : decode cX11_worksOut 322 = .ok (.ior, 1) := by decide +kernel
theorem dX11_worksOut_323 : decode cX11_worksOut 323 = .ok (.putfield 157, 3) := by decide +kernel
theorem dX11_worksOut_326 : decode cX11_worksOut 326 = .ok (.iinc 4 1, 3) := by decide +kernel
theorem dX11_worksOut_329 : decode cX11_worksOut 329 = .ok (.goto (-81), 3) := by decide +kernel
theorem dX11_worksOut_332 : decode cX11_worksOut 332 = .ok (.aload_n 0, 1) := by decide +kernel
theorem dX11_worksOut_333 : decode cX11_worksOut 333 = .ok (.aload_n 0, 1) := by decide +kernel
theorem dX11_worksOut_334 : decode cX11_worksOut 334 = .ok (.invokevirtual 174, 3) := by decide +kernel
theorem dX11_worksOut_337 : decode cX11_worksOut 337 = .ok (.putfield 178, 3) := by decide +kernel
theorem dX11_worksOut_340 : decode cX11_worksOut 340 = .ok (.iconst 1, 1) := by decide +kernel
theorem dX11_worksOut_341 : decode cX11_worksOut 341 = .ok (.ireturn, 1) := by decide +kernel
set_option maxRecDepth 20000 in
theorem ggX11_weighted_X11_of : GoodIn wsX11_weighted wsX11_of := goodIn_r _ [8, 1, 9, 10, 11, 12, 13, 14, 15, 16, 17, 18, 19, 20, 21, 22, 23, 24, 25, 26, 27, 28, 29, 30, 31, 32, 33] (by decide +kernel) (by decide +kernel)
set_option maxRecDepth 20000 in
theorem gX11_weighted_X11_of : GoodIn wsX11_weighted (wsV RX11 83 RX11 yX11_of wsX11_of) := goodIn_app (goodIn_of _ (by decide +kernel)) ggX11_weighted_X11_of
theorem dX11_weighted_0 : decode cX11_weighted 0 = .ok (.lconst 0, 1) := by decide +kernel
theorem dX11_weighted_1 : decode cX11_weighted 1 = .ok (.lstore_n 1, 1) := by decide +kernel
theorem dX11_weighted_2 : decode cX11_weighted 2 = .ok (.lconst 0, 1) := by decide +kernel
theorem dX11_weighted_3 : decode cX11_weighted 3 = .ok (.lstore_n 3, 1) := by decide +kernel
theorem dX11_weighted_4 : decode cX11_weighted 4 = .ok (.iconst 0, 1) := by decide +kernel
theorem dX11_weighted_5 : decode cX11_weighted 5 = .ok (.istore 5, 2) := by decide +kernel
theorem dX11_weighted_7 : decode cX11_weighted 7 = .ok (.iload 5, 2) := by decide +kernel
theorem dX11_weighted_9 : decode cX11_weighted 9 = .ok (.aload_n 0, 1) := by decide +kernel
theorem dX11_weighted_10 : decode cX11_weighted 10 = .ok (.getfield 7, 3) := by decide +kernel
theorem dX11_weighted_13 : decode cX11_weighted 13 = .ok (.bipush 64, 2) := by decide +kernel
theorem dX11_weighted_15 : decode cX11_weighted 15 = .ok (.iaload, 1) := by decide +kernel
theorem dX11_weighted_16 : decode cX11_weighted 16 = .ok (.if_icmp .ge 67, 3) := by decide +kernel
theorem dX11_weighted_19 : decode cX11_weighted 19 = .ok (.lload_n 1, 1) := by decide +kernel
theorem dX11_weighted_20 : decode cX11_weighted 20 = .ok (.aload_n 0, 1) := by decide +kernel
theorem dX11_weighted_21 : decode cX11_weighted 21 = .ok (.getfield 48, 3) := by decide +kernel
theorem dX11_weighted_24 : decode cX11_weighted 24 = .ok (.iload 5, 2) := by decide +kernel
theorem dX11_weighted_26 : decode cX11_weighted 26 = .ok (.baload, 1) := by decide +kernel
theorem dX11_weighted_27 : decode cX11_weighted 27 = .ok (.ifCond .eq 22, 3) := by decide +kernel
theorem dX11_weighted_30 : decode cX11_weighted 30 = .ok (.aload_n 0, 1) := by decide +kernel
theorem dX11_weighted_31 : decode cX11_weighted 31 = .ok (.getfield 45, 3) := by decide +kernel
theorem dX11_weighted_34 : decode cX11_weighted 34 = .ok (.iload 5, 2) := by decide +kernel
theorem dX11_weighted_36 : decode cX11_weighted 36 = .ok (.laload, 1) := by decide +kernel
theorem dX11_weighted_37 : decode cX11_weighted 37 = .ok (.aload_n 0, 1) := by decide +kernel
theorem dX11_weighted_38 : decode cX11_weighted 38 = .ok (.iload 5, 2) := by decide +kernel
theorem dX11_weighted_40 : decode cX11_weighted 40 = .ok (.iconst 2, 1) := by decide +kernel
theorem dX11_weighted_41 : decode cX11_weighted 41 = .ok (.invokevirtual 83, 3) := by decide +kernel
theorem dX11_weighted_44 : decode cX11_weighted 44 = .ok (.i2l, 1) := by decide +kernel
theorem dX11_weighted_45 : decode cX11_weighted 45 = .ok (.lmul, 1) := by decide +kernel
theorem dX11_weighted_46 : decode cX11_weighted 46 = .ok (.goto 4, 3) := by decide +kernel
theorem dX11_weighted_49 : decode cX11_weighted 49 = .ok (.lconst 0, 1) := by decide +kernel
theorem dX11_weighted_50 : decode cX11_weighted 50 = .ok (.ladd, 1) := by decide +kernel
theorem dX11_weighted_51 : decode cX11_weighted 51 = .ok (.lstore_n 1, 1) := by decide +kernel
theorem dX11_weighted_52 : decode cX11_weighted 52 = .ok (.lload_n 3, 1) := by decide +kernel
theorem dX11_weighted_53 : decode cX11_weighted 53 = .ok (.aload_n 0, 1) := by decide +kernel
theorem dX11_weighted_54 : decode cX11_weighted 54 = .ok (.getfield 48, 3) := by decide +kernel
theorem dX11_weighted_57 : decode cX11_weighted 57 = .ok (.iload 5, 2) := by decide +kernel
theorem dX11_weighted_59 : decode cX11_weighted 59 = .ok (.baload, 1) := by decide +kernel
theorem dX11_weighted_60 : decode cX11_weighted 60 = .ok (.ifCond .eq 14, 3) := by decide +kernel
theorem dX11_weighted_63 : decode cX11_weighted 63 = .ok (.aload_n 0, 1) := by decide +kernel
theorem dX11_weighted_64 : decode cX11_weighted 64 = .ok (.iload 5, 2) := by decide +kernel
theorem dX11_weighted_66 : decode cX11_weighted 66 = .ok (.iconst 2, 1) := by decide +kernel
theorem dX11_weighted_67 : decode cX11_weighted 67 = .ok (.invokevirtual 83, 3) := by decide +kernel
theorem dX11_weighted_70 : decode cX11_weighted 70 = .ok (.i2l, 1) := by decide +kernel
theorem dX11_weighted_71 : decode cX11_weighted 71 = .ok (.goto 4, 3) := by decide +kernel
theorem dX11_weighted_74 : decode cX11_weighted 74 = .ok (.lconst 0, 1) := by decide +kernel
theorem dX11_weighted_75 : decode cX11_weighted 75 = .ok (.ladd, 1) := by decide +kernel
theorem dX11_weighted_76 : decode cX11_weighted 76 = .ok (.lstore_n 3, 1) := by decide +kernel
theorem dX11_weighted_77 : decode cX11_weighted 77 = .ok (.iinc 5 1, 3) := by decide +kernel
theorem dX11_weighted_80 : decode cX11_weighted 80 = .ok (.goto (-73), 3) := by decide +kernel
theorem dX11_weighted_83 : decode cX11_weighted 83 = .ok (.lload_n 1, 1) := by decide +kernel
theorem dX11_weighted_84 : decode cX11_weighted 84 = .ok (.lload_n 3, 1) := by decide +kernel
theorem dX11_weighted_85 : decode cX11_weighted 85 = .ok (.ldiv, 1) := by decide +kernel
theorem dX11_weighted_86 : decode cX11_weighted 86 = .ok (.lreturn, 1) := by decide +kernel
set_option maxRecDepth 20000 in
theorem ggX11_roundVelocity_X11_factorFor : GoodIn wsX11_roundVelocity wsX11_factorFor := goodIn_r _ [7, 8, 9, 10, 11, 6, 12, 13, 14, 15, 16, 17, 18, 19, 20, 21, 22, 23, 24, 25, 26, 27, 28, 29, 30, 31, 32, 33, 34, 35, 36, 37, 38, 39, 40, 41, 42, 43, 44, 45] (by decide +kernel) (by decide +kernel)
set_option maxRecDepth 20000 in
theorem gX11_roundVelocity_X11_factorFor : GoodIn wsX11_roundVelocity (wsV RX11 182 RX11 yX11_factorFor wsX11_factorFor) := goodIn_app (goodIn_of _ (by decide +kernel)) ggX11_roundVelocity_X11_factorFor
theorem dX11_roundVelocity_0 : decode cX11_roundVelocity 0 = .ok (.aload_n 0, 1) := by decide +kernel
theorem dX11_roundVelocity_1 : decode cX11_roundVelocity 1 = .ok (.getfield 178, 3) := by decide +kernel
theorem dX11_roundVelocity_4 : decode cX11_roundVelocity 4 = .ok (.aload_n 0, 1) := by decide +kernel
theorem dX11_roundVelocity_5 : decode cX11_roundVelocity 5 = .ok (.aload_n 0, 1) := by decide +kernel
theorem dX11_roundVelocity_6 : decode cX11_roundVelocity 6 = .ok (.getfield 178, 3) := by decide +kernel
theorem dX11_roundVelocity_9 : decode cX11_roundVelocity 9 = .ok (.invokevirtual 182, 3) := by decide +kernel
theorem dX11_roundVelocity_12 : decode cX11_roundVelocity 12 = .ok (.i2l, 1) := by decide +kernel
theorem dX11_roundVelocity_13 : decode cX11_roundVelocity 13 = .ok (.lmul, 1) := by decide +kernel
theorem dX11_roundVelocity_14 : decode cX11_roundVelocity 14 = .ok (.ldc2_w 108, 3) := by decide +kernel
theorem dX11_roundVelocity_17 : decode cX11_roundVelocity 17 = .ok (.ldiv, 1) := by decide +kernel
theorem dX11_roundVelocity_18 : decode cX11_roundVelocity 18 = .ok (.l2i, 1) := by decide +kernel
theorem dX11_roundVelocity_19 : decode cX11_roundVelocity 19 = .ok (.ireturn, 1) := by decide +kernel
set_option maxRecDepth 20000 in
theorem ggX11_tells_X11_timeOf : GoodIn wsX11_tells wsX11_timeOf := goodIn_r _ [13, 14, 15, 16, 17, 12, 18, 19, 27, 28, 29, 30, 31, 32, 33, 34, 35, 36, 37, 38, 39, 40, 41, 42, 43, 44, 45, 46, 47, 48, 49, 50, 51] (by decide +kernel) (by decide +kernel)
set_option maxRecDepth 20000 in
theorem gX11_tells_X11_timeOf : GoodIn wsX11_tells (wsV RX11 147 RX11 yX11_timeOf wsX11_timeOf) := goodIn_app (goodIn_of _ (by decide +kernel)) ggX11_tells_X11_timeOf
set_option maxRecDepth 20000 in
theorem ggX11_tells_X11_lay : GoodIn wsX11_tells wsX11_lay := goodIn_r _ [23, 19, 27, 28, 29, 30, 31, 32, 33, 34, 35, 36, 37, 38, 39, 40, 41, 42, 43, 44, 45, 46, 47, 48, 49, 50, 51] (by decide +kernel) (by decide +kernel)
set_option maxRecDepth 20000 in
theorem gX11_tells_X11_lay : GoodIn wsX11_tells (wsV RX11 73 RX11 yX11_lay wsX11_lay) := goodIn_app (goodIn_of _ (by decide +kernel)) ggX11_tells_X11_lay
set_option maxRecDepth 20000 in
theorem ggX11_tells_X11_held : GoodIn wsX11_tells wsX11_held := goodIn_r _ [26] (by decide +kernel) (by decide +kernel)
set_option maxRecDepth 20000 in
theorem gX11_tells_X11_held : GoodIn wsX11_tells (va_wsS RX11 112 yX11_held wsX11_held) := goodIn_app (goodIn_of _ (by decide +kernel)) ggX11_tells_X11_held
set_option maxRecDepth 20000 in
theorem ggX11_tells_X11_of : GoodIn wsX11_tells wsX11_of := goodIn_r _ [18, 19, 27, 28, 29, 30, 31, 32, 33, 34, 35, 36, 37, 38, 39, 40, 41, 42, 43, 44, 45, 46, 47, 48, 49, 50, 51] (by decide +kernel) (by decide +kernel)
set_option maxRecDepth 20000 in
theorem gX11_tells_X11_of : GoodIn wsX11_tells (wsV RX11 83 RX11 yX11_of wsX11_of) := goodIn_app (goodIn_of _ (by decide +kernel)) ggX11_tells_X11_of
theorem dX11_tells_0 : decode cX11_tells 0 = .ok (.aload_n 0, 1) := by decide +kernel
theorem dX11_tells_1 : decode cX11_tells 1 = .ok (.getfield 36, 3) := by decide +kernel
theorem dX11_tells_4 : decode cX11_tells 4 = .ok (.iload_n 1, 1) := by decide +kernel
theorem dX11_tells_5 : decode cX11_tells 5 = .ok (.iaload, 1) := by decide +kernel
theorem dX11_tells_6 : decode cX11_tells 6 = .ok (.iconst 3, 1) := by decide +kernel
theorem dX11_tells_7 : decode cX11_tells 7 = .ok (.if_icmp .lt 7, 3) := by decide +kernel
theorem dX11_tells_10 : decode cX11_tells 10 = .ok (.iconst 1, 1) := by decide +kernel
theorem dX11_tells_11 : decode cX11_tells 11 = .ok (.goto 4, 3) := by decide +kernel
theorem dX11_tells_14 : decode cX11_tells 14 = .ok (.iconst 0, 1) := by decide +kernel
theorem dX11_tells_15 : decode cX11_tells 15 = .ok (.istore_n 2, 1) := by decide +kernel
theorem dX11_tells_16 : decode cX11_tells 16 = .ok (.iload_n 2, 1) := by decide +kernel
theorem dX11_tells_17 : decode cX11_tells 17 = .ok (.ifCond .eq 36, 3) := by decide +kernel
theorem dX11_tells_20 : decode cX11_tells 20 = .ok (.aload_n 0, 1) := by decide +kernel
theorem dX11_tells_21 : decode cX11_tells 21 = .ok (.iload_n 1, 1) := by decide +kernel
theorem dX11_tells_22 : decode cX11_tells 22 = .ok (.iconst 0, 1) := by decide +kernel
theorem dX11_tells_23 : decode cX11_tells 23 = .ok (.invokevirtual 147, 3) := by decide +kernel
theorem dX11_tells_26 : decode cX11_tells 26 = .ok (.l2i, 1) := by decide +kernel
theorem dX11_tells_27 : decode cX11_tells 27 = .ok (.istore_n 3, 1) := by decide +kernel
theorem dX11_tells_28 : decode cX11_tells 28 = .ok (.aload_n 0, 1) := by decide +kernel
theorem dX11_tells_29 : decode cX11_tells 29 = .ok (.iload_n 1, 1) := by decide +kernel
theorem dX11_tells_30 : decode cX11_tells 30 = .ok (.iconst 1, 1) := by decide +kernel
theorem dX11_tells_31 : decode cX11_tells 31 = .ok (.invokevirtual 147, 3) := by decide +kernel
theorem dX11_tells_34 : decode cX11_tells 34 = .ok (.l2i, 1) := by decide +kernel
theorem dX11_tells_35 : decode cX11_tells 35 = .ok (.istore 4, 2) := by decide +kernel
theorem dX11_tells_37 : decode cX11_tells 37 = .ok (.aload_n 0, 1) := by decide +kernel
theorem dX11_tells_38 : decode cX11_tells 38 = .ok (.iload_n 1, 1) := by decide +kernel
theorem dX11_tells_39 : decode cX11_tells 39 = .ok (.iconst 5, 1) := by decide +kernel
theorem dX11_tells_40 : decode cX11_tells 40 = .ok (.iload_n 3, 1) := by decide +kernel
theorem dX11_tells_41 : decode cX11_tells 41 = .ok (.invokevirtual 73, 3) := by decide +kernel
theorem dX11_tells_44 : decode cX11_tells 44 = .ok (.aload_n 0, 1) := by decide +kernel
theorem dX11_tells_45 : decode cX11_tells 45 = .ok (.iload_n 1, 1) := by decide +kernel
theorem dX11_tells_46 : decode cX11_tells 46 = .ok (.bipush 6, 2) := by decide +kernel
theorem dX11_tells_48 : decode cX11_tells 48 = .ok (.iload 4, 2) := by decide +kernel
theorem dX11_tells_50 : decode cX11_tells 50 = .ok (.invokevirtual 73, 3) := by decide +kernel
theorem dX11_tells_53 : decode cX11_tells 53 = .ok (.iload_n 2, 1) := by decide +kernel
theorem dX11_tells_54 : decode cX11_tells 54 = .ok (.ifCond .eq 41, 3) := by decide +kernel
theorem dX11_tells_57 : decode cX11_tells 57 = .ok (.aload_n 0, 1) := by decide +kernel
theorem dX11_tells_58 : decode cX11_tells 58 = .ok (.getfield 178, 3) := by decide +kernel
theorem dX11_tells_61 : decode cX11_tells 61 = .ok (.lconst 0, 1) := by decide +kernel
theorem dX11_tells_62 : decode cX11_tells 62 = .ok (.lcmp, 1) := by decide +kernel
theorem dX11_tells_63 : decode cX11_tells 63 = .ok (.ifCond .eq 32, 3) := by decide +kernel
theorem dX11_tells_66 : decode cX11_tells 66 = .ok (.aload_n 0, 1) := by decide +kernel
theorem dX11_tells_67 : decode cX11_tells 67 = .ok (.iload_n 1, 1) := by decide +kernel
theorem dX11_tells_68 : decode cX11_tells 68 = .ok (.bipush 7, 2) := by decide +kernel
theorem dX11_tells_70 : decode cX11_tells 70 = .ok (.aload_n 0, 1) := by decide +kernel
theorem dX11_tells_71 : decode cX11_tells 71 = .ok (.getfield 45, 3) := by decide +kernel
theorem dX11_tells_74 : decode cX11_tells 74 = .ok (.iload_n 1, 1) := by decide +kernel
theorem dX11_tells_75 : decode cX11_tells 75 = .ok (.laload, 1) := by decide +kernel
theorem dX11_tells_76 : decode cX11_tells 76 = .ok (.ldc2_w 108, 3) := by decide +kernel
theorem dX11_tells_79 : decode cX11_tells 79 = .ok (.lmul, 1) := by decide +kernel
theorem dX11_tells_80 : decode cX11_tells 80 = .ok (.aload_n 0, 1) := by decide +kernel
theorem dX11_tells_81 : decode cX11_tells 81 = .ok (.getfield 178, 3) := by decide +kernel
theorem dX11_tells_84 : decode cX11_tells 84 = .ok (.ldiv, 1) := by decide +kernel
theorem dX11_tells_85 : decode cX11_tells 85 = .ok (.ldc2_w 186, 3) := by decide +kernel
theorem dX11_tells_88 : decode cX11_tells 88 = .ok (.invokestatic 112, 3) := by decide +kernel
theorem dX11_tells_91 : decode cX11_tells 91 = .ok (.l2i, 1) := by decide +kernel
theorem dX11_tells_92 : decode cX11_tells 92 = .ok (.invokevirtual 73, 3) := by decide +kernel
theorem dX11_tells_95 : decode cX11_tells 95 = .ok (.aload_n 0, 1) := by decide +kernel
theorem dX11_tells_96 : decode cX11_tells 96 = .ok (.iload_n 1, 1) := by decide +kernel
theorem dX11_tells_97 : decode cX11_tells 97 = .ok (.bipush 8, 2) := by decide +kernel
theorem dX11_tells_99 : decode cX11_tells 99 = .ok (.aload_n 0, 1) := by decide +kernel
theorem dX11_tells_100 : decode cX11_tells 100 = .ok (.getfield 36, 3) := by decide +kernel
theorem dX11_tells_103 : decode cX11_tells 103 = .ok (.iload_n 1, 1) := by decide +kernel
theorem dX11_tells_104 : decode cX11_tells 104 = .ok (.iaload, 1) := by decide +kernel
theorem dX11_tells_105 : decode cX11_tells 105 = .ok (.invokevirtual 73, 3) := by decide +kernel
theorem dX11_tells_108 : decode cX11_tells 108 = .ok (.aload_n 0, 1) := by decide +kernel
theorem dX11_tells_109 : decode cX11_tells 109 = .ok (.iload_n 1, 1) := by decide +kernel
theorem dX11_tells_110 : decode cX11_tells 110 = .ok (.bipush 9, 2) := by decide +kernel
theorem dX11_tells_112 : decode cX11_tells 112 = .ok (.aload_n 0, 1) := by decide +kernel
theorem dX11_tells_113 : decode cX11_tells 113 = .ok (.getfield 151, 3) := by decide +kernel
theorem dX11_tells_116 : decode cX11_tells 116 = .ok (.ifCond .eq 22, 3) := by decide +kernel
theorem dX11_tells_119 : decode cX11_tells 119 = .ok (.aload_n 0, 1) := by decide +kernel
theorem dX11_tells_120 : decode cX11_tells 120 = .ok (.getfield 48, 3) := by decide +kernel
theorem dX11_tells_123 : decode cX11_tells 123 = .ok (.iload_n 1, 1) := by decide +kernel
theorem dX11_tells_124 : decode cX11_tells 124 = .ok (.baload, 1) := by decide +kernel
theorem dX11_tells_125 : decode cX11_tells 125 = .ok (.ifCond .eq 13, 3) := by decide +kernel
theorem dX11_tells_128 : decode cX11_tells 128 = .ok (.aload_n 0, 1) := by decide +kernel
theorem dX11_tells_129 : decode cX11_tells 129 = .ok (.getfield 45, 3) := by decide +kernel
theorem dX11_tells_132 : decode cX11_tells 132 = .ok (.iload_n 1, 1) := by decide +kernel
theorem dX11_tells_133 : decode cX11_tells 133 = .ok (.laload, 1) := by decide +kernel
theorem dX11_tells_134 : decode cX11_tells 134 = .ok (.l2i, 1) := by decide +kernel
theorem dX11_tells_135 : decode cX11_tells 135 = .ok (.goto 5, 3) := by decide +kernel
theorem dX11_tells_138 : decode cX11_tells 138 = .ok (.ldc 77, 2) := by decide +kernel
theorem dX11_tells_140 : decode cX11_tells 140 = .ok (.invokevirtual 73, 3) := by decide +kernel
theorem dX11_tells_143 : decode cX11_tells 143 = .ok (.aload_n 0, 1) := by decide +kernel
theorem dX11_tells_144 : decode cX11_tells 144 = .ok (.iload_n 1, 1) := by decide +kernel
theorem dX11_tells_145 : decode cX11_tells 145 = .ok (.bipush 10, 2) := by decide +kernel
theorem dX11_tells_147 : decode cX11_tells 147 = .ok (.iload_n 2, 1) := by decide +kernel
theorem dX11_tells_148 : decode cX11_tells 148 = .ok (.ifCond .eq 7, 3) := by decide +kernel
theorem dX11_tells_151 : decode cX11_tells 151 = .ok (.iconst 0, 1) := by decide +kernel
theorem dX11_tells_152 : decode cX11_tells 152 = .ok (.goto 12, 3) := by decide +kernel
theorem dX11_tells_155 : decode cX11_tells 155 = .ok (.aload_n 0, 1) := by decide +kernel
theorem dX11_tells_156 : decode cX11_tells 156 = .ok (.iload_n 1, 1) := by decide +kernel
theorem dX11_tells_157 : decode cX11_tells 157 = .ok (.bipush 10, 2) := by decide +kernel
theorem dX11_tells_159 : decode cX11_tells 159 = .ok (.invokevirtual 83, 3) := by decide +kernel
theorem dX11_tells_162 : decode cX11_tells 162 = .ok (.iconst 1, 1) := by decide +kernel
theorem dX11_tells_163 : decode cX11_tells 163 = .ok (.iadd, 1) := by decide +kernel
theorem dX11_tells_164 : decode cX11_tells 164 = .ok (.invokevirtual 73, 3) := by decide +kernel
theorem dX11_tells_167 : decode cX11_tells 167 = .ok (.aload_n 0, 1) := by decide +kernel
theorem dX11_tells_168 : decode cX11_tells 168 = .ok (.iload_n 1, 1) := by decide +kernel
theorem dX11_tells_169 : decode cX11_tells 169 = .ok (.bipush 11, 2) := by decide +kernel
theorem dX11_tells_171 : decode cX11_tells 171 = .ok (.aload_n 0, 1) := by decide +kernel
theorem dX11_tells_172 : decode cX11_tells 172 = .ok (.iload_n 1, 1) := by decide +kernel
theorem dX11_tells_173 : decode cX11_tells 173 = .ok (.bipush 11, 2) := by decide +kernel
theorem dX11_tells_175 : decode cX11_tells 175 = .ok (.invokevirtual 83, 3) := by decide +kernel
theorem dX11_tells_178 : decode cX11_tells 178 = .ok (.aload_n 0, 1) := by decide +kernel
theorem dX11_tells_179 : decode cX11_tells 179 = .ok (.getfield 36, 3) := by decide +kernel
theorem dX11_tells_182 : decode cX11_tells 182 = .ok (.iload_n 1, 1) := by decide +kernel
theorem dX11_tells_183 : decode cX11_tells 183 = .ok (.iaload, 1) := by decide +kernel
theorem dX11_tells_184 : decode cX11_tells 184 = .ok (.iconst 3, 1) := by decide +kernel
theorem dX11_tells_185 : decode cX11_tells 185 = .ok (.if_icmp .ne 7, 3) := by decide +kernel
theorem dX11_tells_188 : decode cX11_tells 188 = .ok (.iconst 1, 1) := by decide +kernel
theorem dX11_tells_189 : decode cX11_tells 189 = .ok (.goto 4, 3) := by decide +kernel
theorem dX11_tells_192 : decode cX11_tells 192 = .ok (.iconst 0, 1) := by decide +kernel
theorem dX11_tells_193 : decode cX11_tells 193 = .ok (.iadd, 1) := by decide +kernel
theorem dX11_tells_194 : decode cX11_tells 194 = .ok (.invokevirtual 73, 3) := by decide +kernel
theorem dX11_tells_197 : decode cX11_tells 197 = .ok (.aload_n 0, 1) := by decide +kernel
theorem dX11_tells_198 : decode cX11_tells 198 = .ok (.iload_n 1, 1) := by decide +kernel
theorem dX11_tells_199 : decode cX11_tells 199 = .ok (.bipush 12, 2) := by decide +kernel
theorem dX11_tells_201 : decode cX11_tells 201 = .ok (.aload_n 0, 1) := by decide +kernel
theorem dX11_tells_202 : decode cX11_tells 202 = .ok (.iload_n 1, 1) := by decide +kernel
theorem dX11_tells_203 : decode cX11_tells 203 = .ok (.bipush 12, 2) := by decide +kernel
theorem dX11_tells_205 : decode cX11_tells 205 = .ok (.invokevirtual 83, 3) := by decide +kernel
theorem dX11_tells_208 : decode cX11_tells 208 = .ok (.aload_n 0, 1) := by decide +kernel
theorem dX11_tells_209 : decode cX11_tells 209 = .ok (.getfield 36, 3) := by decide +kernel
theorem dX11_tells_212 : decode cX11_tells 212 = .ok (.iload_n 1, 1) := by decide +kernel
theorem dX11_tells_213 : decode cX11_tells 213 = .ok (.iaload, 1) := by decide +kernel
theorem dX11_tells_214 : decode cX11_tells 214 = .ok (.iconst 2, 1) := by decide +kernel
theorem dX11_tells_215 : decode cX11_tells 215 = .ok (.if_icmp .ne 7, 3) := by decide +kernel
theorem dX11_tells_218 : decode cX11_tells 218 = .ok (.iconst 1, 1) := by decide +kernel
theorem dX11_tells_219 : decode cX11_tells 219 = .ok (.goto 4, 3) := by decide +kernel
theorem dX11_tells_222 : decode cX11_tells 222 = .ok (.iconst 0, 1) := by decide +kernel
theorem dX11_tells_223 : decode cX11_tells 223 = .ok (.iadd, 1) := by decide +kernel
theorem dX11_tells_224 : decode cX11_tells 224 = .ok (.invokevirtual 73, 3) := by decide +kernel
theorem dX11_tells_227 : decode cX11_tells 227 = .ok (.return_, 1) := by decide +kernel
theorem dX11_keeps_0 : decode cX11_keeps 0 = .ok (.bipush 71, 2) := by decide +kernel
theorem dX11_keeps_2 : decode cX11_keeps 2 = .ok (.istore_n 3, 1) := by decide +kernel
theorem dX11_keeps_3 : decode cX11_keeps 3 = .ok (.iload_n 3, 1) := by decide +kernel
theorem dX11_keeps_4 : decode cX11_keeps 4 = .ok (.bipush 6, 2) := by decide +kernel
theorem dX11_keeps_6 : decode cX11_keeps 6 = .ok (.if_icmp .lt 30, 3) := by decide +kernel
theorem dX11_keeps_9 : decode cX11_keeps 9 = .ok (.aload_n 0, 1) := by decide +kernel
theorem dX11_keeps_10 : decode cX11_keeps 10 = .ok (.getfield 7, 3) := by decide +kernel
theorem dX11_keeps_13 : decode cX11_keeps 13 = .ok (.bipush 87, 2) := by decide +kernel
theorem dX11_keeps_15 : decode cX11_keeps 15 = .ok (.iload_n 3, 1) := by decide +kernel
theorem dX11_keeps_16 : decode cX11_keeps 16 = .ok (.iadd, 1) := by decide +kernel
theorem dX11_keeps_17 : decode cX11_keeps 17 = .ok (.aload_n 0, 1) := by decide +kernel
theorem dX11_keeps_18 : decode cX11_keeps 18 = .ok (.getfield 7, 3) := by decide +kernel
theorem dX11_keeps_21 : decode cX11_keeps 21 = .ok (.bipush 87, 2) := by decide +kernel
theorem dX11_keeps_23 : decode cX11_keeps 23 = .ok (.iload_n 3, 1) := by decide +kernel
theorem dX11_keeps_24 : decode cX11_keeps 24 = .ok (.iadd, 1) := by decide +kernel
theorem dX11_keeps_25 : decode cX11_keeps 25 = .ok (.bipush 6, 2) := by decide +kernel
theorem dX11_keeps_27 : decode cX11_keeps 27 = .ok (.isub, 1) := by decide +kernel
theorem dX11_keeps_28 : decode cX11_keeps 28 = .ok (.iaload, 1) := by decide +kernel
theorem dX11_keeps_29 : decode cX11_keeps 29 = .ok (.iastore, 1) := by decide +kernel
theorem dX11_keeps_30 : decode cX11_keeps 30 = .ok (.iinc 3 (-1), 3) := by decide +kernel
theorem dX11_keeps_33 : decode cX11_keeps 33 = .ok (.goto (-30), 3) := by decide +kernel
theorem dX11_keeps_36 : decode cX11_keeps 36 = .ok (.aload_n 0, 1) := by decide +kernel
theorem dX11_keeps_37 : decode cX11_keeps 37 = .ok (.getfield 7, 3) := by decide +kernel
theorem dX11_keeps_40 : decode cX11_keeps 40 = .ok (.bipush 87, 2) := by decide +kernel
theorem dX11_keeps_42 : decode cX11_keeps 42 = .ok (.iload_n 1, 1) := by decide +kernel
theorem dX11_keeps_43 : decode cX11_keeps 43 = .ok (.ifCond .eq 7, 3) := by decide +kernel
theorem dX11_keeps_46 : decode cX11_keeps 46 = .ok (.iload_n 2, 1) := by decide +kernel
theorem dX11_keeps_47 : decode cX11_keeps 47 = .ok (.goto 5, 3) := by decide +kernel
theorem dX11_keeps_50 : decode cX11_keeps 50 = .ok (.ldc 77, 2) := by decide +kernel
theorem dX11_keeps_52 : decode cX11_keeps 52 = .ok (.iastore, 1) := by decide +kernel
theorem dX11_keeps_53 : decode cX11_keeps 53 = .ok (.aload_n 0, 1) := by decide +kernel
theorem dX11_keeps_54 : decode cX11_keeps 54 = .ok (.getfield 7, 3) := by decide +kernel
theorem dX11_keeps_57 : decode cX11_keeps 57 = .ok (.bipush 88, 2) := by decide +kernel
theorem dX11_keeps_59 : decode cX11_keeps 59 = .ok (.iload_n 1, 1) := by decide +kernel
theorem dX11_keeps_60 : decode cX11_keeps 60 = .ok (.ifCond .eq 11, 3) := by decide +kernel
theorem dX11_keeps_63 : decode cX11_keeps 63 = .ok (.aload_n 0, 1) := by decide +kernel
theorem dX11_keeps_64 : decode cX11_keeps 64 = .ok (.getfield 178, 3) := by decide +kernel
theorem dX11_keeps_67 : decode cX11_keeps 67 = .ok (.l2i, 1) := by decide +kernel
theorem dX11_keeps_68 : decode cX11_keeps 68 = .ok (.goto 5, 3) := by decide +kernel
theorem dX11_keeps_71 : decode cX11_keeps 71 = .ok (.ldc 77, 2) := by decide +kernel
theorem dX11_keeps_73 : decode cX11_keeps 73 = .ok (.iastore, 1) := by decide +kernel
theorem dX11_keeps_74 : decode cX11_keeps 74 = .ok (.aload_n 0, 1) := by decide +kernel
theorem dX11_keeps_75 : decode cX11_keeps 75 = .ok (.getfield 7, 3) := by decide +kernel
theorem dX11_keeps_78 : decode cX11_keeps 78 = .ok (.bipush 89, 2) := by decide +kernel
theorem dX11_keeps_80 : decode cX11_keeps 80 = .ok (.aload_n 0, 1) := by decide +kernel
theorem dX11_keeps_81 : decode cX11_keeps 81 = .ok (.getfield 151, 3) := by decide +kernel
theorem dX11_keeps_84 : decode cX11_keeps 84 = .ok (.iastore, 1) := by decide +kernel
theorem dX11_keeps_85 : decode cX11_keeps 85 = .ok (.aload_n 0, 1) := by decide +kernel
theorem dX11_keeps_86 : decode cX11_keeps 86 = .ok (.getfield 7, 3) := by decide +kernel
theorem dX11_keeps_89 : decode cX11_keeps 89 = .ok (.bipush 90, 2) := by decide +kernel
theorem dX11_keeps_91 : decode cX11_keeps 91 = .ok (.aload_n 0, 1) := by decide +kernel
theorem dX11_keeps_92 : decode cX11_keeps 92 = .ok (.getfield 154, 3) := by decide +kernel
theorem dX11_keeps_95 : decode cX11_keeps 95 = .ok (.iastore, 1) := by decide +kernel
theorem dX11_keeps_96 : decode cX11_keeps 96 = .ok (.aload_n 0, 1) := by decide +kernel
theorem dX11_keeps_97 : decode cX11_keeps 97 = .ok (.getfield 7, 3) := by decide +kernel
theorem dX11_keeps_100 : decode cX11_keeps 100 = .ok (.bipush 91, 2) := by decide +kernel
theorem dX11_keeps_102 : decode cX11_keeps 102 = .ok (.aload_n 0, 1) := by decide +kernel
theorem dX11_keeps_103 : decode cX11_keeps 103 = .ok (.getfield 157, 3) := by decide +kernel
theorem dX11_keeps_106 : decode cX11_keeps 106 = .ok (.iastore, 1) := by decide +kernel
theorem dX11_keeps_107 : decode cX11_keeps 107 = .ok (.aload_n 0, 1) := by decide +kernel
theorem dX11_keeps_108 : decode cX11_keeps 108 = .ok (.getfield 7, 3) := by decide +kernel
theorem dX11_keeps_111 : decode cX11_keeps 111 = .ok (.bipush 92, 2) := by decide +kernel
theorem dX11_keeps_113 : decode cX11_keeps 113 = .ok (.aload_n 0, 1) := by decide +kernel
theorem dX11_keeps_114 : decode cX11_keeps 114 = .ok (.getfield 141, 3) := by decide +kernel
theorem dX11_keeps_117 : decode cX11_keeps 117 = .ok (.iastore, 1) := by decide +kernel
theorem dX11_keeps_118 : decode cX11_keeps 118 = .ok (.aload_n 0, 1) := by decide +kernel
theorem dX11_keeps_119 : decode cX11_keeps 119 = .ok (.getfield 7, 3) := by decide +kernel
theorem dX11_keeps_122 : decode cX11_keeps 122 = .ok (.bipush 86, 2) := by decide +kernel
theorem dX11_keeps_124 : decode cX11_keeps 124 = .ok (.dup2, 1) := by decide +kernel
theorem dX11_keeps_125 : decode cX11_keeps 125 = .ok (.iaload, 1) := by decide +kernel
theorem dX11_keeps_126 : decode cX11_keeps 126 = .ok (.aload_n 0, 1) := by decide +kernel
theorem dX11_keeps_127 : decode cX11_keeps 127 = .ok (.getfield 7, 3) := by decide +kernel
theorem dX11_keeps_130 : decode cX11_keeps 130 = .ok (.bipush 86, 2) := by decide +kernel
theorem dX11_keeps_132 : decode cX11_keeps 132 = .ok (.iaload, 1) := by decide +kernel
theorem dX11_keeps_133 : decode cX11_keeps 133 = .ok (.bipush 12, 2) := by decide +kernel
theorem dX11_keeps_135 : decode cX11_keeps 135 = .ok (.if_icmp .ge 7, 3) := by decide +kernel
theorem dX11_keeps_138 : decode cX11_keeps 138 = .ok (.iconst 1, 1) := by decide +kernel
theorem dX11_keeps_139 : decode cX11_keeps 139 = .ok (.goto 4, 3) := by decide +kernel
theorem dX11_keeps_142 : decode cX11_keeps 142 = .ok (.iconst 0, 1) := by decide +kernel
theorem dX11_keeps_143 : decode cX11_keeps 143 = .ok (.iadd, 1) := by decide +kernel
theorem dX11_keeps_144 : decode cX11_keeps 144 = .ok (.iastore, 1) := by decide +kernel
theorem dX11_keeps_145 : decode cX11_keeps 145 = .ok (.return_, 1) := by decide +kernel
set_option maxRecDepth 20000 in
theorem ggX11_closes_X11_worksOut : GoodIn wsX11_closes wsX11_worksOut := goodIn_r _ [9, 10, 11, 12, 13, 1, 14, 15, 16, 17, 18, 2, 3, 19, 20, 21, 8, 22, 23, 24, 25, 26, 27, 28, 29, 30, 31, 32, 33, 34, 35, 36, 37, 38, 39, 40, 41, 42, 43, 44, 45, 46, 47, 48, 49, 50, 51, 52, 53, 54, 55, 56, 57, 58, 59, 60, 61, 62, 63, 97, 98, 99, 100, 101, 102, 103, 104, 105, 106, 107, 108, 109, 110, 111, 112, 113, 114, 115, 116, 117, 118, 119, 120, 121] (by decide +kernel) (by decide +kernel)
set_option maxRecDepth 20000 in
theorem gX11_closes_X11_worksOut : GoodIn wsX11_closes (wsV RX11 188 RX11 yX11_worksOut wsX11_worksOut) := goodIn_app (goodIn_of _ (by decide +kernel)) ggX11_closes_X11_worksOut
set_option maxRecDepth 20000 in
theorem ggX11_closes_X11_roundVelocity : GoodIn wsX11_closes wsX11_roundVelocity := goodIn_r _ [67, 18, 3, 68, 69, 70, 8, 71, 1, 72, 73, 74, 75, 76, 77, 78, 79, 80, 81, 82, 83, 97, 98, 99, 100, 101, 102, 103, 104, 105, 106, 107, 108, 109, 110, 111, 112, 113, 114, 115, 116, 117, 118, 119, 120, 121] (by decide +kernel) (by decide +kernel)
set_option maxRecDepth 20000 in
theorem gX11_closes_X11_roundVelocity : GoodIn wsX11_closes (wsV RX11 191 RX11 yX11_roundVelocity wsX11_roundVelocity) := goodIn_app (goodIn_of _ (by decide +kernel)) ggX11_closes_X11_roundVelocity
set_option maxRecDepth 20000 in
theorem ggX11_closes_X11_tells : GoodIn wsX11_closes wsX11_tells := goodIn_r _ [87, 15, 18, 17, 3, 88, 11, 14, 2, 47, 48, 49, 8, 50, 16, 24, 25, 26, 27, 1, 89, 90, 91, 92, 57, 58, 59, 97, 98, 99, 100, 101, 102, 103, 104, 105, 106, 107, 108, 109, 110, 111, 112, 113, 114, 115, 116, 117, 118, 119, 120, 121] (by decide +kernel) (by decide +kernel)
set_option maxRecDepth 20000 in
theorem gX11_closes_X11_tells : GoodIn wsX11_closes (wsV RX11 194 RX11 yX11_tells wsX11_tells) := goodIn_app (goodIn_of _ (by decide +kernel)) ggX11_closes_X11_tells
set_option maxRecDepth 20000 in
theorem ggX11_closes_X11_lay : GoodIn wsX11_closes wsX11_lay := goodIn_r _ [92, 1, 97, 98, 99, 100, 101, 102, 103, 104, 105, 106, 107, 108, 109, 110, 111, 112, 113, 114, 115, 116, 117, 118, 119, 120, 121] (by decide +kernel) (by decide +kernel)
set_option maxRecDepth 20000 in
theorem gX11_closes_X11_lay : GoodIn wsX11_closes (wsV RX11 73 RX11 yX11_lay wsX11_lay) := goodIn_app (goodIn_of _ (by decide +kernel)) ggX11_closes_X11_lay
set_option maxRecDepth 20000 in
theorem ggX11_closes_X11_keeps : GoodIn wsX11_closes wsX11_keeps := goodIn_r _ [96, 1, 2, 18, 11, 12, 13, 10, 97, 98, 99, 100, 101, 102, 103, 104, 105, 106, 107, 108, 109, 110, 111, 112, 113, 114, 115, 116, 117, 118, 119, 120, 121] (by decide +kernel) (by decide +kernel)
set_option maxRecDepth 20000 in
theorem gX11_closes_X11_keeps : GoodIn wsX11_closes (wsV RX11 197 RX11 yX11_keeps wsX11_keeps) := goodIn_app (goodIn_of _ (by decide +kernel)) ggX11_closes_X11_keeps
theorem dX11_closes_0 : decode cX11_closes 0 = .ok (.aload_n 0, 1) := by decide +kernel
theorem dX11_closes_1 : decode cX11_closes 1 = .ok (.aload_n 0, 1) := by decide +kernel
theorem dX11_closes_2 : decode cX11_closes 2 = .ok (.getfield 7, 3) := by decide +kernel
theorem dX11_closes_5 : decode cX11_closes 5 = .ok (.bipush 79, 2) := by decide +kernel
theorem dX11_closes_7 : decode cX11_closes 7 = .ok (.iaload, 1) := by decide +kernel
theorem dX11_closes_8 : decode cX11_closes 8 = .ok (.invokevirtual 188, 3) := by decide +kernel
theorem dX11_closes_11 : decode cX11_closes 11 = .ok (.istore_n 1, 1) := by decide +kernel
theorem dX11_closes_12 : decode cX11_closes 12 = .ok (.iload_n 1, 1) := by decide +kernel
theorem dX11_closes_13 : decode cX11_closes 13 = .ok (.ifCond .eq 10, 3) := by decide +kernel
theorem dX11_closes_16 : decode cX11_closes 16 = .ok (.aload_n 0, 1) := by decide +kernel
theorem dX11_closes_17 : decode cX11_closes 17 = .ok (.invokevirtual 191, 3) := by decide +kernel
theorem dX11_closes_20 : decode cX11_closes 20 = .ok (.goto 5, 3) := by decide +kernel
theorem dX11_closes_23 : decode cX11_closes 23 = .ok (.ldc 77, 2) := by decide +kernel
theorem dX11_closes_25 : decode cX11_closes 25 = .ok (.istore_n 2, 1) := by decide +kernel
theorem dX11_closes_26 : decode cX11_closes 26 = .ok (.iconst 0, 1) := by decide +kernel
theorem dX11_closes_27 : decode cX11_closes 27 = .ok (.istore_n 3, 1) := by decide +kernel
theorem dX11_closes_28 : decode cX11_closes 28 = .ok (.iload_n 3, 1) := by decide +kernel
theorem dX11_closes_29 : decode cX11_closes 29 = .ok (.aload_n 0, 1) := by decide +kernel
theorem dX11_closes_30 : decode cX11_closes 30 = .ok (.getfield 7, 3) := by decide +kernel
theorem dX11_closes_33 : decode cX11_closes 33 = .ok (.bipush 64, 2) := by decide +kernel
theorem dX11_closes_35 : decode cX11_closes 35 = .ok (.iaload, 1) := by decide +kernel
theorem dX11_closes_36 : decode cX11_closes 36 = .ok (.if_icmp .ge 14, 3) := by decide +kernel
theorem dX11_closes_39 : decode cX11_closes 39 = .ok (.aload_n 0, 1) := by decide +kernel
theorem dX11_closes_40 : decode cX11_closes 40 = .ok (.iload_n 3, 1) := by decide +kernel
theorem dX11_closes_41 : decode cX11_closes 41 = .ok (.invokevirtual 194, 3) := by decide +kernel
theorem dX11_closes_44 : decode cX11_closes 44 = .ok (.iinc 3 1, 3) := by decide +kernel
theorem dX11_closes_47 : decode cX11_closes 47 = .ok (.goto (-19), 3) := by decide +kernel
theorem dX11_closes_50 : decode cX11_closes 50 = .ok (.iconst 0, 1) := by decide +kernel
theorem dX11_closes_51 : decode cX11_closes 51 = .ok (.istore_n 3, 1) := by decide +kernel
theorem dX11_closes_52 : decode cX11_closes 52 = .ok (.iload_n 3, 1) := by decide +kernel
theorem dX11_closes_53 : decode cX11_closes 53 = .ok (.aload_n 0, 1) := by decide +kernel
theorem dX11_closes_54 : decode cX11_closes 54 = .ok (.getfield 7, 3) := by decide +kernel
theorem dX11_closes_57 : decode cX11_closes 57 = .ok (.bipush 64, 2) := by decide +kernel
theorem dX11_closes_59 : decode cX11_closes 59 = .ok (.iaload, 1) := by decide +kernel
theorem dX11_closes_60 : decode cX11_closes 60 = .ok (.if_icmp .ge 18, 3) := by decide +kernel
theorem dX11_closes_63 : decode cX11_closes 63 = .ok (.aload_n 0, 1) := by decide +kernel
theorem dX11_closes_64 : decode cX11_closes 64 = .ok (.iload_n 3, 1) := by decide +kernel
theorem dX11_closes_65 : decode cX11_closes 65 = .ok (.bipush 13, 2) := by decide +kernel
theorem dX11_closes_67 : decode cX11_closes 67 = .ok (.ldc 77, 2) := by decide +kernel
theorem dX11_closes_69 : decode cX11_closes 69 = .ok (.invokevirtual 73, 3) := by decide +kernel
theorem dX11_closes_72 : decode cX11_closes 72 = .ok (.iinc 3 1, 3) := by decide +kernel
theorem dX11_closes_75 : decode cX11_closes 75 = .ok (.goto (-23), 3) := by decide +kernel
theorem dX11_closes_78 : decode cX11_closes 78 = .ok (.aload_n 0, 1) := by decide +kernel
theorem dX11_closes_79 : decode cX11_closes 79 = .ok (.iload_n 1, 1) := by decide +kernel
theorem dX11_closes_80 : decode cX11_closes 80 = .ok (.iload_n 2, 1) := by decide +kernel
theorem dX11_closes_81 : decode cX11_closes 81 = .ok (.invokevirtual 197, 3) := by decide +kernel
theorem dX11_closes_84 : decode cX11_closes 84 = .ok (.aload_n 0, 1) := by decide +kernel
theorem dX11_closes_85 : decode cX11_closes 85 = .ok (.getfield 7, 3) := by decide +kernel
theorem dX11_closes_88 : decode cX11_closes 88 = .ok (.bipush 84, 2) := by decide +kernel
theorem dX11_closes_90 : decode cX11_closes 90 = .ok (.dup2, 1) := by decide +kernel
theorem dX11_closes_91 : decode cX11_closes 91 = .ok (.iaload, 1) := by decide +kernel
theorem dX11_closes_92 : decode cX11_closes 92 = .ok (.iconst 1, 1) := by decide +kernel
theorem dX11_closes_93 : decode cX11_closes 93 = .ok (.iadd, 1) := by decide +kernel
theorem dX11_closes_94 : decode cX11_closes 94 = .ok (.iastore, 1) := by decide +kernel
theorem dX11_closes_95 : decode cX11_closes 95 = .ok (.aload_n 0, 1) := by decide +kernel
theorem dX11_closes_96 : decode cX11_closes 96 = .ok (.getfield 7, 3) := by decide +kernel
theorem dX11_closes_99 : decode cX11_closes 99 = .ok (.bipush 85, 2) := by decide +kernel
theorem dX11_closes_101 : decode cX11_closes 101 = .ok (.dup2, 1) := by decide +kernel
theorem dX11_closes_102 : decode cX11_closes 102 = .ok (.iaload, 1) := by decide +kernel
theorem dX11_closes_103 : decode cX11_closes 103 = .ok (.iload_n 1, 1) := by decide +kernel
theorem dX11_closes_104 : decode cX11_closes 104 = .ok (.ifCond .eq 7, 3) := by decide +kernel
theorem dX11_closes_107 : decode cX11_closes 107 = .ok (.iconst 0, 1) := by decide +kernel
theorem dX11_closes_108 : decode cX11_closes 108 = .ok (.goto 4, 3) := by decide +kernel
theorem dX11_closes_111 : decode cX11_closes 111 = .ok (.iconst 1, 1) := by decide +kernel
theorem dX11_closes_112 : decode cX11_closes 112 = .ok (.iadd, 1) := by decide +kernel
theorem dX11_closes_113 : decode cX11_closes 113 = .ok (.iastore, 1) := by decide +kernel
theorem dX11_closes_114 : decode cX11_closes 114 = .ok (.iload_n 1, 1) := by decide +kernel
theorem dX11_closes_115 : decode cX11_closes 115 = .ok (.ifCond .eq 69, 3) := by decide +kernel
theorem dX11_closes_118 : decode cX11_closes 118 = .ok (.iload_n 2, 1) := by decide +kernel
theorem dX11_closes_119 : decode cX11_closes 119 = .ok (.i2l, 1) := by decide +kernel
theorem dX11_closes_120 : decode cX11_closes 120 = .ok (.aload_n 0, 1) := by decide +kernel
theorem dX11_closes_121 : decode cX11_closes 121 = .ok (.getfield 7, 3) := by decide +kernel
theorem dX11_closes_124 : decode cX11_closes 124 = .ok (.bipush 81, 2) := by decide +kernel
theorem dX11_closes_126 : decode cX11_closes 126 = .ok (.iaload, 1) := by decide +kernel
theorem dX11_closes_127 : decode cX11_closes 127 = .ok (.i2l, 1) := by decide +kernel
theorem dX11_closes_128 : decode cX11_closes 128 = .ok (.lmul, 1) := by decide +kernel
theorem dX11_closes_129 : decode cX11_closes 129 = .ok (.aload_n 0, 1) := by decide +kernel
theorem dX11_closes_130 : decode cX11_closes 130 = .ok (.getfield 7, 3) := by decide +kernel
theorem dX11_closes_133 : decode cX11_closes 133 = .ok (.bipush 82, 2) := by decide +kernel
theorem dX11_closes_135 : decode cX11_closes 135 = .ok (.iaload, 1) := by decide +kernel
theorem dX11_closes_136 : decode cX11_closes 136 = .ok (.i2l, 1) := by decide +kernel
theorem dX11_closes_137 : decode cX11_closes 137 = .ok (.lmul, 1) := by decide +kernel
theorem dX11_closes_138 : decode cX11_closes 138 = .ok (.ldc2_w 108, 3) := by decide +kernel
theorem dX11_closes_141 : decode cX11_closes 141 = .ok (.ldiv, 1) := by decide +kernel
theorem dX11_closes_142 : decode cX11_closes 142 = .ok (.lstore_n 3, 1) := by decide +kernel
theorem dX11_closes_143 : decode cX11_closes 143 = .ok (.aload_n 0, 1) := by decide +kernel
theorem dX11_closes_144 : decode cX11_closes 144 = .ok (.getfield 13, 3) := by decide +kernel
theorem dX11_closes_147 : decode cX11_closes 147 = .ok (.iconst 0, 1) := by decide +kernel
theorem dX11_closes_148 : decode cX11_closes 148 = .ok (.dup2, 1) := by decide +kernel
theorem dX11_closes_149 : decode cX11_closes 149 = .ok (.laload, 1) := by decide +kernel
theorem dX11_closes_150 : decode cX11_closes 150 = .ok (.lload_n 3, 1) := by decide +kernel
theorem dX11_closes_151 : decode cX11_closes 151 = .ok (.lconst 0, 1) := by decide +kernel
theorem dX11_closes_152 : decode cX11_closes 152 = .ok (.lcmp, 1) := by decide +kernel
theorem dX11_closes_153 : decode cX11_closes 153 = .ok (.ifCond .le 7, 3) := by decide +kernel
theorem dX11_closes_156 : decode cX11_closes 156 = .ok (.lload_n 3, 1) := by decide +kernel
theorem dX11_closes_157 : decode cX11_closes 157 = .ok (.goto 4, 3) := by decide +kernel
theorem dX11_closes_160 : decode cX11_closes 160 = .ok (.lconst 0, 1) := by decide +kernel
theorem dX11_closes_161 : decode cX11_closes 161 = .ok (.ladd, 1) := by decide +kernel
theorem dX11_closes_162 : decode cX11_closes 162 = .ok (.lastore, 1) := by decide +kernel
theorem dX11_closes_163 : decode cX11_closes 163 = .ok (.aload_n 0, 1) := by decide +kernel
theorem dX11_closes_164 : decode cX11_closes 164 = .ok (.getfield 13, 3) := by decide +kernel
theorem dX11_closes_167 : decode cX11_closes 167 = .ok (.iconst 1, 1) := by decide +kernel
theorem dX11_closes_168 : decode cX11_closes 168 = .ok (.dup2, 1) := by decide +kernel
theorem dX11_closes_169 : decode cX11_closes 169 = .ok (.laload, 1) := by decide +kernel
theorem dX11_closes_170 : decode cX11_closes 170 = .ok (.lload_n 3, 1) := by decide +kernel
theorem dX11_closes_171 : decode cX11_closes 171 = .ok (.lconst 0, 1) := by decide +kernel
theorem dX11_closes_172 : decode cX11_closes 172 = .ok (.lcmp, 1) := by decide +kernel
theorem dX11_closes_173 : decode cX11_closes 173 = .ok (.ifCond .ge 8, 3) := by decide +kernel
theorem dX11_closes_176 : decode cX11_closes 176 = .ok (.lload_n 3, 1) := by decide +kernel
theorem dX11_closes_177 : decode cX11_closes 177 = .ok (.lneg, 1) := by decide +kernel
theorem dX11_closes_178 : decode cX11_closes 178 = .ok (.goto 4, 3) := by decide +kernel
theorem dX11_closes_181 : decode cX11_closes 181 = .ok (.lconst 0, 1) := by decide +kernel
theorem dX11_closes_182 : decode cX11_closes 182 = .ok (.ladd, 1) := by decide +kernel
theorem dX11_closes_183 : decode cX11_closes 183 = .ok (.lastore, 1) := by decide +kernel
theorem dX11_closes_184 : decode cX11_closes 184 = .ok (.iload_n 2, 1) := by decide +kernel
theorem dX11_closes_185 : decode cX11_closes 185 = .ok (.ireturn, 1) := by decide +kernel
set_option maxRecDepth 20000 in
theorem ggX11_close_X11_records : GoodIn wsX11_close wsX11_records := goodIn_r _ [7, 8, 9, 10, 1, 11, 109, 110, 111, 112, 113, 114, 115, 116, 117, 118, 119, 120, 121, 122, 123, 124, 125, 126, 127, 128, 129, 130, 131, 132, 133] (by decide +kernel) (by decide +kernel)
set_option maxRecDepth 20000 in
theorem gX11_close_X11_records : GoodIn wsX11_close (wsV RX11 70 RX11 yX11_records wsX11_records) := goodIn_app (goodIn_of _ (by decide +kernel)) ggX11_close_X11_records
set_option maxRecDepth 20000 in
theorem ggX11_close_X11_closes : GoodIn wsX11_close wsX11_closes := goodIn_r _ [15, 1, 16, 17, 11, 18, 19, 20, 6, 21, 22, 23, 24, 25, 26, 27, 28, 29, 30, 31, 32, 33, 34, 35, 36, 37, 38, 39, 40, 41, 42, 43, 44, 45, 46, 47, 48, 49, 50, 51, 52, 53, 54, 55, 56, 57, 58, 59, 60, 61, 62, 63, 64, 65, 66, 67, 68, 69, 70, 71, 72, 73, 74, 75, 76, 77, 78, 79, 80, 81, 82, 83, 84, 85, 86, 87, 88, 89, 90, 91, 92, 93, 94, 95, 96, 97, 98, 99, 100, 101, 102, 103, 104, 105, 106, 107, 108, 109, 110, 111, 112, 113, 114, 115, 116, 117, 118, 119, 120, 121, 122, 123, 124, 125, 126, 127, 128, 129, 130, 131, 132, 133] (by decide +kernel) (by decide +kernel)
set_option maxRecDepth 20000 in
theorem gX11_close_X11_closes : GoodIn wsX11_close (wsV RX11 201 RX11 yX11_closes wsX11_closes) := goodIn_app (goodIn_of _ (by decide +kernel)) ggX11_close_X11_closes
theorem dX11_close_0 : decode cX11_close 0 = .ok (.aload_n 0, 1) := by decide +kernel
theorem dX11_close_1 : decode cX11_close 1 = .ok (.getfield 7, 3) := by decide +kernel
theorem dX11_close_4 : decode cX11_close 4 = .ok (.bipush 64, 2) := by decide +kernel
theorem dX11_close_6 : decode cX11_close 6 = .ok (.iaload, 1) := by decide +kernel
theorem dX11_close_7 : decode cX11_close 7 = .ok (.ifCond .ne 6, 3) := by decide +kernel
theorem dX11_close_10 : decode cX11_close 10 = .ok (.ldc 98, 2) := by decide +kernel
theorem dX11_close_12 : decode cX11_close 12 = .ok (.ireturn, 1) := by decide +kernel
theorem dX11_close_13 : decode cX11_close 13 = .ok (.aload_n 0, 1) := by decide +kernel
theorem dX11_close_14 : decode cX11_close 14 = .ok (.invokevirtual 70, 3) := by decide +kernel
theorem dX11_close_17 : decode cX11_close 17 = .ok (.aload_n 0, 1) := by decide +kernel
theorem dX11_close_18 : decode cX11_close 18 = .ok (.invokevirtual 201, 3) := by decide +kernel
theorem dX11_close_21 : decode cX11_close 21 = .ok (.ireturn, 1) := by decide +kernel
set_option maxRecDepth 20000 in
theorem ggX11_exchanges_X11_of : GoodIn wsX11_exchanges wsX11_of := goodIn_r _ [5, 6, 11, 12, 13, 14, 15, 16, 17, 18, 19, 20, 21, 22, 23, 24, 25, 26, 27, 28, 29, 30, 31, 32, 33, 34, 35] (by decide +kernel) (by decide +kernel)
set_option maxRecDepth 20000 in
theorem gX11_exchanges_X11_of : GoodIn wsX11_exchanges (wsV RX11 83 RX11 yX11_of wsX11_of) := goodIn_app (goodIn_of _ (by decide +kernel)) ggX11_exchanges_X11_of
set_option maxRecDepth 20000 in
theorem ggX11_exchanges_X11_lay : GoodIn wsX11_exchanges wsX11_lay := goodIn_r _ [10, 6, 11, 12, 13, 14, 15, 16, 17, 18, 19, 20, 21, 22, 23, 24, 25, 26, 27, 28, 29, 30, 31, 32, 33, 34, 35] (by decide +kernel) (by decide +kernel)
set_option maxRecDepth 20000 in
theorem gX11_exchanges_X11_lay : GoodIn wsX11_exchanges (wsV RX11 73 RX11 yX11_lay wsX11_lay) := goodIn_app (goodIn_of _ (by decide +kernel)) ggX11_exchanges_X11_lay
theorem dX11_exchanges_0 : decode cX11_exchanges 0 = .ok (.aload_n 0, 1) := by decide +kernel
theorem dX11_exchanges_1 : decode cX11_exchanges 1 = .ok (.iload_n 1, 1) := by decide +kernel
theorem dX11_exchanges_2 : decode cX11_exchanges 2 = .ok (.iload_n 2, 1) := by decide +kernel
theorem dX11_exchanges_3 : decode cX11_exchanges 3 = .ok (.invokevirtual 83, 3) := by decide +kernel
theorem dX11_exchanges_6 : decode cX11_exchanges 6 = .ok (.istore_n 3, 1) := by decide +kernel
theorem dX11_exchanges_7 : decode cX11_exchanges 7 = .ok (.aload_n 0, 1) := by decide +kernel
theorem dX11_exchanges_8 : decode cX11_exchanges 8 = .ok (.iload_n 1, 1) := by decide +kernel
theorem dX11_exchanges_9 : decode cX11_exchanges 9 = .ok (.iload_n 2, 1) := by decide +kernel
theorem dX11_exchanges_10 : decode cX11_exchanges 10 = .ok (.aload_n 0, 1) := by decide +kernel
theorem dX11_exchanges_11 : decode cX11_exchanges 11 = .ok (.iload_n 1, 1) := by decide +kernel
theorem dX11_exchanges_12 : decode cX11_exchanges 12 = .ok (.iload_n 2, 1) := by decide +kernel
theorem dX11_exchanges_13 : decode cX11_exchanges 13 = .ok (.iconst 1, 1) := by decide +kernel
theorem dX11_exchanges_14 : decode cX11_exchanges 14 = .ok (.iadd, 1) := by decide +kernel
theorem dX11_exchanges_15 : decode cX11_exchanges 15 = .ok (.invokevirtual 83, 3) := by decide +kernel
theorem dX11_exchanges_18 : decode cX11_exchanges 18 = .ok (.invokevirtual 73, 3) := by decide +kernel
theorem dX11_exchanges_21 : decode cX11_exchanges 21 = .ok (.aload_n 0, 1) := by decide +kernel
theorem dX11_exchanges_22 : decode cX11_exchanges 22 = .ok (.iload_n 1, 1) := by decide +kernel
theorem dX11_exchanges_23 : decode cX11_exchanges 23 = .ok (.iload_n 2, 1) := by decide +kernel
theorem dX11_exchanges_24 : decode cX11_exchanges 24 = .ok (.iconst 1, 1) := by decide +kernel
theorem dX11_exchanges_25 : decode cX11_exchanges 25 = .ok (.iadd, 1) := by decide +kernel
theorem dX11_exchanges_26 : decode cX11_exchanges 26 = .ok (.iload_n 3, 1) := by decide +kernel
theorem dX11_exchanges_27 : decode cX11_exchanges 27 = .ok (.invokevirtual 73, 3) := by decide +kernel
theorem dX11_exchanges_30 : decode cX11_exchanges 30 = .ok (.return_, 1) := by decide +kernel
set_option maxRecDepth 20000 in
theorem ggX11_swaps_X11_of : GoodIn wsX11_swaps wsX11_of := goodIn_r _ [7, 1, 16, 17, 18, 19, 20, 21, 22, 23, 24, 25, 26, 27, 28, 29, 30, 31, 32, 33, 34, 35, 36, 37, 38, 39, 40] (by decide +kernel) (by decide +kernel)
set_option maxRecDepth 20000 in
theorem gX11_swaps_X11_of : GoodIn wsX11_swaps (wsV RX11 83 RX11 yX11_of wsX11_of) := goodIn_app (goodIn_of _ (by decide +kernel)) ggX11_swaps_X11_of
set_option maxRecDepth 20000 in
theorem ggX11_swaps_X11_exchanges : GoodIn wsX11_swaps wsX11_exchanges := goodIn_r _ [11, 3, 4, 5, 6, 7, 1, 12, 13, 14, 15, 16, 17, 18, 19, 20, 21, 22, 23, 24, 25, 26, 27, 28, 29, 30, 31, 32, 33, 34, 35, 36, 37, 38, 39, 40] (by decide +kernel) (by decide +kernel)
set_option maxRecDepth 20000 in
theorem gX11_swaps_X11_exchanges : GoodIn wsX11_swaps (wsV RX11 204 RX11 yX11_exchanges wsX11_exchanges) := goodIn_app (goodIn_of _ (by decide +kernel)) ggX11_swaps_X11_exchanges
theorem dX11_swaps_0 : decode cX11_swaps 0 = .ok (.aload_n 0, 1) := by decide +kernel
theorem dX11_swaps_1 : decode cX11_swaps 1 = .ok (.getfield 7, 3) := by decide +kernel
theorem dX11_swaps_4 : decode cX11_swaps 4 = .ok (.bipush 83, 2) := by decide +kernel
theorem dX11_swaps_6 : decode cX11_swaps 6 = .ok (.iconst 1, 1) := by decide +kernel
theorem dX11_swaps_7 : decode cX11_swaps 7 = .ok (.aload_n 0, 1) := by decide +kernel
theorem dX11_swaps_8 : decode cX11_swaps 8 = .ok (.getfield 7, 3) := by decide +kernel
theorem dX11_swaps_11 : decode cX11_swaps 11 = .ok (.bipush 83, 2) := by decide +kernel
theorem dX11_swaps_13 : decode cX11_swaps 13 = .ok (.iaload, 1) := by decide +kernel
theorem dX11_swaps_14 : decode cX11_swaps 14 = .ok (.isub, 1) := by decide +kernel
theorem dX11_swaps_15 : decode cX11_swaps 15 = .ok (.iastore, 1) := by decide +kernel
theorem dX11_swaps_16 : decode cX11_swaps 16 = .ok (.iconst 0, 1) := by decide +kernel
theorem dX11_swaps_17 : decode cX11_swaps 17 = .ok (.istore_n 1, 1) := by decide +kernel
theorem dX11_swaps_18 : decode cX11_swaps 18 = .ok (.iload_n 1, 1) := by decide +kernel
theorem dX11_swaps_19 : decode cX11_swaps 19 = .ok (.aload_n 0, 1) := by decide +kernel
theorem dX11_swaps_20 : decode cX11_swaps 20 = .ok (.getfield 7, 3) := by decide +kernel
theorem dX11_swaps_23 : decode cX11_swaps 23 = .ok (.bipush 64, 2) := by decide +kernel
theorem dX11_swaps_25 : decode cX11_swaps 25 = .ok (.iaload, 1) := by decide +kernel
theorem dX11_swaps_26 : decode cX11_swaps 26 = .ok (.if_icmp .ge 45, 3) := by decide +kernel
theorem dX11_swaps_29 : decode cX11_swaps 29 = .ok (.aload_n 0, 1) := by decide +kernel
theorem dX11_swaps_30 : decode cX11_swaps 30 = .ok (.iload_n 1, 1) := by decide +kernel
theorem dX11_swaps_31 : decode cX11_swaps 31 = .ok (.iconst 5, 1) := by decide +kernel
theorem dX11_swaps_32 : decode cX11_swaps 32 = .ok (.invokevirtual 83, 3) := by decide +kernel
theorem dX11_swaps_35 : decode cX11_swaps 35 = .ok (.ldc 77, 2) := by decide +kernel
theorem dX11_swaps_37 : decode cX11_swaps 37 = .ok (.if_icmp .eq 9, 3) := by decide +kernel
theorem dX11_swaps_40 : decode cX11_swaps 40 = .ok (.aload_n 0, 1) := by decide +kernel
theorem dX11_swaps_41 : decode cX11_swaps 41 = .ok (.iload_n 1, 1) := by decide +kernel
theorem dX11_swaps_42 : decode cX11_swaps 42 = .ok (.iconst 5, 1) := by decide +kernel
theorem dX11_swaps_43 : decode cX11_swaps 43 = .ok (.invokevirtual 204, 3) := by decide +kernel
theorem dX11_swaps_46 : decode cX11_swaps 46 = .ok (.aload_n 0, 1) := by decide +kernel
theorem dX11_swaps_47 : decode cX11_swaps 47 = .ok (.iload_n 1, 1) := by decide +kernel
theorem dX11_swaps_48 : decode cX11_swaps 48 = .ok (.bipush 13, 2) := by decide +kernel
theorem dX11_swaps_50 : decode cX11_swaps 50 = .ok (.invokevirtual 83, 3) := by decide +kernel
theorem dX11_swaps_53 : decode cX11_swaps 53 = .ok (.ldc 77, 2) := by decide +kernel
theorem dX11_swaps_55 : decode cX11_swaps 55 = .ok (.if_icmp .eq 10, 3) := by decide +kernel
theorem dX11_swaps_58 : decode cX11_swaps 58 = .ok (.aload_n 0, 1) := by decide +kernel
theorem dX11_swaps_59 : decode cX11_swaps 59 = .ok (.iload_n 1, 1) := by decide +kernel
theorem dX11_swaps_60 : decode cX11_swaps 60 = .ok (.bipush 13, 2) := by decide +kernel
theorem dX11_swaps_62 : decode cX11_swaps 62 = .ok (.invokevirtual 204, 3) := by decide +kernel
theorem dX11_swaps_65 : decode cX11_swaps 65 = .ok (.iinc 1 1, 3) := by decide +kernel
theorem dX11_swaps_68 : decode cX11_swaps 68 = .ok (.goto (-50), 3) := by decide +kernel
theorem dX11_swaps_71 : decode cX11_swaps 71 = .ok (.aload_n 0, 1) := by decide +kernel
theorem dX11_swaps_72 : decode cX11_swaps 72 = .ok (.getfield 7, 3) := by decide +kernel
theorem dX11_swaps_75 : decode cX11_swaps 75 = .ok (.bipush 83, 2) := by decide +kernel
theorem dX11_swaps_77 : decode cX11_swaps 77 = .ok (.iaload, 1) := by decide +kernel
theorem dX11_swaps_78 : decode cX11_swaps 78 = .ok (.ireturn, 1) := by decide +kernel
set_option maxRecDepth 20000 in
theorem ggX11_swap_X11_records : GoodIn wsX11_swap wsX11_records := goodIn_r _ [5, 6, 7, 8, 9, 10, 28, 29, 30, 31, 32, 33, 34, 35, 36, 37, 38, 39, 40, 41, 42, 43, 44, 45, 46, 47, 48, 49, 50, 51, 52] (by decide +kernel) (by decide +kernel)
set_option maxRecDepth 20000 in
theorem gX11_swap_X11_records : GoodIn wsX11_swap (wsV RX11 70 RX11 yX11_records wsX11_records) := goodIn_app (goodIn_of _ (by decide +kernel)) ggX11_swap_X11_records
set_option maxRecDepth 20000 in
theorem ggX11_swap_X11_swaps : GoodIn wsX11_swap wsX11_swaps := goodIn_r _ [14, 9, 15, 16, 17, 18, 4, 19, 20, 21, 22, 23, 24, 25, 26, 27, 28, 29, 30, 31, 32, 33, 34, 35, 36, 37, 38, 39, 40, 41, 42, 43, 44, 45, 46, 47, 48, 49, 50, 51, 52] (by decide +kernel) (by decide +kernel)
set_option maxRecDepth 20000 in
theorem gX11_swap_X11_swaps : GoodIn wsX11_swap (wsV RX11 208 RX11 yX11_swaps wsX11_swaps) := goodIn_app (goodIn_of _ (by decide +kernel)) ggX11_swap_X11_swaps
theorem dX11_swap_0 : decode cX11_swap 0 = .ok (.aload_n 0, 1) := by decide +kernel
theorem dX11_swap_1 : decode cX11_swap 1 = .ok (.invokevirtual 70, 3) := by decide +kernel
theorem dX11_swap_4 : decode cX11_swap 4 = .ok (.aload_n 0, 1) := by decide +kernel
theorem dX11_swap_5 : decode cX11_swap 5 = .ok (.invokevirtual 208, 3) := by decide +kernel
theorem dX11_swap_8 : decode cX11_swap 8 = .ok (.ireturn, 1) := by decide +kernel
set_option maxRecDepth 20000 in
theorem ggX11_forget_X11_isPath : GoodIn wsX11_forget wsX11_isPath := goodIn_r _ [7, 8, 9, 10, 6, 11, 28, 29, 30, 31, 32, 33, 34, 35, 36, 37, 38, 39, 40, 41, 42, 43, 44, 45, 46, 47, 48, 49, 50, 51, 52] (by decide +kernel) (by decide +kernel)
set_option maxRecDepth 20000 in
theorem gX11_forget_X11_isPath : GoodIn wsX11_forget (wsV RX11 78 RX11 yX11_isPath wsX11_isPath) := goodIn_app (goodIn_of _ (by decide +kernel)) ggX11_forget_X11_isPath
set_option maxRecDepth 20000 in
theorem ggX11_forget_X11_records : GoodIn wsX11_forget wsX11_records := goodIn_r _ [15, 16, 17, 18, 8, 19, 28, 29, 30, 31, 32, 33, 34, 35, 36, 37, 38, 39, 40, 41, 42, 43, 44, 45, 46, 47, 48, 49, 50, 51, 52] (by decide +kernel) (by decide +kernel)
set_option maxRecDepth 20000 in
theorem gX11_forget_X11_records : GoodIn wsX11_forget (wsV RX11 70 RX11 yX11_records wsX11_records) := goodIn_app (goodIn_of _ (by decide +kernel)) ggX11_forget_X11_records
set_option maxRecDepth 20000 in
theorem ggX11_forget_X11_of : GoodIn wsX11_forget wsX11_of := goodIn_r _ [23, 8, 28, 29, 30, 31, 32, 33, 34, 35, 36, 37, 38, 39, 40, 41, 42, 43, 44, 45, 46, 47, 48, 49, 50, 51, 52] (by decide +kernel) (by decide +kernel)
set_option maxRecDepth 20000 in
theorem gX11_forget_X11_of : GoodIn wsX11_forget (wsV RX11 83 RX11 yX11_of wsX11_of) := goodIn_app (goodIn_of _ (by decide +kernel)) ggX11_forget_X11_of
set_option maxRecDepth 20000 in
theorem ggX11_forget_X11_lay : GoodIn wsX11_forget wsX11_lay := goodIn_r _ [27, 8, 28, 29, 30, 31, 32, 33, 34, 35, 36, 37, 38, 39, 40, 41, 42, 43, 44, 45, 46, 47, 48, 49, 50, 51, 52] (by decide +kernel) (by decide +kernel)
set_option maxRecDepth 20000 in
theorem gX11_forget_X11_lay : GoodIn wsX11_forget (wsV RX11 73 RX11 yX11_lay wsX11_lay) := goodIn_app (goodIn_of _ (by decide +kernel)) ggX11_forget_X11_lay
theorem dX11_forget_0 : decode cX11_forget 0 = .ok (.aload_n 0, 1) := by decide +kernel
theorem dX11_forget_1 : decode cX11_forget 1 = .ok (.iload_n 1, 1) := by decide +kernel
theorem dX11_forget_2 : decode cX11_forget 2 = .ok (.invokevirtual 78, 3) := by decide +kernel
theorem dX11_forget_5 : decode cX11_forget 5 = .ok (.ifCond .ne 6, 3) := by decide +kernel
theorem dX11_forget_8 : decode cX11_forget 8 = .ok (.ldc 82, 2) := by decide +kernel
theorem dX11_forget_10 : decode cX11_forget 10 = .ok (.ireturn, 1) := by decide +kernel
theorem dX11_forget_11 : decode cX11_forget 11 = .ok (.aload_n 0, 1) := by decide +kernel
theorem dX11_forget_12 : decode cX11_forget 12 = .ok (.invokevirtual 70, 3) := by decide +kernel
theorem dX11_forget_15 : decode cX11_forget 15 = .ok (.aload_n 0, 1) := by decide +kernel
theorem dX11_forget_16 : decode cX11_forget 16 = .ok (.iload_n 1, 1) := by decide +kernel
theorem dX11_forget_17 : decode cX11_forget 17 = .ok (.iconst 5, 1) := by decide +kernel
theorem dX11_forget_18 : decode cX11_forget 18 = .ok (.invokevirtual 83, 3) := by decide +kernel
theorem dX11_forget_21 : decode cX11_forget 21 = .ok (.ldc 77, 2) := by decide +kernel
theorem dX11_forget_23 : decode cX11_forget 23 = .ok (.if_icmp .ne 7, 3) := by decide +kernel
theorem dX11_forget_26 : decode cX11_forget 26 = .ok (.iconst 0, 1) := by decide +kernel
theorem dX11_forget_27 : decode cX11_forget 27 = .ok (.goto 4, 3) := by decide +kernel
theorem dX11_forget_30 : decode cX11_forget 30 = .ok (.iconst 1, 1) := by decide +kernel
theorem dX11_forget_31 : decode cX11_forget 31 = .ok (.istore_n 2, 1) := by decide +kernel
theorem dX11_forget_32 : decode cX11_forget 32 = .ok (.aload_n 0, 1) := by decide +kernel
theorem dX11_forget_33 : decode cX11_forget 33 = .ok (.iload_n 1, 1) := by decide +kernel
theorem dX11_forget_34 : decode cX11_forget 34 = .ok (.iconst 5, 1) := by decide +kernel
theorem dX11_forget_35 : decode cX11_forget 35 = .ok (.ldc 77, 2) := by decide +kernel
theorem dX11_forget_37 : decode cX11_forget 37 = .ok (.invokevirtual 73, 3) := by decide +kernel
theorem dX11_forget_40 : decode cX11_forget 40 = .ok (.aload_n 0, 1) := by decide +kernel
theorem dX11_forget_41 : decode cX11_forget 41 = .ok (.iload_n 1, 1) := by decide +kernel
theorem dX11_forget_42 : decode cX11_forget 42 = .ok (.bipush 6, 2) := by decide +kernel
theorem dX11_forget_44 : decode cX11_forget 44 = .ok (.ldc 77, 2) := by decide +kernel
theorem dX11_forget_46 : decode cX11_forget 46 = .ok (.invokevirtual 73, 3) := by decide +kernel
theorem dX11_forget_49 : decode cX11_forget 49 = .ok (.aload_n 0, 1) := by decide +kernel
theorem dX11_forget_50 : decode cX11_forget 50 = .ok (.iload_n 1, 1) := by decide +kernel
theorem dX11_forget_51 : decode cX11_forget 51 = .ok (.bipush 7, 2) := by decide +kernel
theorem dX11_forget_53 : decode cX11_forget 53 = .ok (.ldc 77, 2) := by decide +kernel
theorem dX11_forget_55 : decode cX11_forget 55 = .ok (.invokevirtual 73, 3) := by decide +kernel
theorem dX11_forget_58 : decode cX11_forget 58 = .ok (.iload_n 2, 1) := by decide +kernel
theorem dX11_forget_59 : decode cX11_forget 59 = .ok (.ireturn, 1) := by decide +kernel
set_option maxRecDepth 20000 in
theorem ggX11_append_X11_in : GoodIn wsX11_append wsX11_in := goodIn_r _ [8] (by decide +kernel) (by decide +kernel)
set_option maxRecDepth 20000 in
theorem gX11_append_X11_in : GoodIn wsX11_append (va_wsS RX11 64 yX11_in wsX11_in) := goodIn_app (goodIn_of _ (by decide +kernel)) ggX11_append_X11_in
theorem dX11_append_0 : decode cX11_append 0 = .ok (.iload_n 1, 1) := by decide +kernel
theorem dX11_append_1 : decode cX11_append 1 = .ok (.bipush 32, 2) := by decide +kernel
theorem dX11_append_3 : decode cX11_append 3 = .ok (.bipush 126, 2) := by decide +kernel
theorem dX11_append_5 : decode cX11_append 5 = .ok (.invokestatic 64, 3) := by decide +kernel
theorem dX11_append_8 : decode cX11_append 8 = .ok (.ifCond .ne 6, 3) := by decide +kernel
theorem dX11_append_11 : decode cX11_append 11 = .ok (.ldc 68, 2) := by decide +kernel
theorem dX11_append_13 : decode cX11_append 13 = .ok (.ireturn, 1) := by decide +kernel
theorem dX11_append_14 : decode cX11_append 14 = .ok (.aload_n 0, 1) := by decide +kernel
theorem dX11_append_15 : decode cX11_append 15 = .ok (.getfield 211, 3) := by decide +kernel
theorem dX11_append_18 : decode cX11_append 18 = .ok (.bipush 100, 2) := by decide +kernel
theorem dX11_append_20 : decode cX11_append 20 = .ok (.if_icmp .ne 6, 3) := by decide +kernel
theorem dX11_append_23 : decode cX11_append 23 = .ok (.ldc 69, 2) := by decide +kernel
theorem dX11_append_25 : decode cX11_append 25 = .ok (.ireturn, 1) := by decide +kernel
theorem dX11_append_26 : decode cX11_append 26 = .ok (.aload_n 0, 1) := by decide +kernel
theorem dX11_append_27 : decode cX11_append 27 = .ok (.getfield 33, 3) := by decide +kernel
theorem dX11_append_30 : decode cX11_append 30 = .ok (.aload_n 0, 1) := by decide +kernel
theorem dX11_append_31 : decode cX11_append 31 = .ok (.getfield 211, 3) := by decide +kernel
theorem dX11_append_34 : decode cX11_append 34 = .ok (.iload_n 1, 1) := by decide +kernel
theorem dX11_append_35 : decode cX11_append 35 = .ok (.iastore, 1) := by decide +kernel
theorem dX11_append_36 : decode cX11_append 36 = .ok (.aload_n 0, 1) := by decide +kernel
theorem dX11_append_37 : decode cX11_append 37 = .ok (.dup, 1) := by decide +kernel
theorem dX11_append_38 : decode cX11_append 38 = .ok (.getfield 211, 3) := by decide +kernel
theorem dX11_append_41 : decode cX11_append 41 = .ok (.iconst 1, 1) := by decide +kernel
theorem dX11_append_42 : decode cX11_append 42 = .ok (.iadd, 1) := by decide +kernel
theorem dX11_append_43 : decode cX11_append 43 = .ok (.putfield 211, 3) := by decide +kernel
theorem dX11_append_46 : decode cX11_append 46 = .ok (.aload_n 0, 1) := by decide +kernel
theorem dX11_append_47 : decode cX11_append 47 = .ok (.getfield 211, 3) := by decide +kernel
theorem dX11_append_50 : decode cX11_append 50 = .ok (.ireturn, 1) := by decide +kernel
theorem dX11_clearText_0 : decode cX11_clearText 0 = .ok (.aload_n 0, 1) := by decide +kernel
theorem dX11_clearText_1 : decode cX11_clearText 1 = .ok (.getfield 211, 3) := by decide +kernel
theorem dX11_clearText_4 : decode cX11_clearText 4 = .ok (.istore_n 1, 1) := by decide +kernel
theorem dX11_clearText_5 : decode cX11_clearText 5 = .ok (.aload_n 0, 1) := by decide +kernel
theorem dX11_clearText_6 : decode cX11_clearText 6 = .ok (.iconst 0, 1) := by decide +kernel
theorem dX11_clearText_7 : decode cX11_clearText 7 = .ok (.putfield 211, 3) := by decide +kernel
theorem dX11_clearText_10 : decode cX11_clearText 10 = .ok (.iload_n 1, 1) := by decide +kernel
theorem dX11_clearText_11 : decode cX11_clearText 11 = .ok (.ireturn, 1) := by decide +kernel
theorem dX11_here_0 : decode cX11_here 0 = .ok (.aload_n 0, 1) := by decide +kernel
theorem dX11_here_1 : decode cX11_here 1 = .ok (.getfield 214, 3) := by decide +kernel
theorem dX11_here_4 : decode cX11_here 4 = .ok (.aload_n 0, 1) := by decide +kernel
theorem dX11_here_5 : decode cX11_here 5 = .ok (.getfield 211, 3) := by decide +kernel
theorem dX11_here_8 : decode cX11_here 8 = .ok (.if_icmp .ge 15, 3) := by decide +kernel
theorem dX11_here_11 : decode cX11_here 11 = .ok (.aload_n 0, 1) := by decide +kernel
theorem dX11_here_12 : decode cX11_here 12 = .ok (.getfield 33, 3) := by decide +kernel
theorem dX11_here_15 : decode cX11_here 15 = .ok (.aload_n 0, 1) := by decide +kernel
theorem dX11_here_16 : decode cX11_here 16 = .ok (.getfield 214, 3) := by decide +kernel
theorem dX11_here_19 : decode cX11_here 19 = .ok (.iaload, 1) := by decide +kernel
theorem dX11_here_20 : decode cX11_here 20 = .ok (.goto 4, 3) := by decide +kernel
theorem dX11_here_23 : decode cX11_here 23 = .ok (.iconst (-1), 1) := by decide +kernel
theorem dX11_here_24 : decode cX11_here 24 = .ok (.ireturn, 1) := by decide +kernel
set_option maxRecDepth 20000 in
theorem ggX11_passes_X11_here : GoodIn wsX11_passes wsX11_here := goodIn_r _ [6, 1, 7, 8, 9, 10, 11, 12, 13, 14, 15, 16, 17, 18, 19, 20, 21, 22, 23, 24, 25, 26, 27, 28, 29, 30, 31, 32, 33] (by decide +kernel) (by decide +kernel)
set_option maxRecDepth 20000 in
theorem gX11_passes_X11_here : GoodIn wsX11_passes (wsV RX11 217 RX11 yX11_here wsX11_here) := goodIn_app (goodIn_of _ (by decide +kernel)) ggX11_passes_X11_here
theorem dX11_passes_0 : decode cX11_passes 0 = .ok (.aload_n 0, 1) := by decide +kernel
theorem dX11_passes_1 : decode cX11_passes 1 = .ok (.invokevirtual 217, 3) := by decide +kernel
theorem dX11_passes_4 : decode cX11_passes 4 = .ok (.iload_n 1, 1) := by decide +kernel
theorem dX11_passes_5 : decode cX11_passes 5 = .ok (.if_icmp .ne 7, 3) := by decide +kernel
theorem dX11_passes_8 : decode cX11_passes 8 = .ok (.iconst 1, 1) := by decide +kernel
theorem dX11_passes_9 : decode cX11_passes 9 = .ok (.goto 4, 3) := by decide +kernel
theorem dX11_passes_12 : decode cX11_passes 12 = .ok (.iconst 0, 1) := by decide +kernel
theorem dX11_passes_13 : decode cX11_passes 13 = .ok (.istore_n 2, 1) := by decide +kernel
theorem dX11_passes_14 : decode cX11_passes 14 = .ok (.aload_n 0, 1) := by decide +kernel
theorem dX11_passes_15 : decode cX11_passes 15 = .ok (.dup, 1) := by decide +kernel
theorem dX11_passes_16 : decode cX11_passes 16 = .ok (.getfield 214, 3) := by decide +kernel
theorem dX11_passes_19 : decode cX11_passes 19 = .ok (.iload_n 2, 1) := by decide +kernel
theorem dX11_passes_20 : decode cX11_passes 20 = .ok (.ifCond .eq 7, 3) := by decide +kernel
theorem dX11_passes_23 : decode cX11_passes 23 = .ok (.iconst 1, 1) := by decide +kernel
theorem dX11_passes_24 : decode cX11_passes 24 = .ok (.goto 4, 3) := by decide +kernel
theorem dX11_passes_27 : decode cX11_passes 27 = .ok (.iconst 0, 1) := by decide +kernel
theorem dX11_passes_28 : decode cX11_passes 28 = .ok (.iadd, 1) := by decide +kernel
theorem dX11_passes_29 : decode cX11_passes 29 = .ok (.putfield 214, 3) := by decide +kernel
theorem dX11_passes_32 : decode cX11_passes 32 = .ok (.iload_n 2, 1) := by decide +kernel
theorem dX11_passes_33 : decode cX11_passes 33 = .ok (.ireturn, 1) := by decide +kernel
set_option maxRecDepth 20000 in
theorem ggX11_readNumber_X11_here : GoodIn wsX11_readNumber wsX11_here := goodIn_r _ [8, 1, 9, 3, 13, 14, 15, 16, 17, 18, 19, 20, 21, 22, 23, 24, 25, 26, 27, 28, 29, 30, 31, 32, 33, 34, 35, 36, 37] (by decide +kernel) (by decide +kernel)
set_option maxRecDepth 20000 in
theorem gX11_readNumber_X11_here : GoodIn wsX11_readNumber (wsV RX11 217 RX11 yX11_here wsX11_here) := goodIn_app (goodIn_of _ (by decide +kernel)) ggX11_readNumber_X11_here
set_option maxRecDepth 20000 in
theorem ggX11_readNumber_X11_in : GoodIn wsX11_readNumber wsX11_in := goodIn_r _ [12] (by decide +kernel) (by decide +kernel)
set_option maxRecDepth 20000 in
theorem gX11_readNumber_X11_in : GoodIn wsX11_readNumber (va_wsS RX11 64 yX11_in wsX11_in) := goodIn_app (goodIn_of _ (by decide +kernel)) ggX11_readNumber_X11_in
theorem dX11_readNumber_0 : decode cX11_readNumber 0 = .ok (.aload_n 0, 1) := by decide +kernel
theorem dX11_readNumber_1 : decode cX11_readNumber 1 = .ok (.getfield 214, 3) := by decide +kernel
theorem dX11_readNumber_4 : decode cX11_readNumber 4 = .ok (.istore 4, 2) := by decide +kernel
theorem dX11_readNumber_6 : decode cX11_readNumber 6 = .ok (.aload_n 0, 1) := by decide +kernel
theorem dX11_readNumber_7 : decode cX11_readNumber 7 = .ok (.getfield 54, 3) := by decide +kernel
theorem dX11_readNumber_10 : decode cX11_readNumber 10 = .ok (.iload_n 1, 1) := by decide +kernel
theorem dX11_readNumber_11 : decode cX11_readNumber 11 = .ok (.iconst 0, 1) := by decide +kernel
theorem dX11_readNumber_12 : decode cX11_readNumber 12 = .ok (.iastore, 1) := by decide +kernel
theorem dX11_readNumber_13 : decode cX11_readNumber 13 = .ok (.aload_n 0, 1) := by decide +kernel
theorem dX11_readNumber_14 : decode cX11_readNumber 14 = .ok (.invokevirtual 217, 3) := by decide +kernel
theorem dX11_readNumber_17 : decode cX11_readNumber 17 = .ok (.bipush 48, 2) := by decide +kernel
theorem dX11_readNumber_19 : decode cX11_readNumber 19 = .ok (.bipush 57, 2) := by decide +kernel
theorem dX11_readNumber_21 : decode cX11_readNumber 21 = .ok (.invokestatic 64, 3) := by decide +kernel
theorem dX11_readNumber_24 : decode cX11_readNumber 24 = .ok (.ifCond .eq 72, 3) := by decide +kernel
theorem dX11_readNumber_27 : decode cX11_readNumber 27 = .ok (.aload_n 0, 1) := by decide +kernel
theorem dX11_readNumber_28 : decode cX11_readNumber 28 = .ok (.getfield 214, 3) := by decide +kernel
theorem dX11_readNumber_31 : decode cX11_readNumber 31 = .ok (.iload 4, 2) := by decide +kernel
theorem dX11_readNumber_33 : decode cX11_readNumber 33 = .ok (.bipush 7, 2) := by decide +kernel
theorem dX11_readNumber_35 : decode cX11_readNumber 35 = .ok (.iadd, 1) := by decide +kernel
theorem dX11_readNumber_36 : decode cX11_readNumber 36 = .ok (.if_icmp .ge 60, 3) := by decide +kernel
theorem dX11_readNumber_39 : decode cX11_readNumber 39 = .ok (.aload_n 0, 1) := by decide +kernel
theorem dX11_readNumber_40 : decode cX11_readNumber 40 = .ok (.getfield 214, 3) := by decide +kernel
theorem dX11_readNumber_43 : decode cX11_readNumber 43 = .ok (.iload 4, 2) := by decide +kernel
theorem dX11_readNumber_45 : decode cX11_readNumber 45 = .ok (.if_icmp .eq 15, 3) := by decide +kernel
theorem dX11_readNumber_48 : decode cX11_readNumber 48 = .ok (.aload_n 0, 1) := by decide +kernel
theorem dX11_readNumber_49 : decode cX11_readNumber 49 = .ok (.getfield 33, 3) := by decide +kernel
theorem dX11_readNumber_52 : decode cX11_readNumber 52 = .ok (.iload 4, 2) := by decide +kernel
theorem dX11_readNumber_54 : decode cX11_readNumber 54 = .ok (.iaload, 1) := by decide +kernel
theorem dX11_readNumber_55 : decode cX11_readNumber 55 = .ok (.bipush 48, 2) := by decide +kernel
theorem dX11_readNumber_57 : decode cX11_readNumber 57 = .ok (.if_icmp .eq 39, 3) := by decide +kernel
theorem dX11_readNumber_60 : decode cX11_readNumber 60 = .ok (.aload_n 0, 1) := by decide +kernel
theorem dX11_readNumber_61 : decode cX11_readNumber 61 = .ok (.getfield 54, 3) := by decide +kernel
theorem dX11_readNumber_64 : decode cX11_readNumber 64 = .ok (.iload_n 1, 1) := by decide +kernel
theorem dX11_readNumber_65 : decode cX11_readNumber 65 = .ok (.bipush 10, 2) := by decide +kernel
theorem dX11_readNumber_67 : decode cX11_readNumber 67 = .ok (.aload_n 0, 1) := by decide +kernel
theorem dX11_readNumber_68 : decode cX11_readNumber 68 = .ok (.getfield 54, 3) := by decide +kernel
theorem dX11_readNumber_71 : decode cX11_readNumber 71 = .ok (.iload_n 1, 1) := by decide +kernel
theorem dX11_readNumber_72 : decode cX11_readNumber 72 = .ok (.iaload, 1) := by decide +kernel
theorem dX11_readNumber_73 : decode cX11_readNumber 73 = .ok (.imul, 1) := by decide +kernel
theorem dX11_readNumber_74 : decode cX11_readNumber 74 = .ok (.aload_n 0, 1) := by decide +kernel
theorem dX11_readNumber_75 : decode cX11_readNumber 75 = .ok (.invokevirtual 217, 3) := by decide +kernel
theorem dX11_readNumber_78 : decode cX11_readNumber 78 = .ok (.iadd, 1) := by decide +kernel
theorem dX11_readNumber_79 : decode cX11_readNumber 79 = .ok (.bipush 48, 2) := by decide +kernel
theorem dX11_readNumber_81 : decode cX11_readNumber 81 = .ok (.isub, 1) := by decide +kernel
theorem dX11_readNumber_82 : decode cX11_readNumber 82 = .ok (.iastore, 1) := by decide +kernel
theorem dX11_readNumber_83 : decode cX11_readNumber 83 = .ok (.aload_n 0, 1) := by decide +kernel
theorem dX11_readNumber_84 : decode cX11_readNumber 84 = .ok (.dup, 1) := by decide +kernel
theorem dX11_readNumber_85 : decode cX11_readNumber 85 = .ok (.getfield 214, 3) := by decide +kernel
theorem dX11_readNumber_88 : decode cX11_readNumber 88 = .ok (.iconst 1, 1) := by decide +kernel
theorem dX11_readNumber_89 : decode cX11_readNumber 89 = .ok (.iadd, 1) := by decide +kernel
theorem dX11_readNumber_90 : decode cX11_readNumber 90 = .ok (.putfield 214, 3) := by decide +kernel
theorem dX11_readNumber_93 : decode cX11_readNumber 93 = .ok (.goto (-80), 3) := by decide +kernel
theorem dX11_readNumber_96 : decode cX11_readNumber 96 = .ok (.aload_n 0, 1) := by decide +kernel
theorem dX11_readNumber_97 : decode cX11_readNumber 97 = .ok (.getfield 214, 3) := by decide +kernel
theorem dX11_readNumber_100 : decode cX11_readNumber 100 = .ok (.iload 4, 2) := by decide +kernel
theorem dX11_readNumber_102 : decode cX11_readNumber 102 = .ok (.if_icmp .le 21, 3) := by decide +kernel
theorem dX11_readNumber_105 : decode cX11_readNumber 105 = .ok (.aload_n 0, 1) := by decide +kernel
theorem dX11_readNumber_106 : decode cX11_readNumber 106 = .ok (.getfield 54, 3) := by decide +kernel
theorem dX11_readNumber_109 : decode cX11_readNumber 109 = .ok (.iload_n 1, 1) := by decide +kernel
theorem dX11_readNumber_110 : decode cX11_readNumber 110 = .ok (.iaload, 1) := by decide +kernel
theorem dX11_readNumber_111 : decode cX11_readNumber 111 = .ok (.iload_n 2, 1) := by decide +kernel
theorem dX11_readNumber_112 : decode cX11_readNumber 112 = .ok (.iload_n 3, 1) := by decide +kernel
theorem dX11_readNumber_113 : decode cX11_readNumber 113 = .ok (.invokestatic 64, 3) := by decide +kernel
theorem dX11_readNumber_116 : decode cX11_readNumber 116 = .ok (.ifCond .eq 7, 3) := by decide +kernel
theorem dX11_readNumber_119 : decode cX11_readNumber 119 = .ok (.iconst 1, 1) := by decide +kernel
theorem dX11_readNumber_120 : decode cX11_readNumber 120 = .ok (.goto 4, 3) := by decide +kernel
theorem dX11_readNumber_123 : decode cX11_readNumber 123 = .ok (.iconst 0, 1) := by decide +kernel
theorem dX11_readNumber_124 : decode cX11_readNumber 124 = .ok (.istore 5, 2) := by decide +kernel
theorem dX11_readNumber_126 : decode cX11_readNumber 126 = .ok (.aload_n 0, 1) := by decide +kernel
theorem dX11_readNumber_127 : decode cX11_readNumber 127 = .ok (.iload 5, 2) := by decide +kernel
theorem dX11_readNumber_129 : decode cX11_readNumber 129 = .ok (.ifCond .eq 10, 3) := by decide +kernel
theorem dX11_readNumber_132 : decode cX11_readNumber 132 = .ok (.aload_n 0, 1) := by decide +kernel
theorem dX11_readNumber_133 : decode cX11_readNumber 133 = .ok (.getfield 214, 3) := by decide +kernel
theorem dX11_readNumber_136 : decode cX11_readNumber 136 = .ok (.goto 5, 3) := by decide +kernel
theorem dX11_readNumber_139 : decode cX11_readNumber 139 = .ok (.iload 4, 2) := by decide +kernel
theorem dX11_readNumber_141 : decode cX11_readNumber 141 = .ok (.putfield 214, 3) := by decide +kernel
theorem dX11_readNumber_144 : decode cX11_readNumber 144 = .ok (.iload 5, 2) := by decide +kernel
theorem dX11_readNumber_146 : decode cX11_readNumber 146 = .ok (.ireturn, 1) := by decide +kernel
set_option maxRecDepth 20000 in
theorem ggX11_readAct_X11_here : GoodIn wsX11_readAct wsX11_here := goodIn_r _ [8, 2, 9, 10, 23, 24, 25, 26, 27, 28, 29, 30, 31, 32, 33, 34, 35, 36, 37, 38, 39, 40, 41, 42, 43, 44, 45, 46, 47] (by decide +kernel) (by decide +kernel)
set_option maxRecDepth 20000 in
theorem gX11_readAct_X11_here : GoodIn wsX11_readAct (wsV RX11 217 RX11 yX11_here wsX11_here) := goodIn_app (goodIn_of _ (by decide +kernel)) ggX11_readAct_X11_here
set_option maxRecDepth 20000 in
theorem ggX11_readAct_X11_readNumber : GoodIn wsX11_readAct wsX11_readNumber := goodIn_r _ [14, 2, 15, 10, 4, 5, 6, 7, 8, 9, 16, 17, 18, 23, 24, 25, 26, 27, 28, 29, 30, 31, 32, 33, 34, 35, 36, 37, 38, 39, 40, 41, 42, 43, 44, 45, 46, 47] (by decide +kernel) (by decide +kernel)
set_option maxRecDepth 20000 in
theorem gX11_readAct_X11_readNumber : GoodIn wsX11_readAct (wsV RX11 223 RX11 yX11_readNumber wsX11_readNumber) := goodIn_app (goodIn_of _ (by decide +kernel)) ggX11_readAct_X11_readNumber
set_option maxRecDepth 20000 in
theorem ggX11_readAct_X11_passes : GoodIn wsX11_readAct wsX11_passes := goodIn_r _ [22, 2, 4, 5, 6, 7, 8, 9, 10, 23, 24, 25, 26, 27, 28, 29, 30, 31, 32, 33, 34, 35, 36, 37, 38, 39, 40, 41, 42, 43, 44, 45, 46, 47] (by decide +kernel) (by decide +kernel)
set_option maxRecDepth 20000 in
theorem gX11_readAct_X11_passes : GoodIn wsX11_readAct (wsV RX11 226 RX11 yX11_passes wsX11_passes) := goodIn_app (goodIn_of _ (by decide +kernel)) ggX11_readAct_X11_passes
theorem dX11_readAct_0 : decode cX11_readAct 0 = .ok (.aload_n 0, 1) := by decide +kernel
theorem dX11_readAct_1 : decode cX11_readAct 1 = .ok (.aload_n 0, 1) := by decide +kernel
theorem dX11_readAct_2 : decode cX11_readAct 2 = .ok (.invokevirtual 217, 3) := by decide +kernel
theorem dX11_readAct_5 : decode cX11_readAct 5 = .ok (.putfield 220, 3) := by decide +kernel
theorem dX11_readAct_8 : decode cX11_readAct 8 = .ok (.aload_n 0, 1) := by decide +kernel
theorem dX11_readAct_9 : decode cX11_readAct 9 = .ok (.getfield 220, 3) := by decide +kernel
theorem dX11_readAct_12 : decode cX11_readAct 12 = .ok (.bipush 115, 2) := by decide +kernel
theorem dX11_readAct_14 : decode cX11_readAct 14 = .ok (.if_icmp .eq 23, 3) := by decide +kernel
theorem dX11_readAct_17 : decode cX11_readAct 17 = .ok (.aload_n 0, 1) := by decide +kernel
theorem dX11_readAct_18 : decode cX11_readAct 18 = .ok (.getfield 220, 3) := by decide +kernel
theorem dX11_readAct_21 : decode cX11_readAct 21 = .ok (.bipush 99, 2) := by decide +kernel
theorem dX11_readAct_23 : decode cX11_readAct 23 = .ok (.if_icmp .eq 14, 3) := by decide +kernel
theorem dX11_readAct_26 : decode cX11_readAct 26 = .ok (.aload_n 0, 1) := by decide +kernel
theorem dX11_readAct_27 : decode cX11_readAct 27 = .ok (.getfield 220, 3) := by decide +kernel
theorem dX11_readAct_30 : decode cX11_readAct 30 = .ok (.bipush 119, 2) := by decide +kernel
theorem dX11_readAct_32 : decode cX11_readAct 32 = .ok (.if_icmp .eq 5, 3) := by decide +kernel
theorem dX11_readAct_35 : decode cX11_readAct 35 = .ok (.iconst 0, 1) := by decide +kernel
theorem dX11_readAct_36 : decode cX11_readAct 36 = .ok (.ireturn, 1) := by decide +kernel
theorem dX11_readAct_37 : decode cX11_readAct 37 = .ok (.aload_n 0, 1) := by decide +kernel
theorem dX11_readAct_38 : decode cX11_readAct 38 = .ok (.dup, 1) := by decide +kernel
theorem dX11_readAct_39 : decode cX11_readAct 39 = .ok (.getfield 214, 3) := by decide +kernel
theorem dX11_readAct_42 : decode cX11_readAct 42 = .ok (.iconst 1, 1) := by decide +kernel
theorem dX11_readAct_43 : decode cX11_readAct 43 = .ok (.iadd, 1) := by decide +kernel
theorem dX11_readAct_44 : decode cX11_readAct 44 = .ok (.putfield 214, 3) := by decide +kernel
theorem dX11_readAct_47 : decode cX11_readAct 47 = .ok (.aload_n 0, 1) := by decide +kernel
theorem dX11_readAct_48 : decode cX11_readAct 48 = .ok (.getfield 220, 3) := by decide +kernel
theorem dX11_readAct_51 : decode cX11_readAct 51 = .ok (.bipush 115, 2) := by decide +kernel
theorem dX11_readAct_53 : decode cX11_readAct 53 = .ok (.if_icmp .ne 77, 3) := by decide +kernel
theorem dX11_readAct_56 : decode cX11_readAct 56 = .ok (.aload_n 0, 1) := by decide +kernel
theorem dX11_readAct_57 : decode cX11_readAct 57 = .ok (.iconst 0, 1) := by decide +kernel
theorem dX11_readAct_58 : decode cX11_readAct 58 = .ok (.iconst 0, 1) := by decide +kernel
theorem dX11_readAct_59 : decode cX11_readAct 59 = .ok (.iconst 3, 1) := by decide +kernel
theorem dX11_readAct_60 : decode cX11_readAct 60 = .ok (.invokevirtual 223, 3) := by decide +kernel
theorem dX11_readAct_63 : decode cX11_readAct 63 = .ok (.ifCond .eq 71, 3) := by decide +kernel
theorem dX11_readAct_66 : decode cX11_readAct 66 = .ok (.aload_n 0, 1) := by decide +kernel
theorem dX11_readAct_67 : decode cX11_readAct 67 = .ok (.bipush 102, 2) := by decide +kernel
theorem dX11_readAct_69 : decode cX11_readAct 69 = .ok (.invokevirtual 226, 3) := by decide +kernel
theorem dX11_readAct_72 : decode cX11_readAct 72 = .ok (.ifCond .eq 62, 3) := by decide +kernel
theorem dX11_readAct_75 : decode cX11_readAct 75 = .ok (.aload_n 0, 1) := by decide +kernel
theorem dX11_readAct_76 : decode cX11_readAct 76 = .ok (.iconst 1, 1) := by decide +kernel
theorem dX11_readAct_77 : decode cX11_readAct 77 = .ok (.sipush 1000, 3) := by decide +kernel
theorem dX11_readAct_80 : decode cX11_readAct 80 = .ok (.ldc 116, 2) := by decide +kernel
theorem dX11_readAct_82 : decode cX11_readAct 82 = .ok (.invokevirtual 223, 3) := by decide +kernel
theorem dX11_readAct_85 : decode cX11_readAct 85 = .ok (.ifCond .eq 49, 3) := by decide +kernel
theorem dX11_readAct_88 : decode cX11_readAct 88 = .ok (.aload_n 0, 1) := by decide +kernel
theorem dX11_readAct_89 : decode cX11_readAct 89 = .ok (.bipush 98, 2) := by decide +kernel
theorem dX11_readAct_91 : decode cX11_readAct 91 = .ok (.invokevirtual 226, 3) := by decide +kernel
theorem dX11_readAct_94 : decode cX11_readAct 94 = .ok (.ifCond .eq 40, 3) := by decide +kernel
theorem dX11_readAct_97 : decode cX11_readAct 97 = .ok (.aload_n 0, 1) := by decide +kernel
theorem dX11_readAct_98 : decode cX11_readAct 98 = .ok (.iconst 2, 1) := by decide +kernel
theorem dX11_readAct_99 : decode cX11_readAct 99 = .ok (.sipush 1000, 3) := by decide +kernel
theorem dX11_readAct_102 : decode cX11_readAct 102 = .ok (.ldc 116, 2) := by decide +kernel
theorem dX11_readAct_104 : decode cX11_readAct 104 = .ok (.invokevirtual 223, 3) := by decide +kernel
theorem dX11_readAct_107 : decode cX11_readAct 107 = .ok (.ifCond .eq 27, 3) := by decide +kernel
theorem dX11_readAct_110 : decode cX11_readAct 110 = .ok (.aload_n 0, 1) := by decide +kernel
theorem dX11_readAct_111 : decode cX11_readAct 111 = .ok (.bipush 113, 2) := by decide +kernel
theorem dX11_readAct_113 : decode cX11_readAct 113 = .ok (.invokevirtual 226, 3) := by decide +kernel
theorem dX11_readAct_116 : decode cX11_readAct 116 = .ok (.ifCond .eq 18, 3) := by decide +kernel
theorem dX11_readAct_119 : decode cX11_readAct 119 = .ok (.aload_n 0, 1) := by decide +kernel
theorem dX11_readAct_120 : decode cX11_readAct 120 = .ok (.iconst 3, 1) := by decide +kernel
theorem dX11_readAct_121 : decode cX11_readAct 121 = .ok (.iconst 0, 1) := by decide +kernel
theorem dX11_readAct_122 : decode cX11_readAct 122 = .ok (.bipush 100, 2) := by decide +kernel
theorem dX11_readAct_124 : decode cX11_readAct 124 = .ok (.invokevirtual 223, 3) := by decide +kernel
theorem dX11_readAct_127 : decode cX11_readAct 127 = .ok (.ifCond .eq 7, 3) := by decide +kernel
theorem dX11_readAct_130 : decode cX11_readAct 130 = .ok (.iconst 1, 1) := by decide +kernel
theorem dX11_readAct_131 : decode cX11_readAct 131 = .ok (.goto 4, 3) := by decide +kernel
theorem dX11_readAct_134 : decode cX11_readAct 134 = .ok (.iconst 0, 1) := by decide +kernel
theorem dX11_readAct_135 : decode cX11_readAct 135 = .ok (.istore_n 1, 1) := by decide +kernel
theorem dX11_readAct_136 : decode cX11_readAct 136 = .ok (.iload_n 1, 1) := by decide +kernel
theorem dX11_readAct_137 : decode cX11_readAct 137 = .ok (.ifCond .eq 16, 3) := by decide +kernel
theorem dX11_readAct_140 : decode cX11_readAct 140 = .ok (.aload_n 0, 1) := by decide +kernel
theorem dX11_readAct_141 : decode cX11_readAct 141 = .ok (.bipush 59, 2) := by decide +kernel
theorem dX11_readAct_143 : decode cX11_readAct 143 = .ok (.invokevirtual 226, 3) := by decide +kernel
theorem dX11_readAct_146 : decode cX11_readAct 146 = .ok (.ifCond .eq 7, 3) := by decide +kernel
theorem dX11_readAct_149 : decode cX11_readAct 149 = .ok (.iconst 1, 1) := by decide +kernel
theorem dX11_readAct_150 : decode cX11_readAct 150 = .ok (.goto 4, 3) := by decide +kernel
theorem dX11_readAct_153 : decode cX11_readAct 153 = .ok (.iconst 0, 1) := by decide +kernel
theorem dX11_readAct_154 : decode cX11_readAct 154 = .ok (.ireturn, 1) := by decide +kernel
set_option maxRecDepth 20000 in
theorem ggX11_faultOf_X11_readAct : GoodIn wsX11_faultOf wsX11_readAct := goodIn_r _ [7, 8, 1, 9, 10, 11, 12, 6, 13, 2, 14, 15, 16, 17, 18, 19, 20, 21, 22, 23, 24, 25, 26, 27, 28, 29, 30, 31, 32, 33, 34, 35, 36, 37, 38, 39, 40, 41, 42, 43, 44, 45, 46, 47, 48, 49, 50, 51] (by decide +kernel) (by decide +kernel)
set_option maxRecDepth 20000 in
theorem gX11_faultOf_X11_readAct : GoodIn wsX11_faultOf (wsV RX11 229 RX11 yX11_readAct wsX11_readAct) := goodIn_app (goodIn_of _ (by decide +kernel)) ggX11_faultOf_X11_readAct
theorem dX11_faultOf_0 : decode cX11_faultOf 0 = .ok (.aload_n 0, 1) := by decide +kernel
theorem dX11_faultOf_1 : decode cX11_faultOf 1 = .ok (.iconst 0, 1) := by decide +kernel
theorem dX11_faultOf_2 : decode cX11_faultOf 2 = .ok (.putfield 214, 3) := by decide +kernel
theorem dX11_faultOf_5 : decode cX11_faultOf 5 = .ok (.aload_n 0, 1) := by decide +kernel
theorem dX11_faultOf_6 : decode cX11_faultOf 6 = .ok (.getfield 214, 3) := by decide +kernel
theorem dX11_faultOf_9 : decode cX11_faultOf 9 = .ok (.aload_n 0, 1) := by decide +kernel
theorem dX11_faultOf_10 : decode cX11_faultOf 10 = .ok (.getfield 211, 3) := by decide +kernel
theorem dX11_faultOf_13 : decode cX11_faultOf 13 = .ok (.if_icmp .ge 15, 3) := by decide +kernel
theorem dX11_faultOf_16 : decode cX11_faultOf 16 = .ok (.aload_n 0, 1) := by decide +kernel
theorem dX11_faultOf_17 : decode cX11_faultOf 17 = .ok (.invokevirtual 229, 3) := by decide +kernel
theorem dX11_faultOf_20 : decode cX11_faultOf 20 = .ok (.ifCond .ne (-15), 3) := by decide +kernel
theorem dX11_faultOf_23 : decode cX11_faultOf 23 = .ok (.aload_n 0, 1) := by decide +kernel
theorem dX11_faultOf_24 : decode cX11_faultOf 24 = .ok (.getfield 214, 3) := by decide +kernel
theorem dX11_faultOf_27 : decode cX11_faultOf 27 = .ok (.ireturn, 1) := by decide +kernel
theorem dX11_faultOf_28 : decode cX11_faultOf 28 = .ok (.iconst (-1), 1) := by decide +kernel
theorem dX11_faultOf_29 : decode cX11_faultOf 29 = .ok (.ireturn, 1) := by decide +kernel
set_option maxRecDepth 20000 in
theorem ggX11_faultPosition_X11_faultOf : GoodIn wsX11_faultPosition wsX11_faultOf := goodIn_r _ [6, 7, 8, 9, 10, 11, 5, 12, 13, 14, 15, 16, 17, 18, 19, 20, 21, 22, 23, 24, 25, 26, 27, 28, 29, 30, 31, 32, 33, 34, 35, 36, 37, 38, 39, 40, 41, 42, 43, 44, 45, 46, 47, 48, 49, 50, 51, 52, 53, 54, 55, 56] (by decide +kernel) (by decide +kernel)
set_option maxRecDepth 20000 in
theorem gX11_faultPosition_X11_faultOf : GoodIn wsX11_faultPosition (wsV RX11 233 RX11 yX11_faultOf wsX11_faultOf) := goodIn_app (goodIn_of _ (by decide +kernel)) ggX11_faultPosition_X11_faultOf
theorem dX11_faultPosition_0 : decode cX11_faultPosition 0 = .ok (.aload_n 0, 1) := by decide +kernel
theorem dX11_faultPosition_1 : decode cX11_faultPosition 1 = .ok (.invokevirtual 233, 3) := by decide +kernel
theorem dX11_faultPosition_4 : decode cX11_faultPosition 4 = .ok (.istore_n 1, 1) := by decide +kernel
theorem dX11_faultPosition_5 : decode cX11_faultPosition 5 = .ok (.iload_n 1, 1) := by decide +kernel
theorem dX11_faultPosition_6 : decode cX11_faultPosition 6 = .ok (.ifCond .ge 8, 3) := by decide +kernel
theorem dX11_faultPosition_9 : decode cX11_faultPosition 9 = .ok (.ldc 77, 2) := by decide +kernel
theorem dX11_faultPosition_11 : decode cX11_faultPosition 11 = .ok (.goto 4, 3) := by decide +kernel
theorem dX11_faultPosition_14 : decode cX11_faultPosition 14 = .ok (.iload_n 1, 1) := by decide +kernel
theorem dX11_faultPosition_15 : decode cX11_faultPosition 15 = .ok (.ireturn, 1) := by decide +kernel
set_option maxRecDepth 20000 in
theorem ggX11_does_X11_whyShot : GoodIn wsX11_does wsX11_whyShot := goodIn_r _ [8, 9, 10, 11, 12, 13, 7, 14, 3, 15, 16, 17, 18, 19, 20, 21, 22, 23, 24, 25, 26, 27, 28, 29, 140, 141, 142, 143, 144, 145, 146, 147, 148, 149, 150, 151, 152, 153, 154, 155, 156, 157, 158, 159, 160, 161, 162, 163, 164] (by decide +kernel) (by decide +kernel)
set_option maxRecDepth 20000 in
theorem gX11_does_X11_whyShot : GoodIn wsX11_does (wsV RX11 128 RX11 yX11_whyShot wsX11_whyShot) := goodIn_app (goodIn_of _ (by decide +kernel)) ggX11_does_X11_whyShot
set_option maxRecDepth 20000 in
theorem ggX11_does_X11_shoots : GoodIn wsX11_does wsX11_shoots := goodIn_r _ [33, 3, 34, 35, 36, 7, 37, 38, 39, 40, 41, 42, 26, 27, 28, 29, 140, 141, 142, 143, 144, 145, 146, 147, 148, 149, 150, 151, 152, 153, 154, 155, 156, 157, 158, 159, 160, 161, 162, 163, 164] (by decide +kernel) (by decide +kernel)
set_option maxRecDepth 20000 in
theorem gX11_does_X11_shoots : GoodIn wsX11_does (wsV RX11 132 RX11 yX11_shoots wsX11_shoots) := goodIn_app (goodIn_of _ (by decide +kernel)) ggX11_does_X11_shoots
set_option maxRecDepth 20000 in
theorem ggX11_does_X11_closes : GoodIn wsX11_does wsX11_closes := goodIn_r _ [46, 3, 42, 47, 48, 49, 50, 51, 7, 52, 53, 54, 55, 56, 57, 58, 59, 60, 61, 62, 63, 64, 65, 66, 26, 27, 28, 29, 67, 68, 69, 70, 71, 72, 73, 74, 75, 76, 77, 78, 79, 80, 81, 82, 83, 84, 85, 86, 87, 88, 89, 90, 91, 92, 93, 94, 95, 96, 97, 98, 99, 100, 101, 102, 103, 104, 105, 106, 107, 108, 109, 110, 111, 112, 113, 114, 115, 116, 117, 118, 119, 120, 121, 122, 123, 124, 125, 126, 127, 34, 35, 36, 37, 128, 129, 130, 131, 140, 141, 142, 143, 144, 145, 146, 147, 148, 149, 150, 151, 152, 153, 154, 155, 156, 157, 158, 159, 160, 161, 162, 163, 164] (by decide +kernel) (by decide +kernel)
set_option maxRecDepth 20000 in
theorem gX11_does_X11_closes : GoodIn wsX11_does (wsV RX11 201 RX11 yX11_closes wsX11_closes) := goodIn_app (goodIn_of _ (by decide +kernel)) ggX11_does_X11_closes
set_option maxRecDepth 20000 in
theorem ggX11_does_X11_swaps : GoodIn wsX11_does wsX11_swaps := goodIn_r _ [135, 3, 42, 26, 27, 28, 7, 29, 136, 137, 138, 139, 34, 35, 36, 37, 140, 141, 142, 143, 144, 145, 146, 147, 148, 149, 150, 151, 152, 153, 154, 155, 156, 157, 158, 159, 160, 161, 162, 163, 164] (by decide +kernel) (by decide +kernel)
set_option maxRecDepth 20000 in
theorem gX11_does_X11_swaps : GoodIn wsX11_does (wsV RX11 208 RX11 yX11_swaps wsX11_swaps) := goodIn_app (goodIn_of _ (by decide +kernel)) ggX11_does_X11_swaps
theorem dX11_does_0 : decode cX11_does 0 = .ok (.aload_n 0, 1) := by decide +kernel
theorem dX11_does_1 : decode cX11_does 1 = .ok (.getfield 220, 3) := by decide +kernel
theorem dX11_does_4 : decode cX11_does 4 = .ok (.bipush 115, 2) := by decide +kernel
theorem dX11_does_6 : decode cX11_does 6 = .ok (.if_icmp .ne 67, 3) := by decide +kernel
theorem dX11_does_9 : decode cX11_does 9 = .ok (.aload_n 0, 1) := by decide +kernel
theorem dX11_does_10 : decode cX11_does 10 = .ok (.aload_n 0, 1) := by decide +kernel
theorem dX11_does_11 : decode cX11_does 11 = .ok (.getfield 54, 3) := by decide +kernel
theorem dX11_does_14 : decode cX11_does 14 = .ok (.iconst 0, 1) := by decide +kernel
theorem dX11_does_15 : decode cX11_does 15 = .ok (.iaload, 1) := by decide +kernel
theorem dX11_does_16 : decode cX11_does 16 = .ok (.aload_n 0, 1) := by decide +kernel
theorem dX11_does_17 : decode cX11_does 17 = .ok (.getfield 54, 3) := by decide +kernel
theorem dX11_does_20 : decode cX11_does 20 = .ok (.iconst 1, 1) := by decide +kernel
theorem dX11_does_21 : decode cX11_does 21 = .ok (.iaload, 1) := by decide +kernel
theorem dX11_does_22 : decode cX11_does 22 = .ok (.aload_n 0, 1) := by decide +kernel
theorem dX11_does_23 : decode cX11_does 23 = .ok (.getfield 54, 3) := by decide +kernel
theorem dX11_does_26 : decode cX11_does 26 = .ok (.iconst 2, 1) := by decide +kernel
theorem dX11_does_27 : decode cX11_does 27 = .ok (.iaload, 1) := by decide +kernel
theorem dX11_does_28 : decode cX11_does 28 = .ok (.aload_n 0, 1) := by decide +kernel
theorem dX11_does_29 : decode cX11_does 29 = .ok (.getfield 54, 3) := by decide +kernel
theorem dX11_does_32 : decode cX11_does 32 = .ok (.iconst 3, 1) := by decide +kernel
theorem dX11_does_33 : decode cX11_does 33 = .ok (.iaload, 1) := by decide +kernel
theorem dX11_does_34 : decode cX11_does 34 = .ok (.invokevirtual 128, 3) := by decide +kernel
theorem dX11_does_37 : decode cX11_does 37 = .ok (.ifCond .ge 5, 3) := by decide +kernel
theorem dX11_does_40 : decode cX11_does 40 = .ok (.iconst 0, 1) := by decide +kernel
theorem dX11_does_41 : decode cX11_does 41 = .ok (.ireturn, 1) := by decide +kernel
theorem dX11_does_42 : decode cX11_does 42 = .ok (.aload_n 0, 1) := by decide +kernel
theorem dX11_does_43 : decode cX11_does 43 = .ok (.aload_n 0, 1) := by decide +kernel
theorem dX11_does_44 : decode cX11_does 44 = .ok (.getfield 54, 3) := by decide +kernel
theorem dX11_does_47 : decode cX11_does 47 = .ok (.iconst 0, 1) := by decide +kernel
theorem dX11_does_48 : decode cX11_does 48 = .ok (.iaload, 1) := by decide +kernel
theorem dX11_does_49 : decode cX11_does 49 = .ok (.aload_n 0, 1) := by decide +kernel
theorem dX11_does_50 : decode cX11_does 50 = .ok (.getfield 54, 3) := by decide +kernel
theorem dX11_does_53 : decode cX11_does 53 = .ok (.iconst 1, 1) := by decide +kernel
theorem dX11_does_54 : decode cX11_does 54 = .ok (.iaload, 1) := by decide +kernel
theorem dX11_does_55 : decode cX11_does 55 = .ok (.aload_n 0, 1) := by decide +kernel
theorem dX11_does_56 : decode cX11_does 56 = .ok (.getfield 54, 3) := by decide +kernel
theorem dX11_does_59 : decode cX11_does 59 = .ok (.iconst 2, 1) := by decide +kernel
theorem dX11_does_60 : decode cX11_does 60 = .ok (.iaload, 1) := by decide +kernel
theorem dX11_does_61 : decode cX11_does 61 = .ok (.aload_n 0, 1) := by decide +kernel
theorem dX11_does_62 : decode cX11_does 62 = .ok (.getfield 54, 3) := by decide +kernel
theorem dX11_does_65 : decode cX11_does 65 = .ok (.iconst 3, 1) := by decide +kernel
theorem dX11_does_66 : decode cX11_does 66 = .ok (.iaload, 1) := by decide +kernel
theorem dX11_does_67 : decode cX11_does 67 = .ok (.invokevirtual 132, 3) := by decide +kernel
theorem dX11_does_70 : decode cX11_does 70 = .ok (.istore_n 1, 1) := by decide +kernel
theorem dX11_does_71 : decode cX11_does 71 = .ok (.iconst 1, 1) := by decide +kernel
theorem dX11_does_72 : decode cX11_does 72 = .ok (.ireturn, 1) := by decide +kernel
theorem dX11_does_73 : decode cX11_does 73 = .ok (.aload_n 0, 1) := by decide +kernel
theorem dX11_does_74 : decode cX11_does 74 = .ok (.getfield 220, 3) := by decide +kernel
theorem dX11_does_77 : decode cX11_does 77 = .ok (.bipush 99, 2) := by decide +kernel
theorem dX11_does_79 : decode cX11_does 79 = .ok (.if_icmp .ne 15, 3) := by decide +kernel
theorem dX11_does_82 : decode cX11_does 82 = .ok (.aload_n 0, 1) := by decide +kernel
theorem dX11_does_83 : decode cX11_does 83 = .ok (.getfield 7, 3) := by decide +kernel
theorem dX11_does_86 : decode cX11_does 86 = .ok (.bipush 64, 2) := by decide +kernel
theorem dX11_does_88 : decode cX11_does 88 = .ok (.iaload, 1) := by decide +kernel
theorem dX11_does_89 : decode cX11_does 89 = .ok (.ifCond .ne 5, 3) := by decide +kernel
theorem dX11_does_92 : decode cX11_does 92 = .ok (.iconst 0, 1) := by decide +kernel
theorem dX11_does_93 : decode cX11_does 93 = .ok (.ireturn, 1) := by decide +kernel
theorem dX11_does_94 : decode cX11_does 94 = .ok (.aload_n 0, 1) := by decide +kernel
theorem dX11_does_95 : decode cX11_does 95 = .ok (.getfield 220, 3) := by decide +kernel
theorem dX11_does_98 : decode cX11_does 98 = .ok (.bipush 99, 2) := by decide +kernel
theorem dX11_does_100 : decode cX11_does 100 = .ok (.if_icmp .ne 10, 3) := by decide +kernel
theorem dX11_does_103 : decode cX11_does 103 = .ok (.aload_n 0, 1) := by decide +kernel
theorem dX11_does_104 : decode cX11_does 104 = .ok (.invokevirtual 201, 3) := by decide +kernel
theorem dX11_does_107 : decode cX11_does 107 = .ok (.goto 7, 3) := by decide +kernel
theorem dX11_does_110 : decode cX11_does 110 = .ok (.aload_n 0, 1) := by decide +kernel
theorem dX11_does_111 : decode cX11_does 111 = .ok (.invokevirtual 208, 3) := by decide +kernel
theorem dX11_does_114 : decode cX11_does 114 = .ok (.istore_n 1, 1) := by decide +kernel
theorem dX11_does_115 : decode cX11_does 115 = .ok (.iconst 1, 1) := by decide +kernel
theorem dX11_does_116 : decode cX11_does 116 = .ok (.ireturn, 1) := by decide +kernel
set_option maxRecDepth 20000 in
theorem ggX11_run_X11_faultOf : GoodIn wsX11_run wsX11_faultOf := goodIn_r _ [8, 2, 3, 9, 10, 11, 7, 12, 13, 14, 15, 16, 17, 18, 19, 20, 21, 22, 23, 24, 25, 26, 27, 28, 29, 30, 31, 175, 176, 177, 178, 179, 180, 181, 182, 183, 184, 185, 186, 187, 188, 189, 190, 191, 192, 193, 194, 195, 196, 197, 198, 199] (by decide +kernel) (by decide +kernel)
set_option maxRecDepth 20000 in
theorem gX11_run_X11_faultOf : GoodIn wsX11_run (wsV RX11 233 RX11 yX11_faultOf wsX11_faultOf) := goodIn_app (goodIn_of _ (by decide +kernel)) ggX11_run_X11_faultOf
set_option maxRecDepth 20000 in
theorem ggX11_run_X11_records : GoodIn wsX11_run wsX11_records := goodIn_r _ [35, 36, 37, 38, 39, 40, 175, 176, 177, 178, 179, 180, 181, 182, 183, 184, 185, 186, 187, 188, 189, 190, 191, 192, 193, 194, 195, 196, 197, 198, 199] (by decide +kernel) (by decide +kernel)
set_option maxRecDepth 20000 in
theorem gX11_run_X11_records : GoodIn wsX11_run (wsV RX11 70 RX11 yX11_records wsX11_records) := goodIn_app (goodIn_of _ (by decide +kernel)) ggX11_run_X11_records
set_option maxRecDepth 20000 in
theorem ggX11_run_X11_readAct : GoodIn wsX11_run wsX11_readAct := goodIn_r _ [12, 13, 2, 14, 15, 16, 17, 7, 18, 3, 19, 20, 21, 22, 23, 24, 25, 26, 27, 28, 29, 30, 31, 175, 176, 177, 178, 179, 180, 181, 182, 183, 184, 185, 186, 187, 188, 189, 190, 191, 192, 193, 194, 195, 196, 197, 198, 199] (by decide +kernel) (by decide +kernel)
set_option maxRecDepth 20000 in
theorem gX11_run_X11_readAct : GoodIn wsX11_run (wsV RX11 229 RX11 yX11_readAct wsX11_readAct) := goodIn_app (goodIn_of _ (by decide +kernel)) ggX11_run_X11_readAct
set_option maxRecDepth 20000 in
theorem ggX11_run_X11_does : GoodIn wsX11_run wsX11_does := goodIn_r _ [44, 13, 24, 39, 45, 46, 47, 7, 48, 49, 50, 51, 52, 53, 54, 25, 26, 27, 55, 56, 57, 14, 58, 59, 60, 61, 62, 63, 64, 65, 66, 67, 68, 69, 70, 71, 72, 73, 74, 75, 76, 77, 78, 79, 80, 81, 82, 83, 40, 84, 85, 86, 87, 88, 89, 90, 91, 92, 93, 94, 95, 96, 97, 98, 99, 100, 101, 102, 103, 104, 105, 106, 107, 108, 109, 110, 111, 112, 113, 114, 115, 116, 117, 118, 119, 120, 121, 122, 123, 124, 125, 126, 127, 128, 129, 130, 131, 132, 133, 134, 135, 136, 137, 138, 139, 140, 141, 142, 143, 144, 145, 146, 147, 148, 149, 150, 151, 152, 153, 154, 155, 156, 157, 158, 159, 160, 161, 162, 163, 164, 165, 166, 167, 168, 169, 170, 171, 172, 173, 174, 175, 176, 177, 178, 179, 180, 181, 182, 183, 184, 185, 186, 187, 188, 189, 190, 191, 192, 193, 194, 195, 196, 197, 198, 199] (by decide +kernel) (by decide +kernel)
set_option maxRecDepth 20000 in
theorem gX11_run_X11_does : GoodIn wsX11_run (wsV RX11 236 RX11 yX11_does wsX11_does) := goodIn_app (goodIn_of _ (by decide +kernel)) ggX11_run_X11_does
theorem dX11_run_0 : decode cX11_run 0 = .ok (.aload_n 0, 1) := by decide +kernel
theorem dX11_run_1 : decode cX11_run 1 = .ok (.invokevirtual 233, 3) := by decide +kernel
theorem dX11_run_4 : decode cX11_run 4 = .ok (.ifCond .lt 6, 3) := by decide +kernel
theorem dX11_run_7 : decode cX11_run 7 = .ok (.ldc 98, 2) := by decide +kernel
theorem dX11_run_9 : decode cX11_run 9 = .ok (.ireturn, 1) := by decide +kernel
theorem dX11_run_10 : decode cX11_run 10 = .ok (.aload_n 0, 1) := by decide +kernel
theorem dX11_run_11 : decode cX11_run 11 = .ok (.invokevirtual 70, 3) := by decide +kernel
theorem dX11_run_14 : decode cX11_run 14 = .ok (.aload_n 0, 1) := by decide +kernel
theorem dX11_run_15 : decode cX11_run 15 = .ok (.iconst 0, 1) := by decide +kernel
theorem dX11_run_16 : decode cX11_run 16 = .ok (.putfield 214, 3) := by decide +kernel
theorem dX11_run_19 : decode cX11_run 19 = .ok (.iconst 0, 1) := by decide +kernel
theorem dX11_run_20 : decode cX11_run 20 = .ok (.istore_n 1, 1) := by decide +kernel
theorem dX11_run_21 : decode cX11_run 21 = .ok (.aload_n 0, 1) := by decide +kernel
theorem dX11_run_22 : decode cX11_run 22 = .ok (.getfield 214, 3) := by decide +kernel
theorem dX11_run_25 : decode cX11_run 25 = .ok (.aload_n 0, 1) := by decide +kernel
theorem dX11_run_26 : decode cX11_run 26 = .ok (.getfield 211, 3) := by decide +kernel
theorem dX11_run_29 : decode cX11_run 29 = .ok (.if_icmp .ge 23, 3) := by decide +kernel
theorem dX11_run_32 : decode cX11_run 32 = .ok (.aload_n 0, 1) := by decide +kernel
theorem dX11_run_33 : decode cX11_run 33 = .ok (.invokevirtual 229, 3) := by decide +kernel
theorem dX11_run_36 : decode cX11_run 36 = .ok (.ifCond .eq 16, 3) := by decide +kernel
theorem dX11_run_39 : decode cX11_run 39 = .ok (.aload_n 0, 1) := by decide +kernel
theorem dX11_run_40 : decode cX11_run 40 = .ok (.invokevirtual 236, 3) := by decide +kernel
theorem dX11_run_43 : decode cX11_run 43 = .ok (.ifCond .eq 9, 3) := by decide +kernel
theorem dX11_run_46 : decode cX11_run 46 = .ok (.iinc 1 1, 3) := by decide +kernel
theorem dX11_run_49 : decode cX11_run 49 = .ok (.goto (-28), 3) := by decide +kernel
theorem dX11_run_52 : decode cX11_run 52 = .ok (.iload_n 1, 1) := by decide +kernel
theorem dX11_run_53 : decode cX11_run 53 = .ok (.ireturn, 1) := by decide +kernel
theorem dX11_undo_0 : decode cX11_undo 0 = .ok (.aload_n 0, 1) := by decide +kernel
theorem dX11_undo_1 : decode cX11_undo 1 = .ok (.getfield 60, 3) := by decide +kernel
theorem dX11_undo_4 : decode cX11_undo 4 = .ok (.ifCond .ne 6, 3) := by decide +kernel
theorem dX11_undo_7 : decode cX11_undo 7 = .ok (.ldc 98, 2) := by decide +kernel
theorem dX11_undo_9 : decode cX11_undo 9 = .ok (.ireturn, 1) := by decide +kernel
theorem dX11_undo_10 : decode cX11_undo 10 = .ok (.aload_n 0, 1) := by decide +kernel
theorem dX11_undo_11 : decode cX11_undo 11 = .ok (.dup, 1) := by decide +kernel
theorem dX11_undo_12 : decode cX11_undo 12 = .ok (.getfield 60, 3) := by decide +kernel
theorem dX11_undo_15 : decode cX11_undo 15 = .ok (.iconst 1, 1) := by decide +kernel
theorem dX11_undo_16 : decode cX11_undo 16 = .ok (.isub, 1) := by decide +kernel
theorem dX11_undo_17 : decode cX11_undo 17 = .ok (.putfield 60, 3) := by decide +kernel
theorem dX11_undo_20 : decode cX11_undo 20 = .ok (.iconst 0, 1) := by decide +kernel
theorem dX11_undo_21 : decode cX11_undo 21 = .ok (.istore_n 1, 1) := by decide +kernel
theorem dX11_undo_22 : decode cX11_undo 22 = .ok (.iload_n 1, 1) := by decide +kernel
theorem dX11_undo_23 : decode cX11_undo 23 = .ok (.sipush 159, 3) := by decide +kernel
theorem dX11_undo_26 : decode cX11_undo 26 = .ok (.if_icmp .ge 30, 3) := by decide +kernel
theorem dX11_undo_29 : decode cX11_undo 29 = .ok (.aload_n 0, 1) := by decide +kernel
theorem dX11_undo_30 : decode cX11_undo 30 = .ok (.getfield 7, 3) := by decide +kernel
theorem dX11_undo_33 : decode cX11_undo 33 = .ok (.iload_n 1, 1) := by decide +kernel
theorem dX11_undo_34 : decode cX11_undo 34 = .ok (.aload_n 0, 1) := by decide +kernel
theorem dX11_undo_35 : decode cX11_undo 35 = .ok (.getfield 17, 3) := by decide +kernel
theorem dX11_undo_38 : decode cX11_undo 38 = .ok (.sipush 159, 3) := by decide +kernel
theorem dX11_undo_41 : decode cX11_undo 41 = .ok (.aload_n 0, 1) := by decide +kernel
theorem dX11_undo_42 : decode cX11_undo 42 = .ok (.getfield 60, 3) := by decide +kernel
theorem dX11_undo_45 : decode cX11_undo 45 = .ok (.imul, 1) := by decide +kernel
theorem dX11_undo_46 : decode cX11_undo 46 = .ok (.iload_n 1, 1) := by decide +kernel
theorem dX11_undo_47 : decode cX11_undo 47 = .ok (.iadd, 1) := by decide +kernel
theorem dX11_undo_48 : decode cX11_undo 48 = .ok (.iaload, 1) := by decide +kernel
theorem dX11_undo_49 : decode cX11_undo 49 = .ok (.iastore, 1) := by decide +kernel
theorem dX11_undo_50 : decode cX11_undo 50 = .ok (.iinc 1 1, 3) := by decide +kernel
theorem dX11_undo_53 : decode cX11_undo 53 = .ok (.goto (-31), 3) := by decide +kernel
theorem dX11_undo_56 : decode cX11_undo 56 = .ok (.aload_n 0, 1) := by decide +kernel
theorem dX11_undo_57 : decode cX11_undo 57 = .ok (.getfield 13, 3) := by decide +kernel
theorem dX11_undo_60 : decode cX11_undo 60 = .ok (.iconst 0, 1) := by decide +kernel
theorem dX11_undo_61 : decode cX11_undo 61 = .ok (.aload_n 0, 1) := by decide +kernel
theorem dX11_undo_62 : decode cX11_undo 62 = .ok (.getfield 20, 3) := by decide +kernel
theorem dX11_undo_65 : decode cX11_undo 65 = .ok (.iconst 2, 1) := by decide +kernel
theorem dX11_undo_66 : decode cX11_undo 66 = .ok (.aload_n 0, 1) := by decide +kernel
theorem dX11_undo_67 : decode cX11_undo 67 = .ok (.getfield 60, 3) := by decide +kernel
theorem dX11_undo_70 : decode cX11_undo 70 = .ok (.imul, 1) := by decide +kernel
theorem dX11_undo_71 : decode cX11_undo 71 = .ok (.laload, 1) := by decide +kernel
theorem dX11_undo_72 : decode cX11_undo 72 = .ok (.lastore, 1) := by decide +kernel
theorem dX11_undo_73 : decode cX11_undo 73 = .ok (.aload_n 0, 1) := by decide +kernel
theorem dX11_undo_74 : decode cX11_undo 74 = .ok (.getfield 13, 3) := by decide +kernel
theorem dX11_undo_77 : decode cX11_undo 77 = .ok (.iconst 1, 1) := by decide +kernel
theorem dX11_undo_78 : decode cX11_undo 78 = .ok (.aload_n 0, 1) := by decide +kernel
theorem dX11_undo_79 : decode cX11_undo 79 = .ok (.getfield 20, 3) := by decide +kernel
theorem dX11_undo_82 : decode cX11_undo 82 = .ok (.iconst 2, 1) := by decide +kernel
theorem dX11_undo_83 : decode cX11_undo 83 = .ok (.aload_n 0, 1) := by decide +kernel
theorem dX11_undo_84 : decode cX11_undo 84 = .ok (.getfield 60, 3) := by decide +kernel
theorem dX11_undo_87 : decode cX11_undo 87 = .ok (.imul, 1) := by decide +kernel
theorem dX11_undo_88 : decode cX11_undo 88 = .ok (.iconst 1, 1) := by decide +kernel
theorem dX11_undo_89 : decode cX11_undo 89 = .ok (.iadd, 1) := by decide +kernel
theorem dX11_undo_90 : decode cX11_undo 90 = .ok (.laload, 1) := by decide +kernel
theorem dX11_undo_91 : decode cX11_undo 91 = .ok (.lastore, 1) := by decide +kernel
theorem dX11_undo_92 : decode cX11_undo 92 = .ok (.aload_n 0, 1) := by decide +kernel
theorem dX11_undo_93 : decode cX11_undo 93 = .ok (.getfield 60, 3) := by decide +kernel
theorem dX11_undo_96 : decode cX11_undo 96 = .ok (.ireturn, 1) := by decide +kernel
set_option maxRecDepth 20000 in
theorem ggX11_save_X11_in : GoodIn wsX11_save wsX11_in := goodIn_r _ [10] (by decide +kernel) (by decide +kernel)
set_option maxRecDepth 20000 in
theorem gX11_save_X11_in : GoodIn wsX11_save (va_wsS RX11 64 yX11_in wsX11_in) := goodIn_app (goodIn_of _ (by decide +kernel)) ggX11_save_X11_in
theorem dX11_save_0 : decode cX11_save 0 = .ok (.iload_n 1, 1) := by decide +kernel
theorem dX11_save_1 : decode cX11_save 1 = .ok (.iconst 0, 1) := by decide +kernel
theorem dX11_save_2 : decode cX11_save 2 = .ok (.iconst 1, 1) := by decide +kernel
theorem dX11_save_3 : decode cX11_save 3 = .ok (.invokestatic 64, 3) := by decide +kernel
theorem dX11_save_6 : decode cX11_save 6 = .ok (.ifCond .ne 6, 3) := by decide +kernel
theorem dX11_save_9 : decode cX11_save 9 = .ok (.ldc 82, 2) := by decide +kernel
theorem dX11_save_11 : decode cX11_save 11 = .ok (.ireturn, 1) := by decide +kernel
theorem dX11_save_12 : decode cX11_save 12 = .ok (.iconst 0, 1) := by decide +kernel
theorem dX11_save_13 : decode cX11_save 13 = .ok (.istore_n 2, 1) := by decide +kernel
theorem dX11_save_14 : decode cX11_save 14 = .ok (.iload_n 2, 1) := by decide +kernel
theorem dX11_save_15 : decode cX11_save 15 = .ok (.sipush 159, 3) := by decide +kernel
theorem dX11_save_18 : decode cX11_save 18 = .ok (.if_icmp .ge 27, 3) := by decide +kernel
theorem dX11_save_21 : decode cX11_save 21 = .ok (.aload_n 0, 1) := by decide +kernel
theorem dX11_save_22 : decode cX11_save 22 = .ok (.getfield 23, 3) := by decide +kernel
theorem dX11_save_25 : decode cX11_save 25 = .ok (.sipush 159, 3) := by decide +kernel
theorem dX11_save_28 : decode cX11_save 28 = .ok (.iload_n 1, 1) := by decide +kernel
theorem dX11_save_29 : decode cX11_save 29 = .ok (.imul, 1) := by decide +kernel
theorem dX11_save_30 : decode cX11_save 30 = .ok (.iload_n 2, 1) := by decide +kernel
theorem dX11_save_31 : decode cX11_save 31 = .ok (.iadd, 1) := by decide +kernel
theorem dX11_save_32 : decode cX11_save 32 = .ok (.aload_n 0, 1) := by decide +kernel
theorem dX11_save_33 : decode cX11_save 33 = .ok (.getfield 7, 3) := by decide +kernel
theorem dX11_save_36 : decode cX11_save 36 = .ok (.iload_n 2, 1) := by decide +kernel
theorem dX11_save_37 : decode cX11_save 37 = .ok (.iaload, 1) := by decide +kernel
theorem dX11_save_38 : decode cX11_save 38 = .ok (.iastore, 1) := by decide +kernel
theorem dX11_save_39 : decode cX11_save 39 = .ok (.iinc 2 1, 3) := by decide +kernel
theorem dX11_save_42 : decode cX11_save 42 = .ok (.goto (-28), 3) := by decide +kernel
theorem dX11_save_45 : decode cX11_save 45 = .ok (.aload_n 0, 1) := by decide +kernel
theorem dX11_save_46 : decode cX11_save 46 = .ok (.getfield 26, 3) := by decide +kernel
theorem dX11_save_49 : decode cX11_save 49 = .ok (.iconst 2, 1) := by decide +kernel
theorem dX11_save_50 : decode cX11_save 50 = .ok (.iload_n 1, 1) := by decide +kernel
theorem dX11_save_51 : decode cX11_save 51 = .ok (.imul, 1) := by decide +kernel
theorem dX11_save_52 : decode cX11_save 52 = .ok (.aload_n 0, 1) := by decide +kernel
theorem dX11_save_53 : decode cX11_save 53 = .ok (.getfield 13, 3) := by decide +kernel
theorem dX11_save_56 : decode cX11_save 56 = .ok (.iconst 0, 1) := by decide +kernel
theorem dX11_save_57 : decode cX11_save 57 = .ok (.laload, 1) := by decide +kernel
theorem dX11_save_58 : decode cX11_save 58 = .ok (.lastore, 1) := by decide +kernel
theorem dX11_save_59 : decode cX11_save 59 = .ok (.aload_n 0, 1) := by decide +kernel
theorem dX11_save_60 : decode cX11_save 60 = .ok (.getfield 26, 3) := by decide +kernel
theorem dX11_save_63 : decode cX11_save 63 = .ok (.iconst 2, 1) := by decide +kernel
theorem dX11_save_64 : decode cX11_save 64 = .ok (.iload_n 1, 1) := by decide +kernel
theorem dX11_save_65 : decode cX11_save 65 = .ok (.imul, 1) := by decide +kernel
theorem dX11_save_66 : decode cX11_save 66 = .ok (.iconst 1, 1) := by decide +kernel
theorem dX11_save_67 : decode cX11_save 67 = .ok (.iadd, 1) := by decide +kernel
theorem dX11_save_68 : decode cX11_save 68 = .ok (.aload_n 0, 1) := by decide +kernel
theorem dX11_save_69 : decode cX11_save 69 = .ok (.getfield 13, 3) := by decide +kernel
theorem dX11_save_72 : decode cX11_save 72 = .ok (.iconst 1, 1) := by decide +kernel
theorem dX11_save_73 : decode cX11_save 73 = .ok (.laload, 1) := by decide +kernel
theorem dX11_save_74 : decode cX11_save 74 = .ok (.lastore, 1) := by decide +kernel
theorem dX11_save_75 : decode cX11_save 75 = .ok (.aload_n 0, 1) := by decide +kernel
theorem dX11_save_76 : decode cX11_save 76 = .ok (.getfield 29, 3) := by decide +kernel
theorem dX11_save_79 : decode cX11_save 79 = .ok (.iload_n 1, 1) := by decide +kernel
theorem dX11_save_80 : decode cX11_save 80 = .ok (.iconst 1, 1) := by decide +kernel
theorem dX11_save_81 : decode cX11_save 81 = .ok (.bastore, 1) := by decide +kernel
theorem dX11_save_82 : decode cX11_save 82 = .ok (.aload_n 0, 1) := by decide +kernel
theorem dX11_save_83 : decode cX11_save 83 = .ok (.getfield 7, 3) := by decide +kernel
theorem dX11_save_86 : decode cX11_save 86 = .ok (.bipush 84, 2) := by decide +kernel
theorem dX11_save_88 : decode cX11_save 88 = .ok (.iaload, 1) := by decide +kernel
theorem dX11_save_89 : decode cX11_save 89 = .ok (.ireturn, 1) := by decide +kernel
set_option maxRecDepth 20000 in
theorem ggX11_restore_X11_in : GoodIn wsX11_restore wsX11_in := goodIn_r _ [11] (by decide +kernel) (by decide +kernel)
set_option maxRecDepth 20000 in
theorem gX11_restore_X11_in : GoodIn wsX11_restore (va_wsS RX11 64 yX11_in wsX11_in) := goodIn_app (goodIn_of _ (by decide +kernel)) ggX11_restore_X11_in
set_option maxRecDepth 20000 in
theorem ggX11_restore_X11_records : GoodIn wsX11_restore wsX11_records := goodIn_r _ [15, 16, 17, 18, 4, 6, 19, 20, 21, 22, 23, 24, 25, 26, 27, 28, 29, 30, 31, 32, 33, 34, 35, 36, 37, 38, 39, 40, 41, 42, 43] (by decide +kernel) (by decide +kernel)
set_option maxRecDepth 20000 in
theorem gX11_restore_X11_records : GoodIn wsX11_restore (wsV RX11 70 RX11 yX11_records wsX11_records) := goodIn_app (goodIn_of _ (by decide +kernel)) ggX11_restore_X11_records
theorem dX11_restore_0 : decode cX11_restore 0 = .ok (.iload_n 1, 1) := by decide +kernel
theorem dX11_restore_1 : decode cX11_restore 1 = .ok (.iconst 0, 1) := by decide +kernel
theorem dX11_restore_2 : decode cX11_restore 2 = .ok (.iconst 1, 1) := by decide +kernel
theorem dX11_restore_3 : decode cX11_restore 3 = .ok (.invokestatic 64, 3) := by decide +kernel
theorem dX11_restore_6 : decode cX11_restore 6 = .ok (.ifCond .ne 6, 3) := by decide +kernel
theorem dX11_restore_9 : decode cX11_restore 9 = .ok (.ldc 82, 2) := by decide +kernel
theorem dX11_restore_11 : decode cX11_restore 11 = .ok (.ireturn, 1) := by decide +kernel
theorem dX11_restore_12 : decode cX11_restore 12 = .ok (.aload_n 0, 1) := by decide +kernel
theorem dX11_restore_13 : decode cX11_restore 13 = .ok (.getfield 29, 3) := by decide +kernel
theorem dX11_restore_16 : decode cX11_restore 16 = .ok (.iload_n 1, 1) := by decide +kernel
theorem dX11_restore_17 : decode cX11_restore 17 = .ok (.baload, 1) := by decide +kernel
theorem dX11_restore_18 : decode cX11_restore 18 = .ok (.ifCond .ne 6, 3) := by decide +kernel
theorem dX11_restore_21 : decode cX11_restore 21 = .ok (.ldc 98, 2) := by decide +kernel
theorem dX11_restore_23 : decode cX11_restore 23 = .ok (.ireturn, 1) := by decide +kernel
theorem dX11_restore_24 : decode cX11_restore 24 = .ok (.aload_n 0, 1) := by decide +kernel
theorem dX11_restore_25 : decode cX11_restore 25 = .ok (.invokevirtual 70, 3) := by decide +kernel
theorem dX11_restore_28 : decode cX11_restore 28 = .ok (.iconst 0, 1) := by decide +kernel
theorem dX11_restore_29 : decode cX11_restore 29 = .ok (.istore_n 2, 1) := by decide +kernel
theorem dX11_restore_30 : decode cX11_restore 30 = .ok (.iload_n 2, 1) := by decide +kernel
theorem dX11_restore_31 : decode cX11_restore 31 = .ok (.sipush 159, 3) := by decide +kernel
theorem dX11_restore_34 : decode cX11_restore 34 = .ok (.if_icmp .ge 27, 3) := by decide +kernel
theorem dX11_restore_37 : decode cX11_restore 37 = .ok (.aload_n 0, 1) := by decide +kernel
theorem dX11_restore_38 : decode cX11_restore 38 = .ok (.getfield 7, 3) := by decide +kernel
theorem dX11_restore_41 : decode cX11_restore 41 = .ok (.iload_n 2, 1) := by decide +kernel
theorem dX11_restore_42 : decode cX11_restore 42 = .ok (.aload_n 0, 1) := by decide +kernel
theorem dX11_restore_43 : decode cX11_restore 43 = .ok (.getfield 23, 3) := by decide +kernel
theorem dX11_restore_46 : decode cX11_restore 46 = .ok (.sipush 159, 3) := by decide +kernel
theorem dX11_restore_49 : decode cX11_restore 49 = .ok (.iload_n 1, 1) := by decide +kernel
theorem dX11_restore_50 : decode cX11_restore 50 = .ok (.imul, 1) := by decide +kernel
theorem dX11_restore_51 : decode cX11_restore 51 = .ok (.iload_n 2, 1) := by decide +kernel
theorem dX11_restore_52 : decode cX11_restore 52 = .ok (.iadd, 1) := by decide +kernel
theorem dX11_restore_53 : decode cX11_restore 53 = .ok (.iaload, 1) := by decide +kernel
theorem dX11_restore_54 : decode cX11_restore 54 = .ok (.iastore, 1) := by decide +kernel
theorem dX11_restore_55 : decode cX11_restore 55 = .ok (.iinc 2 1, 3) := by decide +kernel
theorem dX11_restore_58 : decode cX11_restore 58 = .ok (.goto (-28), 3) := by decide +kernel
theorem dX11_restore_61 : decode cX11_restore 61 = .ok (.aload_n 0, 1) := by decide +kernel
theorem dX11_restore_62 : decode cX11_restore 62 = .ok (.getfield 13, 3) := by decide +kernel
theorem dX11_restore_65 : decode cX11_restore 65 = .ok (.iconst 0, 1) := by decide +kernel
theorem dX11_restore_66 : decode cX11_restore 66 = .ok (.aload_n 0, 1) := by decide +kernel
theorem dX11_restore_67 : decode cX11_restore 67 = .ok (.getfield 26, 3) := by decide +kernel
theorem dX11_restore_70 : decode cX11_restore 70 = .ok (.iconst 2, 1) := by decide +kernel
theorem dX11_restore_71 : decode cX11_restore 71 = .ok (.iload_n 1, 1) := by decide +kernel
theorem dX11_restore_72 : decode cX11_restore 72 = .ok (.imul, 1) := by decide +kernel
theorem dX11_restore_73 : decode cX11_restore 73 = .ok (.laload, 1) := by decide +kernel
theorem dX11_restore_74 : decode cX11_restore 74 = .ok (.lastore, 1) := by decide +kernel
theorem dX11_restore_75 : decode cX11_restore 75 = .ok (.aload_n 0, 1) := by decide +kernel
theorem dX11_restore_76 : decode cX11_restore 76 = .ok (.getfield 13, 3) := by decide +kernel
theorem dX11_restore_79 : decode cX11_restore 79 = .ok (.iconst 1, 1) := by decide +kernel
theorem dX11_restore_80 : decode cX11_restore 80 = .ok (.aload_n 0, 1) := by decide +kernel
theorem dX11_restore_81 : decode cX11_restore 81 = .ok (.getfield 26, 3) := by decide +kernel
theorem dX11_restore_84 : decode cX11_restore 84 = .ok (.iconst 2, 1) := by decide +kernel
theorem dX11_restore_85 : decode cX11_restore 85 = .ok (.iload_n 1, 1) := by decide +kernel
theorem dX11_restore_86 : decode cX11_restore 86 = .ok (.imul, 1) := by decide +kernel
theorem dX11_restore_87 : decode cX11_restore 87 = .ok (.iconst 1, 1) := by decide +kernel
theorem dX11_restore_88 : decode cX11_restore 88 = .ok (.iadd, 1) := by decide +kernel
theorem dX11_restore_89 : decode cX11_restore 89 = .ok (.laload, 1) := by decide +kernel
theorem dX11_restore_90 : decode cX11_restore 90 = .ok (.lastore, 1) := by decide +kernel
theorem dX11_restore_91 : decode cX11_restore 91 = .ok (.aload_n 0, 1) := by decide +kernel
theorem dX11_restore_92 : decode cX11_restore 92 = .ok (.getfield 7, 3) := by decide +kernel
theorem dX11_restore_95 : decode cX11_restore 95 = .ok (.bipush 84, 2) := by decide +kernel
theorem dX11_restore_97 : decode cX11_restore 97 = .ok (.iaload, 1) := by decide +kernel
theorem dX11_restore_98 : decode cX11_restore 98 = .ok (.ireturn, 1) := by decide +kernel
set_option maxRecDepth 20000 in
theorem ggX11_fails_X11_of : GoodIn wsX11_fails wsX11_of := goodIn_r _ [5, 6, 7, 8, 9, 10, 11, 12, 13, 14, 15, 16, 17, 18, 19, 20, 21, 22, 23, 24, 25, 26, 27, 28, 29, 30, 31] (by decide +kernel) (by decide +kernel)
set_option maxRecDepth 20000 in
theorem gX11_fails_X11_of : GoodIn wsX11_fails (wsV RX11 83 RX11 yX11_of wsX11_of) := goodIn_app (goodIn_of _ (by decide +kernel)) ggX11_fails_X11_of
theorem dX11_fails_0 : decode cX11_fails 0 = .ok (.aload_n 0, 1) := by decide +kernel
theorem dX11_fails_1 : decode cX11_fails 1 = .ok (.iload_n 1, 1) := by decide +kernel
theorem dX11_fails_2 : decode cX11_fails 2 = .ok (.bipush 10, 2) := by decide +kernel
theorem dX11_fails_4 : decode cX11_fails 4 = .ok (.invokevirtual 83, 3) := by decide +kernel
theorem dX11_fails_7 : decode cX11_fails 7 = .ok (.iconst 3, 1) := by decide +kernel
theorem dX11_fails_8 : decode cX11_fails 8 = .ok (.if_icmp .lt 7, 3) := by decide +kernel
theorem dX11_fails_11 : decode cX11_fails 11 = .ok (.iconst 1, 1) := by decide +kernel
theorem dX11_fails_12 : decode cX11_fails 12 = .ok (.goto 4, 3) := by decide +kernel
theorem dX11_fails_15 : decode cX11_fails 15 = .ok (.iconst 0, 1) := by decide +kernel
theorem dX11_fails_16 : decode cX11_fails 16 = .ok (.ireturn, 1) := by decide +kernel
set_option maxRecDepth 20000 in
theorem ggX11_path_X11_isPath : GoodIn wsX11_path wsX11_isPath := goodIn_r _ [7, 8, 9, 10, 6, 11, 20, 21, 22, 23, 24, 25, 26, 27, 28, 29, 30, 31, 32, 33, 34, 35, 36, 37, 38, 39, 40, 41, 42, 43, 44] (by decide +kernel) (by decide +kernel)
set_option maxRecDepth 20000 in
theorem gX11_path_X11_isPath : GoodIn wsX11_path (wsV RX11 78 RX11 yX11_isPath wsX11_isPath) := goodIn_app (goodIn_of _ (by decide +kernel)) ggX11_path_X11_isPath
set_option maxRecDepth 20000 in
theorem ggX11_path_X11_in : GoodIn wsX11_path wsX11_in := goodIn_r _ [11] (by decide +kernel) (by decide +kernel)
set_option maxRecDepth 20000 in
theorem gX11_path_X11_in : GoodIn wsX11_path (va_wsS RX11 64 yX11_in wsX11_in) := goodIn_app (goodIn_of _ (by decide +kernel)) ggX11_path_X11_in
set_option maxRecDepth 20000 in
theorem ggX11_path_X11_fails : GoodIn wsX11_path wsX11_fails := goodIn_r _ [15, 16, 17, 18, 6, 19, 8, 20, 21, 22, 23, 24, 25, 26, 27, 28, 29, 30, 31, 32, 33, 34, 35, 36, 37, 38, 39, 40, 41, 42, 43, 44] (by decide +kernel) (by decide +kernel)
set_option maxRecDepth 20000 in
theorem gX11_path_X11_fails : GoodIn wsX11_path (wsV RX11 239 RX11 yX11_fails wsX11_fails) := goodIn_app (goodIn_of _ (by decide +kernel)) ggX11_path_X11_fails
set_option maxRecDepth 20000 in
theorem ggX11_path_X11_of : GoodIn wsX11_path wsX11_of := goodIn_r _ [19, 8, 20, 21, 22, 23, 24, 25, 26, 27, 28, 29, 30, 31, 32, 33, 34, 35, 36, 37, 38, 39, 40, 41, 42, 43, 44] (by decide +kernel) (by decide +kernel)
set_option maxRecDepth 20000 in
theorem gX11_path_X11_of : GoodIn wsX11_path (wsV RX11 83 RX11 yX11_of wsX11_of) := goodIn_app (goodIn_of _ (by decide +kernel)) ggX11_path_X11_of
theorem dX11_path_0 : decode cX11_path 0 = .ok (.aload_n 0, 1) := by decide +kernel
theorem dX11_path_1 : decode cX11_path 1 = .ok (.iload_n 1, 1) := by decide +kernel
theorem dX11_path_2 : decode cX11_path 2 = .ok (.invokevirtual 78, 3) := by decide +kernel
theorem dX11_path_5 : decode cX11_path 5 = .ok (.ifCond .ne 6, 3) := by decide +kernel
theorem dX11_path_8 : decode cX11_path 8 = .ok (.ldc 82, 2) := by decide +kernel
theorem dX11_path_10 : decode cX11_path 10 = .ok (.ireturn, 1) := by decide +kernel
theorem dX11_path_11 : decode cX11_path 11 = .ok (.iload_n 2, 1) := by decide +kernel
theorem dX11_path_12 : decode cX11_path 12 = .ok (.iconst 0, 1) := by decide +kernel
theorem dX11_path_13 : decode cX11_path 13 = .ok (.bipush 13, 2) := by decide +kernel
theorem dX11_path_15 : decode cX11_path 15 = .ok (.invokestatic 64, 3) := by decide +kernel
theorem dX11_path_18 : decode cX11_path 18 = .ok (.ifCond .ne 6, 3) := by decide +kernel
theorem dX11_path_21 : decode cX11_path 21 = .ok (.ldc 68, 2) := by decide +kernel
theorem dX11_path_23 : decode cX11_path 23 = .ok (.ireturn, 1) := by decide +kernel
theorem dX11_path_24 : decode cX11_path 24 = .ok (.iload_n 2, 1) := by decide +kernel
theorem dX11_path_25 : decode cX11_path 25 = .ok (.bipush 13, 2) := by decide +kernel
theorem dX11_path_27 : decode cX11_path 27 = .ok (.if_icmp .ne 19, 3) := by decide +kernel
theorem dX11_path_30 : decode cX11_path 30 = .ok (.aload_n 0, 1) := by decide +kernel
theorem dX11_path_31 : decode cX11_path 31 = .ok (.iload_n 1, 1) := by decide +kernel
theorem dX11_path_32 : decode cX11_path 32 = .ok (.invokevirtual 239, 3) := by decide +kernel
theorem dX11_path_35 : decode cX11_path 35 = .ok (.ifCond .eq 7, 3) := by decide +kernel
theorem dX11_path_38 : decode cX11_path 38 = .ok (.iconst 1, 1) := by decide +kernel
theorem dX11_path_39 : decode cX11_path 39 = .ok (.goto 13, 3) := by decide +kernel
theorem dX11_path_42 : decode cX11_path 42 = .ok (.iconst 0, 1) := by decide +kernel
theorem dX11_path_43 : decode cX11_path 43 = .ok (.goto 9, 3) := by decide +kernel
theorem dX11_path_46 : decode cX11_path 46 = .ok (.aload_n 0, 1) := by decide +kernel
theorem dX11_path_47 : decode cX11_path 47 = .ok (.iload_n 1, 1) := by decide +kernel
theorem dX11_path_48 : decode cX11_path 48 = .ok (.iload_n 2, 1) := by decide +kernel
theorem dX11_path_49 : decode cX11_path 49 = .ok (.invokevirtual 83, 3) := by decide +kernel
theorem dX11_path_52 : decode cX11_path 52 = .ok (.ireturn, 1) := by decide +kernel
set_option maxRecDepth 20000 in
theorem ggX11_told_X11_isPath : GoodIn wsX11_told wsX11_isPath := goodIn_r _ [8, 9, 10, 11, 7, 12, 17, 18, 19, 20, 21, 22, 23, 24, 25, 26, 27, 28, 29, 30, 31, 32, 33, 34, 35, 36, 37, 38, 39, 40, 41] (by decide +kernel) (by decide +kernel)
set_option maxRecDepth 20000 in
theorem gX11_told_X11_isPath : GoodIn wsX11_told (wsV RX11 78 RX11 yX11_isPath wsX11_isPath) := goodIn_app (goodIn_of _ (by decide +kernel)) ggX11_told_X11_isPath
set_option maxRecDepth 20000 in
theorem ggX11_told_X11_in : GoodIn wsX11_told wsX11_in := goodIn_r _ [12] (by decide +kernel) (by decide +kernel)
set_option maxRecDepth 20000 in
theorem gX11_told_X11_in : GoodIn wsX11_told (va_wsS RX11 64 yX11_in wsX11_in) := goodIn_app (goodIn_of _ (by decide +kernel)) ggX11_told_X11_in
set_option maxRecDepth 20000 in
theorem ggX11_told_X11_of : GoodIn wsX11_told wsX11_of := goodIn_r _ [16, 9, 17, 18, 19, 20, 21, 22, 23, 24, 25, 26, 27, 28, 29, 30, 31, 32, 33, 34, 35, 36, 37, 38, 39, 40, 41] (by decide +kernel) (by decide +kernel)
set_option maxRecDepth 20000 in
theorem gX11_told_X11_of : GoodIn wsX11_told (wsV RX11 83 RX11 yX11_of wsX11_of) := goodIn_app (goodIn_of _ (by decide +kernel)) ggX11_told_X11_of
theorem dX11_told_0 : decode cX11_told 0 = .ok (.aload_n 0, 1) := by decide +kernel
theorem dX11_told_1 : decode cX11_told 1 = .ok (.iload_n 1, 1) := by decide +kernel
theorem dX11_told_2 : decode cX11_told 2 = .ok (.invokevirtual 78, 3) := by decide +kernel
theorem dX11_told_5 : decode cX11_told 5 = .ok (.ifCond .ne 6, 3) := by decide +kernel
theorem dX11_told_8 : decode cX11_told 8 = .ok (.ldc 82, 2) := by decide +kernel
theorem dX11_told_10 : decode cX11_told 10 = .ok (.ireturn, 1) := by decide +kernel
theorem dX11_told_11 : decode cX11_told 11 = .ok (.iload_n 2, 1) := by decide +kernel
theorem dX11_told_12 : decode cX11_told 12 = .ok (.iconst 0, 1) := by decide +kernel
theorem dX11_told_13 : decode cX11_told 13 = .ok (.iconst 2, 1) := by decide +kernel
theorem dX11_told_14 : decode cX11_told 14 = .ok (.invokestatic 64, 3) := by decide +kernel
theorem dX11_told_17 : decode cX11_told 17 = .ok (.ifCond .ne 6, 3) := by decide +kernel
theorem dX11_told_20 : decode cX11_told 20 = .ok (.ldc 68, 2) := by decide +kernel
theorem dX11_told_22 : decode cX11_told 22 = .ok (.ireturn, 1) := by decide +kernel
theorem dX11_told_23 : decode cX11_told 23 = .ok (.aload_n 0, 1) := by decide +kernel
theorem dX11_told_24 : decode cX11_told 24 = .ok (.iload_n 1, 1) := by decide +kernel
theorem dX11_told_25 : decode cX11_told 25 = .ok (.bipush 13, 2) := by decide +kernel
theorem dX11_told_27 : decode cX11_told 27 = .ok (.invokevirtual 83, 3) := by decide +kernel
theorem dX11_told_30 : decode cX11_told 30 = .ok (.ldc 77, 2) := by decide +kernel
theorem dX11_told_32 : decode cX11_told 32 = .ok (.if_icmp .ne 8, 3) := by decide +kernel
theorem dX11_told_35 : decode cX11_told 35 = .ok (.ldc 77, 2) := by decide +kernel
theorem dX11_told_37 : decode cX11_told 37 = .ok (.goto 12, 3) := by decide +kernel
theorem dX11_told_40 : decode cX11_told 40 = .ok (.aload_n 0, 1) := by decide +kernel
theorem dX11_told_41 : decode cX11_told 41 = .ok (.iload_n 1, 1) := by decide +kernel
theorem dX11_told_42 : decode cX11_told 42 = .ok (.bipush 13, 2) := by decide +kernel
theorem dX11_told_44 : decode cX11_told 44 = .ok (.iload_n 2, 1) := by decide +kernel
theorem dX11_told_45 : decode cX11_told 45 = .ok (.iadd, 1) := by decide +kernel
theorem dX11_told_46 : decode cX11_told 46 = .ok (.invokevirtual 83, 3) := by decide +kernel
theorem dX11_told_49 : decode cX11_told 49 = .ok (.ireturn, 1) := by decide +kernel
set_option maxRecDepth 20000 in
theorem ggX11_sound_X11_isPath : GoodIn wsX11_sound wsX11_isPath := goodIn_r _ [10, 11, 12, 13, 9, 14, 19, 20, 21, 22, 23, 24, 25, 26, 27, 28, 29, 30, 31, 32, 33, 34, 35, 36, 37, 38, 39, 40, 41, 42, 43] (by decide +kernel) (by decide +kernel)
set_option maxRecDepth 20000 in
theorem gX11_sound_X11_isPath : GoodIn wsX11_sound (wsV RX11 78 RX11 yX11_isPath wsX11_isPath) := goodIn_app (goodIn_of _ (by decide +kernel)) ggX11_sound_X11_isPath
set_option maxRecDepth 20000 in
theorem ggX11_sound_X11_of : GoodIn wsX11_sound wsX11_of := goodIn_r _ [18, 11, 19, 20, 21, 22, 23, 24, 25, 26, 27, 28, 29, 30, 31, 32, 33, 34, 35, 36, 37, 38, 39, 40, 41, 42, 43] (by decide +kernel) (by decide +kernel)
set_option maxRecDepth 20000 in
theorem gX11_sound_X11_of : GoodIn wsX11_sound (wsV RX11 83 RX11 yX11_of wsX11_of) := goodIn_app (goodIn_of _ (by decide +kernel)) ggX11_sound_X11_of
theorem dX11_sound_0 : decode cX11_sound 0 = .ok (.aload_n 0, 1) := by decide +kernel
theorem dX11_sound_1 : decode cX11_sound 1 = .ok (.iload_n 1, 1) := by decide +kernel
theorem dX11_sound_2 : decode cX11_sound 2 = .ok (.invokevirtual 78, 3) := by decide +kernel
theorem dX11_sound_5 : decode cX11_sound 5 = .ok (.ifCond .ne 7, 3) := by decide +kernel
theorem dX11_sound_8 : decode cX11_sound 8 = .ok (.ldc2_w 242, 3) := by decide +kernel
theorem dX11_sound_11 : decode cX11_sound 11 = .ok (.lreturn, 1) := by decide +kernel
theorem dX11_sound_12 : decode cX11_sound 12 = .ok (.aload_n 0, 1) := by decide +kernel
theorem dX11_sound_13 : decode cX11_sound 13 = .ok (.iload_n 1, 1) := by decide +kernel
theorem dX11_sound_14 : decode cX11_sound 14 = .ok (.iconst 5, 1) := by decide +kernel
theorem dX11_sound_15 : decode cX11_sound 15 = .ok (.invokevirtual 83, 3) := by decide +kernel
theorem dX11_sound_18 : decode cX11_sound 18 = .ok (.ldc 77, 2) := by decide +kernel
theorem dX11_sound_20 : decode cX11_sound 20 = .ok (.if_icmp .ne 7, 3) := by decide +kernel
theorem dX11_sound_23 : decode cX11_sound 23 = .ok (.ldc2_w 244, 3) := by decide +kernel
theorem dX11_sound_26 : decode cX11_sound 26 = .ok (.lreturn, 1) := by decide +kernel
theorem dX11_sound_27 : decode cX11_sound 27 = .ok (.aload_n 0, 1) := by decide +kernel
theorem dX11_sound_28 : decode cX11_sound 28 = .ok (.iload_n 1, 1) := by decide +kernel
theorem dX11_sound_29 : decode cX11_sound 29 = .ok (.iconst 5, 1) := by decide +kernel
theorem dX11_sound_30 : decode cX11_sound 30 = .ok (.invokevirtual 83, 3) := by decide +kernel
theorem dX11_sound_33 : decode cX11_sound 33 = .ok (.aload_n 0, 1) := by decide +kernel
theorem dX11_sound_34 : decode cX11_sound 34 = .ok (.iload_n 1, 1) := by decide +kernel
theorem dX11_sound_35 : decode cX11_sound 35 = .ok (.iconst 4, 1) := by decide +kernel
theorem dX11_sound_36 : decode cX11_sound 36 = .ok (.invokevirtual 83, 3) := by decide +kernel
theorem dX11_sound_39 : decode cX11_sound 39 = .ok (.isub, 1) := by decide +kernel
theorem dX11_sound_40 : decode cX11_sound 40 = .ok (.i2l, 1) := by decide +kernel
theorem dX11_sound_41 : decode cX11_sound 41 = .ok (.lstore_n 2, 1) := by decide +kernel
theorem dX11_sound_42 : decode cX11_sound 42 = .ok (.aload_n 0, 1) := by decide +kernel
theorem dX11_sound_43 : decode cX11_sound 43 = .ok (.iload_n 1, 1) := by decide +kernel
theorem dX11_sound_44 : decode cX11_sound 44 = .ok (.bipush 6, 2) := by decide +kernel
theorem dX11_sound_46 : decode cX11_sound 46 = .ok (.invokevirtual 83, 3) := by decide +kernel
theorem dX11_sound_49 : decode cX11_sound 49 = .ok (.aload_n 0, 1) := by decide +kernel
theorem dX11_sound_50 : decode cX11_sound 50 = .ok (.iload_n 1, 1) := by decide +kernel
theorem dX11_sound_51 : decode cX11_sound 51 = .ok (.iconst 4, 1) := by decide +kernel
theorem dX11_sound_52 : decode cX11_sound 52 = .ok (.invokevirtual 83, 3) := by decide +kernel
theorem dX11_sound_55 : decode cX11_sound 55 = .ok (.isub, 1) := by decide +kernel
theorem dX11_sound_56 : decode cX11_sound 56 = .ok (.i2l, 1) := by decide +kernel
theorem dX11_sound_57 : decode cX11_sound 57 = .ok (.lstore 4, 2) := by decide +kernel
theorem dX11_sound_59 : decode cX11_sound 59 = .ok (.aload_n 0, 1) := by decide +kernel
theorem dX11_sound_60 : decode cX11_sound 60 = .ok (.iload_n 1, 1) := by decide +kernel
theorem dX11_sound_61 : decode cX11_sound 61 = .ok (.iconst 0, 1) := by decide +kernel
theorem dX11_sound_62 : decode cX11_sound 62 = .ok (.invokevirtual 83, 3) := by decide +kernel
theorem dX11_sound_65 : decode cX11_sound 65 = .ok (.i2l, 1) := by decide +kernel
theorem dX11_sound_66 : decode cX11_sound 66 = .ok (.ldc2_w 106, 3) := by decide +kernel
theorem dX11_sound_69 : decode cX11_sound 69 = .ok (.lmul, 1) := by decide +kernel
theorem dX11_sound_70 : decode cX11_sound 70 = .ok (.lload_n 2, 1) := by decide +kernel
theorem dX11_sound_71 : decode cX11_sound 71 = .ok (.lload 4, 2) := by decide +kernel
theorem dX11_sound_73 : decode cX11_sound 73 = .ok (.ladd, 1) := by decide +kernel
theorem dX11_sound_74 : decode cX11_sound 74 = .ok (.lmul, 1) := by decide +kernel
theorem dX11_sound_75 : decode cX11_sound 75 = .ok (.lload_n 2, 1) := by decide +kernel
theorem dX11_sound_76 : decode cX11_sound 76 = .ok (.lload 4, 2) := by decide +kernel
theorem dX11_sound_78 : decode cX11_sound 78 = .ok (.lmul, 1) := by decide +kernel
theorem dX11_sound_79 : decode cX11_sound 79 = .ok (.ldc2_w 108, 3) := by decide +kernel
theorem dX11_sound_82 : decode cX11_sound 82 = .ok (.ldiv, 1) := by decide +kernel
theorem dX11_sound_83 : decode cX11_sound 83 = .ok (.ldiv, 1) := by decide +kernel
theorem dX11_sound_84 : decode cX11_sound 84 = .ok (.lreturn, 1) := by decide +kernel
set_option maxRecDepth 20000 in
theorem ggX11_factor_X11_in : GoodIn wsX11_factor wsX11_in := goodIn_r _ [7] (by decide +kernel) (by decide +kernel)
set_option maxRecDepth 20000 in
theorem gX11_factor_X11_in : GoodIn wsX11_factor (va_wsS RX11 64 yX11_in wsX11_in) := goodIn_app (goodIn_of _ (by decide +kernel)) ggX11_factor_X11_in
set_option maxRecDepth 20000 in
theorem ggX11_factor_X11_factorFor : GoodIn wsX11_factor wsX11_factorFor := goodIn_r _ [11, 12, 13, 14, 15, 6, 16, 17, 18, 19, 20, 21, 22, 23, 24, 25, 26, 27, 28, 29, 30, 31, 32, 33, 34, 35, 36, 37, 38, 39, 40, 41, 42, 43, 44, 45, 46, 47, 48, 49] (by decide +kernel) (by decide +kernel)
set_option maxRecDepth 20000 in
theorem gX11_factor_X11_factorFor : GoodIn wsX11_factor (wsV RX11 182 RX11 yX11_factorFor wsX11_factorFor) := goodIn_app (goodIn_of _ (by decide +kernel)) ggX11_factor_X11_factorFor
theorem dX11_factor_0 : decode cX11_factor 0 = .ok (.iload_n 1, 1) := by decide +kernel
theorem dX11_factor_1 : decode cX11_factor 1 = .ok (.ldc 246, 2) := by decide +kernel
theorem dX11_factor_3 : decode cX11_factor 3 = .ok (.ldc 91, 2) := by decide +kernel
theorem dX11_factor_5 : decode cX11_factor 5 = .ok (.invokestatic 64, 3) := by decide +kernel
theorem dX11_factor_8 : decode cX11_factor 8 = .ok (.ifCond .eq 12, 3) := by decide +kernel
theorem dX11_factor_11 : decode cX11_factor 11 = .ok (.aload_n 0, 1) := by decide +kernel
theorem dX11_factor_12 : decode cX11_factor 12 = .ok (.iload_n 1, 1) := by decide +kernel
theorem dX11_factor_13 : decode cX11_factor 13 = .ok (.i2l, 1) := by decide +kernel
theorem dX11_factor_14 : decode cX11_factor 14 = .ok (.invokevirtual 182, 3) := by decide +kernel
theorem dX11_factor_17 : decode cX11_factor 17 = .ok (.goto 5, 3) := by decide +kernel
theorem dX11_factor_20 : decode cX11_factor 20 = .ok (.ldc 68, 2) := by decide +kernel
theorem dX11_factor_22 : decode cX11_factor 22 = .ok (.ireturn, 1) := by decide +kernel
set_option maxRecDepth 20000 in
theorem ggX11_round_X11_in : GoodIn wsX11_round wsX11_in := goodIn_r _ [7] (by decide +kernel) (by decide +kernel)
set_option maxRecDepth 20000 in
theorem gX11_round_X11_in : GoodIn wsX11_round (va_wsS RX11 64 yX11_in wsX11_in) := goodIn_app (goodIn_of _ (by decide +kernel)) ggX11_round_X11_in
theorem dX11_round_0 : decode cX11_round 0 = .ok (.iload_n 1, 1) := by decide +kernel
theorem dX11_round_1 : decode cX11_round 1 = .ok (.iconst 0, 1) := by decide +kernel
theorem dX11_round_2 : decode cX11_round 2 = .ok (.aload_n 0, 1) := by decide +kernel
theorem dX11_round_3 : decode cX11_round 3 = .ok (.getfield 7, 3) := by decide +kernel
theorem dX11_round_6 : decode cX11_round 6 = .ok (.bipush 86, 2) := by decide +kernel
theorem dX11_round_8 : decode cX11_round 8 = .ok (.iaload, 1) := by decide +kernel
theorem dX11_round_9 : decode cX11_round 9 = .ok (.iconst 1, 1) := by decide +kernel
theorem dX11_round_10 : decode cX11_round 10 = .ok (.isub, 1) := by decide +kernel
theorem dX11_round_11 : decode cX11_round 11 = .ok (.invokestatic 64, 3) := by decide +kernel
theorem dX11_round_14 : decode cX11_round 14 = .ok (.ifCond .ne 6, 3) := by decide +kernel
theorem dX11_round_17 : decode cX11_round 17 = .ok (.ldc 82, 2) := by decide +kernel
theorem dX11_round_19 : decode cX11_round 19 = .ok (.ireturn, 1) := by decide +kernel
theorem dX11_round_20 : decode cX11_round 20 = .ok (.iload_n 2, 1) := by decide +kernel
theorem dX11_round_21 : decode cX11_round 21 = .ok (.iconst 0, 1) := by decide +kernel
theorem dX11_round_22 : decode cX11_round 22 = .ok (.iconst 5, 1) := by decide +kernel
theorem dX11_round_23 : decode cX11_round 23 = .ok (.invokestatic 64, 3) := by decide +kernel
theorem dX11_round_26 : decode cX11_round 26 = .ok (.ifCond .eq 20, 3) := by decide +kernel
theorem dX11_round_29 : decode cX11_round 29 = .ok (.aload_n 0, 1) := by decide +kernel
theorem dX11_round_30 : decode cX11_round 30 = .ok (.getfield 7, 3) := by decide +kernel
theorem dX11_round_33 : decode cX11_round 33 = .ok (.bipush 87, 2) := by decide +kernel
theorem dX11_round_35 : decode cX11_round 35 = .ok (.bipush 6, 2) := by decide +kernel
theorem dX11_round_37 : decode cX11_round 37 = .ok (.iload_n 1, 1) := by decide +kernel
theorem dX11_round_38 : decode cX11_round 38 = .ok (.imul, 1) := by decide +kernel
theorem dX11_round_39 : decode cX11_round 39 = .ok (.iadd, 1) := by decide +kernel
theorem dX11_round_40 : decode cX11_round 40 = .ok (.iload_n 2, 1) := by decide +kernel
theorem dX11_round_41 : decode cX11_round 41 = .ok (.iadd, 1) := by decide +kernel
theorem dX11_round_42 : decode cX11_round 42 = .ok (.iaload, 1) := by decide +kernel
theorem dX11_round_43 : decode cX11_round 43 = .ok (.goto 5, 3) := by decide +kernel
theorem dX11_round_46 : decode cX11_round 46 = .ok (.ldc 68, 2) := by decide +kernel
theorem dX11_round_48 : decode cX11_round 48 = .ok (.ireturn, 1) := by decide +kernel
set_option maxRecDepth 20000 in
theorem ggX11_volume_X11_in : GoodIn wsX11_volume wsX11_in := goodIn_r _ [6] (by decide +kernel) (by decide +kernel)
set_option maxRecDepth 20000 in
theorem gX11_volume_X11_in : GoodIn wsX11_volume (va_wsS RX11 64 yX11_in wsX11_in) := goodIn_app (goodIn_of _ (by decide +kernel)) ggX11_volume_X11_in
theorem dX11_volume_0 : decode cX11_volume 0 = .ok (.iload_n 1, 1) := by decide +kernel
theorem dX11_volume_1 : decode cX11_volume 1 = .ok (.iconst 0, 1) := by decide +kernel
theorem dX11_volume_2 : decode cX11_volume 2 = .ok (.iconst 2, 1) := by decide +kernel
theorem dX11_volume_3 : decode cX11_volume 3 = .ok (.invokestatic 64, 3) := by decide +kernel
theorem dX11_volume_6 : decode cX11_volume 6 = .ok (.ifCond .ne 7, 3) := by decide +kernel
theorem dX11_volume_9 : decode cX11_volume 9 = .ok (.ldc2_w 247, 3) := by decide +kernel
theorem dX11_volume_12 : decode cX11_volume 12 = .ok (.lreturn, 1) := by decide +kernel
theorem dX11_volume_13 : decode cX11_volume 13 = .ok (.iload_n 1, 1) := by decide +kernel
theorem dX11_volume_14 : decode cX11_volume 14 = .ok (.iconst 2, 1) := by decide +kernel
theorem dX11_volume_15 : decode cX11_volume 15 = .ok (.if_icmp .ne 19, 3) := by decide +kernel
theorem dX11_volume_18 : decode cX11_volume 18 = .ok (.aload_n 0, 1) := by decide +kernel
theorem dX11_volume_19 : decode cX11_volume 19 = .ok (.getfield 13, 3) := by decide +kernel
theorem dX11_volume_22 : decode cX11_volume 22 = .ok (.iconst 0, 1) := by decide +kernel
theorem dX11_volume_23 : decode cX11_volume 23 = .ok (.laload, 1) := by decide +kernel
theorem dX11_volume_24 : decode cX11_volume 24 = .ok (.aload_n 0, 1) := by decide +kernel
theorem dX11_volume_25 : decode cX11_volume 25 = .ok (.getfield 13, 3) := by decide +kernel
theorem dX11_volume_28 : decode cX11_volume 28 = .ok (.iconst 1, 1) := by decide +kernel
theorem dX11_volume_29 : decode cX11_volume 29 = .ok (.laload, 1) := by decide +kernel
theorem dX11_volume_30 : decode cX11_volume 30 = .ok (.lsub, 1) := by decide +kernel
theorem dX11_volume_31 : decode cX11_volume 31 = .ok (.goto 9, 3) := by decide +kernel
theorem dX11_volume_34 : decode cX11_volume 34 = .ok (.aload_n 0, 1) := by decide +kernel
theorem dX11_volume_35 : decode cX11_volume 35 = .ok (.getfield 13, 3) := by decide +kernel
theorem dX11_volume_38 : decode cX11_volume 38 = .ok (.iload_n 1, 1) := by decide +kernel
theorem dX11_volume_39 : decode cX11_volume 39 = .ok (.laload, 1) := by decide +kernel
theorem dX11_volume_40 : decode cX11_volume 40 = .ok (.lreturn, 1) := by decide +kernel
theorem dX11_layVelocities_0 : decode cX11_layVelocities 0 = .ok (.iconst 0, 1) := by decide +kernel
theorem dX11_layVelocities_1 : decode cX11_layVelocities 1 = .ok (.istore_n 1, 1) := by decide +kernel
theorem dX11_layVelocities_2 : decode cX11_layVelocities 2 = .ok (.iconst 0, 1) := by decide +kernel
theorem dX11_layVelocities_3 : decode cX11_layVelocities 3 = .ok (.istore_n 2, 1) := by decide +kernel
theorem dX11_layVelocities_4 : decode cX11_layVelocities 4 = .ok (.iload_n 2, 1) := by decide +kernel
theorem dX11_layVelocities_5 : decode cX11_layVelocities 5 = .ok (.aload_n 0, 1) := by decide +kernel
theorem dX11_layVelocities_6 : decode cX11_layVelocities 6 = .ok (.getfield 7, 3) := by decide +kernel
theorem dX11_layVelocities_9 : decode cX11_layVelocities 9 = .ok (.bipush 86, 2) := by decide +kernel
theorem dX11_layVelocities_11 : decode cX11_layVelocities 11 = .ok (.iaload, 1) := by decide +kernel
theorem dX11_layVelocities_12 : decode cX11_layVelocities 12 = .ok (.if_icmp .ge 82, 3) := by decide +kernel
theorem dX11_layVelocities_15 : decode cX11_layVelocities 15 = .ok (.aload_n 0, 1) := by decide +kernel
theorem dX11_layVelocities_16 : decode cX11_layVelocities 16 = .ok (.getfield 7, 3) := by decide +kernel
theorem dX11_layVelocities_19 : decode cX11_layVelocities 19 = .ok (.bipush 87, 2) := by decide +kernel
theorem dX11_layVelocities_21 : decode cX11_layVelocities 21 = .ok (.bipush 6, 2) := by decide +kernel
theorem dX11_layVelocities_23 : decode cX11_layVelocities 23 = .ok (.iload_n 2, 1) := by decide +kernel
theorem dX11_layVelocities_24 : decode cX11_layVelocities 24 = .ok (.imul, 1) := by decide +kernel
theorem dX11_layVelocities_25 : decode cX11_layVelocities 25 = .ok (.iadd, 1) := by decide +kernel
theorem dX11_layVelocities_26 : decode cX11_layVelocities 26 = .ok (.iaload, 1) := by decide +kernel
theorem dX11_layVelocities_27 : decode cX11_layVelocities 27 = .ok (.istore_n 3, 1) := by decide +kernel
theorem dX11_layVelocities_28 : decode cX11_layVelocities 28 = .ok (.iload_n 3, 1) := by decide +kernel
theorem dX11_layVelocities_29 : decode cX11_layVelocities 29 = .ok (.ldc 77, 2) := by decide +kernel
theorem dX11_layVelocities_31 : decode cX11_layVelocities 31 = .ok (.if_icmp .eq 57, 3) := by decide +kernel
theorem dX11_layVelocities_34 : decode cX11_layVelocities 34 = .ok (.iload_n 1, 1) := by decide +kernel
theorem dX11_layVelocities_35 : decode cX11_layVelocities 35 = .ok (.istore 4, 2) := by decide +kernel
theorem dX11_layVelocities_37 : decode cX11_layVelocities 37 = .ok (.iload 4, 2) := by decide +kernel
theorem dX11_layVelocities_39 : decode cX11_layVelocities 39 = .ok (.ifCond .le 38, 3) := by decide +kernel
theorem dX11_layVelocities_42 : decode cX11_layVelocities 42 = .ok (.aload_n 0, 1) := by decide +kernel
theorem dX11_layVelocities_43 : decode cX11_layVelocities 43 = .ok (.getfield 57, 3) := by decide +kernel
theorem dX11_layVelocities_46 : decode cX11_layVelocities 46 = .ok (.iload 4, 2) := by decide +kernel
theorem dX11_layVelocities_48 : decode cX11_layVelocities 48 = .ok (.iconst 1, 1) := by decide +kernel
theorem dX11_layVelocities_49 : decode cX11_layVelocities 49 = .ok (.isub, 1) := by decide +kernel
theorem dX11_layVelocities_50 : decode cX11_layVelocities 50 = .ok (.iaload, 1) := by decide +kernel
theorem dX11_layVelocities_51 : decode cX11_layVelocities 51 = .ok (.iload_n 3, 1) := by decide +kernel
theorem dX11_layVelocities_52 : decode cX11_layVelocities 52 = .ok (.if_icmp .le 25, 3) := by decide +kernel
theorem dX11_layVelocities_55 : decode cX11_layVelocities 55 = .ok (.aload_n 0, 1) := by decide +kernel
theorem dX11_layVelocities_56 : decode cX11_layVelocities 56 = .ok (.getfield 57, 3) := by decide +kernel
theorem dX11_layVelocities_59 : decode cX11_layVelocities 59 = .ok (.iload 4, 2) := by decide +kernel
theorem dX11_layVelocities_61 : decode cX11_layVelocities 61 = .ok (.aload_n 0, 1) := by decide +kernel
theorem dX11_layVelocities_62 : decode cX11_layVelocities 62 = .ok (.getfield 57, 3) := by decide +kernel
theorem dX11_layVelocities_65 : decode cX11_layVelocities 65 = .ok (.iload 4, 2) := by decide +kernel
theorem dX11_layVelocities_67 : decode cX11_layVelocities 67 = .ok (.iconst 1, 1) := by decide +kernel
theorem dX11_layVelocities_68 : decode cX11_layVelocities 68 = .ok (.isub, 1) := by decide +kernel
theorem dX11_layVelocities_69 : decode cX11_layVelocities 69 = .ok (.iaload, 1) := by decide +kernel
theorem dX11_layVelocities_70 : decode cX11_layVelocities 70 = .ok (.iastore, 1) := by decide +kernel
theorem dX11_layVelocities_71 : decode cX11_layVelocities 71 = .ok (.iinc 4 (-1), 3) := by decide +kernel
theorem dX11_layVelocities_74 : decode cX11_layVelocities 74 = .ok (.goto (-37), 3) := by decide +kernel
theorem dX11_layVelocities_77 : decode cX11_layVelocities 77 = .ok (.aload_n 0, 1) := by decide +kernel
theorem dX11_layVelocities_78 : decode cX11_layVelocities 78 = .ok (.getfield 57, 3) := by decide +kernel
theorem dX11_layVelocities_81 : decode cX11_layVelocities 81 = .ok (.iload 4, 2) := by decide +kernel
theorem dX11_layVelocities_83 : decode cX11_layVelocities 83 = .ok (.iload_n 3, 1) := by decide +kernel
theorem dX11_layVelocities_84 : decode cX11_layVelocities 84 = .ok (.iastore, 1) := by decide +kernel
theorem dX11_layVelocities_85 : decode cX11_layVelocities 85 = .ok (.iinc 1 1, 3) := by decide +kernel
theorem dX11_layVelocities_88 : decode cX11_layVelocities 88 = .ok (.iinc 2 1, 3) := by decide +kernel
theorem dX11_layVelocities_91 : decode cX11_layVelocities 91 = .ok (.goto (-87), 3) := by decide +kernel
theorem dX11_layVelocities_94 : decode cX11_layVelocities 94 = .ok (.iload_n 1, 1) := by decide +kernel
theorem dX11_layVelocities_95 : decode cX11_layVelocities 95 = .ok (.ireturn, 1) := by decide +kernel
set_option maxRecDepth 20000 in
theorem ggX11_statistic_X11_in : GoodIn wsX11_statistic wsX11_in := goodIn_r _ [7] (by decide +kernel) (by decide +kernel)
set_option maxRecDepth 20000 in
theorem gX11_statistic_X11_in : GoodIn wsX11_statistic (va_wsS RX11 64 yX11_in wsX11_in) := goodIn_app (goodIn_of _ (by decide +kernel)) ggX11_statistic_X11_in
set_option maxRecDepth 20000 in
theorem ggX11_statistic_X11_layVelocities : GoodIn wsX11_statistic wsX11_layVelocities := goodIn_r _ [11, 12, 2, 3, 13, 14, 15, 16, 17, 18, 19, 20, 21, 22, 23, 24, 25, 26, 27, 28, 29, 30, 31, 32, 33, 34, 35, 36, 37] (by decide +kernel) (by decide +kernel)
set_option maxRecDepth 20000 in
theorem gX11_statistic_X11_layVelocities : GoodIn wsX11_statistic (wsV RX11 249 RX11 yX11_layVelocities wsX11_layVelocities) := goodIn_app (goodIn_of _ (by decide +kernel)) ggX11_statistic_X11_layVelocities
theorem dX11_statistic_0 : decode cX11_statistic 0 = .ok (.iload_n 1, 1) := by decide +kernel
theorem dX11_statistic_1 : decode cX11_statistic 1 = .ok (.iconst 0, 1) := by decide +kernel
theorem dX11_statistic_2 : decode cX11_statistic 2 = .ok (.iconst 4, 1) := by decide +kernel
theorem dX11_statistic_3 : decode cX11_statistic 3 = .ok (.invokestatic 64, 3) := by decide +kernel
theorem dX11_statistic_6 : decode cX11_statistic 6 = .ok (.ifCond .ne 6, 3) := by decide +kernel
theorem dX11_statistic_9 : decode cX11_statistic 9 = .ok (.ldc 68, 2) := by decide +kernel
theorem dX11_statistic_11 : decode cX11_statistic 11 = .ok (.ireturn, 1) := by decide +kernel
theorem dX11_statistic_12 : decode cX11_statistic 12 = .ok (.aload_n 0, 1) := by decide +kernel
theorem dX11_statistic_13 : decode cX11_statistic 13 = .ok (.invokevirtual 249, 3) := by decide +kernel
theorem dX11_statistic_16 : decode cX11_statistic 16 = .ok (.istore_n 2, 1) := by decide +kernel
theorem dX11_statistic_17 : decode cX11_statistic 17 = .ok (.iload_n 1, 1) := by decide +kernel
theorem dX11_statistic_18 : decode cX11_statistic 18 = .ok (.ifCond .eq 7, 3) := by decide +kernel
theorem dX11_statistic_21 : decode cX11_statistic 21 = .ok (.iload_n 2, 1) := by decide +kernel
theorem dX11_statistic_22 : decode cX11_statistic 22 = .ok (.ifCond .ne 14, 3) := by decide +kernel
theorem dX11_statistic_25 : decode cX11_statistic 25 = .ok (.iload_n 1, 1) := by decide +kernel
theorem dX11_statistic_26 : decode cX11_statistic 26 = .ok (.ifCond .ne 7, 3) := by decide +kernel
theorem dX11_statistic_29 : decode cX11_statistic 29 = .ok (.iload_n 2, 1) := by decide +kernel
theorem dX11_statistic_30 : decode cX11_statistic 30 = .ok (.goto 5, 3) := by decide +kernel
theorem dX11_statistic_33 : decode cX11_statistic 33 = .ok (.ldc 77, 2) := by decide +kernel
theorem dX11_statistic_35 : decode cX11_statistic 35 = .ok (.ireturn, 1) := by decide +kernel
theorem dX11_statistic_36 : decode cX11_statistic 36 = .ok (.lconst 0, 1) := by decide +kernel
theorem dX11_statistic_37 : decode cX11_statistic 37 = .ok (.lstore_n 3, 1) := by decide +kernel
theorem dX11_statistic_38 : decode cX11_statistic 38 = .ok (.iconst 0, 1) := by decide +kernel
theorem dX11_statistic_39 : decode cX11_statistic 39 = .ok (.istore 5, 2) := by decide +kernel
theorem dX11_statistic_41 : decode cX11_statistic 41 = .ok (.iload 5, 2) := by decide +kernel
theorem dX11_statistic_43 : decode cX11_statistic 43 = .ok (.iload_n 2, 1) := by decide +kernel
theorem dX11_statistic_44 : decode cX11_statistic 44 = .ok (.if_icmp .ge 20, 3) := by decide +kernel
theorem dX11_statistic_47 : decode cX11_statistic 47 = .ok (.lload_n 3, 1) := by decide +kernel
theorem dX11_statistic_48 : decode cX11_statistic 48 = .ok (.aload_n 0, 1) := by decide +kernel
theorem dX11_statistic_49 : decode cX11_statistic 49 = .ok (.getfield 57, 3) := by decide +kernel
theorem dX11_statistic_52 : decode cX11_statistic 52 = .ok (.iload 5, 2) := by decide +kernel
theorem dX11_statistic_54 : decode cX11_statistic 54 = .ok (.iaload, 1) := by decide +kernel
theorem dX11_statistic_55 : decode cX11_statistic 55 = .ok (.i2l, 1) := by decide +kernel
theorem dX11_statistic_56 : decode cX11_statistic 56 = .ok (.ladd, 1) := by decide +kernel
theorem dX11_statistic_57 : decode cX11_statistic 57 = .ok (.lstore_n 3, 1) := by decide +kernel
theorem dX11_statistic_58 : decode cX11_statistic 58 = .ok (.iinc 5 1, 3) := by decide +kernel
theorem dX11_statistic_61 : decode cX11_statistic 61 = .ok (.goto (-20), 3) := by decide +kernel
theorem dX11_statistic_64 : decode cX11_statistic 64 = .ok (.iload_n 1, 1) := by decide +kernel
theorem dX11_statistic_65 : decode cX11_statistic 65 = .ok (.tableswitch 49 1 3 #[27, 34, 43], 27) := by decide +kernel
theorem dX11_statistic_92 : decode cX11_statistic 92 = .ok (.aload_n 0, 1) := by decide +kernel
theorem dX11_statistic_93 : decode cX11_statistic 93 = .ok (.getfield 57, 3) := by decide +kernel
theorem dX11_statistic_96 : decode cX11_statistic 96 = .ok (.iconst 0, 1) := by decide +kernel
theorem dX11_statistic_97 : decode cX11_statistic 97 = .ok (.iaload, 1) := by decide +kernel
theorem dX11_statistic_98 : decode cX11_statistic 98 = .ok (.ireturn, 1) := by decide +kernel
theorem dX11_statistic_99 : decode cX11_statistic 99 = .ok (.aload_n 0, 1) := by decide +kernel
theorem dX11_statistic_100 : decode cX11_statistic 100 = .ok (.getfield 57, 3) := by decide +kernel
theorem dX11_statistic_103 : decode cX11_statistic 103 = .ok (.iload_n 2, 1) := by decide +kernel
theorem dX11_statistic_104 : decode cX11_statistic 104 = .ok (.iconst 1, 1) := by decide +kernel
theorem dX11_statistic_105 : decode cX11_statistic 105 = .ok (.isub, 1) := by decide +kernel
theorem dX11_statistic_106 : decode cX11_statistic 106 = .ok (.iaload, 1) := by decide +kernel
theorem dX11_statistic_107 : decode cX11_statistic 107 = .ok (.ireturn, 1) := by decide +kernel
theorem dX11_statistic_108 : decode cX11_statistic 108 = .ok (.lload_n 3, 1) := by decide +kernel
theorem dX11_statistic_109 : decode cX11_statistic 109 = .ok (.iload_n 2, 1) := by decide +kernel
theorem dX11_statistic_110 : decode cX11_statistic 110 = .ok (.i2l, 1) := by decide +kernel
theorem dX11_statistic_111 : decode cX11_statistic 111 = .ok (.ldiv, 1) := by decide +kernel
theorem dX11_statistic_112 : decode cX11_statistic 112 = .ok (.l2i, 1) := by decide +kernel
theorem dX11_statistic_113 : decode cX11_statistic 113 = .ok (.ireturn, 1) := by decide +kernel
theorem dX11_statistic_114 : decode cX11_statistic 114 = .ok (.iload_n 2, 1) := by decide +kernel
theorem dX11_statistic_115 : decode cX11_statistic 115 = .ok (.iconst 2, 1) := by decide +kernel
theorem dX11_statistic_116 : decode cX11_statistic 116 = .ok (.irem, 1) := by decide +kernel
theorem dX11_statistic_117 : decode cX11_statistic 117 = .ok (.iconst 1, 1) := by decide +kernel
theorem dX11_statistic_118 : decode cX11_statistic 118 = .ok (.if_icmp .ne 14, 3) := by decide +kernel
theorem dX11_statistic_121 : decode cX11_statistic 121 = .ok (.aload_n 0, 1) := by decide +kernel
theorem dX11_statistic_122 : decode cX11_statistic 122 = .ok (.getfield 57, 3) := by decide +kernel
theorem dX11_statistic_125 : decode cX11_statistic 125 = .ok (.iload_n 2, 1) := by decide +kernel
theorem dX11_statistic_126 : decode cX11_statistic 126 = .ok (.iconst 2, 1) := by decide +kernel
theorem dX11_statistic_127 : decode cX11_statistic 127 = .ok (.idiv, 1) := by decide +kernel
theorem dX11_statistic_128 : decode cX11_statistic 128 = .ok (.iaload, 1) := by decide +kernel
theorem dX11_statistic_129 : decode cX11_statistic 129 = .ok (.goto 24, 3) := by decide +kernel
theorem dX11_statistic_132 : decode cX11_statistic 132 = .ok (.aload_n 0, 1) := by decide +kernel
theorem dX11_statistic_133 : decode cX11_statistic 133 = .ok (.getfield 57, 3) := by decide +kernel
theorem dX11_statistic_136 : decode cX11_statistic 136 = .ok (.iload_n 2, 1) := by decide +kernel
theorem dX11_statistic_137 : decode cX11_statistic 137 = .ok (.iconst 2, 1) := by decide +kernel
theorem dX11_statistic_138 : decode cX11_statistic 138 = .ok (.idiv, 1) := by decide +kernel
theorem dX11_statistic_139 : decode cX11_statistic 139 = .ok (.iconst 1, 1) := by decide +kernel
theorem dX11_statistic_140 : decode cX11_statistic 140 = .ok (.isub, 1) := by decide +kernel
theorem dX11_statistic_141 : decode cX11_statistic 141 = .ok (.iaload, 1) := by decide +kernel
theorem dX11_statistic_142 : decode cX11_statistic 142 = .ok (.aload_n 0, 1) := by decide +kernel
theorem dX11_statistic_143 : decode cX11_statistic 143 = .ok (.getfield 57, 3) := by decide +kernel
theorem dX11_statistic_146 : decode cX11_statistic 146 = .ok (.iload_n 2, 1) := by decide +kernel
theorem dX11_statistic_147 : decode cX11_statistic 147 = .ok (.iconst 2, 1) := by decide +kernel
theorem dX11_statistic_148 : decode cX11_statistic 148 = .ok (.idiv, 1) := by decide +kernel
theorem dX11_statistic_149 : decode cX11_statistic 149 = .ok (.iaload, 1) := by decide +kernel
theorem dX11_statistic_150 : decode cX11_statistic 150 = .ok (.iadd, 1) := by decide +kernel
theorem dX11_statistic_151 : decode cX11_statistic 151 = .ok (.iconst 2, 1) := by decide +kernel
theorem dX11_statistic_152 : decode cX11_statistic 152 = .ok (.idiv, 1) := by decide +kernel
theorem dX11_statistic_153 : decode cX11_statistic 153 = .ok (.ireturn, 1) := by decide +kernel
set_option maxRecDepth 20000 in
theorem ggX11_isAhead_X11_fails : GoodIn wsX11_isAhead wsX11_fails := goodIn_r _ [5, 6, 7, 8, 4, 9, 10, 11, 12, 13, 14, 15, 16, 17, 18, 19, 20, 21, 22, 23, 24, 25, 26, 27, 28, 29, 30, 31, 32, 33, 34, 35] (by decide +kernel) (by decide +kernel)
set_option maxRecDepth 20000 in
theorem gX11_isAhead_X11_fails : GoodIn wsX11_isAhead (wsV RX11 239 RX11 yX11_fails wsX11_fails) := goodIn_app (goodIn_of _ (by decide +kernel)) ggX11_isAhead_X11_fails
set_option maxRecDepth 20000 in
theorem ggX11_isAhead_X11_of : GoodIn wsX11_isAhead wsX11_of := goodIn_r _ [9, 10, 11, 12, 13, 14, 15, 16, 17, 18, 19, 20, 21, 22, 23, 24, 25, 26, 27, 28, 29, 30, 31, 32, 33, 34, 35] (by decide +kernel) (by decide +kernel)
set_option maxRecDepth 20000 in
theorem gX11_isAhead_X11_of : GoodIn wsX11_isAhead (wsV RX11 83 RX11 yX11_of wsX11_of) := goodIn_app (goodIn_of _ (by decide +kernel)) ggX11_isAhead_X11_of
theorem dX11_isAhead_0 : decode cX11_isAhead 0 = .ok (.aload_n 0, 1) := by decide +kernel
theorem dX11_isAhead_1 : decode cX11_isAhead 1 = .ok (.iload_n 1, 1) := by decide +kernel
theorem dX11_isAhead_2 : decode cX11_isAhead 2 = .ok (.invokevirtual 239, 3) := by decide +kernel
theorem dX11_isAhead_5 : decode cX11_isAhead 5 = .ok (.aload_n 0, 1) := by decide +kernel
theorem dX11_isAhead_6 : decode cX11_isAhead 6 = .ok (.iload_n 2, 1) := by decide +kernel
theorem dX11_isAhead_7 : decode cX11_isAhead 7 = .ok (.invokevirtual 239, 3) := by decide +kernel
theorem dX11_isAhead_10 : decode cX11_isAhead 10 = .ok (.if_icmp .eq 9, 3) := by decide +kernel
theorem dX11_isAhead_13 : decode cX11_isAhead 13 = .ok (.aload_n 0, 1) := by decide +kernel
theorem dX11_isAhead_14 : decode cX11_isAhead 14 = .ok (.iload_n 2, 1) := by decide +kernel
theorem dX11_isAhead_15 : decode cX11_isAhead 15 = .ok (.invokevirtual 239, 3) := by decide +kernel
theorem dX11_isAhead_18 : decode cX11_isAhead 18 = .ok (.ireturn, 1) := by decide +kernel
theorem dX11_isAhead_19 : decode cX11_isAhead 19 = .ok (.aload_n 0, 1) := by decide +kernel
theorem dX11_isAhead_20 : decode cX11_isAhead 20 = .ok (.iload_n 1, 1) := by decide +kernel
theorem dX11_isAhead_21 : decode cX11_isAhead 21 = .ok (.bipush 10, 2) := by decide +kernel
theorem dX11_isAhead_23 : decode cX11_isAhead 23 = .ok (.invokevirtual 83, 3) := by decide +kernel
theorem dX11_isAhead_26 : decode cX11_isAhead 26 = .ok (.aload_n 0, 1) := by decide +kernel
theorem dX11_isAhead_27 : decode cX11_isAhead 27 = .ok (.iload_n 2, 1) := by decide +kernel
theorem dX11_isAhead_28 : decode cX11_isAhead 28 = .ok (.bipush 10, 2) := by decide +kernel
theorem dX11_isAhead_30 : decode cX11_isAhead 30 = .ok (.invokevirtual 83, 3) := by decide +kernel
theorem dX11_isAhead_33 : decode cX11_isAhead 33 = .ok (.if_icmp .eq 26, 3) := by decide +kernel
theorem dX11_isAhead_36 : decode cX11_isAhead 36 = .ok (.aload_n 0, 1) := by decide +kernel
theorem dX11_isAhead_37 : decode cX11_isAhead 37 = .ok (.iload_n 1, 1) := by decide +kernel
theorem dX11_isAhead_38 : decode cX11_isAhead 38 = .ok (.bipush 10, 2) := by decide +kernel
theorem dX11_isAhead_40 : decode cX11_isAhead 40 = .ok (.invokevirtual 83, 3) := by decide +kernel
theorem dX11_isAhead_43 : decode cX11_isAhead 43 = .ok (.aload_n 0, 1) := by decide +kernel
theorem dX11_isAhead_44 : decode cX11_isAhead 44 = .ok (.iload_n 2, 1) := by decide +kernel
theorem dX11_isAhead_45 : decode cX11_isAhead 45 = .ok (.bipush 10, 2) := by decide +kernel
theorem dX11_isAhead_47 : decode cX11_isAhead 47 = .ok (.invokevirtual 83, 3) := by decide +kernel
theorem dX11_isAhead_50 : decode cX11_isAhead 50 = .ok (.if_icmp .ge 7, 3) := by decide +kernel
theorem dX11_isAhead_53 : decode cX11_isAhead 53 = .ok (.iconst 1, 1) := by decide +kernel
theorem dX11_isAhead_54 : decode cX11_isAhead 54 = .ok (.goto 4, 3) := by decide +kernel
theorem dX11_isAhead_57 : decode cX11_isAhead 57 = .ok (.iconst 0, 1) := by decide +kernel
theorem dX11_isAhead_58 : decode cX11_isAhead 58 = .ok (.ireturn, 1) := by decide +kernel
theorem dX11_isAhead_59 : decode cX11_isAhead 59 = .ok (.aload_n 0, 1) := by decide +kernel
theorem dX11_isAhead_60 : decode cX11_isAhead 60 = .ok (.iload_n 1, 1) := by decide +kernel
theorem dX11_isAhead_61 : decode cX11_isAhead 61 = .ok (.bipush 11, 2) := by decide +kernel
theorem dX11_isAhead_63 : decode cX11_isAhead 63 = .ok (.invokevirtual 83, 3) := by decide +kernel
theorem dX11_isAhead_66 : decode cX11_isAhead 66 = .ok (.aload_n 0, 1) := by decide +kernel
theorem dX11_isAhead_67 : decode cX11_isAhead 67 = .ok (.iload_n 1, 1) := by decide +kernel
theorem dX11_isAhead_68 : decode cX11_isAhead 68 = .ok (.bipush 12, 2) := by decide +kernel
theorem dX11_isAhead_70 : decode cX11_isAhead 70 = .ok (.invokevirtual 83, 3) := by decide +kernel
theorem dX11_isAhead_73 : decode cX11_isAhead 73 = .ok (.iadd, 1) := by decide +kernel
theorem dX11_isAhead_74 : decode cX11_isAhead 74 = .ok (.istore_n 3, 1) := by decide +kernel
theorem dX11_isAhead_75 : decode cX11_isAhead 75 = .ok (.aload_n 0, 1) := by decide +kernel
theorem dX11_isAhead_76 : decode cX11_isAhead 76 = .ok (.iload_n 2, 1) := by decide +kernel
theorem dX11_isAhead_77 : decode cX11_isAhead 77 = .ok (.bipush 11, 2) := by decide +kernel
theorem dX11_isAhead_79 : decode cX11_isAhead 79 = .ok (.invokevirtual 83, 3) := by decide +kernel
theorem dX11_isAhead_82 : decode cX11_isAhead 82 = .ok (.aload_n 0, 1) := by decide +kernel
theorem dX11_isAhead_83 : decode cX11_isAhead 83 = .ok (.iload_n 2, 1) := by decide +kernel
theorem dX11_isAhead_84 : decode cX11_isAhead 84 = .ok (.bipush 12, 2) := by decide +kernel
theorem dX11_isAhead_86 : decode cX11_isAhead 86 = .ok (.invokevirtual 83, 3) := by decide +kernel
theorem dX11_isAhead_89 : decode cX11_isAhead 89 = .ok (.iadd, 1) := by decide +kernel
theorem dX11_isAhead_90 : decode cX11_isAhead 90 = .ok (.istore 4, 2) := by decide +kernel
theorem dX11_isAhead_92 : decode cX11_isAhead 92 = .ok (.iload_n 3, 1) := by decide +kernel
theorem dX11_isAhead_93 : decode cX11_isAhead 93 = .ok (.iload 4, 2) := by decide +kernel
theorem dX11_isAhead_95 : decode cX11_isAhead 95 = .ok (.if_icmp .eq 15, 3) := by decide +kernel
theorem dX11_isAhead_98 : decode cX11_isAhead 98 = .ok (.iload_n 3, 1) := by decide +kernel
theorem dX11_isAhead_99 : decode cX11_isAhead 99 = .ok (.iload 4, 2) := by decide +kernel
theorem dX11_isAhead_101 : decode cX11_isAhead 101 = .ok (.if_icmp .ge 7, 3) := by decide +kernel
theorem dX11_isAhead_104 : decode cX11_isAhead 104 = .ok (.iconst 1, 1) := by decide +kernel
theorem dX11_isAhead_105 : decode cX11_isAhead 105 = .ok (.goto 4, 3) := by decide +kernel
theorem dX11_isAhead_108 : decode cX11_isAhead 108 = .ok (.iconst 0, 1) := by decide +kernel
theorem dX11_isAhead_109 : decode cX11_isAhead 109 = .ok (.ireturn, 1) := by decide +kernel
theorem dX11_isAhead_110 : decode cX11_isAhead 110 = .ok (.aload_n 0, 1) := by decide +kernel
theorem dX11_isAhead_111 : decode cX11_isAhead 111 = .ok (.iload_n 1, 1) := by decide +kernel
theorem dX11_isAhead_112 : decode cX11_isAhead 112 = .ok (.iconst 2, 1) := by decide +kernel
theorem dX11_isAhead_113 : decode cX11_isAhead 113 = .ok (.invokevirtual 83, 3) := by decide +kernel
theorem dX11_isAhead_116 : decode cX11_isAhead 116 = .ok (.aload_n 0, 1) := by decide +kernel
theorem dX11_isAhead_117 : decode cX11_isAhead 117 = .ok (.iload_n 2, 1) := by decide +kernel
theorem dX11_isAhead_118 : decode cX11_isAhead 118 = .ok (.iconst 2, 1) := by decide +kernel
theorem dX11_isAhead_119 : decode cX11_isAhead 119 = .ok (.invokevirtual 83, 3) := by decide +kernel
theorem dX11_isAhead_122 : decode cX11_isAhead 122 = .ok (.if_icmp .eq 26, 3) := by decide +kernel
theorem dX11_isAhead_125 : decode cX11_isAhead 125 = .ok (.aload_n 0, 1) := by decide +kernel
theorem dX11_isAhead_126 : decode cX11_isAhead 126 = .ok (.iload_n 1, 1) := by decide +kernel
theorem dX11_isAhead_127 : decode cX11_isAhead 127 = .ok (.iconst 2, 1) := by decide +kernel
theorem dX11_isAhead_128 : decode cX11_isAhead 128 = .ok (.invokevirtual 83, 3) := by decide +kernel
theorem dX11_isAhead_131 : decode cX11_isAhead 131 = .ok (.aload_n 0, 1) := by decide +kernel
theorem dX11_isAhead_132 : decode cX11_isAhead 132 = .ok (.iload_n 2, 1) := by decide +kernel
theorem dX11_isAhead_133 : decode cX11_isAhead 133 = .ok (.iconst 2, 1) := by decide +kernel
theorem dX11_isAhead_134 : decode cX11_isAhead 134 = .ok (.invokevirtual 83, 3) := by decide +kernel
theorem dX11_isAhead_137 : decode cX11_isAhead 137 = .ok (.if_icmp .le 7, 3) := by decide +kernel
theorem dX11_isAhead_140 : decode cX11_isAhead 140 = .ok (.iconst 1, 1) := by decide +kernel
theorem dX11_isAhead_141 : decode cX11_isAhead 141 = .ok (.goto 17, 3) := by decide +kernel
theorem dX11_isAhead_144 : decode cX11_isAhead 144 = .ok (.iconst 0, 1) := by decide +kernel
theorem dX11_isAhead_145 : decode cX11_isAhead 145 = .ok (.goto 13, 3) := by decide +kernel
theorem dX11_isAhead_148 : decode cX11_isAhead 148 = .ok (.iload_n 1, 1) := by decide +kernel
theorem dX11_isAhead_149 : decode cX11_isAhead 149 = .ok (.iload_n 2, 1) := by decide +kernel
theorem dX11_isAhead_150 : decode cX11_isAhead 150 = .ok (.if_icmp .ge 7, 3) := by decide +kernel
theorem dX11_isAhead_153 : decode cX11_isAhead 153 = .ok (.iconst 1, 1) := by decide +kernel
theorem dX11_isAhead_154 : decode cX11_isAhead 154 = .ok (.goto 4, 3) := by decide +kernel
theorem dX11_isAhead_157 : decode cX11_isAhead 157 = .ok (.iconst 0, 1) := by decide +kernel
theorem dX11_isAhead_158 : decode cX11_isAhead 158 = .ok (.ireturn, 1) := by decide +kernel
set_option maxRecDepth 20000 in
theorem ggX11_trust_X11_isAhead : GoodIn wsX11_trust wsX11_isAhead := goodIn_r _ [8, 9, 10, 11, 7, 12, 13, 14, 15, 16, 2, 17, 18, 19, 20, 21, 22, 23, 24, 25, 26, 27, 28, 29, 30, 31, 32, 33, 34, 35, 36, 37, 38, 39, 40, 41] (by decide +kernel) (by decide +kernel)
set_option maxRecDepth 20000 in
theorem gX11_trust_X11_isAhead : GoodIn wsX11_trust (wsV RX11 252 RX11 yX11_isAhead wsX11_isAhead) := goodIn_app (goodIn_of _ (by decide +kernel)) ggX11_trust_X11_isAhead
theorem dX11_trust_0 : decode cX11_trust 0 = .ok (.iload_n 1, 1) := by decide +kernel
theorem dX11_trust_1 : decode cX11_trust 1 = .ok (.ifCond .ge 6, 3) := by decide +kernel
theorem dX11_trust_4 : decode cX11_trust 4 = .ok (.ldc 68, 2) := by decide +kernel
theorem dX11_trust_6 : decode cX11_trust 6 = .ok (.ireturn, 1) := by decide +kernel
theorem dX11_trust_7 : decode cX11_trust 7 = .ok (.iconst 0, 1) := by decide +kernel
theorem dX11_trust_8 : decode cX11_trust 8 = .ok (.istore_n 2, 1) := by decide +kernel
theorem dX11_trust_9 : decode cX11_trust 9 = .ok (.iload_n 2, 1) := by decide +kernel
theorem dX11_trust_10 : decode cX11_trust 10 = .ok (.aload_n 0, 1) := by decide +kernel
theorem dX11_trust_11 : decode cX11_trust 11 = .ok (.getfield 7, 3) := by decide +kernel
theorem dX11_trust_14 : decode cX11_trust 14 = .ok (.bipush 64, 2) := by decide +kernel
theorem dX11_trust_16 : decode cX11_trust 16 = .ok (.iaload, 1) := by decide +kernel
theorem dX11_trust_17 : decode cX11_trust 17 = .ok (.if_icmp .ge 63, 3) := by decide +kernel
theorem dX11_trust_20 : decode cX11_trust 20 = .ok (.iconst 0, 1) := by decide +kernel
theorem dX11_trust_21 : decode cX11_trust 21 = .ok (.istore_n 3, 1) := by decide +kernel
theorem dX11_trust_22 : decode cX11_trust 22 = .ok (.iconst 0, 1) := by decide +kernel
theorem dX11_trust_23 : decode cX11_trust 23 = .ok (.istore 4, 2) := by decide +kernel
theorem dX11_trust_25 : decode cX11_trust 25 = .ok (.iload 4, 2) := by decide +kernel
theorem dX11_trust_27 : decode cX11_trust 27 = .ok (.aload_n 0, 1) := by decide +kernel
theorem dX11_trust_28 : decode cX11_trust 28 = .ok (.getfield 7, 3) := by decide +kernel
theorem dX11_trust_31 : decode cX11_trust 31 = .ok (.bipush 64, 2) := by decide +kernel
theorem dX11_trust_33 : decode cX11_trust 33 = .ok (.iaload, 1) := by decide +kernel
theorem dX11_trust_34 : decode cX11_trust 34 = .ok (.if_icmp .ge 33, 3) := by decide +kernel
theorem dX11_trust_37 : decode cX11_trust 37 = .ok (.iload_n 3, 1) := by decide +kernel
theorem dX11_trust_38 : decode cX11_trust 38 = .ok (.iload 4, 2) := by decide +kernel
theorem dX11_trust_40 : decode cX11_trust 40 = .ok (.iload_n 2, 1) := by decide +kernel
theorem dX11_trust_41 : decode cX11_trust 41 = .ok (.if_icmp .eq 17, 3) := by decide +kernel
theorem dX11_trust_44 : decode cX11_trust 44 = .ok (.aload_n 0, 1) := by decide +kernel
theorem dX11_trust_45 : decode cX11_trust 45 = .ok (.iload 4, 2) := by decide +kernel
theorem dX11_trust_47 : decode cX11_trust 47 = .ok (.iload_n 2, 1) := by decide +kernel
theorem dX11_trust_48 : decode cX11_trust 48 = .ok (.invokevirtual 252, 3) := by decide +kernel
theorem dX11_trust_51 : decode cX11_trust 51 = .ok (.ifCond .eq 7, 3) := by decide +kernel
theorem dX11_trust_54 : decode cX11_trust 54 = .ok (.iconst 1, 1) := by decide +kernel
theorem dX11_trust_55 : decode cX11_trust 55 = .ok (.goto 4, 3) := by decide +kernel
theorem dX11_trust_58 : decode cX11_trust 58 = .ok (.iconst 0, 1) := by decide +kernel
theorem dX11_trust_59 : decode cX11_trust 59 = .ok (.iadd, 1) := by decide +kernel
theorem dX11_trust_60 : decode cX11_trust 60 = .ok (.istore_n 3, 1) := by decide +kernel
theorem dX11_trust_61 : decode cX11_trust 61 = .ok (.iinc 4 1, 3) := by decide +kernel
theorem dX11_trust_64 : decode cX11_trust 64 = .ok (.goto (-39), 3) := by decide +kernel
theorem dX11_trust_67 : decode cX11_trust 67 = .ok (.iload_n 3, 1) := by decide +kernel
theorem dX11_trust_68 : decode cX11_trust 68 = .ok (.iload_n 1, 1) := by decide +kernel
theorem dX11_trust_69 : decode cX11_trust 69 = .ok (.if_icmp .ne 5, 3) := by decide +kernel
theorem dX11_trust_72 : decode cX11_trust 72 = .ok (.iload_n 2, 1) := by decide +kernel
theorem dX11_trust_73 : decode cX11_trust 73 = .ok (.ireturn, 1) := by decide +kernel
theorem dX11_trust_74 : decode cX11_trust 74 = .ok (.iinc 2 1, 3) := by decide +kernel
theorem dX11_trust_77 : decode cX11_trust 77 = .ok (.goto (-68), 3) := by decide +kernel
theorem dX11_trust_80 : decode cX11_trust 80 = .ok (.ldc 77, 2) := by decide +kernel
theorem dX11_trust_82 : decode cX11_trust 82 = .ok (.ireturn, 1) := by decide +kernel
set_option maxRecDepth 20000 in
theorem ggX11_failing_X11_fails : GoodIn wsX11_failing wsX11_fails := goodIn_r _ [6, 7, 8, 9, 5, 10, 1, 11, 12, 13, 14, 15, 16, 17, 18, 19, 20, 21, 22, 23, 24, 25, 26, 27, 28, 29, 30, 31, 32, 33, 34, 35] (by decide +kernel) (by decide +kernel)
set_option maxRecDepth 20000 in
theorem gX11_failing_X11_fails : GoodIn wsX11_failing (wsV RX11 239 RX11 yX11_fails wsX11_fails) := goodIn_app (goodIn_of _ (by decide +kernel)) ggX11_failing_X11_fails
theorem dX11_failing_0 : decode cX11_failing 0 = .ok (.iconst 0, 1) := by decide +kernel
theorem dX11_failing_1 : decode cX11_failing 1 = .ok (.istore_n 1, 1) := by decide +kernel
theorem dX11_failing_2 : decode cX11_failing 2 = .ok (.iconst 0, 1) := by decide +kernel
theorem dX11_failing_3 : decode cX11_failing 3 = .ok (.istore_n 2, 1) := by decide +kernel
theorem dX11_failing_4 : decode cX11_failing 4 = .ok (.iload_n 2, 1) := by decide +kernel
theorem dX11_failing_5 : decode cX11_failing 5 = .ok (.aload_n 0, 1) := by decide +kernel
theorem dX11_failing_6 : decode cX11_failing 6 = .ok (.getfield 7, 3) := by decide +kernel
theorem dX11_failing_9 : decode cX11_failing 9 = .ok (.bipush 64, 2) := by decide +kernel
theorem dX11_failing_11 : decode cX11_failing 11 = .ok (.iaload, 1) := by decide +kernel
theorem dX11_failing_12 : decode cX11_failing 12 = .ok (.if_icmp .ge 25, 3) := by decide +kernel
theorem dX11_failing_15 : decode cX11_failing 15 = .ok (.iload_n 1, 1) := by decide +kernel
theorem dX11_failing_16 : decode cX11_failing 16 = .ok (.aload_n 0, 1) := by decide +kernel
theorem dX11_failing_17 : decode cX11_failing 17 = .ok (.iload_n 2, 1) := by decide +kernel
theorem dX11_failing_18 : decode cX11_failing 18 = .ok (.invokevirtual 239, 3) := by decide +kernel
theorem dX11_failing_21 : decode cX11_failing 21 = .ok (.ifCond .eq 7, 3) := by decide +kernel
theorem dX11_failing_24 : decode cX11_failing 24 = .ok (.iconst 1, 1) := by decide +kernel
theorem dX11_failing_25 : decode cX11_failing 25 = .ok (.goto 4, 3) := by decide +kernel
theorem dX11_failing_28 : decode cX11_failing 28 = .ok (.iconst 0, 1) := by decide +kernel
theorem dX11_failing_29 : decode cX11_failing 29 = .ok (.iadd, 1) := by decide +kernel
theorem dX11_failing_30 : decode cX11_failing 30 = .ok (.istore_n 1, 1) := by decide +kernel
theorem dX11_failing_31 : decode cX11_failing 31 = .ok (.iinc 2 1, 3) := by decide +kernel
theorem dX11_failing_34 : decode cX11_failing 34 = .ok (.goto (-30), 3) := by decide +kernel
theorem dX11_failing_37 : decode cX11_failing 37 = .ok (.iload_n 1, 1) := by decide +kernel
theorem dX11_failing_38 : decode cX11_failing 38 = .ok (.ireturn, 1) := by decide +kernel
set_option maxRecDepth 20000 in
theorem ggX11_total_X11_shots : GoodIn wsX11_total wsX11_shots := goodIn_r _ [9, 1, 10, 11, 12, 13, 8, 14, 26, 27, 28, 29, 30, 31, 32, 33, 34, 35, 36, 37, 38, 39, 40, 41, 42, 43, 44, 45, 46, 47, 48, 49, 50] (by decide +kernel) (by decide +kernel)
set_option maxRecDepth 20000 in
theorem gX11_total_X11_shots : GoodIn wsX11_total (wsV RX11 124 RX11 yX11_shots wsX11_shots) := goodIn_app (goodIn_of _ (by decide +kernel)) ggX11_total_X11_shots
set_option maxRecDepth 20000 in
theorem ggX11_total_X11_failing : GoodIn wsX11_total wsX11_failing := goodIn_r _ [18, 1, 19, 20, 21, 8, 22, 11, 12, 13, 14, 26, 27, 28, 29, 30, 31, 32, 33, 34, 35, 36, 37, 38, 39, 40, 41, 42, 43, 44, 45, 46, 47, 48, 49, 50] (by decide +kernel) (by decide +kernel)
set_option maxRecDepth 20000 in
theorem gX11_total_X11_failing : GoodIn wsX11_total (wsV RX11 255 RX11 yX11_failing wsX11_failing) := goodIn_app (goodIn_of _ (by decide +kernel)) ggX11_total_X11_failing
set_option maxRecDepth 20000 in
theorem ggX11_total_X11_in : GoodIn wsX11_total wsX11_in := goodIn_r _ [25] (by decide +kernel) (by decide +kernel)
set_option maxRecDepth 20000 in
theorem gX11_total_X11_in : GoodIn wsX11_total (va_wsS RX11 64 yX11_in wsX11_in) := goodIn_app (goodIn_of _ (by decide +kernel)) ggX11_total_X11_in
theorem dX11_total_0 : decode cX11_total 0 = .ok (.iload_n 1, 1) := by decide +kernel
theorem dX11_total_1 : decode cX11_total 1 = .ok (.tableswitch 111 0 9 #[55, 63, 71, 76, 76, 76, 88, 96, 101, 106], 55) := by decide +kernel
theorem dX11_total_56 : decode cX11_total 56 = .ok (.aload_n 0, 1) := by decide +kernel
theorem dX11_total_57 : decode cX11_total 57 = .ok (.getfield 7, 3) := by decide +kernel
theorem dX11_total_60 : decode cX11_total 60 = .ok (.bipush 64, 2) := by decide +kernel
theorem dX11_total_62 : decode cX11_total 62 = .ok (.iaload, 1) := by decide +kernel
theorem dX11_total_63 : decode cX11_total 63 = .ok (.ireturn, 1) := by decide +kernel
theorem dX11_total_64 : decode cX11_total 64 = .ok (.aload_n 0, 1) := by decide +kernel
theorem dX11_total_65 : decode cX11_total 65 = .ok (.getfield 7, 3) := by decide +kernel
theorem dX11_total_68 : decode cX11_total 68 = .ok (.bipush 65, 2) := by decide +kernel
theorem dX11_total_70 : decode cX11_total 70 = .ok (.iaload, 1) := by decide +kernel
theorem dX11_total_71 : decode cX11_total 71 = .ok (.ireturn, 1) := by decide +kernel
theorem dX11_total_72 : decode cX11_total 72 = .ok (.aload_n 0, 1) := by decide +kernel
theorem dX11_total_73 : decode cX11_total 73 = .ok (.invokevirtual 124, 3) := by decide +kernel
theorem dX11_total_76 : decode cX11_total 76 = .ok (.ireturn, 1) := by decide +kernel
theorem dX11_total_77 : decode cX11_total 77 = .ok (.aload_n 0, 1) := by decide +kernel
theorem dX11_total_78 : decode cX11_total 78 = .ok (.getfield 7, 3) := by decide +kernel
theorem dX11_total_81 : decode cX11_total 81 = .ok (.bipush 84, 2) := by decide +kernel
theorem dX11_total_83 : decode cX11_total 83 = .ok (.iload_n 1, 1) := by decide +kernel
theorem dX11_total_84 : decode cX11_total 84 = .ok (.iadd, 1) := by decide +kernel
theorem dX11_total_85 : decode cX11_total 85 = .ok (.iconst 3, 1) := by decide +kernel
theorem dX11_total_86 : decode cX11_total 86 = .ok (.isub, 1) := by decide +kernel
theorem dX11_total_87 : decode cX11_total 87 = .ok (.iaload, 1) := by decide +kernel
theorem dX11_total_88 : decode cX11_total 88 = .ok (.ireturn, 1) := by decide +kernel
theorem dX11_total_89 : decode cX11_total 89 = .ok (.aload_n 0, 1) := by decide +kernel
theorem dX11_total_90 : decode cX11_total 90 = .ok (.getfield 7, 3) := by decide +kernel
theorem dX11_total_93 : decode cX11_total 93 = .ok (.bipush 83, 2) := by decide +kernel
theorem dX11_total_95 : decode cX11_total 95 = .ok (.iaload, 1) := by decide +kernel
theorem dX11_total_96 : decode cX11_total 96 = .ok (.ireturn, 1) := by decide +kernel
theorem dX11_total_97 : decode cX11_total 97 = .ok (.aload_n 0, 1) := by decide +kernel
theorem dX11_total_98 : decode cX11_total 98 = .ok (.invokevirtual 255, 3) := by decide +kernel
theorem dX11_total_101 : decode cX11_total 101 = .ok (.ireturn, 1) := by decide +kernel
theorem dX11_total_102 : decode cX11_total 102 = .ok (.aload_n 0, 1) := by decide +kernel
theorem dX11_total_103 : decode cX11_total 103 = .ok (.getfield 60, 3) := by decide +kernel
theorem dX11_total_106 : decode cX11_total 106 = .ok (.ireturn, 1) := by decide +kernel
theorem dX11_total_107 : decode cX11_total 107 = .ok (.aload_n 0, 1) := by decide +kernel
theorem dX11_total_108 : decode cX11_total 108 = .ok (.getfield 211, 3) := by decide +kernel
theorem dX11_total_111 : decode cX11_total 111 = .ok (.ireturn, 1) := by decide +kernel
theorem dX11_total_112 : decode cX11_total 112 = .ok (.iload_n 1, 1) := by decide +kernel
theorem dX11_total_113 : decode cX11_total 113 = .ok (.bipush 10, 2) := by decide +kernel
theorem dX11_total_115 : decode cX11_total 115 = .ok (.bipush 14, 2) := by decide +kernel
theorem dX11_total_117 : decode cX11_total 117 = .ok (.invokestatic 64, 3) := by decide +kernel
theorem dX11_total_120 : decode cX11_total 120 = .ok (.ifCond .eq 18, 3) := by decide +kernel
theorem dX11_total_123 : decode cX11_total 123 = .ok (.aload_n 0, 1) := by decide +kernel
theorem dX11_total_124 : decode cX11_total 124 = .ok (.getfield 7, 3) := by decide +kernel
theorem dX11_total_127 : decode cX11_total 127 = .ok (.bipush 78, 2) := by decide +kernel
theorem dX11_total_129 : decode cX11_total 129 = .ok (.iload_n 1, 1) := by decide +kernel
theorem dX11_total_130 : decode cX11_total 130 = .ok (.iadd, 1) := by decide +kernel
theorem dX11_total_131 : decode cX11_total 131 = .ok (.bipush 10, 2) := by decide +kernel
theorem dX11_total_133 : decode cX11_total 133 = .ok (.isub, 1) := by decide +kernel
theorem dX11_total_134 : decode cX11_total 134 = .ok (.iaload, 1) := by decide +kernel
theorem dX11_total_135 : decode cX11_total 135 = .ok (.goto 5, 3) := by decide +kernel
theorem dX11_total_138 : decode cX11_total 138 = .ok (.ldc 68, 2) := by decide +kernel
theorem dX11_total_140 : decode cX11_total 140 = .ok (.ireturn, 1) := by decide +kernel
set_option maxRecDepth 20000 in
theorem ggX11_velocity_X11_whyShot : GoodIn wsX11_velocity wsX11_whyShot := goodIn_r _ [5, 6, 7, 8, 9, 10, 4, 11, 12, 13, 14, 15, 16, 17, 18, 19, 20, 21, 22, 23, 24, 25, 26, 27, 38, 39, 40, 41, 42, 43, 44, 45, 46, 47, 48, 49, 50, 51, 52, 53, 54, 55, 56, 57, 58, 59, 60, 61, 62] (by decide +kernel) (by decide +kernel)
set_option maxRecDepth 20000 in
theorem gX11_velocity_X11_whyShot : GoodIn wsX11_velocity (wsV RX11 128 RX11 yX11_whyShot wsX11_whyShot) := goodIn_app (goodIn_of _ (by decide +kernel)) ggX11_velocity_X11_whyShot
set_option maxRecDepth 20000 in
theorem ggX11_velocity_X11_velocityOf : GoodIn wsX11_velocity wsX11_velocityOf := goodIn_r _ [31, 32, 33, 34, 24, 25, 26, 4, 27, 12, 35, 36, 37, 38, 39, 40, 41, 42, 43, 44, 45, 46, 47, 48, 49, 50, 51, 52, 53, 54, 55, 56, 57, 58, 59, 60, 61, 62] (by decide +kernel) (by decide +kernel)
set_option maxRecDepth 20000 in
theorem gX11_velocity_X11_velocityOf : GoodIn wsX11_velocity (wsV RX11 170 RX11 yX11_velocityOf wsX11_velocityOf) := goodIn_app (goodIn_of _ (by decide +kernel)) ggX11_velocity_X11_velocityOf
theorem dX11_velocity_0 : decode cX11_velocity 0 = .ok (.aload_n 0, 1) := by decide +kernel
theorem dX11_velocity_1 : decode cX11_velocity 1 = .ok (.iload_n 1, 1) := by decide +kernel
theorem dX11_velocity_2 : decode cX11_velocity 2 = .ok (.iload_n 2, 1) := by decide +kernel
theorem dX11_velocity_3 : decode cX11_velocity 3 = .ok (.iload_n 3, 1) := by decide +kernel
theorem dX11_velocity_4 : decode cX11_velocity 4 = .ok (.iconst 0, 1) := by decide +kernel
theorem dX11_velocity_5 : decode cX11_velocity 5 = .ok (.invokevirtual 128, 3) := by decide +kernel
theorem dX11_velocity_8 : decode cX11_velocity 8 = .ok (.istore 4, 2) := by decide +kernel
theorem dX11_velocity_10 : decode cX11_velocity 10 = .ok (.iload 4, 2) := by decide +kernel
theorem dX11_velocity_12 : decode cX11_velocity 12 = .ok (.ifCond .ge 8, 3) := by decide +kernel
theorem dX11_velocity_15 : decode cX11_velocity 15 = .ok (.iload 4, 2) := by decide +kernel
theorem dX11_velocity_17 : decode cX11_velocity 17 = .ok (.goto 10, 3) := by decide +kernel
theorem dX11_velocity_20 : decode cX11_velocity 20 = .ok (.aload_n 0, 1) := by decide +kernel
theorem dX11_velocity_21 : decode cX11_velocity 21 = .ok (.iload_n 1, 1) := by decide +kernel
theorem dX11_velocity_22 : decode cX11_velocity 22 = .ok (.iload_n 2, 1) := by decide +kernel
theorem dX11_velocity_23 : decode cX11_velocity 23 = .ok (.iload_n 3, 1) := by decide +kernel
theorem dX11_velocity_24 : decode cX11_velocity 24 = .ok (.invokevirtual 170, 3) := by decide +kernel
theorem dX11_velocity_27 : decode cX11_velocity 27 = .ok (.ireturn, 1) := by decide +kernel
set_option maxRecDepth 20000 in
theorem ggX11_ideal_X11_isPath : GoodIn wsX11_ideal wsX11_isPath := goodIn_r _ [9, 10, 11, 12, 8, 13, 18, 19, 20, 21, 22, 23, 24, 25, 26, 27, 28, 29, 30, 31, 32, 33, 34, 35, 36, 37, 38, 39, 40, 41, 42] (by decide +kernel) (by decide +kernel)
set_option maxRecDepth 20000 in
theorem gX11_ideal_X11_isPath : GoodIn wsX11_ideal (wsV RX11 78 RX11 yX11_isPath wsX11_isPath) := goodIn_app (goodIn_of _ (by decide +kernel)) ggX11_ideal_X11_isPath
set_option maxRecDepth 20000 in
theorem ggX11_ideal_X11_in : GoodIn wsX11_ideal wsX11_in := goodIn_r _ [13] (by decide +kernel) (by decide +kernel)
set_option maxRecDepth 20000 in
theorem gX11_ideal_X11_in : GoodIn wsX11_ideal (va_wsS RX11 64 yX11_in wsX11_in) := goodIn_app (goodIn_of _ (by decide +kernel)) ggX11_ideal_X11_in
set_option maxRecDepth 20000 in
theorem ggX11_ideal_X11_of : GoodIn wsX11_ideal wsX11_of := goodIn_r _ [17, 10, 18, 19, 20, 21, 22, 23, 24, 25, 26, 27, 28, 29, 30, 31, 32, 33, 34, 35, 36, 37, 38, 39, 40, 41, 42] (by decide +kernel) (by decide +kernel)
set_option maxRecDepth 20000 in
theorem gX11_ideal_X11_of : GoodIn wsX11_ideal (wsV RX11 83 RX11 yX11_of wsX11_of) := goodIn_app (goodIn_of _ (by decide +kernel)) ggX11_ideal_X11_of
theorem dX11_ideal_0 : decode cX11_ideal 0 = .ok (.aload_n 0, 1) := by decide +kernel
theorem dX11_ideal_1 : decode cX11_ideal 1 = .ok (.iload_n 1, 1) := by decide +kernel
theorem dX11_ideal_2 : decode cX11_ideal 2 = .ok (.invokevirtual 78, 3) := by decide +kernel
theorem dX11_ideal_5 : decode cX11_ideal 5 = .ok (.ifCond .ne 6, 3) := by decide +kernel
theorem dX11_ideal_8 : decode cX11_ideal 8 = .ok (.ldc 82, 2) := by decide +kernel
theorem dX11_ideal_10 : decode cX11_ideal 10 = .ok (.ireturn, 1) := by decide +kernel
theorem dX11_ideal_11 : decode cX11_ideal 11 = .ok (.iload_n 2, 1) := by decide +kernel
theorem dX11_ideal_12 : decode cX11_ideal 12 = .ok (.sipush 300, 3) := by decide +kernel
theorem dX11_ideal_15 : decode cX11_ideal 15 = .ok (.sipush 3000, 3) := by decide +kernel
theorem dX11_ideal_18 : decode cX11_ideal 18 = .ok (.invokestatic 64, 3) := by decide +kernel
theorem dX11_ideal_21 : decode cX11_ideal 21 = .ok (.ifCond .eq 16, 3) := by decide +kernel
theorem dX11_ideal_24 : decode cX11_ideal 24 = .ok (.iload_n 3, 1) := by decide +kernel
theorem dX11_ideal_25 : decode cX11_ideal 25 = .ok (.sipush (-20000), 3) := by decide +kernel
theorem dX11_ideal_28 : decode cX11_ideal 28 = .ok (.sipush 20000, 3) := by decide +kernel
theorem dX11_ideal_31 : decode cX11_ideal 31 = .ok (.invokestatic 64, 3) := by decide +kernel
theorem dX11_ideal_34 : decode cX11_ideal 34 = .ok (.ifCond .ne 6, 3) := by decide +kernel
theorem dX11_ideal_37 : decode cX11_ideal 37 = .ok (.ldc 68, 2) := by decide +kernel
theorem dX11_ideal_39 : decode cX11_ideal 39 = .ok (.ireturn, 1) := by decide +kernel
theorem dX11_ideal_40 : decode cX11_ideal 40 = .ok (.iload_n 3, 1) := by decide +kernel
theorem dX11_ideal_41 : decode cX11_ideal 41 = .ok (.aload_n 0, 1) := by decide +kernel
theorem dX11_ideal_42 : decode cX11_ideal 42 = .ok (.iload_n 1, 1) := by decide +kernel
theorem dX11_ideal_43 : decode cX11_ideal 43 = .ok (.iconst 1, 1) := by decide +kernel
theorem dX11_ideal_44 : decode cX11_ideal 44 = .ok (.invokevirtual 83, 3) := by decide +kernel
theorem dX11_ideal_47 : decode cX11_ideal 47 = .ok (.imul, 1) := by decide +kernel
theorem dX11_ideal_48 : decode cX11_ideal 48 = .ok (.aload_n 0, 1) := by decide +kernel
theorem dX11_ideal_49 : decode cX11_ideal 49 = .ok (.iload_n 1, 1) := by decide +kernel
theorem dX11_ideal_50 : decode cX11_ideal 50 = .ok (.iconst 0, 1) := by decide +kernel
theorem dX11_ideal_51 : decode cX11_ideal 51 = .ok (.invokevirtual 83, 3) := by decide +kernel
theorem dX11_ideal_54 : decode cX11_ideal 54 = .ok (.idiv, 1) := by decide +kernel
theorem dX11_ideal_55 : decode cX11_ideal 55 = .ok (.istore 5, 2) := by decide +kernel
theorem dX11_ideal_57 : decode cX11_ideal 57 = .ok (.iload_n 2, 1) := by decide +kernel
theorem dX11_ideal_58 : decode cX11_ideal 58 = .ok (.i2l, 1) := by decide +kernel
theorem dX11_ideal_59 : decode cX11_ideal 59 = .ok (.ldc2_w 108, 3) := by decide +kernel
theorem dX11_ideal_62 : decode cX11_ideal 62 = .ok (.lmul, 1) := by decide +kernel
theorem dX11_ideal_63 : decode cX11_ideal 63 = .ok (.iload 4, 2) := by decide +kernel
theorem dX11_ideal_65 : decode cX11_ideal 65 = .ok (.ifCond .eq 9, 3) := by decide +kernel
theorem dX11_ideal_68 : decode cX11_ideal 68 = .ok (.iload 5, 2) := by decide +kernel
theorem dX11_ideal_70 : decode cX11_ideal 70 = .ok (.ineg, 1) := by decide +kernel
theorem dX11_ideal_71 : decode cX11_ideal 71 = .ok (.goto 5, 3) := by decide +kernel
theorem dX11_ideal_74 : decode cX11_ideal 74 = .ok (.iload 5, 2) := by decide +kernel
theorem dX11_ideal_76 : decode cX11_ideal 76 = .ok (.i2l, 1) := by decide +kernel
theorem dX11_ideal_77 : decode cX11_ideal 77 = .ok (.ladd, 1) := by decide +kernel
theorem dX11_ideal_78 : decode cX11_ideal 78 = .ok (.lstore 6, 2) := by decide +kernel
theorem dX11_ideal_80 : decode cX11_ideal 80 = .ok (.aload_n 0, 1) := by decide +kernel
theorem dX11_ideal_81 : decode cX11_ideal 81 = .ok (.iload_n 1, 1) := by decide +kernel
theorem dX11_ideal_82 : decode cX11_ideal 82 = .ok (.iconst 0, 1) := by decide +kernel
theorem dX11_ideal_83 : decode cX11_ideal 83 = .ok (.invokevirtual 83, 3) := by decide +kernel
theorem dX11_ideal_86 : decode cX11_ideal 86 = .ok (.i2l, 1) := by decide +kernel
theorem dX11_ideal_87 : decode cX11_ideal 87 = .ok (.ldc2_w 258, 3) := by decide +kernel
theorem dX11_ideal_90 : decode cX11_ideal 90 = .ok (.lmul, 1) := by decide +kernel
theorem dX11_ideal_91 : decode cX11_ideal 91 = .ok (.lload 6, 2) := by decide +kernel
theorem dX11_ideal_93 : decode cX11_ideal 93 = .ok (.ldiv, 1) := by decide +kernel
theorem dX11_ideal_94 : decode cX11_ideal 94 = .ok (.l2i, 1) := by decide +kernel
theorem dX11_ideal_95 : decode cX11_ideal 95 = .ok (.aload_n 0, 1) := by decide +kernel
theorem dX11_ideal_96 : decode cX11_ideal 96 = .ok (.iload_n 1, 1) := by decide +kernel
theorem dX11_ideal_97 : decode cX11_ideal 97 = .ok (.iconst 4, 1) := by decide +kernel
theorem dX11_ideal_98 : decode cX11_ideal 98 = .ok (.invokevirtual 83, 3) := by decide +kernel
theorem dX11_ideal_101 : decode cX11_ideal 101 = .ok (.iadd, 1) := by decide +kernel
theorem dX11_ideal_102 : decode cX11_ideal 102 = .ok (.ireturn, 1) := by decide +kernel
set_option maxRecDepth 20000 in
theorem ggX11_wouldBe_X11_worksOut : GoodIn wsX11_wouldBe wsX11_worksOut := goodIn_r _ [8, 9, 10, 11, 12, 1, 13, 14, 15, 16, 17, 3, 18, 19, 20, 21, 7, 22, 23, 24, 25, 26, 27, 28, 29, 30, 31, 32, 33, 34, 35, 36, 37, 38, 39, 40, 41, 42, 43, 44, 45, 46, 47, 48, 49, 50, 51, 52, 53, 54, 55, 56, 57, 58, 59, 60, 61, 62, 63, 84, 85, 86, 87, 88, 89, 90, 91, 92, 93, 94, 95, 96, 97, 98, 99, 100, 101, 102, 103, 104, 105, 106, 107, 108] (by decide +kernel) (by decide +kernel)
set_option maxRecDepth 20000 in
theorem gX11_wouldBe_X11_worksOut : GoodIn wsX11_wouldBe (wsV RX11 188 RX11 yX11_worksOut wsX11_worksOut) := goodIn_app (goodIn_of _ (by decide +kernel)) ggX11_wouldBe_X11_worksOut
set_option maxRecDepth 20000 in
theorem ggX11_wouldBe_X11_roundVelocity : GoodIn wsX11_wouldBe wsX11_roundVelocity := goodIn_r _ [67, 17, 18, 68, 69, 70, 7, 71, 1, 72, 73, 74, 75, 76, 77, 78, 79, 80, 81, 82, 83, 84, 85, 86, 87, 88, 89, 90, 91, 92, 93, 94, 95, 96, 97, 98, 99, 100, 101, 102, 103, 104, 105, 106, 107, 108] (by decide +kernel) (by decide +kernel)
set_option maxRecDepth 20000 in
theorem gX11_wouldBe_X11_roundVelocity : GoodIn wsX11_wouldBe (wsV RX11 191 RX11 yX11_roundVelocity wsX11_roundVelocity) := goodIn_app (goodIn_of _ (by decide +kernel)) ggX11_wouldBe_X11_roundVelocity
theorem dX11_wouldBe_0 : decode cX11_wouldBe 0 = .ok (.aload_n 0, 1) := by decide +kernel
theorem dX11_wouldBe_1 : decode cX11_wouldBe 1 = .ok (.getfield 7, 3) := by decide +kernel
theorem dX11_wouldBe_4 : decode cX11_wouldBe 4 = .ok (.bipush 64, 2) := by decide +kernel
theorem dX11_wouldBe_6 : decode cX11_wouldBe 6 = .ok (.iaload, 1) := by decide +kernel
theorem dX11_wouldBe_7 : decode cX11_wouldBe 7 = .ok (.ifCond .ne 6, 3) := by decide +kernel
theorem dX11_wouldBe_10 : decode cX11_wouldBe 10 = .ok (.ldc 98, 2) := by decide +kernel
theorem dX11_wouldBe_12 : decode cX11_wouldBe 12 = .ok (.ireturn, 1) := by decide +kernel
theorem dX11_wouldBe_13 : decode cX11_wouldBe 13 = .ok (.aload_n 0, 1) := by decide +kernel
theorem dX11_wouldBe_14 : decode cX11_wouldBe 14 = .ok (.aload_n 0, 1) := by decide +kernel
theorem dX11_wouldBe_15 : decode cX11_wouldBe 15 = .ok (.getfield 7, 3) := by decide +kernel
theorem dX11_wouldBe_18 : decode cX11_wouldBe 18 = .ok (.bipush 79, 2) := by decide +kernel
theorem dX11_wouldBe_20 : decode cX11_wouldBe 20 = .ok (.iaload, 1) := by decide +kernel
theorem dX11_wouldBe_21 : decode cX11_wouldBe 21 = .ok (.invokevirtual 188, 3) := by decide +kernel
theorem dX11_wouldBe_24 : decode cX11_wouldBe 24 = .ok (.ifCond .eq 10, 3) := by decide +kernel
theorem dX11_wouldBe_27 : decode cX11_wouldBe 27 = .ok (.aload_n 0, 1) := by decide +kernel
theorem dX11_wouldBe_28 : decode cX11_wouldBe 28 = .ok (.invokevirtual 191, 3) := by decide +kernel
theorem dX11_wouldBe_31 : decode cX11_wouldBe 31 = .ok (.goto 5, 3) := by decide +kernel
theorem dX11_wouldBe_34 : decode cX11_wouldBe 34 = .ok (.ldc 77, 2) := by decide +kernel
theorem dX11_wouldBe_36 : decode cX11_wouldBe 36 = .ok (.ireturn, 1) := by decide +kernel
set_option maxRecDepth 20000 in
theorem ggX11_wouldBecome_X11_isPath : GoodIn wsX11_wouldBecome wsX11_isPath := goodIn_r _ [8, 2, 9, 10, 7, 11, 71, 72, 73, 74, 75, 76, 77, 78, 79, 80, 81, 82, 83, 84, 85, 86, 87, 88, 89, 90, 91, 92, 93, 94, 95] (by decide +kernel) (by decide +kernel)
set_option maxRecDepth 20000 in
theorem gX11_wouldBecome_X11_isPath : GoodIn wsX11_wouldBecome (wsV RX11 78 RX11 yX11_isPath wsX11_isPath) := goodIn_app (goodIn_of _ (by decide +kernel)) ggX11_wouldBecome_X11_isPath
set_option maxRecDepth 20000 in
theorem ggX11_wouldBecome_X11_worksOut : GoodIn wsX11_wouldBecome wsX11_worksOut := goodIn_r _ [15, 16, 17, 18, 19, 2, 20, 3, 21, 22, 23, 24, 25, 26, 27, 28, 7, 29, 30, 31, 32, 33, 34, 35, 36, 37, 38, 39, 40, 41, 42, 43, 44, 45, 46, 47, 48, 49, 50, 51, 52, 53, 54, 55, 56, 57, 58, 59, 60, 61, 62, 63, 64, 65, 66, 67, 68, 69, 70, 71, 72, 73, 74, 75, 76, 77, 78, 79, 80, 81, 82, 83, 84, 85, 86, 87, 88, 89, 90, 91, 92, 93, 94, 95] (by decide +kernel) (by decide +kernel)
set_option maxRecDepth 20000 in
theorem gX11_wouldBecome_X11_worksOut : GoodIn wsX11_wouldBecome (wsV RX11 188 RX11 yX11_worksOut wsX11_worksOut) := goodIn_app (goodIn_of _ (by decide +kernel)) ggX11_wouldBecome_X11_worksOut
theorem dX11_wouldBecome_0 : decode cX11_wouldBecome 0 = .ok (.aload_n 0, 1) := by decide +kernel
theorem dX11_wouldBecome_1 : decode cX11_wouldBecome 1 = .ok (.iload_n 1, 1) := by decide +kernel
theorem dX11_wouldBecome_2 : decode cX11_wouldBecome 2 = .ok (.invokevirtual 78, 3) := by decide +kernel
theorem dX11_wouldBecome_5 : decode cX11_wouldBecome 5 = .ok (.ifCond .ne 6, 3) := by decide +kernel
theorem dX11_wouldBecome_8 : decode cX11_wouldBecome 8 = .ok (.ldc 82, 2) := by decide +kernel
theorem dX11_wouldBecome_10 : decode cX11_wouldBecome 10 = .ok (.ireturn, 1) := by decide +kernel
theorem dX11_wouldBecome_11 : decode cX11_wouldBecome 11 = .ok (.aload_n 0, 1) := by decide +kernel
theorem dX11_wouldBecome_12 : decode cX11_wouldBecome 12 = .ok (.aload_n 0, 1) := by decide +kernel
theorem dX11_wouldBecome_13 : decode cX11_wouldBecome 13 = .ok (.getfield 7, 3) := by decide +kernel
theorem dX11_wouldBecome_16 : decode cX11_wouldBecome 16 = .ok (.bipush 79, 2) := by decide +kernel
theorem dX11_wouldBecome_18 : decode cX11_wouldBecome 18 = .ok (.iaload, 1) := by decide +kernel
theorem dX11_wouldBecome_19 : decode cX11_wouldBecome 19 = .ok (.invokevirtual 188, 3) := by decide +kernel
theorem dX11_wouldBecome_22 : decode cX11_wouldBecome 22 = .ok (.istore_n 2, 1) := by decide +kernel
theorem dX11_wouldBecome_23 : decode cX11_wouldBecome 23 = .ok (.aload_n 0, 1) := by decide +kernel
theorem dX11_wouldBecome_24 : decode cX11_wouldBecome 24 = .ok (.getfield 36, 3) := by decide +kernel
theorem dX11_wouldBecome_27 : decode cX11_wouldBecome 27 = .ok (.iload_n 1, 1) := by decide +kernel
theorem dX11_wouldBecome_28 : decode cX11_wouldBecome 28 = .ok (.iaload, 1) := by decide +kernel
theorem dX11_wouldBecome_29 : decode cX11_wouldBecome 29 = .ok (.ireturn, 1) := by decide +kernel
set_option maxRecDepth 20000 in
theorem ggX11_skipsNeeded_X11_worksOut : GoodIn wsX11_skipsNeeded wsX11_worksOut := goodIn_r _ [8, 9, 10, 11, 12, 1, 13, 2, 14, 15, 16, 3, 17, 18, 19, 20, 7, 21, 22, 23, 24, 25, 26, 27, 28, 29, 30, 31, 32, 33, 34, 35, 36, 37, 38, 39, 40, 41, 42, 43, 44, 45, 46, 47, 48, 49, 50, 51, 52, 53, 54, 55, 56, 57, 58, 59, 60, 61, 62, 63, 64, 65, 66, 67, 68, 69, 70, 71, 72, 73, 74, 75, 76, 77, 78, 79, 80, 81, 82, 83, 84, 85, 86, 87] (by decide +kernel) (by decide +kernel)
set_option maxRecDepth 20000 in
theorem gX11_skipsNeeded_X11_worksOut : GoodIn wsX11_skipsNeeded (wsV RX11 188 RX11 yX11_worksOut wsX11_worksOut) := goodIn_app (goodIn_of _ (by decide +kernel)) ggX11_skipsNeeded_X11_worksOut
theorem dX11_skipsNeeded_0 : decode cX11_skipsNeeded 0 = .ok (.iconst 0, 1) := by decide +kernel
theorem dX11_skipsNeeded_1 : decode cX11_skipsNeeded 1 = .ok (.istore_n 1, 1) := by decide +kernel
theorem dX11_skipsNeeded_2 : decode cX11_skipsNeeded 2 = .ok (.iload_n 1, 1) := by decide +kernel
theorem dX11_skipsNeeded_3 : decode cX11_skipsNeeded 3 = .ok (.iconst 5, 1) := by decide +kernel
theorem dX11_skipsNeeded_4 : decode cX11_skipsNeeded 4 = .ok (.if_icmp .gt 65, 3) := by decide +kernel
theorem dX11_skipsNeeded_7 : decode cX11_skipsNeeded 7 = .ok (.aload_n 0, 1) := by decide +kernel
theorem dX11_skipsNeeded_8 : decode cX11_skipsNeeded 8 = .ok (.iload_n 1, 1) := by decide +kernel
theorem dX11_skipsNeeded_9 : decode cX11_skipsNeeded 9 = .ok (.invokevirtual 188, 3) := by decide +kernel
theorem dX11_skipsNeeded_12 : decode cX11_skipsNeeded 12 = .ok (.istore_n 2, 1) := by decide +kernel
theorem dX11_skipsNeeded_13 : decode cX11_skipsNeeded 13 = .ok (.iconst 0, 1) := by decide +kernel
theorem dX11_skipsNeeded_14 : decode cX11_skipsNeeded 14 = .ok (.istore_n 3, 1) := by decide +kernel
theorem dX11_skipsNeeded_15 : decode cX11_skipsNeeded 15 = .ok (.iconst 0, 1) := by decide +kernel
theorem dX11_skipsNeeded_16 : decode cX11_skipsNeeded 16 = .ok (.istore 4, 2) := by decide +kernel
theorem dX11_skipsNeeded_18 : decode cX11_skipsNeeded 18 = .ok (.iload 4, 2) := by decide +kernel
theorem dX11_skipsNeeded_20 : decode cX11_skipsNeeded 20 = .ok (.aload_n 0, 1) := by decide +kernel
theorem dX11_skipsNeeded_21 : decode cX11_skipsNeeded 21 = .ok (.getfield 7, 3) := by decide +kernel
theorem dX11_skipsNeeded_24 : decode cX11_skipsNeeded 24 = .ok (.bipush 64, 2) := by decide +kernel
theorem dX11_skipsNeeded_26 : decode cX11_skipsNeeded 26 = .ok (.iaload, 1) := by decide +kernel
theorem dX11_skipsNeeded_27 : decode cX11_skipsNeeded 27 = .ok (.if_icmp .ge 30, 3) := by decide +kernel
theorem dX11_skipsNeeded_30 : decode cX11_skipsNeeded 30 = .ok (.iload_n 3, 1) := by decide +kernel
theorem dX11_skipsNeeded_31 : decode cX11_skipsNeeded 31 = .ok (.ifCond .ne 14, 3) := by decide +kernel
theorem dX11_skipsNeeded_34 : decode cX11_skipsNeeded 34 = .ok (.aload_n 0, 1) := by decide +kernel
theorem dX11_skipsNeeded_35 : decode cX11_skipsNeeded 35 = .ok (.getfield 36, 3) := by decide +kernel
theorem dX11_skipsNeeded_38 : decode cX11_skipsNeeded 38 = .ok (.iload 4, 2) := by decide +kernel
theorem dX11_skipsNeeded_40 : decode cX11_skipsNeeded 40 = .ok (.iaload, 1) := by decide +kernel
theorem dX11_skipsNeeded_41 : decode cX11_skipsNeeded 41 = .ok (.iconst 2, 1) := by decide +kernel
theorem dX11_skipsNeeded_42 : decode cX11_skipsNeeded 42 = .ok (.if_icmp .ne 7, 3) := by decide +kernel
theorem dX11_skipsNeeded_45 : decode cX11_skipsNeeded 45 = .ok (.iconst 1, 1) := by decide +kernel
theorem dX11_skipsNeeded_46 : decode cX11_skipsNeeded 46 = .ok (.goto 4, 3) := by decide +kernel
theorem dX11_skipsNeeded_49 : decode cX11_skipsNeeded 49 = .ok (.iconst 0, 1) := by decide +kernel
theorem dX11_skipsNeeded_50 : decode cX11_skipsNeeded 50 = .ok (.istore_n 3, 1) := by decide +kernel
theorem dX11_skipsNeeded_51 : decode cX11_skipsNeeded 51 = .ok (.iinc 4 1, 3) := by decide +kernel
theorem dX11_skipsNeeded_54 : decode cX11_skipsNeeded 54 = .ok (.goto (-36), 3) := by decide +kernel
theorem dX11_skipsNeeded_57 : decode cX11_skipsNeeded 57 = .ok (.iload_n 3, 1) := by decide +kernel
theorem dX11_skipsNeeded_58 : decode cX11_skipsNeeded 58 = .ok (.ifCond .ne 5, 3) := by decide +kernel
theorem dX11_skipsNeeded_61 : decode cX11_skipsNeeded 61 = .ok (.iload_n 1, 1) := by decide +kernel
theorem dX11_skipsNeeded_62 : decode cX11_skipsNeeded 62 = .ok (.ireturn, 1) := by decide +kernel
theorem dX11_skipsNeeded_63 : decode cX11_skipsNeeded 63 = .ok (.iinc 1 1, 3) := by decide +kernel
theorem dX11_skipsNeeded_66 : decode cX11_skipsNeeded 66 = .ok (.goto (-64), 3) := by decide +kernel
theorem dX11_skipsNeeded_69 : decode cX11_skipsNeeded 69 = .ok (.ldc 77, 2) := by decide +kernel
theorem dX11_skipsNeeded_71 : decode cX11_skipsNeeded 71 = .ok (.ireturn, 1) := by decide +kernel
