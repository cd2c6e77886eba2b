theorem dX11_init_0 : decode cX11_init 0 = .ok (.aload_n 0, 1) := by decide +kernel
theorem dX11_init_1 : decode cX11_init 1 = .ok (.invokespecial 1, 3) := by decide +kernel
theorem dX11_init_4 : decode cX11_init 4 = .ok (.aload_n 0, 1) := by decide +kernel
theorem dX11_init_5 : decode cX11_init 5 = .ok (.sipush 159, 3) := by decide +kernel
theorem dX11_init_8 : decode cX11_init 8 = .ok (.newarray .int, 2) := by decide +kernel
theorem dX11_init_10 : decode cX11_init 10 = .ok (.putfield 7, 3) := by decide +kernel
theorem dX11_init_13 : decode cX11_init 13 = .ok (.aload_n 0, 1) := by decide +kernel
theorem dX11_init_14 : decode cX11_init 14 = .ok (.iconst 2, 1) := by decide +kernel
theorem dX11_init_15 : decode cX11_init 15 = .ok (.newarray .long, 2) := by decide +kernel
theorem dX11_init_17 : decode cX11_init 17 = .ok (.putfield 13, 3) := by decide +kernel
theorem dX11_init_20 : decode cX11_init 20 = .ok (.aload_n 0, 1) := by decide +kernel
theorem dX11_init_21 : decode cX11_init 21 = .ok (.sipush 795, 3) := by decide +kernel
theorem dX11_init_24 : decode cX11_init 24 = .ok (.newarray .int, 2) := by decide +kernel
theorem dX11_init_26 : decode cX11_init 26 = .ok (.putfield 17, 3) := by decide +kernel
theorem dX11_init_29 : decode cX11_init 29 = .ok (.aload_n 0, 1) := by decide +kernel
theorem dX11_init_30 : decode cX11_init 30 = .ok (.bipush 10, 2) := by decide +kernel
theorem dX11_init_32 : decode cX11_init 32 = .ok (.newarray .long, 2) := by decide +kernel
theorem dX11_init_34 : decode cX11_init 34 = .ok (.putfield 20, 3) := by decide +kernel
theorem dX11_init_37 : decode cX11_init 37 = .ok (.aload_n 0, 1) := by decide +kernel
theorem dX11_init_38 : decode cX11_init 38 = .ok (.sipush 318, 3) := by decide +kernel
theorem dX11_init_41 : decode cX11_init 41 = .ok (.newarray .int, 2) := by decide +kernel
theorem dX11_init_43 : decode cX11_init 43 = .ok (.putfield 23, 3) := by decide +kernel
theorem dX11_init_46 : decode cX11_init 46 = .ok (.aload_n 0, 1) := by decide +kernel
theorem dX11_init_47 : decode cX11_init 47 = .ok (.iconst 4, 1) := by decide +kernel
theorem dX11_init_48 : decode cX11_init 48 = .ok (.newarray .long, 2) := by decide +kernel
theorem dX11_init_50 : decode cX11_init 50 = .ok (.putfield 26, 3) := by decide +kernel
theorem dX11_init_53 : decode cX11_init 53 = .ok (.aload_n 0, 1) := by decide +kernel
theorem dX11_init_54 : decode cX11_init 54 = .ok (.iconst 2, 1) := by decide +kernel
theorem dX11_init_55 : decode cX11_init 55 = .ok (.newarray .boolean, 2) := by decide +kernel
theorem dX11_init_57 : decode cX11_init 57 = .ok (.putfield 29, 3) := by decide +kernel
theorem dX11_init_60 : decode cX11_init 60 = .ok (.aload_n 0, 1) := by decide +kernel
theorem dX11_init_61 : decode cX11_init 61 = .ok (.bipush 100, 2) := by decide +kernel
theorem dX11_init_63 : decode cX11_init 63 = .ok (.newarray .int, 2) := by decide +kernel
theorem dX11_init_65 : decode cX11_init 65 = .ok (.putfield 33, 3) := by decide +kernel
theorem dX11_init_68 : decode cX11_init 68 = .ok (.aload_n 0, 1) := by decide +kernel
theorem dX11_init_69 : decode cX11_init 69 = .ok (.iconst 4, 1) := by decide +kernel
theorem dX11_init_70 : decode cX11_init 70 = .ok (.newarray .int, 2) := by decide +kernel
theorem dX11_init_72 : decode cX11_init 72 = .ok (.putfield 36, 3) := by decide +kernel
theorem dX11_init_75 : decode cX11_init 75 = .ok (.aload_n 0, 1) := by decide +kernel
theorem dX11_init_76 : decode cX11_init 76 = .ok (.bipush 8, 2) := by decide +kernel
theorem dX11_init_78 : decode cX11_init 78 = .ok (.newarray .int, 2) := by decide +kernel
theorem dX11_init_80 : decode cX11_init 80 = .ok (.putfield 39, 3) := by decide +kernel
theorem dX11_init_83 : decode cX11_init 83 = .ok (.aload_n 0, 1) := by decide +kernel
theorem dX11_init_84 : decode cX11_init 84 = .ok (.iconst 4, 1) := by decide +kernel
theorem dX11_init_85 : decode cX11_init 85 = .ok (.newarray .boolean, 2) := by decide +kernel
theorem dX11_init_87 : decode cX11_init 87 = .ok (.putfield 42, 3) := by decide +kernel
theorem dX11_init_90 : decode cX11_init 90 = .ok (.aload_n 0, 1) := by decide +kernel
theorem dX11_init_91 : decode cX11_init 91 = .ok (.iconst 4, 1) := by decide +kernel
theorem dX11_init_92 : decode cX11_init 92 = .ok (.newarray .long, 2) := by decide +kernel
theorem dX11_init_94 : decode cX11_init 94 = .ok (.putfield 45, 3) := by decide +kernel
theorem dX11_init_97 : decode cX11_init 97 = .ok (.aload_n 0, 1) := by decide +kernel
theorem dX11_init_98 : decode cX11_init 98 = .ok (.iconst 4, 1) := by decide +kernel
theorem dX11_init_99 : decode cX11_init 99 = .ok (.newarray .boolean, 2) := by decide +kernel
theorem dX11_init_101 : decode cX11_init 101 = .ok (.putfield 48, 3) := by decide +kernel
theorem dX11_init_104 : decode cX11_init 104 = .ok (.aload_n 0, 1) := by decide +kernel
theorem dX11_init_105 : decode cX11_init 105 = .ok (.iconst 4, 1) := by decide +kernel
theorem dX11_init_106 : decode cX11_init 106 = .ok (.newarray .int, 2) := by decide +kernel
theorem dX11_init_108 : decode cX11_init 108 = .ok (.putfield 51, 3) := by decide +kernel
theorem dX11_init_111 : decode cX11_init 111 = .ok (.aload_n 0, 1) := by decide +kernel
theorem dX11_init_112 : decode cX11_init 112 = .ok (.iconst 4, 1) := by decide +kernel
theorem dX11_init_113 : decode cX11_init 113 = .ok (.newarray .int, 2) := by decide +kernel
theorem dX11_init_115 : decode cX11_init 115 = .ok (.putfield 54, 3) := by decide +kernel
theorem dX11_init_118 : decode cX11_init 118 = .ok (.aload_n 0, 1) := by decide +kernel
theorem dX11_init_119 : decode cX11_init 119 = .ok (.bipush 12, 2) := by decide +kernel
theorem dX11_init_121 : decode cX11_init 121 = .ok (.newarray .int, 2) := by decide +kernel
theorem dX11_init_123 : decode cX11_init 123 = .ok (.putfield 57, 3) := by decide +kernel
theorem dX11_init_126 : decode cX11_init 126 = .ok (.aload_n 0, 1) := by decide +kernel
theorem dX11_init_127 : decode cX11_init 127 = .ok (.getfield 7, 3) := by decide +kernel
theorem dX11_init_130 : decode cX11_init 130 = .ok (.bipush 78, 2) := by decide +kernel
theorem dX11_init_132 : decode cX11_init 132 = .ok (.bipush 40, 2) := by decide +kernel
theorem dX11_init_134 : decode cX11_init 134 = .ok (.iastore, 1) := by decide +kernel
theorem dX11_init_135 : decode cX11_init 135 = .ok (.aload_n 0, 1) := by decide +kernel
theorem dX11_init_136 : decode cX11_init 136 = .ok (.getfield 7, 3) := by decide +kernel
theorem dX11_init_139 : decode cX11_init 139 = .ok (.bipush 79, 2) := by decide +kernel
theorem dX11_init_141 : decode cX11_init 141 = .ok (.iconst 2, 1) := by decide +kernel
theorem dX11_init_142 : decode cX11_init 142 = .ok (.iastore, 1) := by decide +kernel
theorem dX11_init_143 : decode cX11_init 143 = .ok (.aload_n 0, 1) := by decide +kernel
theorem dX11_init_144 : decode cX11_init 144 = .ok (.getfield 7, 3) := by decide +kernel
theorem dX11_init_147 : decode cX11_init 147 = .ok (.bipush 80, 2) := by decide +kernel
theorem dX11_init_149 : decode cX11_init 149 = .ok (.bipush 60, 2) := by decide +kernel
theorem dX11_init_151 : decode cX11_init 151 = .ok (.iastore, 1) := by decide +kernel
theorem dX11_init_152 : decode cX11_init 152 = .ok (.aload_n 0, 1) := by decide +kernel
theorem dX11_init_153 : decode cX11_init 153 = .ok (.getfield 7, 3) := by decide +kernel
theorem dX11_init_156 : decode cX11_init 156 = .ok (.bipush 81, 2) := by decide +kernel
theorem dX11_init_158 : decode cX11_init 158 = .ok (.sipush 10000, 3) := by decide +kernel
theorem dX11_init_161 : decode cX11_init 161 = .ok (.iastore, 1) := by decide +kernel
theorem dX11_init_162 : decode cX11_init 162 = .ok (.aload_n 0, 1) := by decide +kernel
theorem dX11_init_163 : decode cX11_init 163 = .ok (.getfield 7, 3) := by decide +kernel
theorem dX11_init_166 : decode cX11_init 166 = .ok (.bipush 82, 2) := by decide +kernel
theorem dX11_init_168 : decode cX11_init 168 = .ok (.bipush 100, 2) := by decide +kernel
theorem dX11_init_170 : decode cX11_init 170 = .ok (.iastore, 1) := by decide +kernel
theorem dX11_init_171 : decode cX11_init 171 = .ok (.return_, 1) := by decide +kernel
theorem dX11_in_0 : decode cX11_in 0 = .ok (.iload_n 0, 1) := by decide +kernel
theorem dX11_in_1 : decode cX11_in 1 = .ok (.iload_n 1, 1) := by decide +kernel
theorem dX11_in_2 : decode cX11_in 2 = .ok (.if_icmp .lt 12, 3) := by decide +kernel
theorem dX11_in_5 : decode cX11_in 5 = .ok (.iload_n 0, 1) := by decide +kernel
theorem dX11_in_6 : decode cX11_in 6 = .ok (.iload_n 2, 1) := by decide +kernel
theorem dX11_in_7 : decode cX11_in 7 = .ok (.if_icmp .gt 7, 3) := by decide +kernel
theorem dX11_in_10 : decode cX11_in 10 = .ok (.iconst 1, 1) := by decide +kernel
theorem dX11_in_11 : decode cX11_in 11 = .ok (.goto 4, 3) := by decide +kernel
theorem dX11_in_14 : decode cX11_in 14 = .ok (.iconst 0, 1) := by decide +kernel
theorem dX11_in_15 : decode cX11_in 15 = .ok (.ireturn, 1) := by decide +kernel
theorem dX11_records_0 : decode cX11_records 0 = .ok (.aload_n 0, 1) := by decide +kernel
theorem dX11_records_1 : decode cX11_records 1 = .ok (.getfield 60, 3) := by decide +kernel
theorem dX11_records_4 : decode cX11_records 4 = .ok (.iconst 5, 1) := by decide +kernel
theorem dX11_records_5 : decode cX11_records 5 = .ok (.if_icmp .ne 72, 3) := by decide +kernel
theorem dX11_records_8 : decode cX11_records 8 = .ok (.iconst 0, 1) := by decide +kernel
theorem dX11_records_9 : decode cX11_records 9 = .ok (.istore_n 1, 1) := by decide +kernel
theorem dX11_records_10 : decode cX11_records 10 = .ok (.iload_n 1, 1) := by decide +kernel
theorem dX11_records_11 : decode cX11_records 11 = .ok (.sipush 636, 3) := by decide +kernel
theorem dX11_records_14 : decode cX11_records 14 = .ok (.if_icmp .ge 25, 3) := by decide +kernel
theorem dX11_records_17 : decode cX11_records 17 = .ok (.aload_n 0, 1) := by decide +kernel
theorem dX11_records_18 : decode cX11_records 18 = .ok (.getfield 17, 3) := by decide +kernel
theorem dX11_records_21 : decode cX11_records 21 = .ok (.iload_n 1, 1) := by decide +kernel
theorem dX11_records_22 : decode cX11_records 22 = .ok (.aload_n 0, 1) := by decide +kernel
theorem dX11_records_23 : decode cX11_records 23 = .ok (.getfield 17, 3) := by decide +kernel
theorem dX11_records_26 : decode cX11_records 26 = .ok (.iload_n 1, 1) := by decide +kernel
theorem dX11_records_27 : decode cX11_records 27 = .ok (.sipush 159, 3) := by decide +kernel
theorem dX11_records_30 : decode cX11_records 30 = .ok (.iadd, 1) := by decide +kernel
theorem dX11_records_31 : decode cX11_records 31 = .ok (.iaload, 1) := by decide +kernel
theorem dX11_records_32 : decode cX11_records 32 = .ok (.iastore, 1) := by decide +kernel
theorem dX11_records_33 : decode cX11_records 33 = .ok (.iinc 1 1, 3) := by decide +kernel
theorem dX11_records_36 : decode cX11_records 36 = .ok (.goto (-26), 3) := by decide +kernel
theorem dX11_records_39 : decode cX11_records 39 = .ok (.iconst 0, 1) := by decide +kernel
theorem dX11_records_40 : decode cX11_records 40 = .ok (.istore_n 1, 1) := by decide +kernel
theorem dX11_records_41 : decode cX11_records 41 = .ok (.iload_n 1, 1) := by decide +kernel
theorem dX11_records_42 : decode cX11_records 42 = .ok (.bipush 8, 2) := by decide +kernel
theorem dX11_records_44 : decode cX11_records 44 = .ok (.if_icmp .ge 23, 3) := by decide +kernel
theorem dX11_records_47 : decode cX11_records 47 = .ok (.aload_n 0, 1) := by decide +kernel
theorem dX11_records_48 : decode cX11_records 48 = .ok (.getfield 20, 3) := by decide +kernel
theorem dX11_records_51 : decode cX11_records 51 = .ok (.iload_n 1, 1) := by decide +kernel
theorem dX11_records_52 : decode cX11_records 52 = .ok (.aload_n 0, 1) := by decide +kernel
theorem dX11_records_53 : decode cX11_records 53 = .ok (.getfield 20, 3) := by decide +kernel
theorem dX11_records_56 : decode cX11_records 56 = .ok (.iload_n 1, 1) := by decide +kernel
theorem dX11_records_57 : decode cX11_records 57 = .ok (.iconst 2, 1) := by decide +kernel
theorem dX11_records_58 : decode cX11_records 58 = .ok (.iadd, 1) := by decide +kernel
theorem dX11_records_59 : decode cX11_records 59 = .ok (.laload, 1) := by decide +kernel
theorem dX11_records_60 : decode cX11_records 60 = .ok (.lastore, 1) := by decide +kernel
theorem dX11_records_61 : decode cX11_records 61 = .ok (.iinc 1 1, 3) := by decide +kernel
theorem dX11_records_64 : decode cX11_records 64 = .ok (.goto (-23), 3) := by decide +kernel
theorem dX11_records_67 : decode cX11_records 67 = .ok (.aload_n 0, 1) := by decide +kernel
theorem dX11_records_68 : decode cX11_records 68 = .ok (.dup, 1) := by decide +kernel
theorem dX11_records_69 : decode cX11_records 69 = .ok (.getfield 60, 3) := by decide +kernel
theorem dX11_records_72 : decode cX11_records 72 = .ok (.iconst 1, 1) := by decide +kernel
theorem dX11_records_73 : decode cX11_records 73 = .ok (.isub, 1) := by decide +kernel
theorem dX11_records_74 : decode cX11_records 74 = .ok (.putfield 60, 3) := by decide +kernel
theorem dX11_records_77 : decode cX11_records 77 = .ok (.iconst 0, 1) := by decide +kernel
theorem dX11_records_78 : decode cX11_records 78 = .ok (.istore_n 1, 1) := by decide +kernel
theorem dX11_records_79 : decode cX11_records 79 = .ok (.iload_n 1, 1) := by decide +kernel
theorem dX11_records_80 : decode cX11_records 80 = .ok (.sipush 159, 3) := by decide +kernel
theorem dX11_records_83 : decode cX11_records 83 = .ok (.if_icmp .ge 30, 3) := by decide +kernel
theorem dX11_records_86 : decode cX11_records 86 = .ok (.aload_n 0, 1) := by decide +kernel
theorem dX11_records_87 : decode cX11_records 87 = .ok (.getfield 17, 3) := by decide +kernel
theorem dX11_records_90 : decode cX11_records 90 = .ok (.sipush 159, 3) := by decide +kernel
theorem dX11_records_93 : decode cX11_records 93 = .ok (.aload_n 0, 1) := by decide +kernel
theorem dX11_records_94 : decode cX11_records 94 = .ok (.getfield 60, 3) := by decide +kernel
theorem dX11_records_97 : decode cX11_records 97 = .ok (.imul, 1) := by decide +kernel
theorem dX11_records_98 : decode cX11_records 98 = .ok (.iload_n 1, 1) := by decide +kernel
theorem dX11_records_99 : decode cX11_records 99 = .ok (.iadd, 1) := by decide +kernel
theorem dX11_records_100 : decode cX11_records 100 = .ok (.aload_n 0, 1) := by decide +kernel
theorem dX11_records_101 : decode cX11_records 101 = .ok (.getfield 7, 3) := by decide +kernel
theorem dX11_records_104 : decode cX11_records 104 = .ok (.iload_n 1, 1) := by decide +kernel
theorem dX11_records_105 : decode cX11_records 105 = .ok (.iaload, 1) := by decide +kernel
theorem dX11_records_106 : decode cX11_records 106 = .ok (.iastore, 1) := by decide +kernel
theorem dX11_records_107 : decode cX11_records 107 = .ok (.iinc 1 1, 3) := by decide +kernel
theorem dX11_records_110 : decode cX11_records 110 = .ok (.goto (-31), 3) := by decide +kernel
theorem dX11_records_113 : decode cX11_records 113 = .ok (.aload_n 0, 1) := by decide +kernel
theorem dX11_records_114 : decode cX11_records 114 = .ok (.getfield 20, 3) := by decide +kernel
theorem dX11_records_117 : decode cX11_records 117 = .ok (.iconst 2, 1) := by decide +kernel
theorem dX11_records_118 : decode cX11_records 118 = .ok (.aload_n 0, 1) := by decide +kernel
theorem dX11_records_119 : decode cX11_records 119 = .ok (.getfield 60, 3) := by decide +kernel
theorem dX11_records_122 : decode cX11_records 122 = .ok (.imul, 1) := by decide +kernel
theorem dX11_records_123 : decode cX11_records 123 = .ok (.aload_n 0, 1) := by decide +kernel
theorem dX11_records_124 : decode cX11_records 124 = .ok (.getfield 13, 3) := by decide +kernel
theorem dX11_records_127 : decode cX11_records 127 = .ok (.iconst 0, 1) := by decide +kernel
theorem dX11_records_128 : decode cX11_records 128 = .ok (.laload, 1) := by decide +kernel
theorem dX11_records_129 : decode cX11_records 129 = .ok (.lastore, 1) := by decide +kernel
theorem dX11_records_130 : decode cX11_records 130 = .ok (.aload_n 0, 1) := by decide +kernel
theorem dX11_records_131 : decode cX11_records 131 = .ok (.getfield 20, 3) := by decide +kernel
theorem dX11_records_134 : decode cX11_records 134 = .ok (.iconst 2, 1) := by decide +kernel
theorem dX11_records_135 : decode cX11_records 135 = .ok (.aload_n 0, 1) := by decide +kernel
theorem dX11_records_136 : decode cX11_records 136 = .ok (.getfield 60, 3) := by decide +kernel
theorem dX11_records_139 : decode cX11_records 139 = .ok (.imul, 1) := by decide +kernel
theorem dX11_records_140 : decode cX11_records 140 = .ok (.iconst 1, 1) := by decide +kernel
theorem dX11_records_141 : decode cX11_records 141 = .ok (.iadd, 1) := by decide +kernel
theorem dX11_records_142 : decode cX11_records 142 = .ok (.aload_n 0, 1) := by decide +kernel
theorem dX11_records_143 : decode cX11_records 143 = .ok (.getfield 13, 3) := by decide +kernel
theorem dX11_records_146 : decode cX11_records 146 = .ok (.iconst 1, 1) := by decide +kernel
theorem dX11_records_147 : decode cX11_records 147 = .ok (.laload, 1) := by decide +kernel
theorem dX11_records_148 : decode cX11_records 148 = .ok (.lastore, 1) := by decide +kernel
theorem dX11_records_149 : decode cX11_records 149 = .ok (.aload_n 0, 1) := by decide +kernel
theorem dX11_records_150 : decode cX11_records 150 = .ok (.dup, 1) := by decide +kernel
theorem dX11_records_151 : decode cX11_records 151 = .ok (.getfield 60, 3) := by decide +kernel
theorem dX11_records_154 : decode cX11_records 154 = .ok (.iconst 1, 1) := by decide +kernel
theorem dX11_records_155 : decode cX11_records 155 = .ok (.iadd, 1) := by decide +kernel
theorem dX11_records_156 : decode cX11_records 156 = .ok (.putfield 60, 3) := by decide +kernel
theorem dX11_records_159 : decode cX11_records 159 = .ok (.return_, 1) := by decide +kernel
set_option maxRecDepth 20000 in
theorem ggX11_isPath_X11_in : GoodIn wsX11_isPath wsX11_in := goodIn_r _ [5] (by decide +kernel) (by decide +kernel)
set_option maxRecDepth 20000 in
theorem gX11_isPath_X11_in : GoodIn wsX11_isPath (va_wsS RX11 64 yX11_in wsX11_in) := goodIn_app (goodIn_of _ (by decide +kernel)) ggX11_isPath_X11_in
theorem dX11_isPath_0 : decode cX11_isPath 0 = .ok (.iload_n 1, 1) := by decide +kernel
theorem dX11_isPath_1 : decode cX11_isPath 1 = .ok (.iconst 0, 1) := by decide +kernel
theorem dX11_isPath_2 : decode cX11_isPath 2 = .ok (.aload_n 0, 1) := by decide +kernel
theorem dX11_isPath_3 : decode cX11_isPath 3 = .ok (.getfield 7, 3) := by decide +kernel
theorem dX11_isPath_6 : decode cX11_isPath 6 = .ok (.bipush 64, 2) := by decide +kernel
theorem dX11_isPath_8 : decode cX11_isPath 8 = .ok (.iaload, 1) := by decide +kernel
theorem dX11_isPath_9 : decode cX11_isPath 9 = .ok (.iconst 1, 1) := by decide +kernel
theorem dX11_isPath_10 : decode cX11_isPath 10 = .ok (.isub, 1) := by decide +kernel
theorem dX11_isPath_11 : decode cX11_isPath 11 = .ok (.invokestatic 64, 3) := by decide +kernel
theorem dX11_isPath_14 : decode cX11_isPath 14 = .ok (.ireturn, 1) := by decide +kernel
theorem dX11_of_0 : decode cX11_of 0 = .ok (.aload_n 0, 1) := by decide +kernel
theorem dX11_of_1 : decode cX11_of 1 = .ok (.getfield 7, 3) := by decide +kernel
theorem dX11_of_4 : decode cX11_of 4 = .ok (.bipush 16, 2) := by decide +kernel
theorem dX11_of_6 : decode cX11_of 6 = .ok (.iload_n 1, 1) := by decide +kernel
theorem dX11_of_7 : decode cX11_of 7 = .ok (.imul, 1) := by decide +kernel
theorem dX11_of_8 : decode cX11_of 8 = .ok (.iload_n 2, 1) := by decide +kernel
theorem dX11_of_9 : decode cX11_of 9 = .ok (.iadd, 1) := by decide +kernel
theorem dX11_of_10 : decode cX11_of 10 = .ok (.iaload, 1) := by decide +kernel
theorem dX11_of_11 : decode cX11_of 11 = .ok (.ireturn, 1) := by decide +kernel
theorem dX11_lay_0 : decode cX11_lay 0 = .ok (.aload_n 0, 1) := by decide +kernel
theorem dX11_lay_1 : decode cX11_lay 1 = .ok (.getfield 7, 3) := by decide +kernel
theorem dX11_lay_4 : decode cX11_lay 4 = .ok (.bipush 16, 2) := by decide +kernel
theorem dX11_lay_6 : decode cX11_lay 6 = .ok (.iload_n 1, 1) := by decide +kernel
theorem dX11_lay_7 : decode cX11_lay 7 = .ok (.imul, 1) := by decide +kernel
theorem dX11_lay_8 : decode cX11_lay 8 = .ok (.iload_n 2, 1) := by decide +kernel
theorem dX11_lay_9 : decode cX11_lay 9 = .ok (.iadd, 1) := by decide +kernel
theorem dX11_lay_10 : decode cX11_lay 10 = .ok (.iload_n 3, 1) := by decide +kernel
theorem dX11_lay_11 : decode cX11_lay 11 = .ok (.iastore, 1) := by decide +kernel
theorem dX11_lay_12 : decode cX11_lay 12 = .ok (.return_, 1) := by decide +kernel
theorem dX11_held_0 : decode cX11_held 0 = .ok (.lload_n 0, 1) := by decide +kernel
theorem dX11_held_1 : decode cX11_held 1 = .ok (.lload_n 2, 1) := by decide +kernel
theorem dX11_held_2 : decode cX11_held 2 = .ok (.lcmp, 1) := by decide +kernel
theorem dX11_held_3 : decode cX11_held 3 = .ok (.ifCond .le 7, 3) := by decide +kernel
theorem dX11_held_6 : decode cX11_held 6 = .ok (.lload_n 2, 1) := by decide +kernel
theorem dX11_held_7 : decode cX11_held 7 = .ok (.goto 16, 3) := by decide +kernel
theorem dX11_held_10 : decode cX11_held 10 = .ok (.lload_n 0, 1) := by decide +kernel
theorem dX11_held_11 : decode cX11_held 11 = .ok (.lload_n 2, 1) := by decide +kernel
theorem dX11_held_12 : decode cX11_held 12 = .ok (.lneg, 1) := by decide +kernel
theorem dX11_held_13 : decode cX11_held 13 = .ok (.lcmp, 1) := by decide +kernel
theorem dX11_held_14 : decode cX11_held 14 = .ok (.ifCond .ge 8, 3) := by decide +kernel
theorem dX11_held_17 : decode cX11_held 17 = .ok (.lload_n 2, 1) := by decide +kernel
theorem dX11_held_18 : decode cX11_held 18 = .ok (.lneg, 1) := by decide +kernel
theorem dX11_held_19 : decode cX11_held 19 = .ok (.goto 4, 3) := by decide +kernel
theorem dX11_held_22 : decode cX11_held 22 = .ok (.lload_n 0, 1) := by decide +kernel
theorem dX11_held_23 : decode cX11_held 23 = .ok (.lreturn, 1) := by decide +kernel
set_option maxRecDepth 20000 in
theorem ggX11_addPath_X11_in : GoodIn wsX11_addPath wsX11_in := goodIn_r _ [8] (by decide +kernel) (by decide +kernel)
set_option maxRecDepth 20000 in
theorem gX11_addPath_X11_in : GoodIn wsX11_addPath (va_wsS RX11 64 yX11_in wsX11_in) := goodIn_app (goodIn_of _ (by decide +kernel)) ggX11_addPath_X11_in
set_option maxRecDepth 20000 in
theorem ggX11_addPath_X11_records : GoodIn wsX11_addPath wsX11_records := goodIn_r _ [12, 13, 14, 15, 2, 16, 21, 22, 23, 24, 25, 26, 27, 28, 29, 30, 31, 32, 33, 34, 35, 36, 37, 38, 39, 40, 41, 42, 43, 44, 45] (by decide +kernel) (by decide +kernel)
set_option maxRecDepth 20000 in
theorem gX11_addPath_X11_records : GoodIn wsX11_addPath (wsV RX11 70 RX11 yX11_records wsX11_records) := goodIn_app (goodIn_of _ (by decide +kernel)) ggX11_addPath_X11_records
set_option maxRecDepth 20000 in
theorem ggX11_addPath_X11_lay : GoodIn wsX11_addPath wsX11_lay := goodIn_r _ [20, 2, 21, 22, 23, 24, 25, 26, 27, 28, 29, 30, 31, 32, 33, 34, 35, 36, 37, 38, 39, 40, 41, 42, 43, 44, 45] (by decide +kernel) (by decide +kernel)
set_option maxRecDepth 20000 in
theorem gX11_addPath_X11_lay : GoodIn wsX11_addPath (wsV RX11 73 RX11 yX11_lay wsX11_lay) := goodIn_app (goodIn_of _ (by decide +kernel)) ggX11_addPath_X11_lay
theorem dX11_addPath_0 : decode cX11_addPath 0 = .ok (.iload_n 1, 1) := by decide +kernel
theorem dX11_addPath_1 : decode cX11_addPath 1 = .ok (.bipush 50, 2) := by decide +kernel
theorem dX11_addPath_3 : decode cX11_addPath 3 = .ok (.sipush 2000, 3) := by decide +kernel
theorem dX11_addPath_6 : decode cX11_addPath 6 = .ok (.invokestatic 64, 3) := by decide +kernel
theorem dX11_addPath_9 : decode cX11_addPath 9 = .ok (.ifCond .eq 53, 3) := by decide +kernel
theorem dX11_addPath_12 : decode cX11_addPath 12 = .ok (.iload_n 2, 1) := by decide +kernel
theorem dX11_addPath_13 : decode cX11_addPath 13 = .ok (.bipush 10, 2) := by decide +kernel
theorem dX11_addPath_15 : decode cX11_addPath 15 = .ok (.iload_n 1, 1) := by decide +kernel
theorem dX11_addPath_16 : decode cX11_addPath 16 = .ok (.invokestatic 64, 3) := by decide +kernel
theorem dX11_addPath_19 : decode cX11_addPath 19 = .ok (.ifCond .eq 43, 3) := by decide +kernel
theorem dX11_addPath_22 : decode cX11_addPath 22 = .ok (.iload_n 3, 1) := by decide +kernel
theorem dX11_addPath_23 : decode cX11_addPath 23 = .ok (.iconst 1, 1) := by decide +kernel
theorem dX11_addPath_24 : decode cX11_addPath 24 = .ok (.sipush 1000, 3) := by decide +kernel
theorem dX11_addPath_27 : decode cX11_addPath 27 = .ok (.invokestatic 64, 3) := by decide +kernel
theorem dX11_addPath_30 : decode cX11_addPath 30 = .ok (.ifCond .eq 32, 3) := by decide +kernel
theorem dX11_addPath_33 : decode cX11_addPath 33 = .ok (.iload 4, 2) := by decide +kernel
theorem dX11_addPath_35 : decode cX11_addPath 35 = .ok (.bipush 100, 2) := by decide +kernel
theorem dX11_addPath_37 : decode cX11_addPath 37 = .ok (.sipush 10000, 3) := by decide +kernel
theorem dX11_addPath_40 : decode cX11_addPath 40 = .ok (.invokestatic 64, 3) := by decide +kernel
theorem dX11_addPath_43 : decode cX11_addPath 43 = .ok (.ifCond .eq 19, 3) := by decide +kernel
theorem dX11_addPath_46 : decode cX11_addPath 46 = .ok (.iload 5, 2) := by decide +kernel
theorem dX11_addPath_48 : decode cX11_addPath 48 = .ok (.iconst 0, 1) := by decide +kernel
theorem dX11_addPath_49 : decode cX11_addPath 49 = .ok (.sipush 5000, 3) := by decide +kernel
theorem dX11_addPath_52 : decode cX11_addPath 52 = .ok (.invokestatic 64, 3) := by decide +kernel
theorem dX11_addPath_55 : decode cX11_addPath 55 = .ok (.ifCond .eq 7, 3) := by decide +kernel
theorem dX11_addPath_58 : decode cX11_addPath 58 = .ok (.iconst 1, 1) := by decide +kernel
theorem dX11_addPath_59 : decode cX11_addPath 59 = .ok (.goto 4, 3) := by decide +kernel
theorem dX11_addPath_62 : decode cX11_addPath 62 = .ok (.iconst 0, 1) := by decide +kernel
theorem dX11_addPath_63 : decode cX11_addPath 63 = .ok (.istore 6, 2) := by decide +kernel
theorem dX11_addPath_65 : decode cX11_addPath 65 = .ok (.iload 6, 2) := by decide +kernel
theorem dX11_addPath_67 : decode cX11_addPath 67 = .ok (.ifCond .ne 6, 3) := by decide +kernel
theorem dX11_addPath_70 : decode cX11_addPath 70 = .ok (.ldc 68, 2) := by decide +kernel
theorem dX11_addPath_72 : decode cX11_addPath 72 = .ok (.ireturn, 1) := by decide +kernel
theorem dX11_addPath_73 : decode cX11_addPath 73 = .ok (.aload_n 0, 1) := by decide +kernel
theorem dX11_addPath_74 : decode cX11_addPath 74 = .ok (.getfield 7, 3) := by decide +kernel
theorem dX11_addPath_77 : decode cX11_addPath 77 = .ok (.bipush 64, 2) := by decide +kernel
theorem dX11_addPath_79 : decode cX11_addPath 79 = .ok (.iaload, 1) := by decide +kernel
theorem dX11_addPath_80 : decode cX11_addPath 80 = .ok (.iconst 4, 1) := by decide +kernel
theorem dX11_addPath_81 : decode cX11_addPath 81 = .ok (.if_icmp .ne 6, 3) := by decide +kernel
theorem dX11_addPath_84 : decode cX11_addPath 84 = .ok (.ldc 69, 2) := by decide +kernel
theorem dX11_addPath_86 : decode cX11_addPath 86 = .ok (.ireturn, 1) := by decide +kernel
theorem dX11_addPath_87 : decode cX11_addPath 87 = .ok (.aload_n 0, 1) := by decide +kernel
theorem dX11_addPath_88 : decode cX11_addPath 88 = .ok (.invokevirtual 70, 3) := by decide +kernel
theorem dX11_addPath_91 : decode cX11_addPath 91 = .ok (.aload_n 0, 1) := by decide +kernel
theorem dX11_addPath_92 : decode cX11_addPath 92 = .ok (.getfield 7, 3) := by decide +kernel
theorem dX11_addPath_95 : decode cX11_addPath 95 = .ok (.bipush 64, 2) := by decide +kernel
theorem dX11_addPath_97 : decode cX11_addPath 97 = .ok (.iaload, 1) := by decide +kernel
theorem dX11_addPath_98 : decode cX11_addPath 98 = .ok (.istore 7, 2) := by decide +kernel
theorem dX11_addPath_100 : decode cX11_addPath 100 = .ok (.iconst 0, 1) := by decide +kernel
theorem dX11_addPath_101 : decode cX11_addPath 101 = .ok (.istore 8, 2) := by decide +kernel
theorem dX11_addPath_103 : decode cX11_addPath 103 = .ok (.iload 8, 2) := by decide +kernel
theorem dX11_addPath_105 : decode cX11_addPath 105 = .ok (.bipush 16, 2) := by decide +kernel
theorem dX11_addPath_107 : decode cX11_addPath 107 = .ok (.if_icmp .ge 18, 3) := by decide +kernel
theorem dX11_addPath_110 : decode cX11_addPath 110 = .ok (.aload_n 0, 1) := by decide +kernel
theorem dX11_addPath_111 : decode cX11_addPath 111 = .ok (.iload 7, 2) := by decide +kernel
theorem dX11_addPath_113 : decode cX11_addPath 113 = .ok (.iload 8, 2) := by decide +kernel
theorem dX11_addPath_115 : decode cX11_addPath 115 = .ok (.iconst 0, 1) := by decide +kernel
theorem dX11_addPath_116 : decode cX11_addPath 116 = .ok (.invokevirtual 73, 3) := by decide +kernel
theorem dX11_addPath_119 : decode cX11_addPath 119 = .ok (.iinc 8 1, 3) := by decide +kernel
theorem dX11_addPath_122 : decode cX11_addPath 122 = .ok (.goto (-19), 3) := by decide +kernel
theorem dX11_addPath_125 : decode cX11_addPath 125 = .ok (.aload_n 0, 1) := by decide +kernel
theorem dX11_addPath_126 : decode cX11_addPath 126 = .ok (.iload 7, 2) := by decide +kernel
theorem dX11_addPath_128 : decode cX11_addPath 128 = .ok (.iconst 0, 1) := by decide +kernel
theorem dX11_addPath_129 : decode cX11_addPath 129 = .ok (.iload_n 1, 1) := by decide +kernel
theorem dX11_addPath_130 : decode cX11_addPath 130 = .ok (.invokevirtual 73, 3) := by decide +kernel
theorem dX11_addPath_133 : decode cX11_addPath 133 = .ok (.aload_n 0, 1) := by decide +kernel
theorem dX11_addPath_134 : decode cX11_addPath 134 = .ok (.iload 7, 2) := by decide +kernel
theorem dX11_addPath_136 : decode cX11_addPath 136 = .ok (.iconst 1, 1) := by decide +kernel
theorem dX11_addPath_137 : decode cX11_addPath 137 = .ok (.iload_n 2, 1) := by decide +kernel
theorem dX11_addPath_138 : decode cX11_addPath 138 = .ok (.invokevirtual 73, 3) := by decide +kernel
theorem dX11_addPath_141 : decode cX11_addPath 141 = .ok (.aload_n 0, 1) := by decide +kernel
theorem dX11_addPath_142 : decode cX11_addPath 142 = .ok (.iload 7, 2) := by decide +kernel
theorem dX11_addPath_144 : decode cX11_addPath 144 = .ok (.iconst 2, 1) := by decide +kernel
theorem dX11_addPath_145 : decode cX11_addPath 145 = .ok (.iload_n 3, 1) := by decide +kernel
theorem dX11_addPath_146 : decode cX11_addPath 146 = .ok (.invokevirtual 73, 3) := by decide +kernel
theorem dX11_addPath_149 : decode cX11_addPath 149 = .ok (.aload_n 0, 1) := by decide +kernel
theorem dX11_addPath_150 : decode cX11_addPath 150 = .ok (.iload 7, 2) := by decide +kernel
theorem dX11_addPath_152 : decode cX11_addPath 152 = .ok (.iconst 3, 1) := by decide +kernel
theorem dX11_addPath_153 : decode cX11_addPath 153 = .ok (.iload 4, 2) := by decide +kernel
theorem dX11_addPath_155 : decode cX11_addPath 155 = .ok (.invokevirtual 73, 3) := by decide +kernel
theorem dX11_addPath_158 : decode cX11_addPath 158 = .ok (.aload_n 0, 1) := by decide +kernel
theorem dX11_addPath_159 : decode cX11_addPath 159 = .ok (.iload 7, 2) := by decide +kernel
theorem dX11_addPath_161 : decode cX11_addPath 161 = .ok (.iconst 4, 1) := by decide +kernel
theorem dX11_addPath_162 : decode cX11_addPath 162 = .ok (.iload 5, 2) := by decide +kernel
theorem dX11_addPath_164 : decode cX11_addPath 164 = .ok (.invokevirtual 73, 3) := by decide +kernel
theorem dX11_addPath_167 : decode cX11_addPath 167 = .ok (.aload_n 0, 1) := by decide +kernel
theorem dX11_addPath_168 : decode cX11_addPath 168 = .ok (.iload 7, 2) := by decide +kernel
theorem dX11_addPath_170 : decode cX11_addPath 170 = .ok (.iconst 5, 1) := by decide +kernel
theorem dX11_addPath_171 : decode cX11_addPath 171 = .ok (.ldc 77, 2) := by decide +kernel
theorem dX11_addPath_173 : decode cX11_addPath 173 = .ok (.invokevirtual 73, 3) := by decide +kernel
theorem dX11_addPath_176 : decode cX11_addPath 176 = .ok (.aload_n 0, 1) := by decide +kernel
theorem dX11_addPath_177 : decode cX11_addPath 177 = .ok (.iload 7, 2) := by decide +kernel
theorem dX11_addPath_179 : decode cX11_addPath 179 = .ok (.bipush 6, 2) := by decide +kernel
theorem dX11_addPath_181 : decode cX11_addPath 181 = .ok (.ldc 77, 2) := by decide +kernel
theorem dX11_addPath_183 : decode cX11_addPath 183 = .ok (.invokevirtual 73, 3) := by decide +kernel
theorem dX11_addPath_186 : decode cX11_addPath 186 = .ok (.aload_n 0, 1) := by decide +kernel
theorem dX11_addPath_187 : decode cX11_addPath 187 = .ok (.iload 7, 2) := by decide +kernel
theorem dX11_addPath_189 : decode cX11_addPath 189 = .ok (.bipush 7, 2) := by decide +kernel
theorem dX11_addPath_191 : decode cX11_addPath 191 = .ok (.ldc 77, 2) := by decide +kernel
theorem dX11_addPath_193 : decode cX11_addPath 193 = .ok (.invokevirtual 73, 3) := by decide +kernel
theorem dX11_addPath_196 : decode cX11_addPath 196 = .ok (.aload_n 0, 1) := by decide +kernel
theorem dX11_addPath_197 : decode cX11_addPath 197 = .ok (.iload 7, 2) := by decide +kernel
theorem dX11_addPath_199 : decode cX11_addPath 199 = .ok (.bipush 8, 2) := by decide +kernel
theorem dX11_addPath_201 : decode cX11_addPath 201 = .ok (.ldc 77, 2) := by decide +kernel
theorem dX11_addPath_203 : decode cX11_addPath 203 = .ok (.invokevirtual 73, 3) := by decide +kernel
theorem dX11_addPath_206 : decode cX11_addPath 206 = .ok (.aload_n 0, 1) := by decide +kernel
theorem dX11_addPath_207 : decode cX11_addPath 207 = .ok (.iload 7, 2) := by decide +kernel
theorem dX11_addPath_209 : decode cX11_addPath 209 = .ok (.bipush 9, 2) := by decide +kernel
theorem dX11_addPath_211 : decode cX11_addPath 211 = .ok (.ldc 77, 2) := by decide +kernel
theorem dX11_addPath_213 : decode cX11_addPath 213 = .ok (.invokevirtual 73, 3) := by decide +kernel
theorem dX11_addPath_216 : decode cX11_addPath 216 = .ok (.aload_n 0, 1) := by decide +kernel
theorem dX11_addPath_217 : decode cX11_addPath 217 = .ok (.iload 7, 2) := by decide +kernel
theorem dX11_addPath_219 : decode cX11_addPath 219 = .ok (.bipush 13, 2) := by decide +kernel
theorem dX11_addPath_221 : decode cX11_addPath 221 = .ok (.ldc 77, 2) := by decide +kernel
theorem dX11_addPath_223 : decode cX11_addPath 223 = .ok (.invokevirtual 73, 3) := by decide +kernel
theorem dX11_addPath_226 : decode cX11_addPath 226 = .ok (.aload_n 0, 1) := by decide +kernel
theorem dX11_addPath_227 : decode cX11_addPath 227 = .ok (.getfield 7, 3) := by decide +kernel
theorem dX11_addPath_230 : decode cX11_addPath 230 = .ok (.bipush 64, 2) := by decide +kernel
theorem dX11_addPath_232 : decode cX11_addPath 232 = .ok (.dup2, 1) := by decide +kernel
theorem dX11_addPath_233 : decode cX11_addPath 233 = .ok (.iaload, 1) := by decide +kernel
theorem dX11_addPath_234 : decode cX11_addPath 234 = .ok (.iconst 1, 1) := by decide +kernel
theorem dX11_addPath_235 : decode cX11_addPath 235 = .ok (.iadd, 1) := by decide +kernel
theorem dX11_addPath_236 : decode cX11_addPath 236 = .ok (.iastore, 1) := by decide +kernel
theorem dX11_addPath_237 : decode cX11_addPath 237 = .ok (.iload 7, 2) := by decide +kernel
theorem dX11_addPath_239 : decode cX11_addPath 239 = .ok (.ireturn, 1) := by decide +kernel
set_option maxRecDepth 20000 in
theorem ggX11_setWeight_X11_isPath : GoodIn wsX11_setWeight wsX11_isPath := goodIn_r _ [7, 8, 9, 10, 6, 11, 28, 29, 30, 31, 32, 33, 34, 35, 36, 37, 38, 39, 40, 41, 42, 43, 44, 45, 46, 47, 48, 49, 50, 51, 52] (by decide +kernel) (by decide +kernel)
set_option maxRecDepth 20000 in
theorem gX11_setWeight_X11_isPath : GoodIn wsX11_setWeight (wsV RX11 78 RX11 yX11_isPath wsX11_isPath) := goodIn_app (goodIn_of _ (by decide +kernel)) ggX11_setWeight_X11_isPath
set_option maxRecDepth 20000 in
theorem ggX11_setWeight_X11_in : GoodIn wsX11_setWeight wsX11_in := goodIn_r _ [11] (by decide +kernel) (by decide +kernel)
set_option maxRecDepth 20000 in
theorem gX11_setWeight_X11_in : GoodIn wsX11_setWeight (va_wsS RX11 64 yX11_in wsX11_in) := goodIn_app (goodIn_of _ (by decide +kernel)) ggX11_setWeight_X11_in
set_option maxRecDepth 20000 in
theorem ggX11_setWeight_X11_records : GoodIn wsX11_setWeight wsX11_records := goodIn_r _ [15, 16, 17, 18, 8, 19, 28, 29, 30, 31, 32, 33, 34, 35, 36, 37, 38, 39, 40, 41, 42, 43, 44, 45, 46, 47, 48, 49, 50, 51, 52] (by decide +kernel) (by decide +kernel)
set_option maxRecDepth 20000 in
theorem gX11_setWeight_X11_records : GoodIn wsX11_setWeight (wsV RX11 70 RX11 yX11_records wsX11_records) := goodIn_app (goodIn_of _ (by decide +kernel)) ggX11_setWeight_X11_records
set_option maxRecDepth 20000 in
theorem ggX11_setWeight_X11_of : GoodIn wsX11_setWeight wsX11_of := goodIn_r _ [23, 8, 28, 29, 30, 31, 32, 33, 34, 35, 36, 37, 38, 39, 40, 41, 42, 43, 44, 45, 46, 47, 48, 49, 50, 51, 52] (by decide +kernel) (by decide +kernel)
set_option maxRecDepth 20000 in
theorem gX11_setWeight_X11_of : GoodIn wsX11_setWeight (wsV RX11 83 RX11 yX11_of wsX11_of) := goodIn_app (goodIn_of _ (by decide +kernel)) ggX11_setWeight_X11_of
set_option maxRecDepth 20000 in
theorem ggX11_setWeight_X11_lay : GoodIn wsX11_setWeight wsX11_lay := goodIn_r _ [27, 8, 28, 29, 30, 31, 32, 33, 34, 35, 36, 37, 38, 39, 40, 41, 42, 43, 44, 45, 46, 47, 48, 49, 50, 51, 52] (by decide +kernel) (by decide +kernel)
set_option maxRecDepth 20000 in
theorem gX11_setWeight_X11_lay : GoodIn wsX11_setWeight (wsV RX11 73 RX11 yX11_lay wsX11_lay) := goodIn_app (goodIn_of _ (by decide +kernel)) ggX11_setWeight_X11_lay
theorem dX11_setWeight_0 : decode cX11_setWeight 0 = .ok (.aload_n 0, 1) := by decide +kernel
theorem dX11_setWeight_1 : decode cX11_setWeight 1 = .ok (.iload_n 1, 1) := by decide +kernel
theorem dX11_setWeight_2 : decode cX11_setWeight 2 = .ok (.invokevirtual 78, 3) := by decide +kernel
theorem dX11_setWeight_5 : decode cX11_setWeight 5 = .ok (.ifCond .ne 6, 3) := by decide +kernel
theorem dX11_setWeight_8 : decode cX11_setWeight 8 = .ok (.ldc 82, 2) := by decide +kernel
theorem dX11_setWeight_10 : decode cX11_setWeight 10 = .ok (.ireturn, 1) := by decide +kernel
theorem dX11_setWeight_11 : decode cX11_setWeight 11 = .ok (.iload_n 2, 1) := by decide +kernel
theorem dX11_setWeight_12 : decode cX11_setWeight 12 = .ok (.iconst 1, 1) := by decide +kernel
theorem dX11_setWeight_13 : decode cX11_setWeight 13 = .ok (.sipush 1000, 3) := by decide +kernel
theorem dX11_setWeight_16 : decode cX11_setWeight 16 = .ok (.invokestatic 64, 3) := by decide +kernel
theorem dX11_setWeight_19 : decode cX11_setWeight 19 = .ok (.ifCond .ne 6, 3) := by decide +kernel
theorem dX11_setWeight_22 : decode cX11_setWeight 22 = .ok (.ldc 68, 2) := by decide +kernel
theorem dX11_setWeight_24 : decode cX11_setWeight 24 = .ok (.ireturn, 1) := by decide +kernel
theorem dX11_setWeight_25 : decode cX11_setWeight 25 = .ok (.aload_n 0, 1) := by decide +kernel
theorem dX11_setWeight_26 : decode cX11_setWeight 26 = .ok (.invokevirtual 70, 3) := by decide +kernel
theorem dX11_setWeight_29 : decode cX11_setWeight 29 = .ok (.aload_n 0, 1) := by decide +kernel
theorem dX11_setWeight_30 : decode cX11_setWeight 30 = .ok (.iload_n 1, 1) := by decide +kernel
theorem dX11_setWeight_31 : decode cX11_setWeight 31 = .ok (.iconst 2, 1) := by decide +kernel
theorem dX11_setWeight_32 : decode cX11_setWeight 32 = .ok (.invokevirtual 83, 3) := by decide +kernel
theorem dX11_setWeight_35 : decode cX11_setWeight 35 = .ok (.istore_n 3, 1) := by decide +kernel
theorem dX11_setWeight_36 : decode cX11_setWeight 36 = .ok (.aload_n 0, 1) := by decide +kernel
theorem dX11_setWeight_37 : decode cX11_setWeight 37 = .ok (.iload_n 1, 1) := by decide +kernel
theorem dX11_setWeight_38 : decode cX11_setWeight 38 = .ok (.iconst 2, 1) := by decide +kernel
theorem dX11_setWeight_39 : decode cX11_setWeight 39 = .ok (.iload_n 2, 1) := by decide +kernel
theorem dX11_setWeight_40 : decode cX11_setWeight 40 = .ok (.invokevirtual 73, 3) := by decide +kernel
theorem dX11_setWeight_43 : decode cX11_setWeight 43 = .ok (.iload_n 3, 1) := by decide +kernel
theorem dX11_setWeight_44 : decode cX11_setWeight 44 = .ok (.ireturn, 1) := by decide +kernel
theorem dX11_speedAt_0 : decode cX11_speedAt 0 = .ok (.aload_n 0, 1) := by decide +kernel
theorem dX11_speedAt_1 : decode cX11_speedAt 1 = .ok (.getfield 7, 3) := by decide +kernel
theorem dX11_speedAt_4 : decode cX11_speedAt 4 = .ok (.bipush 66, 2) := by decide +kernel
theorem dX11_speedAt_6 : decode cX11_speedAt 6 = .ok (.iconst 2, 1) := by decide +kernel
theorem dX11_speedAt_7 : decode cX11_speedAt 7 = .ok (.iload_n 1, 1) := by decide +kernel
theorem dX11_speedAt_8 : decode cX11_speedAt 8 = .ok (.imul, 1) := by decide +kernel
theorem dX11_speedAt_9 : decode cX11_speedAt 9 = .ok (.iadd, 1) := by decide +kernel
theorem dX11_speedAt_10 : decode cX11_speedAt 10 = .ok (.iaload, 1) := by decide +kernel
theorem dX11_speedAt_11 : decode cX11_speedAt 11 = .ok (.ireturn, 1) := by decide +kernel
theorem dX11_factorAt_0 : decode cX11_factorAt 0 = .ok (.aload_n 0, 1) := by decide +kernel
theorem dX11_factorAt_1 : decode cX11_factorAt 1 = .ok (.getfield 7, 3) := by decide +kernel
theorem dX11_factorAt_4 : decode cX11_factorAt 4 = .ok (.bipush 66, 2) := by decide +kernel
theorem dX11_factorAt_6 : decode cX11_factorAt 6 = .ok (.iconst 2, 1) := by decide +kernel
theorem dX11_factorAt_7 : decode cX11_factorAt 7 = .ok (.iload_n 1, 1) := by decide +kernel
theorem dX11_factorAt_8 : decode cX11_factorAt 8 = .ok (.imul, 1) := by decide +kernel
theorem dX11_factorAt_9 : decode cX11_factorAt 9 = .ok (.iadd, 1) := by decide +kernel
theorem dX11_factorAt_10 : decode cX11_factorAt 10 = .ok (.iconst 1, 1) := by decide +kernel
theorem dX11_factorAt_11 : decode cX11_factorAt 11 = .ok (.iadd, 1) := by decide +kernel
theorem dX11_factorAt_12 : decode cX11_factorAt 12 = .ok (.iaload, 1) := by decide +kernel
theorem dX11_factorAt_13 : decode cX11_factorAt 13 = .ok (.ireturn, 1) := by decide +kernel
set_option maxRecDepth 20000 in
theorem ggX11_placeOf_X11_speedAt : GoodIn wsX11_placeOf wsX11_speedAt := goodIn_r _ [6, 1, 7, 8, 9, 10, 11, 12, 13, 14, 15, 16, 17, 18, 19, 20, 21, 22, 23, 24, 25, 26, 27, 28, 29, 30, 31] (by decide +kernel) (by decide +kernel)
set_option maxRecDepth 20000 in
theorem gX11_placeOf_X11_speedAt : GoodIn wsX11_placeOf (wsV RX11 87 RX11 yX11_speedAt wsX11_speedAt) := goodIn_app (goodIn_of _ (by decide +kernel)) ggX11_placeOf_X11_speedAt
theorem dX11_placeOf_0 : decode cX11_placeOf 0 = .ok (.iconst 0, 1) := by decide +kernel
theorem dX11_placeOf_1 : decode cX11_placeOf 1 = .ok (.istore_n 2, 1) := by decide +kernel
theorem dX11_placeOf_2 : decode cX11_placeOf 2 = .ok (.iload_n 2, 1) := by decide +kernel
theorem dX11_placeOf_3 : decode cX11_placeOf 3 = .ok (.aload_n 0, 1) := by decide +kernel
theorem dX11_placeOf_4 : decode cX11_placeOf 4 = .ok (.getfield 7, 3) := by decide +kernel
theorem dX11_placeOf_7 : decode cX11_placeOf 7 = .ok (.bipush 65, 2) := by decide +kernel
theorem dX11_placeOf_9 : decode cX11_placeOf 9 = .ok (.iaload, 1) := by decide +kernel
theorem dX11_placeOf_10 : decode cX11_placeOf 10 = .ok (.if_icmp .ge 18, 3) := by decide +kernel
theorem dX11_placeOf_13 : decode cX11_placeOf 13 = .ok (.aload_n 0, 1) := by decide +kernel
theorem dX11_placeOf_14 : decode cX11_placeOf 14 = .ok (.iload_n 2, 1) := by decide +kernel
theorem dX11_placeOf_15 : decode cX11_placeOf 15 = .ok (.invokevirtual 87, 3) := by decide +kernel
theorem dX11_placeOf_18 : decode cX11_placeOf 18 = .ok (.iload_n 1, 1) := by decide +kernel
theorem dX11_placeOf_19 : decode cX11_placeOf 19 = .ok (.if_icmp .ge 9, 3) := by decide +kernel
theorem dX11_placeOf_22 : decode cX11_placeOf 22 = .ok (.iinc 2 1, 3) := by decide +kernel
theorem dX11_placeOf_25 : decode cX11_placeOf 25 = .ok (.goto (-23), 3) := by decide +kernel
theorem dX11_placeOf_28 : decode cX11_placeOf 28 = .ok (.iload_n 2, 1) := by decide +kernel
theorem dX11_placeOf_29 : decode cX11_placeOf 29 = .ok (.ireturn, 1) := by decide +kernel
set_option maxRecDepth 20000 in
theorem ggX11_setPoint_X11_in : GoodIn wsX11_setPoint wsX11_in := goodIn_r _ [8] (by decide +kernel) (by decide +kernel)
set_option maxRecDepth 20000 in
theorem gX11_setPoint_X11_in : GoodIn wsX11_setPoint (va_wsS RX11 64 yX11_in wsX11_in) := goodIn_app (goodIn_of _ (by decide +kernel)) ggX11_setPoint_X11_in
set_option maxRecDepth 20000 in
theorem ggX11_setPoint_X11_placeOf : GoodIn wsX11_setPoint wsX11_placeOf := goodIn_r _ [12, 3, 13, 14, 15, 7, 16, 29, 30, 31, 32, 33, 34, 35, 36, 37, 38, 39, 40, 41, 42, 43, 44, 45, 46, 47, 48, 49, 50, 51, 52, 53] (by decide +kernel) (by decide +kernel)
set_option maxRecDepth 20000 in
theorem gX11_setPoint_X11_placeOf : GoodIn wsX11_setPoint (wsV RX11 92 RX11 yX11_placeOf wsX11_placeOf) := goodIn_app (goodIn_of _ (by decide +kernel)) ggX11_setPoint_X11_placeOf
set_option maxRecDepth 20000 in
theorem ggX11_setPoint_X11_speedAt : GoodIn wsX11_setPoint wsX11_speedAt := goodIn_r _ [16, 3, 29, 30, 31, 32, 33, 34, 35, 36, 37, 38, 39, 40, 41, 42, 43, 44, 45, 46, 47, 48, 49, 50, 51, 52, 53] (by decide +kernel) (by decide +kernel)
set_option maxRecDepth 20000 in
theorem gX11_setPoint_X11_speedAt : GoodIn wsX11_setPoint (wsV RX11 87 RX11 yX11_speedAt wsX11_speedAt) := goodIn_app (goodIn_of _ (by decide +kernel)) ggX11_setPoint_X11_speedAt
set_option maxRecDepth 20000 in
theorem ggX11_setPoint_X11_records : GoodIn wsX11_setPoint wsX11_records := goodIn_r _ [20, 21, 22, 23, 3, 24, 29, 30, 31, 32, 33, 34, 35, 36, 37, 38, 39, 40, 41, 42, 43, 44, 45, 46, 47, 48, 49, 50, 51, 52, 53] (by decide +kernel) (by decide +kernel)
set_option maxRecDepth 20000 in
theorem gX11_setPoint_X11_records : GoodIn wsX11_setPoint (wsV RX11 70 RX11 yX11_records wsX11_records) := goodIn_app (goodIn_of _ (by decide +kernel)) ggX11_setPoint_X11_records
set_option maxRecDepth 20000 in
theorem ggX11_setPoint_X11_factorAt : GoodIn wsX11_setPoint wsX11_factorAt := goodIn_r _ [28, 3, 29, 30, 31, 32, 33, 34, 35, 36, 37, 38, 39, 40, 41, 42, 43, 44, 45, 46, 47, 48, 49, 50, 51, 52, 53] (by decide +kernel) (by decide +kernel)
set_option maxRecDepth 20000 in
theorem gX11_setPoint_X11_factorAt : GoodIn wsX11_setPoint (wsV RX11 95 RX11 yX11_factorAt wsX11_factorAt) := goodIn_app (goodIn_of _ (by decide +kernel)) ggX11_setPoint_X11_factorAt
theorem dX11_setPoint_0 : decode cX11_setPoint 0 = .ok (.iload_n 1, 1) := by decide +kernel
theorem dX11_setPoint_1 : decode cX11_setPoint 1 = .ok (.iconst 0, 1) := by decide +kernel
theorem dX11_setPoint_2 : decode cX11_setPoint 2 = .ok (.ldc 91, 2) := by decide +kernel
theorem dX11_setPoint_4 : decode cX11_setPoint 4 = .ok (.invokestatic 64, 3) := by decide +kernel
theorem dX11_setPoint_7 : decode cX11_setPoint 7 = .ok (.ifCond .eq 16, 3) := by decide +kernel
theorem dX11_setPoint_10 : decode cX11_setPoint 10 = .ok (.iload_n 2, 1) := by decide +kernel
theorem dX11_setPoint_11 : decode cX11_setPoint 11 = .ok (.sipush 500, 3) := by decide +kernel
theorem dX11_setPoint_14 : decode cX11_setPoint 14 = .ok (.sipush 1500, 3) := by decide +kernel
theorem dX11_setPoint_17 : decode cX11_setPoint 17 = .ok (.invokestatic 64, 3) := by decide +kernel
theorem dX11_setPoint_20 : decode cX11_setPoint 20 = .ok (.ifCond .ne 6, 3) := by decide +kernel
theorem dX11_setPoint_23 : decode cX11_setPoint 23 = .ok (.ldc 68, 2) := by decide +kernel
theorem dX11_setPoint_25 : decode cX11_setPoint 25 = .ok (.ireturn, 1) := by decide +kernel
theorem dX11_setPoint_26 : decode cX11_setPoint 26 = .ok (.aload_n 0, 1) := by decide +kernel
theorem dX11_setPoint_27 : decode cX11_setPoint 27 = .ok (.iload_n 1, 1) := by decide +kernel
theorem dX11_setPoint_28 : decode cX11_setPoint 28 = .ok (.invokevirtual 92, 3) := by decide +kernel
theorem dX11_setPoint_31 : decode cX11_setPoint 31 = .ok (.istore_n 3, 1) := by decide +kernel
theorem dX11_setPoint_32 : decode cX11_setPoint 32 = .ok (.iload_n 3, 1) := by decide +kernel
theorem dX11_setPoint_33 : decode cX11_setPoint 33 = .ok (.aload_n 0, 1) := by decide +kernel
theorem dX11_setPoint_34 : decode cX11_setPoint 34 = .ok (.getfield 7, 3) := by decide +kernel
theorem dX11_setPoint_37 : decode cX11_setPoint 37 = .ok (.bipush 65, 2) := by decide +kernel
theorem dX11_setPoint_39 : decode cX11_setPoint 39 = .ok (.iaload, 1) := by decide +kernel
theorem dX11_setPoint_40 : decode cX11_setPoint 40 = .ok (.if_icmp .ge 16, 3) := by decide +kernel
theorem dX11_setPoint_43 : decode cX11_setPoint 43 = .ok (.aload_n 0, 1) := by decide +kernel
theorem dX11_setPoint_44 : decode cX11_setPoint 44 = .ok (.iload_n 3, 1) := by decide +kernel
theorem dX11_setPoint_45 : decode cX11_setPoint 45 = .ok (.invokevirtual 87, 3) := by decide +kernel
theorem dX11_setPoint_48 : decode cX11_setPoint 48 = .ok (.iload_n 1, 1) := by decide +kernel
theorem dX11_setPoint_49 : decode cX11_setPoint 49 = .ok (.if_icmp .ne 7, 3) := by decide +kernel
theorem dX11_setPoint_52 : decode cX11_setPoint 52 = .ok (.iconst 1, 1) := by decide +kernel
theorem dX11_setPoint_53 : decode cX11_setPoint 53 = .ok (.goto 4, 3) := by decide +kernel
theorem dX11_setPoint_56 : decode cX11_setPoint 56 = .ok (.iconst 0, 1) := by decide +kernel
theorem dX11_setPoint_57 : decode cX11_setPoint 57 = .ok (.istore 4, 2) := by decide +kernel
theorem dX11_setPoint_59 : decode cX11_setPoint 59 = .ok (.iload 4, 2) := by decide +kernel
theorem dX11_setPoint_61 : decode cX11_setPoint 61 = .ok (.ifCond .ne 18, 3) := by decide +kernel
theorem dX11_setPoint_64 : decode cX11_setPoint 64 = .ok (.aload_n 0, 1) := by decide +kernel
theorem dX11_setPoint_65 : decode cX11_setPoint 65 = .ok (.getfield 7, 3) := by decide +kernel
theorem dX11_setPoint_68 : decode cX11_setPoint 68 = .ok (.bipush 65, 2) := by decide +kernel
theorem dX11_setPoint_70 : decode cX11_setPoint 70 = .ok (.iaload, 1) := by decide +kernel
theorem dX11_setPoint_71 : decode cX11_setPoint 71 = .ok (.bipush 6, 2) := by decide +kernel
theorem dX11_setPoint_73 : decode cX11_setPoint 73 = .ok (.if_icmp .ne 6, 3) := by decide +kernel
theorem dX11_setPoint_76 : decode cX11_setPoint 76 = .ok (.ldc 69, 2) := by decide +kernel
theorem dX11_setPoint_78 : decode cX11_setPoint 78 = .ok (.ireturn, 1) := by decide +kernel
theorem dX11_setPoint_79 : decode cX11_setPoint 79 = .ok (.aload_n 0, 1) := by decide +kernel
theorem dX11_setPoint_80 : decode cX11_setPoint 80 = .ok (.invokevirtual 70, 3) := by decide +kernel
theorem dX11_setPoint_83 : decode cX11_setPoint 83 = .ok (.aload_n 0, 1) := by decide +kernel
theorem dX11_setPoint_84 : decode cX11_setPoint 84 = .ok (.getfield 7, 3) := by decide +kernel
theorem dX11_setPoint_87 : decode cX11_setPoint 87 = .ok (.bipush 65, 2) := by decide +kernel
theorem dX11_setPoint_89 : decode cX11_setPoint 89 = .ok (.iaload, 1) := by decide +kernel
theorem dX11_setPoint_90 : decode cX11_setPoint 90 = .ok (.istore 5, 2) := by decide +kernel
theorem dX11_setPoint_92 : decode cX11_setPoint 92 = .ok (.iload 5, 2) := by decide +kernel
theorem dX11_setPoint_94 : decode cX11_setPoint 94 = .ok (.iload_n 3, 1) := by decide +kernel
theorem dX11_setPoint_95 : decode cX11_setPoint 95 = .ok (.if_icmp .le 56, 3) := by decide +kernel
theorem dX11_setPoint_98 : decode cX11_setPoint 98 = .ok (.iload 4, 2) := by decide +kernel
theorem dX11_setPoint_100 : decode cX11_setPoint 100 = .ok (.ifCond .ne 51, 3) := by decide +kernel
theorem dX11_setPoint_103 : decode cX11_setPoint 103 = .ok (.aload_n 0, 1) := by decide +kernel
theorem dX11_setPoint_104 : decode cX11_setPoint 104 = .ok (.getfield 7, 3) := by decide +kernel
theorem dX11_setPoint_107 : decode cX11_setPoint 107 = .ok (.bipush 66, 2) := by decide +kernel
theorem dX11_setPoint_109 : decode cX11_setPoint 109 = .ok (.iconst 2, 1) := by decide +kernel
theorem dX11_setPoint_110 : decode cX11_setPoint 110 = .ok (.iload 5, 2) := by decide +kernel
theorem dX11_setPoint_112 : decode cX11_setPoint 112 = .ok (.imul, 1) := by decide +kernel
theorem dX11_setPoint_113 : decode cX11_setPoint 113 = .ok (.iadd, 1) := by decide +kernel
theorem dX11_setPoint_114 : decode cX11_setPoint 114 = .ok (.aload_n 0, 1) := by decide +kernel
theorem dX11_setPoint_115 : decode cX11_setPoint 115 = .ok (.iload 5, 2) := by decide +kernel
theorem dX11_setPoint_117 : decode cX11_setPoint 117 = .ok (.iconst 1, 1) := by decide +kernel
theorem dX11_setPoint_118 : decode cX11_setPoint 118 = .ok (.isub, 1) := by decide +kernel
theorem dX11_setPoint_119 : decode cX11_setPoint 119 = .ok (.invokevirtual 87, 3) := by decide +kernel
theorem dX11_setPoint_122 : decode cX11_setPoint 122 = .ok (.iastore, 1) := by decide +kernel
theorem dX11_setPoint_123 : decode cX11_setPoint 123 = .ok (.aload_n 0, 1) := by decide +kernel
theorem dX11_setPoint_124 : decode cX11_setPoint 124 = .ok (.getfield 7, 3) := by decide +kernel
theorem dX11_setPoint_127 : decode cX11_setPoint 127 = .ok (.bipush 66, 2) := by decide +kernel
theorem dX11_setPoint_129 : decode cX11_setPoint 129 = .ok (.iconst 2, 1) := by decide +kernel
theorem dX11_setPoint_130 : decode cX11_setPoint 130 = .ok (.iload 5, 2) := by decide +kernel
theorem dX11_setPoint_132 : decode cX11_setPoint 132 = .ok (.imul, 1) := by decide +kernel
theorem dX11_setPoint_133 : decode cX11_setPoint 133 = .ok (.iadd, 1) := by decide +kernel
theorem dX11_setPoint_134 : decode cX11_setPoint 134 = .ok (.iconst 1, 1) := by decide +kernel
theorem dX11_setPoint_135 : decode cX11_setPoint 135 = .ok (.iadd, 1) := by decide +kernel
theorem dX11_setPoint_136 : decode cX11_setPoint 136 = .ok (.aload_n 0, 1) := by decide +kernel
theorem dX11_setPoint_137 : decode cX11_setPoint 137 = .ok (.iload 5, 2) := by decide +kernel
theorem dX11_setPoint_139 : decode cX11_setPoint 139 = .ok (.iconst 1, 1) := by decide +kernel
theorem dX11_setPoint_140 : decode cX11_setPoint 140 = .ok (.isub, 1) := by decide +kernel
theorem dX11_setPoint_141 : decode cX11_setPoint 141 = .ok (.invokevirtual 95, 3) := by decide +kernel
theorem dX11_setPoint_144 : decode cX11_setPoint 144 = .ok (.iastore, 1) := by decide +kernel
theorem dX11_setPoint_145 : decode cX11_setPoint 145 = .ok (.iinc 5 (-1), 3) := by decide +kernel
theorem dX11_setPoint_148 : decode cX11_setPoint 148 = .ok (.goto (-56), 3) := by decide +kernel
theorem dX11_setPoint_151 : decode cX11_setPoint 151 = .ok (.aload_n 0, 1) := by decide +kernel
theorem dX11_setPoint_152 : decode cX11_setPoint 152 = .ok (.getfield 7, 3) := by decide +kernel
theorem dX11_setPoint_155 : decode cX11_setPoint 155 = .ok (.bipush 66, 2) := by decide +kernel
theorem dX11_setPoint_157 : decode cX11_setPoint 157 = .ok (.iconst 2, 1) := by decide +kernel
theorem dX11_setPoint_158 : decode cX11_setPoint 158 = .ok (.iload_n 3, 1) := by decide +kernel
theorem dX11_setPoint_159 : decode cX11_setPoint 159 = .ok (.imul, 1) := by decide +kernel
theorem dX11_setPoint_160 : decode cX11_setPoint 160 = .ok (.iadd, 1) := by decide +kernel
theorem dX11_setPoint_161 : decode cX11_setPoint 161 = .ok (.iload_n 1, 1) := by decide +kernel
theorem dX11_setPoint_162 : decode cX11_setPoint 162 = .ok (.iastore, 1) := by decide +kernel
theorem dX11_setPoint_163 : decode cX11_setPoint 163 = .ok (.aload_n 0, 1) := by decide +kernel
theorem dX11_setPoint_164 : decode cX11_setPoint 164 = .ok (.getfield 7, 3) := by decide +kernel
theorem dX11_setPoint_167 : decode cX11_setPoint 167 = .ok (.bipush 66, 2) := by decide +kernel
theorem dX11_setPoint_169 : decode cX11_setPoint 169 = .ok (.iconst 2, 1) := by decide +kernel
theorem dX11_setPoint_170 : decode cX11_setPoint 170 = .ok (.iload_n 3, 1) := by decide +kernel
theorem dX11_setPoint_171 : decode cX11_setPoint 171 = .ok (.imul, 1) := by decide +kernel
theorem dX11_setPoint_172 : decode cX11_setPoint 172 = .ok (.iadd, 1) := by decide +kernel
theorem dX11_setPoint_173 : decode cX11_setPoint 173 = .ok (.iconst 1, 1) := by decide +kernel
theorem dX11_setPoint_174 : decode cX11_setPoint 174 = .ok (.iadd, 1) := by decide +kernel
theorem dX11_setPoint_175 : decode cX11_setPoint 175 = .ok (.iload_n 2, 1) := by decide +kernel
theorem dX11_setPoint_176 : decode cX11_setPoint 176 = .ok (.iastore, 1) := by decide +kernel
theorem dX11_setPoint_177 : decode cX11_setPoint 177 = .ok (.aload_n 0, 1) := by decide +kernel
theorem dX11_setPoint_178 : decode cX11_setPoint 178 = .ok (.getfield 7, 3) := by decide +kernel
theorem dX11_setPoint_181 : decode cX11_setPoint 181 = .ok (.bipush 65, 2) := by decide +kernel
theorem dX11_setPoint_183 : decode cX11_setPoint 183 = .ok (.dup2, 1) := by decide +kernel
theorem dX11_setPoint_184 : decode cX11_setPoint 184 = .ok (.iaload, 1) := by decide +kernel
theorem dX11_setPoint_185 : decode cX11_setPoint 185 = .ok (.iload 4, 2) := by decide +kernel
theorem dX11_setPoint_187 : decode cX11_setPoint 187 = .ok (.ifCond .eq 7, 3) := by decide +kernel
theorem dX11_setPoint_190 : decode cX11_setPoint 190 = .ok (.iconst 0, 1) := by decide +kernel
theorem dX11_setPoint_191 : decode cX11_setPoint 191 = .ok (.goto 4, 3) := by decide +kernel
theorem dX11_setPoint_194 : decode cX11_setPoint 194 = .ok (.iconst 1, 1) := by decide +kernel
theorem dX11_setPoint_195 : decode cX11_setPoint 195 = .ok (.iadd, 1) := by decide +kernel
theorem dX11_setPoint_196 : decode cX11_setPoint 196 = .ok (.iastore, 1) := by decide +kernel
theorem dX11_setPoint_197 : decode cX11_setPoint 197 = .ok (.aload_n 0, 1) := by decide +kernel
theorem dX11_setPoint_198 : decode cX11_setPoint 198 = .ok (.getfield 7, 3) := by decide +kernel
theorem dX11_setPoint_201 : decode cX11_setPoint 201 = .ok (.bipush 65, 2) := by decide +kernel
theorem dX11_setPoint_203 : decode cX11_setPoint 203 = .ok (.iaload, 1) := by decide +kernel
theorem dX11_setPoint_204 : decode cX11_setPoint 204 = .ok (.ireturn, 1) := by decide +kernel
set_option maxRecDepth 20000 in
theorem ggX11_removePoint_X11_in : GoodIn wsX11_removePoint wsX11_in := goodIn_r _ [8] (by decide +kernel) (by decide +kernel)
set_option maxRecDepth 20000 in
theorem gX11_removePoint_X11_in : GoodIn wsX11_removePoint (va_wsS RX11 64 yX11_in wsX11_in) := goodIn_app (goodIn_of _ (by decide +kernel)) ggX11_removePoint_X11_in
set_option maxRecDepth 20000 in
theorem ggX11_removePoint_X11_placeOf : GoodIn wsX11_removePoint wsX11_placeOf := goodIn_r _ [12, 3, 13, 14, 15, 7, 16, 29, 30, 31, 32, 33, 34, 35, 36, 37, 38, 39, 40, 41, 42, 43, 44, 45, 46, 47, 48, 49, 50, 51, 52, 53] (by decide +kernel) (by decide +kernel)
set_option maxRecDepth 20000 in
theorem gX11_removePoint_X11_placeOf : GoodIn wsX11_removePoint (wsV RX11 92 RX11 yX11_placeOf wsX11_placeOf) := goodIn_app (goodIn_of _ (by decide +kernel)) ggX11_removePoint_X11_placeOf
set_option maxRecDepth 20000 in
theorem ggX11_removePoint_X11_speedAt : GoodIn wsX11_removePoint wsX11_speedAt := goodIn_r _ [16, 3, 29, 30, 31, 32, 33, 34, 35, 36, 37, 38, 39, 40, 41, 42, 43, 44, 45, 46, 47, 48, 49, 50, 51, 52, 53] (by decide +kernel) (by decide +kernel)
set_option maxRecDepth 20000 in
theorem gX11_removePoint_X11_speedAt : GoodIn wsX11_removePoint (wsV RX11 87 RX11 yX11_speedAt wsX11_speedAt) := goodIn_app (goodIn_of _ (by decide +kernel)) ggX11_removePoint_X11_speedAt
set_option maxRecDepth 20000 in
theorem ggX11_removePoint_X11_records : GoodIn wsX11_removePoint wsX11_records := goodIn_r _ [20, 21, 22, 23, 3, 24, 29, 30, 31, 32, 33, 34, 35, 36, 37, 38, 39, 40, 41, 42, 43, 44, 45, 46, 47, 48, 49, 50, 51, 52, 53] (by decide +kernel) (by decide +kernel)
set_option maxRecDepth 20000 in
theorem gX11_removePoint_X11_records : GoodIn wsX11_removePoint (wsV RX11 70 RX11 yX11_records wsX11_records) := goodIn_app (goodIn_of _ (by decide +kernel)) ggX11_removePoint_X11_records
set_option maxRecDepth 20000 in
theorem ggX11_removePoint_X11_factorAt : GoodIn wsX11_removePoint wsX11_factorAt := goodIn_r _ [28, 3, 29, 30, 31, 32, 33, 34, 35, 36, 37, 38, 39, 40, 41, 42, 43, 44, 45, 46, 47, 48, 49, 50, 51, 52, 53] (by decide +kernel) (by decide +kernel)
set_option maxRecDepth 20000 in
theorem gX11_removePoint_X11_factorAt : GoodIn wsX11_removePoint (wsV RX11 95 RX11 yX11_factorAt wsX11_factorAt) := goodIn_app (goodIn_of _ (by decide +kernel)) ggX11_removePoint_X11_factorAt
theorem dX11_removePoint_0 : decode cX11_removePoint 0 = .ok (.iload_n 1, 1) := by decide +kernel
theorem dX11_removePoint_1 : decode cX11_removePoint 1 = .ok (.iconst 0, 1) := by decide +kernel
theorem dX11_removePoint_2 : decode cX11_removePoint 2 = .ok (.ldc 91, 2) := by decide +kernel
theorem dX11_removePoint_4 : decode cX11_removePoint 4 = .ok (.invokestatic 64, 3) := by decide +kernel
theorem dX11_removePoint_7 : decode cX11_removePoint 7 = .ok (.ifCond .ne 6, 3) := by decide +kernel
theorem dX11_removePoint_10 : decode cX11_removePoint 10 = .ok (.ldc 68, 2) := by decide +kernel
theorem dX11_removePoint_12 : decode cX11_removePoint 12 = .ok (.ireturn, 1) := by decide +kernel
theorem dX11_removePoint_13 : decode cX11_removePoint 13 = .ok (.aload_n 0, 1) := by decide +kernel
theorem dX11_removePoint_14 : decode cX11_removePoint 14 = .ok (.iload_n 1, 1) := by decide +kernel
theorem dX11_removePoint_15 : decode cX11_removePoint 15 = .ok (.invokevirtual 92, 3) := by decide +kernel
theorem dX11_removePoint_18 : decode cX11_removePoint 18 = .ok (.istore_n 2, 1) := by decide +kernel
theorem dX11_removePoint_19 : decode cX11_removePoint 19 = .ok (.iload_n 2, 1) := by decide +kernel
theorem dX11_removePoint_20 : decode cX11_removePoint 20 = .ok (.aload_n 0, 1) := by decide +kernel
theorem dX11_removePoint_21 : decode cX11_removePoint 21 = .ok (.getfield 7, 3) := by decide +kernel
theorem dX11_removePoint_24 : decode cX11_removePoint 24 = .ok (.bipush 65, 2) := by decide +kernel
theorem dX11_removePoint_26 : decode cX11_removePoint 26 = .ok (.iaload, 1) := by decide +kernel
theorem dX11_removePoint_27 : decode cX11_removePoint 27 = .ok (.if_icmp .eq 12, 3) := by decide +kernel
theorem dX11_removePoint_30 : decode cX11_removePoint 30 = .ok (.aload_n 0, 1) := by decide +kernel
theorem dX11_removePoint_31 : decode cX11_removePoint 31 = .ok (.iload_n 2, 1) := by decide +kernel
theorem dX11_removePoint_32 : decode cX11_removePoint 32 = .ok (.invokevirtual 87, 3) := by decide +kernel
theorem dX11_removePoint_35 : decode cX11_removePoint 35 = .ok (.iload_n 1, 1) := by decide +kernel
theorem dX11_removePoint_36 : decode cX11_removePoint 36 = .ok (.if_icmp .eq 6, 3) := by decide +kernel
theorem dX11_removePoint_39 : decode cX11_removePoint 39 = .ok (.ldc 98, 2) := by decide +kernel
theorem dX11_removePoint_41 : decode cX11_removePoint 41 = .ok (.ireturn, 1) := by decide +kernel
theorem dX11_removePoint_42 : decode cX11_removePoint 42 = .ok (.aload_n 0, 1) := by decide +kernel
theorem dX11_removePoint_43 : decode cX11_removePoint 43 = .ok (.invokevirtual 70, 3) := by decide +kernel
theorem dX11_removePoint_46 : decode cX11_removePoint 46 = .ok (.aload_n 0, 1) := by decide +kernel
theorem dX11_removePoint_47 : decode cX11_removePoint 47 = .ok (.iload_n 2, 1) := by decide +kernel
theorem dX11_removePoint_48 : decode cX11_removePoint 48 = .ok (.invokevirtual 95, 3) := by decide +kernel
theorem dX11_removePoint_51 : decode cX11_removePoint 51 = .ok (.istore_n 3, 1) := by decide +kernel
theorem dX11_removePoint_52 : decode cX11_removePoint 52 = .ok (.iload_n 2, 1) := by decide +kernel
theorem dX11_removePoint_53 : decode cX11_removePoint 53 = .ok (.istore 4, 2) := by decide +kernel
theorem dX11_removePoint_55 : decode cX11_removePoint 55 = .ok (.iload 4, 2) := by decide +kernel
theorem dX11_removePoint_57 : decode cX11_removePoint 57 = .ok (.iconst 1, 1) := by decide +kernel
theorem dX11_removePoint_58 : decode cX11_removePoint 58 = .ok (.iadd, 1) := by decide +kernel
theorem dX11_removePoint_59 : decode cX11_removePoint 59 = .ok (.aload_n 0, 1) := by decide +kernel
theorem dX11_removePoint_60 : decode cX11_removePoint 60 = .ok (.getfield 7, 3) := by decide +kernel
theorem dX11_removePoint_63 : decode cX11_removePoint 63 = .ok (.bipush 65, 2) := by decide +kernel
theorem dX11_removePoint_65 : decode cX11_removePoint 65 = .ok (.iaload, 1) := by decide +kernel
theorem dX11_removePoint_66 : decode cX11_removePoint 66 = .ok (.if_icmp .ge 51, 3) := by decide +kernel
theorem dX11_removePoint_69 : decode cX11_removePoint 69 = .ok (.aload_n 0, 1) := by decide +kernel
theorem dX11_removePoint_70 : decode cX11_removePoint 70 = .ok (.getfield 7, 3) := by decide +kernel
theorem dX11_removePoint_73 : decode cX11_removePoint 73 = .ok (.bipush 66, 2) := by decide +kernel
theorem dX11_removePoint_75 : decode cX11_removePoint 75 = .ok (.iconst 2, 1) := by decide +kernel
theorem dX11_removePoint_76 : decode cX11_removePoint 76 = .ok (.iload 4, 2) := by decide +kernel
theorem dX11_removePoint_78 : decode cX11_removePoint 78 = .ok (.imul, 1) := by decide +kernel
theorem dX11_removePoint_79 : decode cX11_removePoint 79 = .ok (.iadd, 1) := by decide +kernel
theorem dX11_removePoint_80 : decode cX11_removePoint 80 = .ok (.aload_n 0, 1) := by decide +kernel
theorem dX11_removePoint_81 : decode cX11_removePoint 81 = .ok (.iload 4, 2) := by decide +kernel
theorem dX11_removePoint_83 : decode cX11_removePoint 83 = .ok (.iconst 1, 1) := by decide +kernel
theorem dX11_removePoint_84 : decode cX11_removePoint 84 = .ok (.iadd, 1) := by decide +kernel
theorem dX11_removePoint_85 : decode cX11_removePoint 85 = .ok (.invokevirtual 87, 3) := by decide +kernel
theorem dX11_removePoint_88 : decode cX11_removePoint 88 = .ok (.iastore, 1) := by decide +kernel
theorem dX11_removePoint_89 : decode cX11_removePoint 89 = .ok (.aload_n 0, 1) := by decide +kernel
theorem dX11_removePoint_90 : decode cX11_removePoint 90 = .ok (.getfield 7, 3) := by decide +kernel
theorem dX11_removePoint_93 : decode cX11_removePoint 93 = .ok (.bipush 66, 2) := by decide +kernel
theorem dX11_removePoint_95 : decode cX11_removePoint 95 = .ok (.iconst 2, 1) := by decide +kernel
theorem dX11_removePoint_96 : decode cX11_removePoint 96 = .ok (.iload 4, 2) := by decide +kernel
theorem dX11_removePoint_98 : decode cX11_removePoint 98 = .ok (.imul, 1) := by decide +kernel
theorem dX11_removePoint_99 : decode cX11_removePoint 99 = .ok (.iadd, 1) := by decide +kernel
theorem dX11_removePoint_100 : decode cX11_removePoint 100 = .ok (.iconst 1, 1) := by decide +kernel
theorem dX11_removePoint_101 : decode cX11_removePoint 101 = .ok (.iadd, 1) := by decide +kernel
theorem dX11_removePoint_102 : decode cX11_removePoint 102 = .ok (.aload_n 0, 1) := by decide +kernel
theorem dX11_removePoint_103 : decode cX11_removePoint 103 = .ok (.iload 4, 2) := by decide +kernel
theorem dX11_removePoint_105 : decode cX11_removePoint 105 = .ok (.iconst 1, 1) := by decide +kernel
theorem dX11_removePoint_106 : decode cX11_removePoint 106 = .ok (.iadd, 1) := by decide +kernel
theorem dX11_removePoint_107 : decode cX11_removePoint 107 = .ok (.invokevirtual 95, 3) := by decide +kernel
theorem dX11_removePoint_110 : decode cX11_removePoint 110 = .ok (.iastore, 1) := by decide +kernel
theorem dX11_removePoint_111 : decode cX11_removePoint 111 = .ok (.iinc 4 1, 3) := by decide +kernel
theorem dX11_removePoint_114 : decode cX11_removePoint 114 = .ok (.goto (-59), 3) := by decide +kernel
theorem dX11_removePoint_117 : decode cX11_removePoint 117 = .ok (.aload_n 0, 1) := by decide +kernel
theorem dX11_removePoint_118 : decode cX11_removePoint 118 = .ok (.getfield 7, 3) := by decide +kernel
theorem dX11_removePoint_121 : decode cX11_removePoint 121 = .ok (.bipush 65, 2) := by decide +kernel
theorem dX11_removePoint_123 : decode cX11_removePoint 123 = .ok (.dup2, 1) := by decide +kernel
theorem dX11_removePoint_124 : decode cX11_removePoint 124 = .ok (.iaload, 1) := by decide +kernel
theorem dX11_removePoint_125 : decode cX11_removePoint 125 = .ok (.iconst 1, 1) := by decide +kernel
theorem dX11_removePoint_126 : decode cX11_removePoint 126 = .ok (.isub, 1) := by decide +kernel
theorem dX11_removePoint_127 : decode cX11_removePoint 127 = .ok (.iastore, 1) := by decide +kernel
theorem dX11_removePoint_128 : decode cX11_removePoint 128 = .ok (.iload_n 3, 1) := by decide +kernel
theorem dX11_removePoint_129 : decode cX11_removePoint 129 = .ok (.ireturn, 1) := by decide +kernel
theorem dX11_least_0 : decode cX11_least 0 = .ok (.iload_n 0, 1) := by decide +kernel
theorem dX11_least_1 : decode cX11_least 1 = .ok (.iconst 2, 1) := by decide +kernel
theorem dX11_least_2 : decode cX11_least 2 = .ok (.if_icmp .ge 7, 3) := by decide +kernel
theorem dX11_least_5 : decode cX11_least 5 = .ok (.iconst 0, 1) := by decide +kernel
theorem dX11_least_6 : decode cX11_least 6 = .ok (.goto 4, 3) := by decide +kernel
theorem dX11_least_9 : decode cX11_least 9 = .ok (.iconst 1, 1) := by decide +kernel
theorem dX11_least_10 : decode cX11_least 10 = .ok (.ireturn, 1) := by decide +kernel
theorem dX11_most_0 : decode cX11_most 0 = .ok (.iload_n 0, 1) := by decide +kernel
theorem dX11_most_1 : decode cX11_most 1 = .ok (.tableswitch 39 0 3 #[31, 34, 31, 36], 31) := by decide +kernel
theorem dX11_most_32 : decode cX11_most 32 = .ok (.bipush 100, 2) := by decide +kernel
theorem dX11_most_34 : decode cX11_most 34 = .ok (.ireturn, 1) := by decide +kernel
theorem dX11_most_35 : decode cX11_most 35 = .ok (.iconst 5, 1) := by decide +kernel
theorem dX11_most_36 : decode cX11_most 36 = .ok (.ireturn, 1) := by decide +kernel
theorem dX11_most_37 : decode cX11_most 37 = .ok (.ldc 99, 2) := by decide +kernel
theorem dX11_most_39 : decode cX11_most 39 = .ok (.ireturn, 1) := by decide +kernel
theorem dX11_most_40 : decode cX11_most 40 = .ok (.sipush 1000, 3) := by decide +kernel
theorem dX11_most_43 : decode cX11_most 43 = .ok (.ireturn, 1) := by decide +kernel
set_option maxRecDepth 20000 in
theorem ggX11_set_X11_in : GoodIn wsX11_set wsX11_in := goodIn_r _ [7] (by decide +kernel) (by decide +kernel)
set_option maxRecDepth 20000 in
theorem gX11_set_X11_in : GoodIn wsX11_set (va_wsS RX11 64 yX11_in wsX11_in) := goodIn_app (goodIn_of _ (by decide +kernel)) ggX11_set_X11_in
set_option maxRecDepth 20000 in
theorem ggX11_set_X11_least : GoodIn wsX11_set wsX11_least := goodIn_r _ [10] (by decide +kernel) (by decide +kernel)
set_option maxRecDepth 20000 in
theorem gX11_set_X11_least : GoodIn wsX11_set (va_wsS RX11 100 yX11_least wsX11_least) := goodIn_app (goodIn_of _ (by decide +kernel)) ggX11_set_X11_least
set_option maxRecDepth 20000 in
theorem ggX11_set_X11_most : GoodIn wsX11_set wsX11_most := goodIn_r _ [13, 14] (by decide +kernel) (by decide +kernel)
set_option maxRecDepth 20000 in
theorem gX11_set_X11_most : GoodIn wsX11_set (va_wsS RX11 103 yX11_most wsX11_most) := goodIn_app (goodIn_of _ (by decide +kernel)) ggX11_set_X11_most
set_option maxRecDepth 20000 in
theorem ggX11_set_X11_records : GoodIn wsX11_set wsX11_records := goodIn_r _ [18, 19, 20, 21, 3, 22, 23, 24, 25, 26, 27, 28, 29, 30, 31, 32, 33, 34, 35, 36, 37, 38, 39, 40, 41, 42, 43, 44, 45, 46, 47] (by decide +kernel) (by decide +kernel)
set_option maxRecDepth 20000 in
theorem gX11_set_X11_records : GoodIn wsX11_set (wsV RX11 70 RX11 yX11_records wsX11_records) := goodIn_app (goodIn_of _ (by decide +kernel)) ggX11_set_X11_records
theorem dX11_set_0 : decode cX11_set 0 = .ok (.iload_n 1, 1) := by decide +kernel
theorem dX11_set_1 : decode cX11_set 1 = .ok (.iconst 0, 1) := by decide +kernel
theorem dX11_set_2 : decode cX11_set 2 = .ok (.iconst 4, 1) := by decide +kernel
theorem dX11_set_3 : decode cX11_set 3 = .ok (.invokestatic 64, 3) := by decide +kernel
theorem dX11_set_6 : decode cX11_set 6 = .ok (.ifCond .ne 6, 3) := by decide +kernel
theorem dX11_set_9 : decode cX11_set 9 = .ok (.ldc 82, 2) := by decide +kernel
theorem dX11_set_11 : decode cX11_set 11 = .ok (.ireturn, 1) := by decide +kernel
theorem dX11_set_12 : decode cX11_set 12 = .ok (.iload_n 2, 1) := by decide +kernel
theorem dX11_set_13 : decode cX11_set 13 = .ok (.iload_n 1, 1) := by decide +kernel
theorem dX11_set_14 : decode cX11_set 14 = .ok (.invokestatic 100, 3) := by decide +kernel
theorem dX11_set_17 : decode cX11_set 17 = .ok (.iload_n 1, 1) := by decide +kernel
theorem dX11_set_18 : decode cX11_set 18 = .ok (.invokestatic 103, 3) := by decide +kernel
theorem dX11_set_21 : decode cX11_set 21 = .ok (.invokestatic 64, 3) := by decide +kernel
theorem dX11_set_24 : decode cX11_set 24 = .ok (.ifCond .ne 6, 3) := by decide +kernel
theorem dX11_set_27 : decode cX11_set 27 = .ok (.ldc 68, 2) := by decide +kernel
theorem dX11_set_29 : decode cX11_set 29 = .ok (.ireturn, 1) := by decide +kernel
theorem dX11_set_30 : decode cX11_set 30 = .ok (.aload_n 0, 1) := by decide +kernel
theorem dX11_set_31 : decode cX11_set 31 = .ok (.invokevirtual 70, 3) := by decide +kernel
theorem dX11_set_34 : decode cX11_set 34 = .ok (.aload_n 0, 1) := by decide +kernel
theorem dX11_set_35 : decode cX11_set 35 = .ok (.getfield 7, 3) := by decide +kernel
theorem dX11_set_38 : decode cX11_set 38 = .ok (.bipush 78, 2) := by decide +kernel
theorem dX11_set_40 : decode cX11_set 40 = .ok (.iload_n 1, 1) := by decide +kernel
theorem dX11_set_41 : decode cX11_set 41 = .ok (.iadd, 1) := by decide +kernel
theorem dX11_set_42 : decode cX11_set 42 = .ok (.iaload, 1) := by decide +kernel
theorem dX11_set_43 : decode cX11_set 43 = .ok (.istore_n 3, 1) := by decide +kernel
theorem dX11_set_44 : decode cX11_set 44 = .ok (.aload_n 0, 1) := by decide +kernel
theorem dX11_set_45 : decode cX11_set 45 = .ok (.getfield 7, 3) := by decide +kernel
theorem dX11_set_48 : decode cX11_set 48 = .ok (.bipush 78, 2) := by decide +kernel
theorem dX11_set_50 : decode cX11_set 50 = .ok (.iload_n 1, 1) := by decide +kernel
theorem dX11_set_51 : decode cX11_set 51 = .ok (.iadd, 1) := by decide +kernel
theorem dX11_set_52 : decode cX11_set 52 = .ok (.iload_n 2, 1) := by decide +kernel
theorem dX11_set_53 : decode cX11_set 53 = .ok (.iastore, 1) := by decide +kernel
theorem dX11_set_54 : decode cX11_set 54 = .ok (.iload_n 3, 1) := by decide +kernel
theorem dX11_set_55 : decode cX11_set 55 = .ok (.ireturn, 1) := by decide +kernel
set_option maxRecDepth 20000 in
theorem ggX11_factorFor_X11_speedAt : GoodIn wsX11_factorFor wsX11_speedAt := goodIn_r _ [6, 1, 15, 16, 17, 18, 19, 20, 21, 22, 23, 24, 25, 26, 27, 28, 29, 30, 31, 32, 33, 34, 35, 36, 37, 38, 39] (by decide +kernel) (by decide +kernel)
set_option maxRecDepth 20000 in
theorem gX11_factorFor_X11_speedAt : GoodIn wsX11_factorFor (wsV RX11 87 RX11 yX11_speedAt wsX11_speedAt) := goodIn_app (goodIn_of _ (by decide +kernel)) ggX11_factorFor_X11_speedAt
set_option maxRecDepth 20000 in
theorem ggX11_factorFor_X11_factorAt : GoodIn wsX11_factorFor wsX11_factorAt := goodIn_r _ [10, 1, 15, 16, 17, 18, 19, 20, 21, 22, 23, 24, 25, 26, 27, 28, 29, 30, 31, 32, 33, 34, 35, 36, 37, 38, 39] (by decide +kernel) (by decide +kernel)
set_option maxRecDepth 20000 in
theorem gX11_factorFor_X11_factorAt : GoodIn wsX11_factorFor (wsV RX11 95 RX11 yX11_factorAt wsX11_factorAt) := goodIn_app (goodIn_of _ (by decide +kernel)) ggX11_factorFor_X11_factorAt
set_option maxRecDepth 20000 in
theorem ggX11_factorFor_X11_placeOf : GoodIn wsX11_factorFor wsX11_placeOf := goodIn_r _ [14, 1, 2, 3, 4, 5, 6, 15, 16, 17, 18, 19, 20, 21, 22, 23, 24, 25, 26, 27, 28, 29, 30, 31, 32, 33, 34, 35, 36, 37, 38, 39] (by decide +kernel) (by decide +kernel)
set_option maxRecDepth 20000 in
theorem gX11_factorFor_X11_placeOf : GoodIn wsX11_factorFor (wsV RX11 92 RX11 yX11_placeOf wsX11_placeOf) := goodIn_app (goodIn_of _ (by decide +kernel)) ggX11_factorFor_X11_placeOf
theorem dX11_factorFor_0 : decode cX11_factorFor 0 = .ok (.lload_n 1, 1) := by decide +kernel
theorem dX11_factorFor_1 : decode cX11_factorFor 1 = .ok (.lconst 0, 1) := by decide +kernel
theorem dX11_factorFor_2 : decode cX11_factorFor 2 = .ok (.lcmp, 1) := by decide +kernel
theorem dX11_factorFor_3 : decode cX11_factorFor 3 = .ok (.ifCond .ge 8, 3) := by decide +kernel
theorem dX11_factorFor_6 : decode cX11_factorFor 6 = .ok (.lload_n 1, 1) := by decide +kernel
theorem dX11_factorFor_7 : decode cX11_factorFor 7 = .ok (.lneg, 1) := by decide +kernel
theorem dX11_factorFor_8 : decode cX11_factorFor 8 = .ok (.goto 4, 3) := by decide +kernel
theorem dX11_factorFor_11 : decode cX11_factorFor 11 = .ok (.lload_n 1, 1) := by decide +kernel
theorem dX11_factorFor_12 : decode cX11_factorFor 12 = .ok (.lstore_n 3, 1) := by decide +kernel
theorem dX11_factorFor_13 : decode cX11_factorFor 13 = .ok (.aload_n 0, 1) := by decide +kernel
