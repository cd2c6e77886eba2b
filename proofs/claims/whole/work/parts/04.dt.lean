set_option maxRecDepth 20000 in
theorem ggX10_init_X8_init : GoodIn wsX10_init wsX8_init := goodIn_r _ [27, 28, 2, 3, 29, 30, 31, 32, 33, 34, 35, 36, 37, 38, 39, 40, 41, 42, 43, 44, 45, 46, 47, 48, 49, 50, 51, 52, 53, 54, 55, 56, 57, 58, 59, 60, 61, 62, 63, 64, 65, 66, 67, 68, 69, 70, 71, 98, 99, 100, 101, 102, 103, 104, 105, 106, 107, 136, 137, 138, 139, 140, 141, 142, 143, 144, 145, 146, 147, 148, 149, 150, 151, 152, 153, 154, 155, 156, 157, 158, 159, 160, 161, 162, 163, 164, 165, 166] (by decide +kernel) (by decide +kernel)
set_option maxRecDepth 20000 in
theorem gX10_init_X8_init : GoodIn wsX10_init (wsX8_init) := ggX10_init_X8_init
set_option maxRecDepth 20000 in
theorem ggX10_init_X1_init : GoodIn wsX10_init wsX1_init := goodIn_r _ [74, 75, 2, 3, 76, 77, 5, 6, 78, 26, 27, 28, 29, 30, 31, 32, 33, 34, 35, 36, 37, 38, 39, 40, 41, 42, 43, 44, 45, 46, 47, 48, 49, 50, 51, 52, 53, 54, 55, 56, 57, 58, 59, 60, 61, 62, 63, 64, 65, 66, 67, 68, 69, 70, 71, 115, 116, 98, 99, 100, 101, 102, 103, 104, 105, 106, 107, 136, 137, 138, 139, 140, 141, 142, 143, 144, 145, 146, 147, 148, 149, 150, 151, 152, 153, 154, 155, 156, 157, 158, 159, 160, 161, 162, 163, 164, 165, 166] (by decide +kernel) (by decide +kernel)
set_option maxRecDepth 20000 in
theorem gX10_init_X1_init : GoodIn wsX10_init (wsX1_init) := ggX10_init_X1_init
set_option maxRecDepth 20000 in
theorem ggX10_init_X0_init : GoodIn wsX10_init wsX0_init := goodIn_r _ [80, 81, 2, 3, 82, 83, 84, 85, 86, 87, 88, 35, 89, 167, 168, 117, 118, 119, 120, 121, 122, 123, 124] (by decide +kernel) (by decide +kernel)
set_option maxRecDepth 20000 in
theorem gX10_init_X0_init_n33 : GoodIn wsX10_init (wsX0_init) := ggX10_init_X0_init
set_option maxRecDepth 20000 in
theorem ggX10_init_X2_init : GoodIn wsX10_init wsX2_init := goodIn_r _ [91, 92, 2, 3, 13, 93, 35, 94, 95, 96, 97, 125, 126, 127, 128, 129, 130, 131, 132, 133, 134, 135] (by decide +kernel) (by decide +kernel)
set_option maxRecDepth 20000 in
theorem gX10_init_X2_init_n45 : GoodIn wsX10_init (wsX2_init) := ggX10_init_X2_init
theorem dX10_init_0 : decode cX10_init 0 = .ok (.aload_n 0, 1) := by decide +kernel
theorem dX10_init_1 : decode cX10_init 1 = .ok (.invokespecial 1, 3) := by decide +kernel
theorem dX10_init_4 : decode cX10_init 4 = .ok (.aload_n 0, 1) := by decide +kernel
theorem dX10_init_5 : decode cX10_init 5 = .ok (.new 7, 3) := by decide +kernel
theorem dX10_init_8 : decode cX10_init 8 = .ok (.dup, 1) := by decide +kernel
theorem dX10_init_9 : decode cX10_init 9 = .ok (.invokespecial 9, 3) := by decide +kernel
theorem dX10_init_12 : decode cX10_init 12 = .ok (.putfield 10, 3) := by decide +kernel
theorem dX10_init_15 : decode cX10_init 15 = .ok (.aload_n 0, 1) := by decide +kernel
theorem dX10_init_16 : decode cX10_init 16 = .ok (.new 16, 3) := by decide +kernel
theorem dX10_init_19 : decode cX10_init 19 = .ok (.dup, 1) := by decide +kernel
theorem dX10_init_20 : decode cX10_init 20 = .ok (.invokespecial 18, 3) := by decide +kernel
theorem dX10_init_23 : decode cX10_init 23 = .ok (.putfield 19, 3) := by decide +kernel
theorem dX10_init_26 : decode cX10_init 26 = .ok (.aload_n 0, 1) := by decide +kernel
theorem dX10_init_27 : decode cX10_init 27 = .ok (.iconst 2, 1) := by decide +kernel
theorem dX10_init_28 : decode cX10_init 28 = .ok (.anewarray 7, 3) := by decide +kernel
theorem dX10_init_31 : decode cX10_init 31 = .ok (.dup, 1) := by decide +kernel
theorem dX10_init_32 : decode cX10_init 32 = .ok (.iconst 0, 1) := by decide +kernel
theorem dX10_init_33 : decode cX10_init 33 = .ok (.new 7, 3) := by decide +kernel
theorem dX10_init_36 : decode cX10_init 36 = .ok (.dup, 1) := by decide +kernel
theorem dX10_init_37 : decode cX10_init 37 = .ok (.invokespecial 9, 3) := by decide +kernel
theorem dX10_init_40 : decode cX10_init 40 = .ok (.aastore, 1) := by decide +kernel
theorem dX10_init_41 : decode cX10_init 41 = .ok (.dup, 1) := by decide +kernel
theorem dX10_init_42 : decode cX10_init 42 = .ok (.iconst 1, 1) := by decide +kernel
theorem dX10_init_43 : decode cX10_init 43 = .ok (.new 7, 3) := by decide +kernel
theorem dX10_init_46 : decode cX10_init 46 = .ok (.dup, 1) := by decide +kernel
theorem dX10_init_47 : decode cX10_init 47 = .ok (.invokespecial 9, 3) := by decide +kernel
theorem dX10_init_50 : decode cX10_init 50 = .ok (.aastore, 1) := by decide +kernel
theorem dX10_init_51 : decode cX10_init 51 = .ok (.putfield 23, 3) := by decide +kernel
theorem dX10_init_54 : decode cX10_init 54 = .ok (.aload_n 0, 1) := by decide +kernel
theorem dX10_init_55 : decode cX10_init 55 = .ok (.iconst 2, 1) := by decide +kernel
theorem dX10_init_56 : decode cX10_init 56 = .ok (.newarray .boolean, 2) := by decide +kernel
theorem dX10_init_58 : decode cX10_init 58 = .ok (.putfield 27, 3) := by decide +kernel
theorem dX10_init_61 : decode cX10_init 61 = .ok (.aload_n 0, 1) := by decide +kernel
theorem dX10_init_62 : decode cX10_init 62 = .ok (.new 31, 3) := by decide +kernel
theorem dX10_init_65 : decode cX10_init 65 = .ok (.dup, 1) := by decide +kernel
theorem dX10_init_66 : decode cX10_init 66 = .ok (.invokespecial 33, 3) := by decide +kernel
theorem dX10_init_69 : decode cX10_init 69 = .ok (.putfield 34, 3) := by decide +kernel
theorem dX10_init_72 : decode cX10_init 72 = .ok (.aload_n 0, 1) := by decide +kernel
theorem dX10_init_73 : decode cX10_init 73 = .ok (.aload_n 0, 1) := by decide +kernel
theorem dX10_init_74 : decode cX10_init 74 = .ok (.getfield 34, 3) := by decide +kernel
theorem dX10_init_77 : decode cX10_init 77 = .ok (.getfield 38, 3) := by decide +kernel
theorem dX10_init_80 : decode cX10_init 80 = .ok (.putfield 42, 3) := by decide +kernel
theorem dX10_init_83 : decode cX10_init 83 = .ok (.aload_n 0, 1) := by decide +kernel
theorem dX10_init_84 : decode cX10_init 84 = .ok (.new 43, 3) := by decide +kernel
theorem dX10_init_87 : decode cX10_init 87 = .ok (.dup, 1) := by decide +kernel
theorem dX10_init_88 : decode cX10_init 88 = .ok (.invokespecial 45, 3) := by decide +kernel
theorem dX10_init_91 : decode cX10_init 91 = .ok (.putfield 46, 3) := by decide +kernel
theorem dX10_init_94 : decode cX10_init 94 = .ok (.return_, 1) := by decide +kernel
set_option maxRecDepth 20000 in
theorem ggX10_addPath_X10_isWithin : GoodIn wsX10_addPath wsX10_isWithin := goodIn_r _ [10] (by decide +kernel) (by decide +kernel)
set_option maxRecDepth 20000 in
theorem gX10_addPath_X10_isWithin : GoodIn wsX10_addPath (va_wsS RX10 50 yX10_isWithin wsX10_isWithin) := goodIn_app (goodIn_of _ (by decide +kernel)) ggX10_addPath_X10_isWithin
set_option maxRecDepth 20000 in
theorem ggX10_addPath_X1_push : GoodIn wsX10_addPath wsX1_push := goodIn_r _ [15, 16, 17, 18, 19, 20, 14, 21, 22, 23, 24, 25, 26, 27, 28, 29, 30, 31, 32, 33, 34, 35, 36, 37, 38, 39, 40, 41, 42, 43, 44, 45, 46, 47, 48, 49, 50, 51, 52, 53, 54, 55, 56, 57, 58, 59, 60, 61, 62, 63, 64, 65, 66, 67, 68, 69, 70, 71, 72, 73, 74, 75, 76, 77, 78, 79, 80, 81, 82, 83, 84, 85, 86, 87, 88, 89, 90, 91, 92, 93, 94, 95, 96, 97, 98, 99, 100, 101, 120, 121, 110, 111, 112, 113, 114, 115, 116, 117, 118, 119, 122, 123, 124, 125, 126, 127, 128, 129, 130, 131, 132, 133, 134, 135, 136, 137, 138, 139, 140, 141, 142, 143, 144, 145, 146, 147, 148, 149, 150, 151, 152] (by decide +kernel) (by decide +kernel)
set_option maxRecDepth 20000 in
theorem gX10_addPath_X1_push : GoodIn wsX10_addPath (wsV RX10 60 RX1 yX1_push wsX1_push) := goodIn_app (goodIn_of _ (by decide +kernel)) ggX10_addPath_X1_push
set_option maxRecDepth 20000 in
theorem ggX10_addPath_X3_begin : GoodIn wsX10_addPath wsX3_begin := goodIn_r _ [65, 46, 47, 48, 49, 50, 122, 123, 124, 125, 126, 127, 128, 129, 130, 131, 132, 133, 134, 135, 136, 137] (by decide +kernel) (by decide +kernel)
set_option maxRecDepth 20000 in
theorem gX10_addPath_X3_begin : GoodIn wsX10_addPath (wsV RX10 68 RX3 yX3_begin wsX3_begin) := goodIn_app (goodIn_of _ (by decide +kernel)) ggX10_addPath_X3_begin
theorem dX10_addPath_0 : decode cX10_addPath 0 = .ok (.iload_n 1, 1) := by decide +kernel
theorem dX10_addPath_1 : decode cX10_addPath 1 = .ok (.bipush 50, 2) := by decide +kernel
theorem dX10_addPath_3 : decode cX10_addPath 3 = .ok (.sipush 2000, 3) := by decide +kernel
theorem dX10_addPath_6 : decode cX10_addPath 6 = .ok (.invokestatic 50, 3) := by decide +kernel
theorem dX10_addPath_9 : decode cX10_addPath 9 = .ok (.ifCond .eq 53, 3) := by decide +kernel
theorem dX10_addPath_12 : decode cX10_addPath 12 = .ok (.iload_n 2, 1) := by decide +kernel
theorem dX10_addPath_13 : decode cX10_addPath 13 = .ok (.bipush 10, 2) := by decide +kernel
theorem dX10_addPath_15 : decode cX10_addPath 15 = .ok (.iload_n 1, 1) := by decide +kernel
theorem dX10_addPath_16 : decode cX10_addPath 16 = .ok (.invokestatic 50, 3) := by decide +kernel
theorem dX10_addPath_19 : decode cX10_addPath 19 = .ok (.ifCond .eq 43, 3) := by decide +kernel
theorem dX10_addPath_22 : decode cX10_addPath 22 = .ok (.iload_n 3, 1) := by decide +kernel
theorem dX10_addPath_23 : decode cX10_addPath 23 = .ok (.iconst 1, 1) := by decide +kernel
theorem dX10_addPath_24 : decode cX10_addPath 24 = .ok (.sipush 1000, 3) := by decide +kernel
theorem dX10_addPath_27 : decode cX10_addPath 27 = .ok (.invokestatic 50, 3) := by decide +kernel
theorem dX10_addPath_30 : decode cX10_addPath 30 = .ok (.ifCond .eq 32, 3) := by decide +kernel
theorem dX10_addPath_33 : decode cX10_addPath 33 = .ok (.iload 4, 2) := by decide +kernel
theorem dX10_addPath_35 : decode cX10_addPath 35 = .ok (.bipush 100, 2) := by decide +kernel
theorem dX10_addPath_37 : decode cX10_addPath 37 = .ok (.sipush 10000, 3) := by decide +kernel
theorem dX10_addPath_40 : decode cX10_addPath 40 = .ok (.invokestatic 50, 3) := by decide +kernel
theorem dX10_addPath_43 : decode cX10_addPath 43 = .ok (.ifCond .eq 19, 3) := by decide +kernel
theorem dX10_addPath_46 : decode cX10_addPath 46 = .ok (.iload 5, 2) := by decide +kernel
theorem dX10_addPath_48 : decode cX10_addPath 48 = .ok (.iconst 0, 1) := by decide +kernel
theorem dX10_addPath_49 : decode cX10_addPath 49 = .ok (.sipush 5000, 3) := by decide +kernel
theorem dX10_addPath_52 : decode cX10_addPath 52 = .ok (.invokestatic 50, 3) := by decide +kernel
theorem dX10_addPath_55 : decode cX10_addPath 55 = .ok (.ifCond .eq 7, 3) := by decide +kernel
theorem dX10_addPath_58 : decode cX10_addPath 58 = .ok (.iconst 1, 1) := by decide +kernel
theorem dX10_addPath_59 : decode cX10_addPath 59 = .ok (.goto 4, 3) := by decide +kernel
theorem dX10_addPath_62 : decode cX10_addPath 62 = .ok (.iconst 0, 1) := by decide +kernel
theorem dX10_addPath_63 : decode cX10_addPath 63 = .ok (.istore 6, 2) := by decide +kernel
theorem dX10_addPath_65 : decode cX10_addPath 65 = .ok (.iload 6, 2) := by decide +kernel
theorem dX10_addPath_67 : decode cX10_addPath 67 = .ok (.ifCond .ne 6, 3) := by decide +kernel
theorem dX10_addPath_70 : decode cX10_addPath 70 = .ok (.ldc 54, 2) := by decide +kernel
theorem dX10_addPath_72 : decode cX10_addPath 72 = .ok (.ireturn, 1) := by decide +kernel
theorem dX10_addPath_73 : decode cX10_addPath 73 = .ok (.aload_n 0, 1) := by decide +kernel
theorem dX10_addPath_74 : decode cX10_addPath 74 = .ok (.getfield 10, 3) := by decide +kernel
theorem dX10_addPath_77 : decode cX10_addPath 77 = .ok (.getfield 55, 3) := by decide +kernel
theorem dX10_addPath_80 : decode cX10_addPath 80 = .ok (.istore 7, 2) := by decide +kernel
theorem dX10_addPath_82 : decode cX10_addPath 82 = .ok (.iload 7, 2) := by decide +kernel
theorem dX10_addPath_84 : decode cX10_addPath 84 = .ok (.ifCond .lt 9, 3) := by decide +kernel
theorem dX10_addPath_87 : decode cX10_addPath 87 = .ok (.iload 7, 2) := by decide +kernel
theorem dX10_addPath_89 : decode cX10_addPath 89 = .ok (.iconst 4, 1) := by decide +kernel
theorem dX10_addPath_90 : decode cX10_addPath 90 = .ok (.if_icmp .lt 6, 3) := by decide +kernel
theorem dX10_addPath_93 : decode cX10_addPath 93 = .ok (.ldc 59, 2) := by decide +kernel
theorem dX10_addPath_95 : decode cX10_addPath 95 = .ok (.ireturn, 1) := by decide +kernel
theorem dX10_addPath_96 : decode cX10_addPath 96 = .ok (.aload_n 0, 1) := by decide +kernel
theorem dX10_addPath_97 : decode cX10_addPath 97 = .ok (.getfield 19, 3) := by decide +kernel
theorem dX10_addPath_100 : decode cX10_addPath 100 = .ok (.aload_n 0, 1) := by decide +kernel
theorem dX10_addPath_101 : decode cX10_addPath 101 = .ok (.getfield 10, 3) := by decide +kernel
theorem dX10_addPath_104 : decode cX10_addPath 104 = .ok (.invokevirtual 60, 3) := by decide +kernel
theorem dX10_addPath_107 : decode cX10_addPath 107 = .ok (.aload_n 0, 1) := by decide +kernel
theorem dX10_addPath_108 : decode cX10_addPath 108 = .ok (.getfield 10, 3) := by decide +kernel
theorem dX10_addPath_111 : decode cX10_addPath 111 = .ok (.getfield 64, 3) := by decide +kernel
theorem dX10_addPath_114 : decode cX10_addPath 114 = .ok (.iload 7, 2) := by decide +kernel
theorem dX10_addPath_116 : decode cX10_addPath 116 = .ok (.aaload, 1) := by decide +kernel
theorem dX10_addPath_117 : decode cX10_addPath 117 = .ok (.iload_n 1, 1) := by decide +kernel
theorem dX10_addPath_118 : decode cX10_addPath 118 = .ok (.iload_n 2, 1) := by decide +kernel
theorem dX10_addPath_119 : decode cX10_addPath 119 = .ok (.iload_n 3, 1) := by decide +kernel
theorem dX10_addPath_120 : decode cX10_addPath 120 = .ok (.iload 4, 2) := by decide +kernel
theorem dX10_addPath_122 : decode cX10_addPath 122 = .ok (.iload 5, 2) := by decide +kernel
theorem dX10_addPath_124 : decode cX10_addPath 124 = .ok (.invokevirtual 68, 3) := by decide +kernel
theorem dX10_addPath_127 : decode cX10_addPath 127 = .ok (.aload_n 0, 1) := by decide +kernel
theorem dX10_addPath_128 : decode cX10_addPath 128 = .ok (.getfield 10, 3) := by decide +kernel
theorem dX10_addPath_131 : decode cX10_addPath 131 = .ok (.iload 7, 2) := by decide +kernel
theorem dX10_addPath_133 : decode cX10_addPath 133 = .ok (.iconst 1, 1) := by decide +kernel
theorem dX10_addPath_134 : decode cX10_addPath 134 = .ok (.iadd, 1) := by decide +kernel
theorem dX10_addPath_135 : decode cX10_addPath 135 = .ok (.putfield 55, 3) := by decide +kernel
theorem dX10_addPath_138 : decode cX10_addPath 138 = .ok (.iload 7, 2) := by decide +kernel
theorem dX10_addPath_140 : decode cX10_addPath 140 = .ok (.ireturn, 1) := by decide +kernel
set_option maxRecDepth 20000 in
theorem ggX10_setWeight_X8_pathAt : GoodIn wsX10_setWeight wsX8_pathAt := goodIn_r _ [10, 11, 12, 128, 129, 130, 131, 132, 133, 134, 135, 136, 137] (by decide +kernel) (by decide +kernel)
set_option maxRecDepth 20000 in
theorem gX10_setWeight_X8_pathAt : GoodIn wsX10_setWeight (wsV RX10 74 RX8 yX8_pathAt wsX8_pathAt) := goodIn_app (goodIn_of _ (by decide +kernel)) ggX10_setWeight_X8_pathAt
set_option maxRecDepth 20000 in
theorem ggX10_setWeight_X10_isWithin : GoodIn wsX10_setWeight wsX10_isWithin := goodIn_r _ [16] (by decide +kernel) (by decide +kernel)
set_option maxRecDepth 20000 in
theorem gX10_setWeight_X10_isWithin : GoodIn wsX10_setWeight (va_wsS RX10 50 yX10_isWithin wsX10_isWithin) := goodIn_app (goodIn_of _ (by decide +kernel)) ggX10_setWeight_X10_isWithin
set_option maxRecDepth 20000 in
theorem ggX10_setWeight_X1_push : GoodIn wsX10_setWeight wsX1_push := goodIn_r _ [21, 22, 23, 24, 25, 26, 20, 27, 28, 29, 30, 9, 31, 12, 11, 32, 33, 34, 35, 36, 37, 38, 39, 40, 41, 42, 43, 44, 45, 46, 47, 48, 49, 50, 51, 52, 53, 54, 55, 56, 57, 58, 59, 60, 61, 62, 63, 64, 65, 66, 67, 68, 69, 70, 71, 72, 73, 74, 75, 76, 77, 78, 79, 80, 81, 82, 83, 84, 85, 86, 87, 88, 89, 90, 91, 92, 93, 94, 95, 96, 97, 98, 99, 100, 101, 102, 103, 104, 138, 139, 128, 129, 130, 131, 132, 133, 134, 135, 136, 137, 112, 113, 114, 115, 116, 117, 118, 119, 120, 121, 122, 123, 124, 125, 126, 127, 140, 141, 142, 143, 144, 145, 146, 147, 148, 149, 150, 151, 152, 153, 154] (by decide +kernel) (by decide +kernel)
set_option maxRecDepth 20000 in
theorem gX10_setWeight_X1_push : GoodIn wsX10_setWeight (wsV RX10 60 RX1 yX1_push wsX1_push) := goodIn_app (goodIn_of _ (by decide +kernel)) ggX10_setWeight_X1_push
theorem dX10_setWeight_0 : decode cX10_setWeight 0 = .ok (.aload_n 0, 1) := by decide +kernel
theorem dX10_setWeight_1 : decode cX10_setWeight 1 = .ok (.getfield 10, 3) := by decide +kernel
theorem dX10_setWeight_4 : decode cX10_setWeight 4 = .ok (.iload_n 1, 1) := by decide +kernel
theorem dX10_setWeight_5 : decode cX10_setWeight 5 = .ok (.invokevirtual 74, 3) := by decide +kernel
theorem dX10_setWeight_8 : decode cX10_setWeight 8 = .ok (.astore_n 3, 1) := by decide +kernel
theorem dX10_setWeight_9 : decode cX10_setWeight 9 = .ok (.aload_n 3, 1) := by decide +kernel
theorem dX10_setWeight_10 : decode cX10_setWeight 10 = .ok (.ifnonnull 6, 3) := by decide +kernel
theorem dX10_setWeight_13 : decode cX10_setWeight 13 = .ok (.ldc 78, 2) := by decide +kernel
theorem dX10_setWeight_15 : decode cX10_setWeight 15 = .ok (.ireturn, 1) := by decide +kernel
theorem dX10_setWeight_16 : decode cX10_setWeight 16 = .ok (.iload_n 2, 1) := by decide +kernel
theorem dX10_setWeight_17 : decode cX10_setWeight 17 = .ok (.iconst 1, 1) := by decide +kernel
theorem dX10_setWeight_18 : decode cX10_setWeight 18 = .ok (.sipush 1000, 3) := by decide +kernel
theorem dX10_setWeight_21 : decode cX10_setWeight 21 = .ok (.invokestatic 50, 3) := by decide +kernel
theorem dX10_setWeight_24 : decode cX10_setWeight 24 = .ok (.ifCond .ne 6, 3) := by decide +kernel
theorem dX10_setWeight_27 : decode cX10_setWeight 27 = .ok (.ldc 54, 2) := by decide +kernel
theorem dX10_setWeight_29 : decode cX10_setWeight 29 = .ok (.ireturn, 1) := by decide +kernel
theorem dX10_setWeight_30 : decode cX10_setWeight 30 = .ok (.aload_n 0, 1) := by decide +kernel
theorem dX10_setWeight_31 : decode cX10_setWeight 31 = .ok (.getfield 19, 3) := by decide +kernel
theorem dX10_setWeight_34 : decode cX10_setWeight 34 = .ok (.aload_n 0, 1) := by decide +kernel
theorem dX10_setWeight_35 : decode cX10_setWeight 35 = .ok (.getfield 10, 3) := by decide +kernel
theorem dX10_setWeight_38 : decode cX10_setWeight 38 = .ok (.invokevirtual 60, 3) := by decide +kernel
theorem dX10_setWeight_41 : decode cX10_setWeight 41 = .ok (.aload_n 3, 1) := by decide +kernel
theorem dX10_setWeight_42 : decode cX10_setWeight 42 = .ok (.getfield 79, 3) := by decide +kernel
theorem dX10_setWeight_45 : decode cX10_setWeight 45 = .ok (.istore 4, 2) := by decide +kernel
theorem dX10_setWeight_47 : decode cX10_setWeight 47 = .ok (.aload_n 3, 1) := by decide +kernel
theorem dX10_setWeight_48 : decode cX10_setWeight 48 = .ok (.iload_n 2, 1) := by decide +kernel
theorem dX10_setWeight_49 : decode cX10_setWeight 49 = .ok (.putfield 79, 3) := by decide +kernel
theorem dX10_setWeight_52 : decode cX10_setWeight 52 = .ok (.iload 4, 2) := by decide +kernel
theorem dX10_setWeight_54 : decode cX10_setWeight 54 = .ok (.ireturn, 1) := by decide +kernel
set_option maxRecDepth 20000 in
theorem ggX10_setPoint_X10_isWithin : GoodIn wsX10_setPoint wsX10_isWithin := goodIn_r _ [11] (by decide +kernel) (by decide +kernel)
set_option maxRecDepth 20000 in
theorem gX10_setPoint_X10_isWithin : GoodIn wsX10_setPoint (va_wsS RX10 50 yX10_isWithin wsX10_isWithin) := goodIn_app (goodIn_of _ (by decide +kernel)) ggX10_setPoint_X10_isWithin
set_option maxRecDepth 20000 in
theorem ggX10_setPoint_X4_find : GoodIn wsX10_setPoint wsX4_find := goodIn_r _ [16, 17, 18, 129, 130, 131] (by decide +kernel) (by decide +kernel)
set_option maxRecDepth 20000 in
theorem gX10_setPoint_X4_find : GoodIn wsX10_setPoint (wsV RX10 87 RX4 yX4_find wsX4_find) := goodIn_app (goodIn_of _ (by decide +kernel)) ggX10_setPoint_X4_find
set_option maxRecDepth 20000 in
theorem ggX10_setPoint_X1_push : GoodIn wsX10_setPoint wsX1_push := goodIn_r _ [23, 24, 25, 26, 27, 28, 22, 29, 30, 31, 32, 33, 34, 35, 36, 37, 38, 39, 40, 41, 42, 43, 44, 45, 46, 47, 48, 49, 50, 51, 52, 53, 54, 55, 56, 57, 58, 59, 60, 61, 62, 63, 64, 65, 66, 67, 68, 69, 70, 71, 72, 73, 74, 75, 76, 77, 78, 79, 80, 81, 82, 83, 84, 85, 15, 86, 18, 87, 88, 17, 89, 90, 91, 92, 93, 94, 95, 96, 97, 98, 99, 100, 101, 102, 103, 104, 105, 106, 132, 133, 119, 120, 121, 122, 123, 124, 125, 126, 127, 128, 134, 135, 136, 137, 138, 139, 140, 141, 142, 143, 144, 145, 146, 147, 148, 149, 150, 151, 152, 153, 129, 130, 131, 154, 155, 156, 157, 158, 159, 160, 161] (by decide +kernel) (by decide +kernel)
set_option maxRecDepth 20000 in
theorem gX10_setPoint_X1_push : GoodIn wsX10_setPoint (wsV RX10 60 RX1 yX1_push wsX1_push) := goodIn_app (goodIn_of _ (by decide +kernel)) ggX10_setPoint_X1_push
set_option maxRecDepth 20000 in
theorem ggX10_setPoint_X4_put : GoodIn wsX10_setPoint wsX4_put := goodIn_r _ [110, 88, 17, 18, 111, 13, 14, 15, 16, 129, 130, 131] (by decide +kernel) (by decide +kernel)
set_option maxRecDepth 20000 in
theorem gX10_setPoint_X4_put : GoodIn wsX10_setPoint (wsV RX10 96 RX4 yX4_put wsX4_put) := goodIn_app (goodIn_of _ (by decide +kernel)) ggX10_setPoint_X4_put
theorem dX10_setPoint_0 : decode cX10_setPoint 0 = .ok (.iload_n 1, 1) := by decide +kernel
theorem dX10_setPoint_1 : decode cX10_setPoint 1 = .ok (.iconst 0, 1) := by decide +kernel
theorem dX10_setPoint_2 : decode cX10_setPoint 2 = .ok (.ldc 82, 2) := by decide +kernel
theorem dX10_setPoint_4 : decode cX10_setPoint 4 = .ok (.invokestatic 50, 3) := by decide +kernel
theorem dX10_setPoint_7 : decode cX10_setPoint 7 = .ok (.ifCond .eq 16, 3) := by decide +kernel
theorem dX10_setPoint_10 : decode cX10_setPoint 10 = .ok (.iload_n 2, 1) := by decide +kernel
theorem dX10_setPoint_11 : decode cX10_setPoint 11 = .ok (.sipush 500, 3) := by decide +kernel
theorem dX10_setPoint_14 : decode cX10_setPoint 14 = .ok (.sipush 1500, 3) := by decide +kernel
theorem dX10_setPoint_17 : decode cX10_setPoint 17 = .ok (.invokestatic 50, 3) := by decide +kernel
theorem dX10_setPoint_20 : decode cX10_setPoint 20 = .ok (.ifCond .ne 6, 3) := by decide +kernel
theorem dX10_setPoint_23 : decode cX10_setPoint 23 = .ok (.ldc 54, 2) := by decide +kernel
theorem dX10_setPoint_25 : decode cX10_setPoint 25 = .ok (.ireturn, 1) := by decide +kernel
theorem dX10_setPoint_26 : decode cX10_setPoint 26 = .ok (.aload_n 0, 1) := by decide +kernel
theorem dX10_setPoint_27 : decode cX10_setPoint 27 = .ok (.getfield 10, 3) := by decide +kernel
theorem dX10_setPoint_30 : decode cX10_setPoint 30 = .ok (.getfield 83, 3) := by decide +kernel
theorem dX10_setPoint_33 : decode cX10_setPoint 33 = .ok (.astore_n 3, 1) := by decide +kernel
theorem dX10_setPoint_34 : decode cX10_setPoint 34 = .ok (.aload_n 3, 1) := by decide +kernel
theorem dX10_setPoint_35 : decode cX10_setPoint 35 = .ok (.iload_n 1, 1) := by decide +kernel
theorem dX10_setPoint_36 : decode cX10_setPoint 36 = .ok (.invokevirtual 87, 3) := by decide +kernel
theorem dX10_setPoint_39 : decode cX10_setPoint 39 = .ok (.ifCond .ge 15, 3) := by decide +kernel
theorem dX10_setPoint_42 : decode cX10_setPoint 42 = .ok (.aload_n 3, 1) := by decide +kernel
theorem dX10_setPoint_43 : decode cX10_setPoint 43 = .ok (.getfield 93, 3) := by decide +kernel
theorem dX10_setPoint_46 : decode cX10_setPoint 46 = .ok (.bipush 6, 2) := by decide +kernel
theorem dX10_setPoint_48 : decode cX10_setPoint 48 = .ok (.if_icmp .lt 6, 3) := by decide +kernel
theorem dX10_setPoint_51 : decode cX10_setPoint 51 = .ok (.ldc 59, 2) := by decide +kernel
theorem dX10_setPoint_53 : decode cX10_setPoint 53 = .ok (.ireturn, 1) := by decide +kernel
theorem dX10_setPoint_54 : decode cX10_setPoint 54 = .ok (.aload_n 0, 1) := by decide +kernel
theorem dX10_setPoint_55 : decode cX10_setPoint 55 = .ok (.getfield 19, 3) := by decide +kernel
theorem dX10_setPoint_58 : decode cX10_setPoint 58 = .ok (.aload_n 0, 1) := by decide +kernel
theorem dX10_setPoint_59 : decode cX10_setPoint 59 = .ok (.getfield 10, 3) := by decide +kernel
theorem dX10_setPoint_62 : decode cX10_setPoint 62 = .ok (.invokevirtual 60, 3) := by decide +kernel
theorem dX10_setPoint_65 : decode cX10_setPoint 65 = .ok (.aload_n 3, 1) := by decide +kernel
theorem dX10_setPoint_66 : decode cX10_setPoint 66 = .ok (.iload_n 1, 1) := by decide +kernel
theorem dX10_setPoint_67 : decode cX10_setPoint 67 = .ok (.iload_n 2, 1) := by decide +kernel
theorem dX10_setPoint_68 : decode cX10_setPoint 68 = .ok (.invokevirtual 96, 3) := by decide +kernel
theorem dX10_setPoint_71 : decode cX10_setPoint 71 = .ok (.aload_n 3, 1) := by decide +kernel
theorem dX10_setPoint_72 : decode cX10_setPoint 72 = .ok (.getfield 93, 3) := by decide +kernel
theorem dX10_setPoint_75 : decode cX10_setPoint 75 = .ok (.ireturn, 1) := by decide +kernel
set_option maxRecDepth 20000 in
theorem ggX10_removePoint_X10_isWithin : GoodIn wsX10_removePoint wsX10_isWithin := goodIn_r _ [10] (by decide +kernel) (by decide +kernel)
set_option maxRecDepth 20000 in
theorem gX10_removePoint_X10_isWithin : GoodIn wsX10_removePoint (va_wsS RX10 50 yX10_isWithin wsX10_isWithin) := goodIn_app (goodIn_of _ (by decide +kernel)) ggX10_removePoint_X10_isWithin
set_option maxRecDepth 20000 in
theorem ggX10_removePoint_X4_find : GoodIn wsX10_removePoint wsX4_find := goodIn_r _ [15, 16, 17, 128, 129, 130] (by decide +kernel) (by decide +kernel)
set_option maxRecDepth 20000 in
theorem gX10_removePoint_X4_find : GoodIn wsX10_removePoint (wsV RX10 87 RX4 yX4_find wsX4_find) := goodIn_app (goodIn_of _ (by decide +kernel)) ggX10_removePoint_X4_find
set_option maxRecDepth 20000 in
theorem ggX10_removePoint_X1_push : GoodIn wsX10_removePoint wsX1_push := goodIn_r _ [22, 23, 24, 25, 26, 27, 21, 28, 29, 30, 31, 32, 33, 34, 35, 36, 37, 38, 39, 40, 41, 42, 43, 44, 45, 46, 47, 48, 49, 50, 51, 52, 53, 54, 55, 56, 57, 58, 59, 60, 61, 62, 63, 64, 65, 66, 67, 68, 69, 70, 71, 72, 73, 74, 75, 76, 77, 78, 79, 80, 81, 82, 83, 84, 14, 85, 17, 86, 87, 16, 88, 89, 90, 91, 92, 93, 94, 95, 96, 97, 98, 99, 100, 101, 102, 103, 104, 105, 131, 132, 118, 119, 120, 121, 122, 123, 124, 125, 126, 127, 133, 134, 135, 136, 137, 138, 139, 140, 141, 142, 143, 144, 145, 146, 147, 148, 149, 150, 151, 152, 128, 129, 130, 153, 154, 155, 156, 157, 158, 159, 160] (by decide +kernel) (by decide +kernel)
set_option maxRecDepth 20000 in
theorem gX10_removePoint_X1_push : GoodIn wsX10_removePoint (wsV RX10 60 RX1 yX1_push wsX1_push) := goodIn_app (goodIn_of _ (by decide +kernel)) ggX10_removePoint_X1_push
set_option maxRecDepth 20000 in
theorem ggX10_removePoint_X4_take : GoodIn wsX10_removePoint wsX4_take := goodIn_r _ [109, 16, 110, 87, 17, 128, 129, 130] (by decide +kernel) (by decide +kernel)
set_option maxRecDepth 20000 in
theorem gX10_removePoint_X4_take : GoodIn wsX10_removePoint (wsV RX10 101 RX4 yX4_take wsX4_take) := goodIn_app (goodIn_of _ (by decide +kernel)) ggX10_removePoint_X4_take
theorem dX10_removePoint_0 : decode cX10_removePoint 0 = .ok (.iload_n 1, 1) := by decide +kernel
theorem dX10_removePoint_1 : decode cX10_removePoint 1 = .ok (.iconst 0, 1) := by decide +kernel
theorem dX10_removePoint_2 : decode cX10_removePoint 2 = .ok (.ldc 82, 2) := by decide +kernel
theorem dX10_removePoint_4 : decode cX10_removePoint 4 = .ok (.invokestatic 50, 3) := by decide +kernel
theorem dX10_removePoint_7 : decode cX10_removePoint 7 = .ok (.ifCond .ne 6, 3) := by decide +kernel
theorem dX10_removePoint_10 : decode cX10_removePoint 10 = .ok (.ldc 54, 2) := by decide +kernel
theorem dX10_removePoint_12 : decode cX10_removePoint 12 = .ok (.ireturn, 1) := by decide +kernel
theorem dX10_removePoint_13 : decode cX10_removePoint 13 = .ok (.aload_n 0, 1) := by decide +kernel
theorem dX10_removePoint_14 : decode cX10_removePoint 14 = .ok (.getfield 10, 3) := by decide +kernel
theorem dX10_removePoint_17 : decode cX10_removePoint 17 = .ok (.getfield 83, 3) := by decide +kernel
theorem dX10_removePoint_20 : decode cX10_removePoint 20 = .ok (.iload_n 1, 1) := by decide +kernel
theorem dX10_removePoint_21 : decode cX10_removePoint 21 = .ok (.invokevirtual 87, 3) := by decide +kernel
theorem dX10_removePoint_24 : decode cX10_removePoint 24 = .ok (.istore_n 2, 1) := by decide +kernel
theorem dX10_removePoint_25 : decode cX10_removePoint 25 = .ok (.iload_n 2, 1) := by decide +kernel
theorem dX10_removePoint_26 : decode cX10_removePoint 26 = .ok (.ifCond .ge 6, 3) := by decide +kernel
theorem dX10_removePoint_29 : decode cX10_removePoint 29 = .ok (.ldc 100, 2) := by decide +kernel
theorem dX10_removePoint_31 : decode cX10_removePoint 31 = .ok (.ireturn, 1) := by decide +kernel
theorem dX10_removePoint_32 : decode cX10_removePoint 32 = .ok (.aload_n 0, 1) := by decide +kernel
theorem dX10_removePoint_33 : decode cX10_removePoint 33 = .ok (.getfield 19, 3) := by decide +kernel
theorem dX10_removePoint_36 : decode cX10_removePoint 36 = .ok (.aload_n 0, 1) := by decide +kernel
theorem dX10_removePoint_37 : decode cX10_removePoint 37 = .ok (.getfield 10, 3) := by decide +kernel
theorem dX10_removePoint_40 : decode cX10_removePoint 40 = .ok (.invokevirtual 60, 3) := by decide +kernel
theorem dX10_removePoint_43 : decode cX10_removePoint 43 = .ok (.aload_n 0, 1) := by decide +kernel
theorem dX10_removePoint_44 : decode cX10_removePoint 44 = .ok (.getfield 10, 3) := by decide +kernel
theorem dX10_removePoint_47 : decode cX10_removePoint 47 = .ok (.getfield 83, 3) := by decide +kernel
theorem dX10_removePoint_50 : decode cX10_removePoint 50 = .ok (.iload_n 2, 1) := by decide +kernel
theorem dX10_removePoint_51 : decode cX10_removePoint 51 = .ok (.invokevirtual 101, 3) := by decide +kernel
theorem dX10_removePoint_54 : decode cX10_removePoint 54 = .ok (.ireturn, 1) := by decide +kernel
set_option maxRecDepth 20000 in
theorem ggX10_set_X10_isWithin : GoodIn wsX10_set wsX10_isWithin := goodIn_r _ [11] (by decide +kernel) (by decide +kernel)
set_option maxRecDepth 20000 in
theorem gX10_set_X10_isWithin : GoodIn wsX10_set (va_wsS RX10 50 yX10_isWithin wsX10_isWithin) := goodIn_app (goodIn_of _ (by decide +kernel)) ggX10_set_X10_isWithin
set_option maxRecDepth 20000 in
theorem ggX10_set_X1_push : GoodIn wsX10_set wsX1_push := goodIn_r _ [16, 17, 18, 19, 20, 21, 15, 22, 23, 24, 25, 26, 27, 28, 29, 30, 31, 32, 33, 34, 35, 36, 37, 38, 39, 40, 41, 42, 43, 44, 45, 46, 47, 48, 49, 50, 51, 52, 53, 54, 55, 56, 57, 58, 59, 60, 61, 62, 63, 64, 65, 66, 67, 68, 69, 70, 71, 72, 73, 74, 75, 76, 77, 78, 79, 80, 81, 82, 83, 84, 85, 86, 87, 88, 89, 90, 91, 92, 93, 94, 95, 96, 97, 98, 99, 100, 101, 102, 120, 121, 110, 111, 112, 113, 114, 115, 116, 117, 118, 119, 122, 123, 124, 125, 126, 127, 128, 129, 130, 131, 132, 133, 134, 135, 136, 137, 138, 139, 140, 141, 142, 143, 144, 145, 146, 147, 148, 149, 150, 151, 152] (by decide +kernel) (by decide +kernel)
set_option maxRecDepth 20000 in
theorem gX10_set_X1_push : GoodIn wsX10_set (wsV RX10 60 RX1 yX1_push wsX1_push) := goodIn_app (goodIn_of _ (by decide +kernel)) ggX10_set_X1_push
theorem dX10_set_0 : decode cX10_set 0 = .ok (.iload_n 1, 1) := by decide +kernel
theorem dX10_set_1 : decode cX10_set 1 = .ok (.ifCond .lt 8, 3) := by decide +kernel
theorem dX10_set_4 : decode cX10_set 4 = .ok (.iload_n 1, 1) := by decide +kernel
theorem dX10_set_5 : decode cX10_set 5 = .ok (.iconst 5, 1) := by decide +kernel
theorem dX10_set_6 : decode cX10_set 6 = .ok (.if_icmp .lt 6, 3) := by decide +kernel
theorem dX10_set_9 : decode cX10_set 9 = .ok (.ldc 78, 2) := by decide +kernel
theorem dX10_set_11 : decode cX10_set 11 = .ok (.ireturn, 1) := by decide +kernel
theorem dX10_set_12 : decode cX10_set 12 = .ok (.iload_n 2, 1) := by decide +kernel
theorem dX10_set_13 : decode cX10_set 13 = .ok (.getstatic 104, 3) := by decide +kernel
theorem dX10_set_16 : decode cX10_set 16 = .ok (.iload_n 1, 1) := by decide +kernel
theorem dX10_set_17 : decode cX10_set 17 = .ok (.iaload, 1) := by decide +kernel
theorem dX10_set_18 : decode cX10_set 18 = .ok (.getstatic 108, 3) := by decide +kernel
theorem dX10_set_21 : decode cX10_set 21 = .ok (.iload_n 1, 1) := by decide +kernel
theorem dX10_set_22 : decode cX10_set 22 = .ok (.iaload, 1) := by decide +kernel
theorem dX10_set_23 : decode cX10_set 23 = .ok (.invokestatic 50, 3) := by decide +kernel
theorem dX10_set_26 : decode cX10_set 26 = .ok (.ifCond .ne 6, 3) := by decide +kernel
theorem dX10_set_29 : decode cX10_set 29 = .ok (.ldc 54, 2) := by decide +kernel
theorem dX10_set_31 : decode cX10_set 31 = .ok (.ireturn, 1) := by decide +kernel
theorem dX10_set_32 : decode cX10_set 32 = .ok (.aload_n 0, 1) := by decide +kernel
theorem dX10_set_33 : decode cX10_set 33 = .ok (.getfield 19, 3) := by decide +kernel
theorem dX10_set_36 : decode cX10_set 36 = .ok (.aload_n 0, 1) := by decide +kernel
theorem dX10_set_37 : decode cX10_set 37 = .ok (.getfield 10, 3) := by decide +kernel
theorem dX10_set_40 : decode cX10_set 40 = .ok (.invokevirtual 60, 3) := by decide +kernel
theorem dX10_set_43 : decode cX10_set 43 = .ok (.aload_n 0, 1) := by decide +kernel
theorem dX10_set_44 : decode cX10_set 44 = .ok (.getfield 10, 3) := by decide +kernel
theorem dX10_set_47 : decode cX10_set 47 = .ok (.getfield 111, 3) := by decide +kernel
theorem dX10_set_50 : decode cX10_set 50 = .ok (.iload_n 1, 1) := by decide +kernel
theorem dX10_set_51 : decode cX10_set 51 = .ok (.iaload, 1) := by decide +kernel
theorem dX10_set_52 : decode cX10_set 52 = .ok (.istore_n 3, 1) := by decide +kernel
theorem dX10_set_53 : decode cX10_set 53 = .ok (.aload_n 0, 1) := by decide +kernel
theorem dX10_set_54 : decode cX10_set 54 = .ok (.getfield 10, 3) := by decide +kernel
theorem dX10_set_57 : decode cX10_set 57 = .ok (.getfield 111, 3) := by decide +kernel
theorem dX10_set_60 : decode cX10_set 60 = .ok (.iload_n 1, 1) := by decide +kernel
theorem dX10_set_61 : decode cX10_set 61 = .ok (.iload_n 2, 1) := by decide +kernel
theorem dX10_set_62 : decode cX10_set 62 = .ok (.iastore, 1) := by decide +kernel
theorem dX10_set_63 : decode cX10_set 63 = .ok (.iload_n 3, 1) := by decide +kernel
theorem dX10_set_64 : decode cX10_set 64 = .ok (.ireturn, 1) := by decide +kernel
set_option maxRecDepth 20000 in
theorem ggX10_shot_X10_shotFault : GoodIn wsX10_shot wsX10_shotFault := goodIn_r _ [7, 2, 8, 9, 10, 11, 12, 13, 14, 15, 16, 17, 18, 19, 20, 21, 22, 23, 6, 24, 25, 26, 27, 28, 29, 30, 137, 138, 139, 140, 141, 142, 143, 144, 145, 146, 147, 148, 149, 150, 151, 152, 153, 154, 155, 156, 157, 158, 159, 160, 161, 162, 163, 164, 165, 166, 167, 168, 169] (by decide +kernel) (by decide +kernel)
set_option maxRecDepth 20000 in
theorem gX10_shot_X10_shotFault : GoodIn wsX10_shot (wsV RX10 114 RX10 yX10_shotFault wsX10_shotFault) := goodIn_app (goodIn_of _ (by decide +kernel)) ggX10_shot_X10_shotFault
set_option maxRecDepth 20000 in
theorem ggX10_shot_X1_push : GoodIn wsX10_shot wsX1_push := goodIn_r _ [35, 36, 37, 38, 39, 40, 34, 41, 42, 43, 44, 13, 45, 16, 15, 46, 47, 48, 49, 50, 51, 52, 53, 54, 55, 56, 57, 58, 59, 60, 20, 61, 62, 63, 64, 65, 29, 66, 67, 68, 69, 70, 71, 72, 73, 74, 75, 76, 77, 78, 79, 80, 81, 82, 83, 84, 85, 86, 87, 88, 89, 90, 91, 92, 93, 94, 95, 96, 97, 98, 99, 100, 101, 102, 103, 104, 105, 106, 107, 108, 109, 110, 111, 112, 113, 114, 115, 116, 170, 171, 144, 145, 146, 147, 148, 149, 150, 151, 152, 153, 154, 155, 156, 157, 158, 159, 160, 161, 162, 163, 164, 165, 166, 167, 168, 169, 172, 173, 174, 175, 176, 177, 178, 179, 180, 181, 182, 183, 184, 185, 186] (by decide +kernel) (by decide +kernel)
set_option maxRecDepth 20000 in
theorem gX10_shot_X1_push : GoodIn wsX10_shot (wsV RX10 60 RX1 yX1_push wsX1_push) := goodIn_app (goodIn_of _ (by decide +kernel)) ggX10_shot_X1_push
set_option maxRecDepth 20000 in
theorem ggX10_shot_X10_takeShot : GoodIn wsX10_shot wsX10_takeShot := goodIn_r _ [120, 2, 3, 4, 5, 6, 7, 8, 9, 10, 11, 12, 13, 14, 15, 16, 17, 18, 19, 20, 21, 22, 23, 24, 25, 26, 27, 28, 29, 30, 121, 122, 123, 124, 125, 126, 52, 127, 128, 129, 130, 131, 132, 133, 134, 135, 136, 137, 138, 139, 140, 141, 142, 143, 144, 145, 146, 147, 148, 149, 150, 151, 152, 153, 154, 155, 156, 157, 158, 159, 160, 161, 162, 163, 164, 165, 166, 167, 168, 169, 172, 173, 174, 175] (by decide +kernel) (by decide +kernel)
set_option maxRecDepth 20000 in
theorem gX10_shot_X10_takeShot : GoodIn wsX10_shot (wsV RX10 118 RX10 yX10_takeShot wsX10_takeShot) := goodIn_app (goodIn_of _ (by decide +kernel)) ggX10_shot_X10_takeShot
theorem dX10_shot_0 : decode cX10_shot 0 = .ok (.aload_n 0, 1) := by decide +kernel
theorem dX10_shot_1 : decode cX10_shot 1 = .ok (.iload_n 1, 1) := by decide +kernel
theorem dX10_shot_2 : decode cX10_shot 2 = .ok (.iload_n 2, 1) := by decide +kernel
theorem dX10_shot_3 : decode cX10_shot 3 = .ok (.iload_n 3, 1) := by decide +kernel
theorem dX10_shot_4 : decode cX10_shot 4 = .ok (.iload 4, 2) := by decide +kernel
theorem dX10_shot_6 : decode cX10_shot 6 = .ok (.invokevirtual 114, 3) := by decide +kernel
theorem dX10_shot_9 : decode cX10_shot 9 = .ok (.istore 5, 2) := by decide +kernel
theorem dX10_shot_11 : decode cX10_shot 11 = .ok (.iload 5, 2) := by decide +kernel
theorem dX10_shot_13 : decode cX10_shot 13 = .ok (.ifCond .eq 6, 3) := by decide +kernel
theorem dX10_shot_16 : decode cX10_shot 16 = .ok (.iload 5, 2) := by decide +kernel
theorem dX10_shot_18 : decode cX10_shot 18 = .ok (.ireturn, 1) := by decide +kernel
theorem dX10_shot_19 : decode cX10_shot 19 = .ok (.aload_n 0, 1) := by decide +kernel
theorem dX10_shot_20 : decode cX10_shot 20 = .ok (.getfield 19, 3) := by decide +kernel
theorem dX10_shot_23 : decode cX10_shot 23 = .ok (.aload_n 0, 1) := by decide +kernel
theorem dX10_shot_24 : decode cX10_shot 24 = .ok (.getfield 10, 3) := by decide +kernel
theorem dX10_shot_27 : decode cX10_shot 27 = .ok (.invokevirtual 60, 3) := by decide +kernel
theorem dX10_shot_30 : decode cX10_shot 30 = .ok (.aload_n 0, 1) := by decide +kernel
theorem dX10_shot_31 : decode cX10_shot 31 = .ok (.iload_n 1, 1) := by decide +kernel
theorem dX10_shot_32 : decode cX10_shot 32 = .ok (.iload_n 2, 1) := by decide +kernel
theorem dX10_shot_33 : decode cX10_shot 33 = .ok (.iload_n 3, 1) := by decide +kernel
theorem dX10_shot_34 : decode cX10_shot 34 = .ok (.iload 4, 2) := by decide +kernel
theorem dX10_shot_36 : decode cX10_shot 36 = .ok (.invokevirtual 118, 3) := by decide +kernel
theorem dX10_shot_39 : decode cX10_shot 39 = .ok (.ireturn, 1) := by decide +kernel
set_option maxRecDepth 20000 in
theorem ggX10_close_X1_push : GoodIn wsX10_close wsX1_push := goodIn_r _ [9, 10, 11, 12, 13, 14, 8, 15, 16, 17, 18, 19, 20, 21, 22, 23, 24, 25, 26, 27, 28, 29, 30, 31, 32, 33, 34, 35, 36, 37, 38, 39, 40, 41, 42, 43, 44, 45, 46, 47, 48, 49, 50, 51, 52, 53, 54, 55, 56, 57, 58, 59, 60, 61, 62, 63, 64, 65, 66, 67, 68, 69, 70, 71, 72, 73, 74, 75, 76, 77, 78, 79, 80, 81, 82, 83, 84, 85, 86, 87, 88, 89, 90, 91, 92, 93, 94, 95, 261, 262, 251, 252, 253, 254, 255, 256, 257, 258, 259, 260, 263, 264, 265, 266, 267, 268, 269, 270, 271, 272, 273, 274, 275, 276, 277, 278, 279, 280, 281, 282, 283, 284, 285, 286, 287, 288, 289, 290, 291, 292, 293] (by decide +kernel) (by decide +kernel)
set_option maxRecDepth 20000 in
theorem gX10_close_X1_push : GoodIn wsX10_close (wsV RX10 60 RX1 yX1_push wsX1_push) := goodIn_app (goodIn_of _ (by decide +kernel)) ggX10_close_X1_push
set_option maxRecDepth 20000 in
theorem ggX10_close_X10_closeRound : GoodIn wsX10_close wsX10_closeRound := goodIn_r _ [100, 1, 2, 3, 101, 102, 103, 104, 105, 106, 107, 108, 109, 110, 111, 112, 113, 114, 115, 116, 117, 118, 119, 120, 121, 122, 123, 124, 125, 126, 127, 128, 99, 129, 130, 131, 132, 133, 134, 135, 136, 137, 138, 139, 140, 141, 142, 143, 144, 145, 146, 147, 148, 149, 150, 151, 152, 153, 154, 155, 156, 157, 158, 159, 160, 161, 162, 163, 164, 38, 165, 44, 166, 167, 168, 169, 40, 170, 41, 171, 172, 173, 174, 175, 176, 177, 178, 179, 180, 181, 182, 183, 184, 185, 186, 187, 188, 189, 190, 191, 192, 193, 194, 195, 196, 197, 198, 199, 200, 72, 201, 202, 77, 74, 76, 203, 204, 205, 206, 207, 208, 209, 210, 211, 212, 213, 214, 215, 216, 217, 218, 219, 220, 221, 222, 223, 224, 81, 225, 83, 84, 226, 227, 228, 229, 230, 231, 232, 233, 234, 235, 236, 237, 238, 239, 240, 241, 19, 242, 24, 243, 33, 34, 244, 245, 246, 247, 248, 249, 250, 251, 252, 253, 254, 255, 256, 257, 258, 259, 260, 294, 295, 296, 297, 298, 299, 300, 301, 302, 303, 304, 263, 264, 265, 266, 267, 268, 269, 270, 271, 272, 273, 274, 275, 276, 277, 278, 279, 280, 281, 282, 283, 284, 285, 286, 287, 288, 289, 290, 291, 292, 293] (by decide +kernel) (by decide +kernel)
set_option maxRecDepth 20000 in
theorem gX10_close_X10_closeRound : GoodIn wsX10_close (wsV RX10 121 RX10 yX10_closeRound wsX10_closeRound) := goodIn_app (goodIn_of _ (by decide +kernel)) ggX10_close_X10_closeRound
theorem dX10_close_0 : decode cX10_close 0 = .ok (.aload_n 0, 1) := by decide +kernel
theorem dX10_close_1 : decode cX10_close 1 = .ok (.getfield 10, 3) := by decide +kernel
theorem dX10_close_4 : decode cX10_close 4 = .ok (.getfield 55, 3) := by decide +kernel
theorem dX10_close_7 : decode cX10_close 7 = .ok (.ifCond .ne 6, 3) := by decide +kernel
theorem dX10_close_10 : decode cX10_close 10 = .ok (.ldc 100, 2) := by decide +kernel
theorem dX10_close_12 : decode cX10_close 12 = .ok (.ireturn, 1) := by decide +kernel
theorem dX10_close_13 : decode cX10_close 13 = .ok (.aload_n 0, 1) := by decide +kernel
theorem dX10_close_14 : decode cX10_close 14 = .ok (.getfield 19, 3) := by decide +kernel
theorem dX10_close_17 : decode cX10_close 17 = .ok (.aload_n 0, 1) := by decide +kernel
theorem dX10_close_18 : decode cX10_close 18 = .ok (.getfield 10, 3) := by decide +kernel
theorem dX10_close_21 : decode cX10_close 21 = .ok (.invokevirtual 60, 3) := by decide +kernel
theorem dX10_close_24 : decode cX10_close 24 = .ok (.aload_n 0, 1) := by decide +kernel
theorem dX10_close_25 : decode cX10_close 25 = .ok (.invokevirtual 121, 3) := by decide +kernel
theorem dX10_close_28 : decode cX10_close 28 = .ok (.ireturn, 1) := by decide +kernel
set_option maxRecDepth 20000 in
theorem ggX10_swap_X1_push : GoodIn wsX10_swap wsX1_push := goodIn_r _ [7, 8, 9, 10, 11, 12, 6, 13, 14, 15, 16, 17, 18, 19, 20, 21, 22, 23, 24, 25, 26, 27, 28, 29, 30, 31, 32, 33, 34, 35, 36, 37, 38, 39, 40, 41, 42, 43, 44, 45, 46, 47, 48, 49, 50, 51, 52, 53, 54, 55, 56, 57, 58, 59, 60, 61, 62, 63, 64, 65, 66, 67, 68, 69, 70, 71, 72, 73, 74, 75, 76, 77, 78, 79, 80, 81, 82, 83, 84, 85, 86, 87, 88, 89, 90, 91, 92, 93, 122, 123, 124, 125, 126, 127, 128, 129, 130, 131, 132, 133, 134, 135, 136, 137, 138, 139, 140, 141, 142, 143, 144, 145, 146, 147, 148, 149, 150, 151, 152, 153, 154, 155, 156, 157, 158, 159, 160, 161, 162, 163, 164] (by decide +kernel) (by decide +kernel)
set_option maxRecDepth 20000 in
theorem gX10_swap_X1_push : GoodIn wsX10_swap (wsV RX10 60 RX1 yX1_push wsX1_push) := goodIn_app (goodIn_of _ (by decide +kernel)) ggX10_swap_X1_push
set_option maxRecDepth 20000 in
theorem ggX10_swap_X10_swapTransducers : GoodIn wsX10_swap wsX10_swapTransducers := goodIn_r _ [98, 2, 99, 100, 101, 102, 17, 103, 19, 104, 105, 106, 36, 107, 44, 45, 53, 108, 109, 110, 61, 111, 64, 65, 112, 113, 97, 114, 115, 116, 117, 118, 119, 120, 121, 124, 125, 126, 127, 128, 129, 130, 131, 132, 133, 134, 135, 136, 137, 138, 139, 140, 141, 142, 143, 144, 145, 146, 147, 148, 149, 150, 151, 152, 153] (by decide +kernel) (by decide +kernel)
set_option maxRecDepth 20000 in
theorem gX10_swap_X10_swapTransducers : GoodIn wsX10_swap (wsV RX10 125 RX10 yX10_swapTransducers wsX10_swapTransducers) := goodIn_app (goodIn_of _ (by decide +kernel)) ggX10_swap_X10_swapTransducers
theorem dX10_swap_0 : decode cX10_swap 0 = .ok (.aload_n 0, 1) := by decide +kernel
theorem dX10_swap_1 : decode cX10_swap 1 = .ok (.getfield 19, 3) := by decide +kernel
theorem dX10_swap_4 : decode cX10_swap 4 = .ok (.aload_n 0, 1) := by decide +kernel
theorem dX10_swap_5 : decode cX10_swap 5 = .ok (.getfield 10, 3) := by decide +kernel
theorem dX10_swap_8 : decode cX10_swap 8 = .ok (.invokevirtual 60, 3) := by decide +kernel
theorem dX10_swap_11 : decode cX10_swap 11 = .ok (.aload_n 0, 1) := by decide +kernel
theorem dX10_swap_12 : decode cX10_swap 12 = .ok (.invokevirtual 125, 3) := by decide +kernel
theorem dX10_swap_15 : decode cX10_swap 15 = .ok (.ireturn, 1) := by decide +kernel
set_option maxRecDepth 20000 in
theorem ggX10_forget_X8_pathAt : GoodIn wsX10_forget wsX8_pathAt := goodIn_r _ [10, 11, 12, 128, 129, 130, 131, 132, 133, 134, 135, 136, 137] (by decide +kernel) (by decide +kernel)
set_option maxRecDepth 20000 in
theorem gX10_forget_X8_pathAt : GoodIn wsX10_forget (wsV RX10 74 RX8 yX8_pathAt wsX8_pathAt) := goodIn_app (goodIn_of _ (by decide +kernel)) ggX10_forget_X8_pathAt
set_option maxRecDepth 20000 in
theorem ggX10_forget_X1_push : GoodIn wsX10_forget wsX1_push := goodIn_r _ [17, 18, 19, 20, 21, 22, 16, 23, 24, 25, 26, 9, 27, 12, 11, 28, 29, 30, 31, 32, 33, 34, 35, 36, 37, 38, 39, 40, 41, 42, 43, 44, 45, 46, 47, 48, 49, 50, 51, 52, 53, 54, 55, 56, 57, 58, 59, 60, 61, 62, 63, 64, 65, 66, 67, 68, 69, 70, 71, 72, 73, 74, 75, 76, 77, 78, 79, 80, 81, 82, 83, 84, 85, 86, 87, 88, 89, 90, 91, 92, 93, 94, 95, 96, 97, 98, 99, 100, 138, 139, 128, 129, 130, 131, 132, 133, 134, 135, 136, 137, 112, 113, 114, 115, 116, 117, 118, 119, 120, 121, 122, 123, 124, 125, 126, 127, 140, 141, 142, 143, 144, 145, 146, 147, 148, 149, 150, 151, 152, 153, 154] (by decide +kernel) (by decide +kernel)
set_option maxRecDepth 20000 in
theorem gX10_forget_X1_push : GoodIn wsX10_forget (wsV RX10 60 RX1 yX1_push wsX1_push) := goodIn_app (goodIn_of _ (by decide +kernel)) ggX10_forget_X1_push
set_option maxRecDepth 20000 in
theorem ggX10_forget_X10_asNumber : GoodIn wsX10_forget wsX10_asNumber := goodIn_r _ [104] (by decide +kernel) (by decide +kernel)
set_option maxRecDepth 20000 in
theorem gX10_forget_X10_asNumber : GoodIn wsX10_forget (va_wsS RX10 132 yX10_asNumber wsX10_asNumber) := goodIn_app (goodIn_of _ (by decide +kernel)) ggX10_forget_X10_asNumber
theorem dX10_forget_0 : decode cX10_forget 0 = .ok (.aload_n 0, 1) := by decide +kernel
theorem dX10_forget_1 : decode cX10_forget 1 = .ok (.getfield 10, 3) := by decide +kernel
theorem dX10_forget_4 : decode cX10_forget 4 = .ok (.iload_n 1, 1) := by decide +kernel
theorem dX10_forget_5 : decode cX10_forget 5 = .ok (.invokevirtual 74, 3) := by decide +kernel
theorem dX10_forget_8 : decode cX10_forget 8 = .ok (.astore_n 2, 1) := by decide +kernel
theorem dX10_forget_9 : decode cX10_forget 9 = .ok (.aload_n 2, 1) := by decide +kernel
theorem dX10_forget_10 : decode cX10_forget 10 = .ok (.ifnonnull 6, 3) := by decide +kernel
theorem dX10_forget_13 : decode cX10_forget 13 = .ok (.ldc 78, 2) := by decide +kernel
theorem dX10_forget_15 : decode cX10_forget 15 = .ok (.ireturn, 1) := by decide +kernel
theorem dX10_forget_16 : decode cX10_forget 16 = .ok (.aload_n 0, 1) := by decide +kernel
theorem dX10_forget_17 : decode cX10_forget 17 = .ok (.getfield 19, 3) := by decide +kernel
theorem dX10_forget_20 : decode cX10_forget 20 = .ok (.aload_n 0, 1) := by decide +kernel
theorem dX10_forget_21 : decode cX10_forget 21 = .ok (.getfield 10, 3) := by decide +kernel
theorem dX10_forget_24 : decode cX10_forget 24 = .ok (.invokevirtual 60, 3) := by decide +kernel
theorem dX10_forget_27 : decode cX10_forget 27 = .ok (.aload_n 2, 1) := by decide +kernel
theorem dX10_forget_28 : decode cX10_forget 28 = .ok (.getfield 128, 3) := by decide +kernel
theorem dX10_forget_31 : decode cX10_forget 31 = .ok (.invokestatic 132, 3) := by decide +kernel
theorem dX10_forget_34 : decode cX10_forget 34 = .ok (.istore_n 3, 1) := by decide +kernel
theorem dX10_forget_35 : decode cX10_forget 35 = .ok (.aload_n 2, 1) := by decide +kernel
theorem dX10_forget_36 : decode cX10_forget 36 = .ok (.iconst 0, 1) := by decide +kernel
theorem dX10_forget_37 : decode cX10_forget 37 = .ok (.putfield 128, 3) := by decide +kernel
theorem dX10_forget_40 : decode cX10_forget 40 = .ok (.aload_n 2, 1) := by decide +kernel
theorem dX10_forget_41 : decode cX10_forget 41 = .ok (.iconst 0, 1) := by decide +kernel
theorem dX10_forget_42 : decode cX10_forget 42 = .ok (.putfield 136, 3) := by decide +kernel
theorem dX10_forget_45 : decode cX10_forget 45 = .ok (.iload_n 3, 1) := by decide +kernel
theorem dX10_forget_46 : decode cX10_forget 46 = .ok (.ireturn, 1) := by decide +kernel
set_option maxRecDepth 20000 in
theorem ggX10_append_X10_isWithin : GoodIn wsX10_append wsX10_isWithin := goodIn_r _ [8] (by decide +kernel) (by decide +kernel)
set_option maxRecDepth 20000 in
theorem gX10_append_X10_isWithin : GoodIn wsX10_append (va_wsS RX10 50 yX10_isWithin wsX10_isWithin) := goodIn_app (goodIn_of _ (by decide +kernel)) ggX10_append_X10_isWithin
set_option maxRecDepth 20000 in
theorem ggX10_append_X9_put : GoodIn wsX10_append wsX9_put := goodIn_r _ [13, 14, 15, 23, 24] (by decide +kernel) (by decide +kernel)
set_option maxRecDepth 20000 in
theorem gX10_append_X9_put : GoodIn wsX10_append (wsV RX10 144 RX9 yX9_put wsX9_put) := goodIn_app (goodIn_of _ (by decide +kernel)) ggX10_append_X9_put
theorem dX10_append_0 : decode cX10_append 0 = .ok (.iload_n 1, 1) := by decide +kernel
theorem dX10_append_1 : decode cX10_append 1 = .ok (.bipush 32, 2) := by decide +kernel
theorem dX10_append_3 : decode cX10_append 3 = .ok (.bipush 126, 2) := by decide +kernel
theorem dX10_append_5 : decode cX10_append 5 = .ok (.invokestatic 50, 3) := by decide +kernel
theorem dX10_append_8 : decode cX10_append 8 = .ok (.ifCond .ne 6, 3) := by decide +kernel
theorem dX10_append_11 : decode cX10_append 11 = .ok (.ldc 54, 2) := by decide +kernel
theorem dX10_append_13 : decode cX10_append 13 = .ok (.ireturn, 1) := by decide +kernel
theorem dX10_append_14 : decode cX10_append 14 = .ok (.aload_n 0, 1) := by decide +kernel
theorem dX10_append_15 : decode cX10_append 15 = .ok (.getfield 42, 3) := by decide +kernel
theorem dX10_append_18 : decode cX10_append 18 = .ok (.getfield 139, 3) := by decide +kernel
theorem dX10_append_21 : decode cX10_append 21 = .ok (.bipush 100, 2) := by decide +kernel
theorem dX10_append_23 : decode cX10_append 23 = .ok (.if_icmp .lt 6, 3) := by decide +kernel
theorem dX10_append_26 : decode cX10_append 26 = .ok (.ldc 59, 2) := by decide +kernel
theorem dX10_append_28 : decode cX10_append 28 = .ok (.ireturn, 1) := by decide +kernel
theorem dX10_append_29 : decode cX10_append 29 = .ok (.aload_n 0, 1) := by decide +kernel
theorem dX10_append_30 : decode cX10_append 30 = .ok (.getfield 42, 3) := by decide +kernel
theorem dX10_append_33 : decode cX10_append 33 = .ok (.iload_n 1, 1) := by decide +kernel
theorem dX10_append_34 : decode cX10_append 34 = .ok (.invokevirtual 144, 3) := by decide +kernel
theorem dX10_append_37 : decode cX10_append 37 = .ok (.aload_n 0, 1) := by decide +kernel
theorem dX10_append_38 : decode cX10_append 38 = .ok (.getfield 42, 3) := by decide +kernel
theorem dX10_append_41 : decode cX10_append 41 = .ok (.getfield 139, 3) := by decide +kernel
theorem dX10_append_44 : decode cX10_append 44 = .ok (.ireturn, 1) := by decide +kernel
theorem dX10_clearText_0 : decode cX10_clearText 0 = .ok (.aload_n 0, 1) := by decide +kernel
theorem dX10_clearText_1 : decode cX10_clearText 1 = .ok (.getfield 42, 3) := by decide +kernel
theorem dX10_clearText_4 : decode cX10_clearText 4 = .ok (.getfield 139, 3) := by decide +kernel
theorem dX10_clearText_7 : decode cX10_clearText 7 = .ok (.istore_n 1, 1) := by decide +kernel
theorem dX10_clearText_8 : decode cX10_clearText 8 = .ok (.aload_n 0, 1) := by decide +kernel
theorem dX10_clearText_9 : decode cX10_clearText 9 = .ok (.getfield 42, 3) := by decide +kernel
theorem dX10_clearText_12 : decode cX10_clearText 12 = .ok (.iconst 0, 1) := by decide +kernel
theorem dX10_clearText_13 : decode cX10_clearText 13 = .ok (.putfield 139, 3) := by decide +kernel
theorem dX10_clearText_16 : decode cX10_clearText 16 = .ok (.iload_n 1, 1) := by decide +kernel
theorem dX10_clearText_17 : decode cX10_clearText 17 = .ok (.ireturn, 1) := by decide +kernel
set_option maxRecDepth 20000 in
theorem ggX10_faultPosition_X0_begin : GoodIn wsX10_faultPosition wsX0_begin := goodIn_r _ [9, 10, 11, 53, 54, 55, 56, 57, 58, 59, 60] (by decide +kernel) (by decide +kernel)
set_option maxRecDepth 20000 in
theorem gX10_faultPosition_X0_begin : GoodIn wsX10_faultPosition (wsV RX10 147 RX0 yX0_begin wsX0_begin) := goodIn_app (goodIn_of _ (by decide +kernel)) ggX10_faultPosition_X0_begin
set_option maxRecDepth 20000 in
theorem ggX10_faultPosition_X0_hasMore : GoodIn wsX10_faultPosition wsX0_hasMore := goodIn_r _ [15, 11, 10, 16, 17, 53, 54, 55, 56, 57, 58, 59, 60, 61, 62] (by decide +kernel) (by decide +kernel)
set_option maxRecDepth 20000 in
theorem gX10_faultPosition_X0_hasMore : GoodIn wsX10_faultPosition (wsV RX10 149 RX0 yX0_hasMore wsX0_hasMore) := goodIn_app (goodIn_of _ (by decide +kernel)) ggX10_faultPosition_X0_hasMore
set_option maxRecDepth 20000 in
theorem ggX10_faultPosition_X0_readAct : GoodIn wsX10_faultPosition wsX0_readAct := goodIn_r _ [21, 16, 10, 22, 11, 23, 24, 25, 26, 27, 28, 29, 30, 31, 32, 33, 34, 35, 36, 37, 8, 38, 39, 40, 41, 42, 43, 44, 45, 53, 54, 55, 56, 57, 58, 59, 60, 61, 62] (by decide +kernel) (by decide +kernel)
set_option maxRecDepth 20000 in
theorem gX10_faultPosition_X0_readAct : GoodIn wsX10_faultPosition (wsV RX10 153 RX0 yX0_readAct wsX0_readAct) := goodIn_app (goodIn_of _ (by decide +kernel)) ggX10_faultPosition_X0_readAct
theorem dX10_faultPosition_0 : decode cX10_faultPosition 0 = .ok (.aload_n 0, 1) := by decide +kernel
theorem dX10_faultPosition_1 : decode cX10_faultPosition 1 = .ok (.getfield 34, 3) := by decide +kernel
theorem dX10_faultPosition_4 : decode cX10_faultPosition 4 = .ok (.invokevirtual 147, 3) := by decide +kernel
theorem dX10_faultPosition_7 : decode cX10_faultPosition 7 = .ok (.iconst 0, 1) := by decide +kernel
theorem dX10_faultPosition_8 : decode cX10_faultPosition 8 = .ok (.istore_n 1, 1) := by decide +kernel
theorem dX10_faultPosition_9 : decode cX10_faultPosition 9 = .ok (.iload_n 1, 1) := by decide +kernel
theorem dX10_faultPosition_10 : decode cX10_faultPosition 10 = .ok (.bipush 100, 2) := by decide +kernel
theorem dX10_faultPosition_12 : decode cX10_faultPosition 12 = .ok (.if_icmp .ge 26, 3) := by decide +kernel
theorem dX10_faultPosition_15 : decode cX10_faultPosition 15 = .ok (.aload_n 0, 1) := by decide +kernel
theorem dX10_faultPosition_16 : decode cX10_faultPosition 16 = .ok (.getfield 34, 3) := by decide +kernel
theorem dX10_faultPosition_19 : decode cX10_faultPosition 19 = .ok (.invokevirtual 149, 3) := by decide +kernel
theorem dX10_faultPosition_22 : decode cX10_faultPosition 22 = .ok (.ifCond .eq 16, 3) := by decide +kernel
theorem dX10_faultPosition_25 : decode cX10_faultPosition 25 = .ok (.aload_n 0, 1) := by decide +kernel
theorem dX10_faultPosition_26 : decode cX10_faultPosition 26 = .ok (.getfield 34, 3) := by decide +kernel
theorem dX10_faultPosition_29 : decode cX10_faultPosition 29 = .ok (.invokevirtual 153, 3) := by decide +kernel
theorem dX10_faultPosition_32 : decode cX10_faultPosition 32 = .ok (.iinc 1 1, 3) := by decide +kernel
theorem dX10_faultPosition_35 : decode cX10_faultPosition 35 = .ok (.goto (-26), 3) := by decide +kernel
theorem dX10_faultPosition_38 : decode cX10_faultPosition 38 = .ok (.aload_n 0, 1) := by decide +kernel
theorem dX10_faultPosition_39 : decode cX10_faultPosition 39 = .ok (.getfield 34, 3) := by decide +kernel
theorem dX10_faultPosition_42 : decode cX10_faultPosition 42 = .ok (.getfield 156, 3) := by decide +kernel
theorem dX10_faultPosition_45 : decode cX10_faultPosition 45 = .ok (.ifCond .eq 13, 3) := by decide +kernel
theorem dX10_faultPosition_48 : decode cX10_faultPosition 48 = .ok (.aload_n 0, 1) := by decide +kernel
theorem dX10_faultPosition_49 : decode cX10_faultPosition 49 = .ok (.getfield 34, 3) := by decide +kernel
theorem dX10_faultPosition_52 : decode cX10_faultPosition 52 = .ok (.getfield 159, 3) := by decide +kernel
theorem dX10_faultPosition_55 : decode cX10_faultPosition 55 = .ok (.goto 5, 3) := by decide +kernel
theorem dX10_faultPosition_58 : decode cX10_faultPosition 58 = .ok (.ldc 162, 2) := by decide +kernel
theorem dX10_faultPosition_60 : decode cX10_faultPosition 60 = .ok (.ireturn, 1) := by decide +kernel
set_option maxRecDepth 20000 in
theorem ggX10_run_X10_faultPosition : GoodIn wsX10_run wsX10_faultPosition := goodIn_r _ [10, 5, 11, 12, 1, 13, 14, 15, 16, 17, 18, 19, 20, 21, 22, 23, 24, 25, 26, 27, 28, 29, 30, 31, 32, 33, 34, 35, 36, 37, 38, 39, 40, 41, 42, 43, 44, 45, 46, 47, 9, 48, 49, 50, 51, 52, 358, 359, 360, 361, 362, 363, 364, 365, 366, 367, 368, 369, 370, 371, 372, 373, 374] (by decide +kernel) (by decide +kernel)
set_option maxRecDepth 20000 in
theorem gX10_run_X10_faultPosition : GoodIn wsX10_run (wsV RX10 163 RX10 yX10_faultPosition wsX10_faultPosition) := goodIn_app (goodIn_of _ (by decide +kernel)) ggX10_run_X10_faultPosition
set_option maxRecDepth 20000 in
theorem ggX10_run_X1_push : GoodIn wsX10_run wsX1_push := goodIn_r _ [57, 58, 59, 60, 61, 62, 56, 63, 64, 65, 66, 67, 68, 69, 70, 71, 72, 73, 74, 75, 76, 77, 78, 79, 80, 81, 82, 83, 84, 85, 86, 87, 88, 89, 90, 91, 92, 93, 94, 95, 96, 97, 98, 99, 100, 101, 102, 103, 104, 105, 106, 107, 108, 109, 110, 111, 112, 113, 114, 115, 116, 117, 118, 119, 120, 121, 122, 123, 124, 125, 126, 127, 128, 129, 130, 131, 132, 133, 134, 135, 136, 137, 138, 139, 140, 141, 142, 143, 375, 376, 377, 378, 379, 380, 381, 382, 383, 384, 385, 386, 387, 388, 389, 390, 391, 392, 393, 394, 395, 396, 397, 398, 399, 400, 401, 402, 403, 404, 405, 406, 407, 408, 409, 410, 411, 412, 413, 414, 415, 416, 417] (by decide +kernel) (by decide +kernel)
set_option maxRecDepth 20000 in
theorem gX10_run_X1_push : GoodIn wsX10_run (wsV RX10 60 RX1 yX1_push wsX1_push) := goodIn_app (goodIn_of _ (by decide +kernel)) ggX10_run_X1_push
set_option maxRecDepth 20000 in
theorem ggX10_run_X0_begin : GoodIn wsX10_run wsX0_begin := goodIn_r _ [17, 18, 19, 365, 366, 367, 368, 369, 370, 371, 372] (by decide +kernel) (by decide +kernel)
set_option maxRecDepth 20000 in
theorem gX10_run_X0_begin : GoodIn wsX10_run (wsV RX10 147 RX0 yX0_begin wsX0_begin) := goodIn_app (goodIn_of _ (by decide +kernel)) ggX10_run_X0_begin
set_option maxRecDepth 20000 in
theorem ggX10_run_X0_hasMore : GoodIn wsX10_run wsX0_hasMore := goodIn_r _ [23, 19, 18, 24, 25, 365, 366, 367, 368, 369, 370, 371, 372, 373, 374] (by decide +kernel) (by decide +kernel)
set_option maxRecDepth 20000 in
theorem gX10_run_X0_hasMore : GoodIn wsX10_run (wsV RX10 149 RX0 yX0_hasMore wsX0_hasMore) := goodIn_app (goodIn_of _ (by decide +kernel)) ggX10_run_X0_hasMore
set_option maxRecDepth 20000 in
theorem ggX10_run_X0_readAct : GoodIn wsX10_run wsX0_readAct := goodIn_r _ [29, 24, 18, 30, 19, 31, 32, 33, 34, 35, 36, 37, 38, 39, 40, 41, 42, 43, 44, 45, 16, 46, 47, 9, 48, 49, 50, 51, 52, 365, 366, 367, 368, 369, 370, 371, 372, 373, 374] (by decide +kernel) (by decide +kernel)
set_option maxRecDepth 20000 in
theorem gX10_run_X0_readAct : GoodIn wsX10_run (wsV RX10 153 RX0 yX0_readAct wsX0_readAct) := goodIn_app (goodIn_of _ (by decide +kernel)) ggX10_run_X0_readAct
set_option maxRecDepth 20000 in
theorem ggX10_run_X10_carryOutAct : GoodIn wsX10_run wsX10_carryOutAct := goodIn_r _ [147, 5, 148, 149, 150, 151, 152, 153, 154, 155, 9, 156, 4, 157, 158, 159, 160, 161, 162, 163, 164, 165, 67, 166, 70, 69, 167, 168, 169, 86, 170, 171, 47, 48, 172, 173, 174, 175, 92, 176, 177, 178, 179, 180, 181, 182, 77, 183, 184, 185, 186, 187, 188, 189, 190, 191, 192, 193, 194, 195, 196, 197, 2, 198, 199, 200, 201, 202, 203, 204, 205, 206, 207, 208, 209, 210, 211, 212, 213, 214, 215, 216, 217, 218, 219, 220, 221, 222, 223, 224, 225, 226, 227, 228, 229, 230, 231, 232, 233, 234, 235, 236, 237, 238, 239, 240, 241, 242, 243, 244, 245, 246, 247, 248, 249, 250, 251, 252, 253, 254, 255, 256, 257, 258, 259, 260, 261, 262, 263, 88, 264, 89, 265, 266, 267, 268, 269, 270, 271, 272, 273, 274, 275, 276, 277, 278, 279, 280, 281, 282, 283, 284, 285, 286, 287, 288, 289, 290, 291, 292, 293, 294, 120, 295, 296, 125, 122, 124, 297, 298, 299, 300, 301, 302, 303, 304, 305, 306, 307, 308, 309, 310, 311, 312, 313, 314, 315, 316, 129, 317, 131, 132, 318, 319, 320, 321, 322, 323, 324, 325, 326, 327, 328, 329, 330, 331, 332, 333, 334, 72, 335, 81, 82, 336, 337, 338, 339, 340, 341, 342, 343, 344, 345, 346, 347, 348, 94, 95, 103, 349, 350, 351, 111, 352, 114, 115, 353, 358, 359, 360, 361, 362, 363, 364, 365, 366, 367, 368, 369, 370, 371, 372, 377, 378, 379, 380, 381, 382, 383, 384, 385, 386, 387, 388, 389, 390, 391, 392, 393, 394, 395, 396, 397, 398, 399, 400, 401, 402, 403, 404, 405, 406, 418, 419, 420, 421, 422, 423, 424, 425, 426, 427, 428, 407, 408, 409, 410, 411, 412, 413, 414, 415, 416, 417] (by decide +kernel) (by decide +kernel)
set_option maxRecDepth 20000 in
theorem gX10_run_X10_carryOutAct : GoodIn wsX10_run (wsV RX10 166 RX10 yX10_carryOutAct wsX10_carryOutAct) := goodIn_app (goodIn_of _ (by decide +kernel)) ggX10_run_X10_carryOutAct
set_option maxRecDepth 20000 in
theorem ggX10_run_X10_isError : GoodIn wsX10_run wsX10_isError := goodIn_r _ [356, 161, 162, 2, 357] (by decide +kernel) (by decide +kernel)
set_option maxRecDepth 20000 in
theorem gX10_run_X10_isError : GoodIn wsX10_run (va_wsS RX10 169 yX10_isError wsX10_isError) := goodIn_app (goodIn_of _ (by decide +kernel)) ggX10_run_X10_isError
theorem dX10_run_0 : decode cX10_run 0 = .ok (.aload_n 0, 1) := by decide +kernel
theorem dX10_run_1 : decode cX10_run 1 = .ok (.invokevirtual 163, 3) := by decide +kernel
theorem dX10_run_4 : decode cX10_run 4 = .ok (.ldc 162, 2) := by decide +kernel
theorem dX10_run_6 : decode cX10_run 6 = .ok (.if_icmp .eq 6, 3) := by decide +kernel
theorem dX10_run_9 : decode cX10_run 9 = .ok (.ldc 100, 2) := by decide +kernel
theorem dX10_run_11 : decode cX10_run 11 = .ok (.ireturn, 1) := by decide +kernel
theorem dX10_run_12 : decode cX10_run 12 = .ok (.aload_n 0, 1) := by decide +kernel
theorem dX10_run_13 : decode cX10_run 13 = .ok (.getfield 19, 3) := by decide +kernel
theorem dX10_run_16 : decode cX10_run 16 = .ok (.aload_n 0, 1) := by decide +kernel
theorem dX10_run_17 : decode cX10_run 17 = .ok (.getfield 10, 3) := by decide +kernel
theorem dX10_run_20 : decode cX10_run 20 = .ok (.invokevirtual 60, 3) := by decide +kernel
theorem dX10_run_23 : decode cX10_run 23 = .ok (.aload_n 0, 1) := by decide +kernel
theorem dX10_run_24 : decode cX10_run 24 = .ok (.getfield 34, 3) := by decide +kernel
theorem dX10_run_27 : decode cX10_run 27 = .ok (.invokevirtual 147, 3) := by decide +kernel
theorem dX10_run_30 : decode cX10_run 30 = .ok (.iconst 0, 1) := by decide +kernel
theorem dX10_run_31 : decode cX10_run 31 = .ok (.istore_n 1, 1) := by decide +kernel
theorem dX10_run_32 : decode cX10_run 32 = .ok (.iconst 0, 1) := by decide +kernel
theorem dX10_run_33 : decode cX10_run 33 = .ok (.istore_n 2, 1) := by decide +kernel
theorem dX10_run_34 : decode cX10_run 34 = .ok (.iload_n 2, 1) := by decide +kernel
theorem dX10_run_35 : decode cX10_run 35 = .ok (.bipush 100, 2) := by decide +kernel
theorem dX10_run_37 : decode cX10_run 37 = .ok (.if_icmp .ge 41, 3) := by decide +kernel
theorem dX10_run_40 : decode cX10_run 40 = .ok (.aload_n 0, 1) := by decide +kernel
theorem dX10_run_41 : decode cX10_run 41 = .ok (.getfield 34, 3) := by decide +kernel
theorem dX10_run_44 : decode cX10_run 44 = .ok (.invokevirtual 149, 3) := by decide +kernel
theorem dX10_run_47 : decode cX10_run 47 = .ok (.ifCond .eq 31, 3) := by decide +kernel
theorem dX10_run_50 : decode cX10_run 50 = .ok (.aload_n 0, 1) := by decide +kernel
theorem dX10_run_51 : decode cX10_run 51 = .ok (.getfield 34, 3) := by decide +kernel
theorem dX10_run_54 : decode cX10_run 54 = .ok (.invokevirtual 153, 3) := by decide +kernel
theorem dX10_run_57 : decode cX10_run 57 = .ok (.aload_n 0, 1) := by decide +kernel
theorem dX10_run_58 : decode cX10_run 58 = .ok (.invokevirtual 166, 3) := by decide +kernel
theorem dX10_run_61 : decode cX10_run 61 = .ok (.invokestatic 169, 3) := by decide +kernel
theorem dX10_run_64 : decode cX10_run 64 = .ok (.ifCond .eq 5, 3) := by decide +kernel
theorem dX10_run_67 : decode cX10_run 67 = .ok (.iload_n 1, 1) := by decide +kernel
theorem dX10_run_68 : decode cX10_run 68 = .ok (.ireturn, 1) := by decide +kernel
theorem dX10_run_69 : decode cX10_run 69 = .ok (.iinc 1 1, 3) := by decide +kernel
theorem dX10_run_72 : decode cX10_run 72 = .ok (.iinc 2 1, 3) := by decide +kernel
theorem dX10_run_75 : decode cX10_run 75 = .ok (.goto (-41), 3) := by decide +kernel
theorem dX10_run_78 : decode cX10_run 78 = .ok (.iload_n 1, 1) := by decide +kernel
theorem dX10_run_79 : decode cX10_run 79 = .ok (.ireturn, 1) := by decide +kernel
set_option maxRecDepth 20000 in
theorem ggX10_undo_X1_pop : GoodIn wsX10_undo wsX1_pop := goodIn_r _ [9, 10, 11, 12, 13, 14, 15, 16, 17, 18, 19, 20, 21, 22, 23, 24, 25, 26, 27, 28, 29, 30, 31, 32, 33, 34, 35, 36, 37, 38, 39, 40, 41, 42, 43, 44, 45, 46, 47, 48, 49, 50, 51, 52, 53, 54, 55, 56, 57, 58, 59, 60, 61, 62, 63, 64, 65, 66, 67, 68, 69, 70, 71, 72, 73, 74, 75, 76, 77, 78, 79, 80, 81, 82, 83, 84, 85, 86, 87, 88, 89, 90, 91, 99, 100, 101, 102, 103, 104, 105, 106, 107, 108, 109, 110, 111, 112, 113, 114, 115, 116, 117, 118, 119, 120, 121, 122, 123, 124, 125, 126, 127, 128, 129, 130, 131, 132, 133, 134, 135, 136, 137, 138, 139, 140, 141] (by decide +kernel) (by decide +kernel)
set_option maxRecDepth 20000 in
theorem gX10_undo_X1_pop : GoodIn wsX10_undo (wsV RX10 174 RX1 yX1_pop wsX1_pop) := goodIn_app (goodIn_of _ (by decide +kernel)) ggX10_undo_X1_pop
theorem dX10_undo_0 : decode cX10_undo 0 = .ok (.aload_n 0, 1) := by decide +kernel
theorem dX10_undo_1 : decode cX10_undo 1 = .ok (.getfield 19, 3) := by decide +kernel
theorem dX10_undo_4 : decode cX10_undo 4 = .ok (.getfield 173, 3) := by decide +kernel
theorem dX10_undo_7 : decode cX10_undo 7 = .ok (.ifCond .ne 6, 3) := by decide +kernel
theorem dX10_undo_10 : decode cX10_undo 10 = .ok (.ldc 100, 2) := by decide +kernel
theorem dX10_undo_12 : decode cX10_undo 12 = .ok (.ireturn, 1) := by decide +kernel
theorem dX10_undo_13 : decode cX10_undo 13 = .ok (.aload_n 0, 1) := by decide +kernel
theorem dX10_undo_14 : decode cX10_undo 14 = .ok (.getfield 19, 3) := by decide +kernel
theorem dX10_undo_17 : decode cX10_undo 17 = .ok (.aload_n 0, 1) := by decide +kernel
theorem dX10_undo_18 : decode cX10_undo 18 = .ok (.getfield 10, 3) := by decide +kernel
theorem dX10_undo_21 : decode cX10_undo 21 = .ok (.invokevirtual 174, 3) := by decide +kernel
theorem dX10_undo_24 : decode cX10_undo 24 = .ok (.aload_n 0, 1) := by decide +kernel
theorem dX10_undo_25 : decode cX10_undo 25 = .ok (.getfield 19, 3) := by decide +kernel
theorem dX10_undo_28 : decode cX10_undo 28 = .ok (.getfield 173, 3) := by decide +kernel
theorem dX10_undo_31 : decode cX10_undo 31 = .ok (.ireturn, 1) := by decide +kernel
set_option maxRecDepth 20000 in
theorem ggX10_save_X8_copyFrom : GoodIn wsX10_save wsX8_copyFrom := goodIn_r _ [10, 11, 12, 13, 14, 15, 16, 17, 18, 19, 20, 21, 22, 23, 24, 25, 26, 27, 28, 29, 30, 31, 32, 33, 34, 35, 36, 37, 38, 39, 40, 41, 42, 43, 44, 45, 46, 47, 48, 49, 50, 51, 52, 53, 54, 55, 56, 57, 58, 59, 60, 61, 62, 63, 64, 65, 66, 67, 68, 69, 70, 71, 72, 73, 74, 75, 76, 77, 78, 79, 80, 81, 82, 83, 84, 85, 93, 94, 95, 96, 97, 98, 99, 100, 101, 102, 103, 104, 105, 106, 107, 108, 109, 110, 111, 112, 113, 114, 115, 116, 117, 118, 119, 120, 121, 122, 123, 124, 125, 126, 127, 128, 129, 130, 131, 132, 133] (by decide +kernel) (by decide +kernel)
set_option maxRecDepth 20000 in
theorem gX10_save_X8_copyFrom : GoodIn wsX10_save (wsV RX10 177 RX8 yX8_copyFrom wsX8_copyFrom) := goodIn_app (goodIn_of _ (by decide +kernel)) ggX10_save_X8_copyFrom
theorem dX10_save_0 : decode cX10_save 0 = .ok (.iload_n 1, 1) := by decide +kernel
theorem dX10_save_1 : decode cX10_save 1 = .ok (.ifCond .lt 8, 3) := by decide +kernel
theorem dX10_save_4 : decode cX10_save 4 = .ok (.iload_n 1, 1) := by decide +kernel
theorem dX10_save_5 : decode cX10_save 5 = .ok (.iconst 2, 1) := by decide +kernel
theorem dX10_save_6 : decode cX10_save 6 = .ok (.if_icmp .lt 6, 3) := by decide +kernel
theorem dX10_save_9 : decode cX10_save 9 = .ok (.ldc 78, 2) := by decide +kernel
theorem dX10_save_11 : decode cX10_save 11 = .ok (.ireturn, 1) := by decide +kernel
theorem dX10_save_12 : decode cX10_save 12 = .ok (.aload_n 0, 1) := by decide +kernel
theorem dX10_save_13 : decode cX10_save 13 = .ok (.getfield 23, 3) := by decide +kernel
theorem dX10_save_16 : decode cX10_save 16 = .ok (.iload_n 1, 1) := by decide +kernel
theorem dX10_save_17 : decode cX10_save 17 = .ok (.aaload, 1) := by decide +kernel
theorem dX10_save_18 : decode cX10_save 18 = .ok (.aload_n 0, 1) := by decide +kernel
theorem dX10_save_19 : decode cX10_save 19 = .ok (.getfield 10, 3) := by decide +kernel
theorem dX10_save_22 : decode cX10_save 22 = .ok (.invokevirtual 177, 3) := by decide +kernel
theorem dX10_save_25 : decode cX10_save 25 = .ok (.aload_n 0, 1) := by decide +kernel
theorem dX10_save_26 : decode cX10_save 26 = .ok (.getfield 27, 3) := by decide +kernel
theorem dX10_save_29 : decode cX10_save 29 = .ok (.iload_n 1, 1) := by decide +kernel
theorem dX10_save_30 : decode cX10_save 30 = .ok (.iconst 1, 1) := by decide +kernel
theorem dX10_save_31 : decode cX10_save 31 = .ok (.bastore, 1) := by decide +kernel
theorem dX10_save_32 : decode cX10_save 32 = .ok (.aload_n 0, 1) := by decide +kernel
theorem dX10_save_33 : decode cX10_save 33 = .ok (.getfield 10, 3) := by decide +kernel
theorem dX10_save_36 : decode cX10_save 36 = .ok (.getfield 180, 3) := by decide +kernel
theorem dX10_save_39 : decode cX10_save 39 = .ok (.ireturn, 1) := by decide +kernel
set_option maxRecDepth 20000 in
theorem ggX10_restore_X1_push : GoodIn wsX10_restore wsX1_push := goodIn_r _ [12, 13, 14, 15, 16, 17, 11, 18, 19, 20, 21, 22, 23, 24, 25, 26, 27, 28, 29, 30, 31, 32, 33, 34, 35, 36, 37, 38, 39, 40, 41, 42, 43, 44, 45, 46, 47, 48, 49, 50, 51, 52, 53, 54, 55, 56, 57, 58, 59, 60, 61, 62, 63, 64, 65, 66, 67, 68, 69, 70, 71, 72, 73, 74, 75, 76, 77, 78, 79, 80, 81, 82, 83, 84, 85, 86, 87, 88, 89, 90, 91, 92, 93, 94, 95, 96, 97, 98, 117, 118, 107, 108, 109, 110, 111, 112, 113, 114, 115, 116, 119, 120, 121, 122, 123, 124, 125, 126, 127, 128, 129, 130, 131, 132, 133, 134, 135, 136, 137, 138, 139, 140, 141, 142, 143, 144, 145, 146, 147, 148, 149] (by decide +kernel) (by decide +kernel)
set_option maxRecDepth 20000 in
theorem gX10_restore_X1_push : GoodIn wsX10_restore (wsV RX10 60 RX1 yX1_push wsX1_push) := goodIn_app (goodIn_of _ (by decide +kernel)) ggX10_restore_X1_push
set_option maxRecDepth 20000 in
theorem ggX10_restore_X8_copyFrom : GoodIn wsX10_restore wsX8_copyFrom := goodIn_r _ [23, 24, 25, 26, 27, 28, 29, 30, 31, 32, 33, 34, 35, 36, 37, 38, 39, 40, 41, 42, 43, 44, 45, 46, 47, 48, 49, 50, 51, 52, 53, 54, 55, 56, 57, 58, 59, 60, 61, 62, 63, 64, 65, 66, 67, 68, 69, 70, 71, 72, 73, 74, 75, 76, 77, 78, 79, 80, 81, 82, 83, 84, 85, 86, 87, 88, 89, 90, 91, 92, 93, 94, 95, 96, 97, 98, 107, 108, 109, 110, 111, 112, 113, 114, 115, 116, 119, 120, 121, 122, 123, 124, 125, 126, 127, 128, 129, 130, 131, 132, 133, 134, 135, 136, 137, 138, 139, 140, 141, 142, 143, 144, 145, 146, 147, 148, 149] (by decide +kernel) (by decide +kernel)
set_option maxRecDepth 20000 in
theorem gX10_restore_X8_copyFrom : GoodIn wsX10_restore (wsV RX10 177 RX8 yX8_copyFrom wsX8_copyFrom) := goodIn_app (goodIn_of _ (by decide +kernel)) ggX10_restore_X8_copyFrom
theorem dX10_restore_0 : decode cX10_restore 0 = .ok (.iload_n 1, 1) := by decide +kernel
theorem dX10_restore_1 : decode cX10_restore 1 = .ok (.ifCond .lt 8, 3) := by decide +kernel
theorem dX10_restore_4 : decode cX10_restore 4 = .ok (.iload_n 1, 1) := by decide +kernel
theorem dX10_restore_5 : decode cX10_restore 5 = .ok (.iconst 2, 1) := by decide +kernel
theorem dX10_restore_6 : decode cX10_restore 6 = .ok (.if_icmp .lt 6, 3) := by decide +kernel
theorem dX10_restore_9 : decode cX10_restore 9 = .ok (.ldc 78, 2) := by decide +kernel
theorem dX10_restore_11 : decode cX10_restore 11 = .ok (.ireturn, 1) := by decide +kernel
theorem dX10_restore_12 : decode cX10_restore 12 = .ok (.aload_n 0, 1) := by decide +kernel
theorem dX10_restore_13 : decode cX10_restore 13 = .ok (.getfield 27, 3) := by decide +kernel
theorem dX10_restore_16 : decode cX10_restore 16 = .ok (.iload_n 1, 1) := by decide +kernel
theorem dX10_restore_17 : decode cX10_restore 17 = .ok (.baload, 1) := by decide +kernel
theorem dX10_restore_18 : decode cX10_restore 18 = .ok (.ifCond .ne 6, 3) := by decide +kernel
theorem dX10_restore_21 : decode cX10_restore 21 = .ok (.ldc 100, 2) := by decide +kernel
theorem dX10_restore_23 : decode cX10_restore 23 = .ok (.ireturn, 1) := by decide +kernel
theorem dX10_restore_24 : decode cX10_restore 24 = .ok (.aload_n 0, 1) := by decide +kernel
theorem dX10_restore_25 : decode cX10_restore 25 = .ok (.getfield 19, 3) := by decide +kernel
theorem dX10_restore_28 : decode cX10_restore 28 = .ok (.aload_n 0, 1) := by decide +kernel
theorem dX10_restore_29 : decode cX10_restore 29 = .ok (.getfield 10, 3) := by decide +kernel
theorem dX10_restore_32 : decode cX10_restore 32 = .ok (.invokevirtual 60, 3) := by decide +kernel
theorem dX10_restore_35 : decode cX10_restore 35 = .ok (.aload_n 0, 1) := by decide +kernel
theorem dX10_restore_36 : decode cX10_restore 36 = .ok (.getfield 10, 3) := by decide +kernel
theorem dX10_restore_39 : decode cX10_restore 39 = .ok (.aload_n 0, 1) := by decide +kernel
theorem dX10_restore_40 : decode cX10_restore 40 = .ok (.getfield 23, 3) := by decide +kernel
theorem dX10_restore_43 : decode cX10_restore 43 = .ok (.iload_n 1, 1) := by decide +kernel
theorem dX10_restore_44 : decode cX10_restore 44 = .ok (.aaload, 1) := by decide +kernel
theorem dX10_restore_45 : decode cX10_restore 45 = .ok (.invokevirtual 177, 3) := by decide +kernel
theorem dX10_restore_48 : decode cX10_restore 48 = .ok (.aload_n 0, 1) := by decide +kernel
theorem dX10_restore_49 : decode cX10_restore 49 = .ok (.getfield 10, 3) := by decide +kernel
theorem dX10_restore_52 : decode cX10_restore 52 = .ok (.getfield 180, 3) := by decide +kernel
theorem dX10_restore_55 : decode cX10_restore 55 = .ok (.ireturn, 1) := by decide +kernel
set_option maxRecDepth 20000 in
theorem ggX10_path_X8_pathAt : GoodIn wsX10_path wsX8_pathAt := goodIn_r _ [7, 8, 9, 46, 47, 48, 49, 50, 51, 52, 53, 54, 55] (by decide +kernel) (by decide +kernel)
set_option maxRecDepth 20000 in
theorem gX10_path_X8_pathAt : GoodIn wsX10_path (wsV RX10 74 RX8 yX8_pathAt wsX8_pathAt) := goodIn_app (goodIn_of _ (by decide +kernel)) ggX10_path_X8_pathAt
set_option maxRecDepth 20000 in
theorem ggX10_path_X3_property : GoodIn wsX10_path wsX3_property := goodIn_r _ [14, 15, 16, 17, 18, 19, 20, 21, 22, 23, 24, 25, 26, 27, 28, 29, 30, 31, 32, 33, 34, 13, 35, 36, 37, 38, 56, 57, 58, 59, 60, 61, 62, 63, 64, 65, 66, 67, 68, 69, 70, 71] (by decide +kernel) (by decide +kernel)
set_option maxRecDepth 20000 in
theorem gX10_path_X3_property : GoodIn wsX10_path (wsV RX10 183 RX3 yX3_property wsX3_property) := goodIn_app (goodIn_of _ (by decide +kernel)) ggX10_path_X3_property
theorem dX10_path_0 : decode cX10_path 0 = .ok (.aload_n 0, 1) := by decide +kernel
theorem dX10_path_1 : decode cX10_path 1 = .ok (.getfield 10, 3) := by decide +kernel
theorem dX10_path_4 : decode cX10_path 4 = .ok (.iload_n 1, 1) := by decide +kernel
theorem dX10_path_5 : decode cX10_path 5 = .ok (.invokevirtual 74, 3) := by decide +kernel
theorem dX10_path_8 : decode cX10_path 8 = .ok (.astore_n 3, 1) := by decide +kernel
theorem dX10_path_9 : decode cX10_path 9 = .ok (.aload_n 3, 1) := by decide +kernel
theorem dX10_path_10 : decode cX10_path 10 = .ok (.ifnonnull 6, 3) := by decide +kernel
theorem dX10_path_13 : decode cX10_path 13 = .ok (.ldc 78, 2) := by decide +kernel
theorem dX10_path_15 : decode cX10_path 15 = .ok (.ireturn, 1) := by decide +kernel
theorem dX10_path_16 : decode cX10_path 16 = .ok (.aload_n 3, 1) := by decide +kernel
theorem dX10_path_17 : decode cX10_path 17 = .ok (.iload_n 2, 1) := by decide +kernel
theorem dX10_path_18 : decode cX10_path 18 = .ok (.invokevirtual 183, 3) := by decide +kernel
theorem dX10_path_21 : decode cX10_path 21 = .ok (.ireturn, 1) := by decide +kernel
set_option maxRecDepth 20000 in
theorem ggX10_told_X8_pathAt : GoodIn wsX10_told wsX8_pathAt := goodIn_r _ [14, 15, 16, 48, 49, 50, 51, 52, 53, 54, 55, 56, 57] (by decide +kernel) (by decide +kernel)
set_option maxRecDepth 20000 in
theorem gX10_told_X8_pathAt : GoodIn wsX10_told (wsV RX10 74 RX8 yX8_pathAt wsX8_pathAt) := goodIn_app (goodIn_of _ (by decide +kernel)) ggX10_told_X8_pathAt
set_option maxRecDepth 20000 in
theorem ggX10_told_X10_isWithin : GoodIn wsX10_told wsX10_isWithin := goodIn_r _ [20] (by decide +kernel) (by decide +kernel)
set_option maxRecDepth 20000 in
theorem gX10_told_X10_isWithin : GoodIn wsX10_told (va_wsS RX10 50 yX10_isWithin wsX10_isWithin) := goodIn_app (goodIn_of _ (by decide +kernel)) ggX10_told_X10_isWithin
theorem dX10_told_0 : decode cX10_told 0 = .ok (.aload_n 0, 1) := by decide +kernel
theorem dX10_told_1 : decode cX10_told 1 = .ok (.getfield 10, 3) := by decide +kernel
theorem dX10_told_4 : decode cX10_told 4 = .ok (.iload_n 1, 1) := by decide +kernel
theorem dX10_told_5 : decode cX10_told 5 = .ok (.invokevirtual 74, 3) := by decide +kernel
theorem dX10_told_8 : decode cX10_told 8 = .ok (.astore_n 3, 1) := by decide +kernel
theorem dX10_told_9 : decode cX10_told 9 = .ok (.aload_n 3, 1) := by decide +kernel
theorem dX10_told_10 : decode cX10_told 10 = .ok (.ifnonnull 6, 3) := by decide +kernel
theorem dX10_told_13 : decode cX10_told 13 = .ok (.ldc 78, 2) := by decide +kernel
theorem dX10_told_15 : decode cX10_told 15 = .ok (.ireturn, 1) := by decide +kernel
theorem dX10_told_16 : decode cX10_told 16 = .ok (.iload_n 2, 1) := by decide +kernel
theorem dX10_told_17 : decode cX10_told 17 = .ok (.iconst 0, 1) := by decide +kernel
theorem dX10_told_18 : decode cX10_told 18 = .ok (.iconst 2, 1) := by decide +kernel
theorem dX10_told_19 : decode cX10_told 19 = .ok (.invokestatic 50, 3) := by decide +kernel
theorem dX10_told_22 : decode cX10_told 22 = .ok (.ifCond .ne 6, 3) := by decide +kernel
theorem dX10_told_25 : decode cX10_told 25 = .ok (.ldc 54, 2) := by decide +kernel
theorem dX10_told_27 : decode cX10_told 27 = .ok (.ireturn, 1) := by decide +kernel
theorem dX10_told_28 : decode cX10_told 28 = .ok (.aload_n 3, 1) := by decide +kernel
theorem dX10_told_29 : decode cX10_told 29 = .ok (.getfield 186, 3) := by decide +kernel
theorem dX10_told_32 : decode cX10_told 32 = .ok (.astore 4, 2) := by decide +kernel
theorem dX10_told_34 : decode cX10_told 34 = .ok (.aload 4, 2) := by decide +kernel
theorem dX10_told_36 : decode cX10_told 36 = .ok (.getfield 190, 3) := by decide +kernel
theorem dX10_told_39 : decode cX10_told 39 = .ok (.ifCond .ne 6, 3) := by decide +kernel
theorem dX10_told_42 : decode cX10_told 42 = .ok (.ldc 162, 2) := by decide +kernel
theorem dX10_told_44 : decode cX10_told 44 = .ok (.ireturn, 1) := by decide +kernel
theorem dX10_told_45 : decode cX10_told 45 = .ok (.iload_n 2, 1) := by decide +kernel
theorem dX10_told_46 : decode cX10_told 46 = .ok (.ifCond .ne 11, 3) := by decide +kernel
theorem dX10_told_49 : decode cX10_told 49 = .ok (.aload 4, 2) := by decide +kernel
theorem dX10_told_51 : decode cX10_told 51 = .ok (.getfield 195, 3) := by decide +kernel
theorem dX10_told_54 : decode cX10_told 54 = .ok (.goto 21, 3) := by decide +kernel
theorem dX10_told_57 : decode cX10_told 57 = .ok (.iload_n 2, 1) := by decide +kernel
theorem dX10_told_58 : decode cX10_told 58 = .ok (.iconst 1, 1) := by decide +kernel
theorem dX10_told_59 : decode cX10_told 59 = .ok (.if_icmp .ne 11, 3) := by decide +kernel
theorem dX10_told_62 : decode cX10_told 62 = .ok (.aload 4, 2) := by decide +kernel
theorem dX10_told_64 : decode cX10_told 64 = .ok (.getfield 198, 3) := by decide +kernel
theorem dX10_told_67 : decode cX10_told 67 = .ok (.goto 8, 3) := by decide +kernel
theorem dX10_told_70 : decode cX10_told 70 = .ok (.aload 4, 2) := by decide +kernel
theorem dX10_told_72 : decode cX10_told 72 = .ok (.getfield 201, 3) := by decide +kernel
theorem dX10_told_75 : decode cX10_told 75 = .ok (.ireturn, 1) := by decide +kernel
set_option maxRecDepth 20000 in
theorem ggX10_sound_X8_pathAt : GoodIn wsX10_sound wsX8_pathAt := goodIn_r _ [9, 10, 11, 49, 50, 51, 52, 53, 54, 55, 56, 57, 58] (by decide +kernel) (by decide +kernel)
set_option maxRecDepth 20000 in
theorem gX10_sound_X8_pathAt : GoodIn wsX10_sound (wsV RX10 74 RX8 yX8_pathAt wsX8_pathAt) := goodIn_app (goodIn_of _ (by decide +kernel)) ggX10_sound_X8_pathAt
set_option maxRecDepth 20000 in
theorem ggX10_sound_X3_speedOfSound : GoodIn wsX10_sound wsX3_speedOfSound := goodIn_r _ [16, 17, 18, 19, 20, 21, 22, 23, 24, 25, 33, 34, 35, 36, 37, 38, 39, 40, 41, 42, 43, 44, 45, 46, 47, 48] (by decide +kernel) (by decide +kernel)
set_option maxRecDepth 20000 in
theorem gX10_sound_X3_speedOfSound : GoodIn wsX10_sound (wsV RX10 206 RX3 yX3_speedOfSound wsX3_speedOfSound) := goodIn_app (goodIn_of _ (by decide +kernel)) ggX10_sound_X3_speedOfSound
theorem dX10_sound_0 : decode cX10_sound 0 = .ok (.aload_n 0, 1) := by decide +kernel
theorem dX10_sound_1 : decode cX10_sound 1 = .ok (.getfield 10, 3) := by decide +kernel
theorem dX10_sound_4 : decode cX10_sound 4 = .ok (.iload_n 1, 1) := by decide +kernel
theorem dX10_sound_5 : decode cX10_sound 5 = .ok (.invokevirtual 74, 3) := by decide +kernel
theorem dX10_sound_8 : decode cX10_sound 8 = .ok (.astore_n 2, 1) := by decide +kernel
theorem dX10_sound_9 : decode cX10_sound 9 = .ok (.aload_n 2, 1) := by decide +kernel
theorem dX10_sound_10 : decode cX10_sound 10 = .ok (.ifnonnull 7, 3) := by decide +kernel
theorem dX10_sound_13 : decode cX10_sound 13 = .ok (.ldc2_w 204, 3) := by decide +kernel
theorem dX10_sound_16 : decode cX10_sound 16 = .ok (.lreturn, 1) := by decide +kernel
theorem dX10_sound_17 : decode cX10_sound 17 = .ok (.aload_n 2, 1) := by decide +kernel
theorem dX10_sound_18 : decode cX10_sound 18 = .ok (.getfield 128, 3) := by decide +kernel
theorem dX10_sound_21 : decode cX10_sound 21 = .ok (.ifCond .eq 10, 3) := by decide +kernel
theorem dX10_sound_24 : decode cX10_sound 24 = .ok (.aload_n 2, 1) := by decide +kernel
theorem dX10_sound_25 : decode cX10_sound 25 = .ok (.invokevirtual 206, 3) := by decide +kernel
theorem dX10_sound_28 : decode cX10_sound 28 = .ok (.goto 6, 3) := by decide +kernel
theorem dX10_sound_31 : decode cX10_sound 31 = .ok (.ldc2_w 210, 3) := by decide +kernel
theorem dX10_sound_34 : decode cX10_sound 34 = .ok (.lreturn, 1) := by decide +kernel
set_option maxRecDepth 20000 in
theorem ggX10_factor_X10_isWithin : GoodIn wsX10_factor wsX10_isWithin := goodIn_r _ [9] (by decide +kernel) (by decide +kernel)
set_option maxRecDepth 20000 in
theorem gX10_factor_X10_isWithin : GoodIn wsX10_factor (va_wsS RX10 50 yX10_isWithin wsX10_isWithin) := goodIn_app (goodIn_of _ (by decide +kernel)) ggX10_factor_X10_isWithin
set_option maxRecDepth 20000 in
theorem ggX10_factor_X4_factorFor : GoodIn wsX10_factor wsX4_factorFor := goodIn_r _ [14, 15, 16, 17, 18, 19, 20, 21, 22, 8, 23, 41, 42, 43] (by decide +kernel) (by decide +kernel)
set_option maxRecDepth 20000 in
theorem gX10_factor_X4_factorFor : GoodIn wsX10_factor (wsV RX10 213 RX4 yX4_factorFor wsX4_factorFor) := goodIn_app (goodIn_of _ (by decide +kernel)) ggX10_factor_X4_factorFor
theorem dX10_factor_0 : decode cX10_factor 0 = .ok (.iload_n 1, 1) := by decide +kernel
theorem dX10_factor_1 : decode cX10_factor 1 = .ok (.ldc 212, 2) := by decide +kernel
theorem dX10_factor_3 : decode cX10_factor 3 = .ok (.ldc 82, 2) := by decide +kernel
theorem dX10_factor_5 : decode cX10_factor 5 = .ok (.invokestatic 50, 3) := by decide +kernel
theorem dX10_factor_8 : decode cX10_factor 8 = .ok (.ifCond .ne 6, 3) := by decide +kernel
theorem dX10_factor_11 : decode cX10_factor 11 = .ok (.ldc 54, 2) := by decide +kernel
theorem dX10_factor_13 : decode cX10_factor 13 = .ok (.ireturn, 1) := by decide +kernel
theorem dX10_factor_14 : decode cX10_factor 14 = .ok (.aload_n 0, 1) := by decide +kernel
theorem dX10_factor_15 : decode cX10_factor 15 = .ok (.getfield 10, 3) := by decide +kernel
theorem dX10_factor_18 : decode cX10_factor 18 = .ok (.getfield 83, 3) := by decide +kernel
theorem dX10_factor_21 : decode cX10_factor 21 = .ok (.iload_n 1, 1) := by decide +kernel
theorem dX10_factor_22 : decode cX10_factor 22 = .ok (.invokevirtual 213, 3) := by decide +kernel
theorem dX10_factor_25 : decode cX10_factor 25 = .ok (.ireturn, 1) := by decide +kernel
set_option maxRecDepth 20000 in
theorem ggX10_round_X6_latest : GoodIn wsX10_round wsX6_latest := goodIn_r _ [15, 16, 17, 41, 42] (by decide +kernel) (by decide +kernel)
set_option maxRecDepth 20000 in
theorem gX10_round_X6_latest : GoodIn wsX10_round (wsV RX10 220 RX6 yX6_latest wsX6_latest) := goodIn_app (goodIn_of _ (by decide +kernel)) ggX10_round_X6_latest
theorem dX10_round_0 : decode cX10_round 0 = .ok (.aload_n 0, 1) := by decide +kernel
theorem dX10_round_1 : decode cX10_round 1 = .ok (.getfield 10, 3) := by decide +kernel
theorem dX10_round_4 : decode cX10_round 4 = .ok (.getfield 216, 3) := by decide +kernel
theorem dX10_round_7 : decode cX10_round 7 = .ok (.iload_n 1, 1) := by decide +kernel
theorem dX10_round_8 : decode cX10_round 8 = .ok (.invokevirtual 220, 3) := by decide +kernel
theorem dX10_round_11 : decode cX10_round 11 = .ok (.astore_n 3, 1) := by decide +kernel
theorem dX10_round_12 : decode cX10_round 12 = .ok (.aload_n 3, 1) := by decide +kernel
theorem dX10_round_13 : decode cX10_round 13 = .ok (.ifnonnull 6, 3) := by decide +kernel
theorem dX10_round_16 : decode cX10_round 16 = .ok (.ldc 78, 2) := by decide +kernel
theorem dX10_round_18 : decode cX10_round 18 = .ok (.ireturn, 1) := by decide +kernel
theorem dX10_round_19 : decode cX10_round 19 = .ok (.iload_n 2, 1) := by decide +kernel
theorem dX10_round_20 : decode cX10_round 20 = .ok (.tableswitch 70 0 5 #[40, 45, 50, 55, 60, 65], 40) := by decide +kernel
theorem dX10_round_60 : decode cX10_round 60 = .ok (.aload_n 3, 1) := by decide +kernel
theorem dX10_round_61 : decode cX10_round 61 = .ok (.getfield 226, 3) := by decide +kernel
theorem dX10_round_64 : decode cX10_round 64 = .ok (.ireturn, 1) := by decide +kernel
theorem dX10_round_65 : decode cX10_round 65 = .ok (.aload_n 3, 1) := by decide +kernel
theorem dX10_round_66 : decode cX10_round 66 = .ok (.getfield 231, 3) := by decide +kernel
theorem dX10_round_69 : decode cX10_round 69 = .ok (.ireturn, 1) := by decide +kernel
theorem dX10_round_70 : decode cX10_round 70 = .ok (.aload_n 3, 1) := by decide +kernel
theorem dX10_round_71 : decode cX10_round 71 = .ok (.getfield 234, 3) := by decide +kernel
theorem dX10_round_74 : decode cX10_round 74 = .ok (.ireturn, 1) := by decide +kernel
theorem dX10_round_75 : decode cX10_round 75 = .ok (.aload_n 3, 1) := by decide +kernel
theorem dX10_round_76 : decode cX10_round 76 = .ok (.getfield 237, 3) := by decide +kernel
theorem dX10_round_79 : decode cX10_round 79 = .ok (.ireturn, 1) := by decide +kernel
theorem dX10_round_80 : decode cX10_round 80 = .ok (.aload_n 3, 1) := by decide +kernel
theorem dX10_round_81 : decode cX10_round 81 = .ok (.getfield 240, 3) := by decide +kernel
theorem dX10_round_84 : decode cX10_round 84 = .ok (.ireturn, 1) := by decide +kernel
theorem dX10_round_85 : decode cX10_round 85 = .ok (.aload_n 3, 1) := by decide +kernel
theorem dX10_round_86 : decode cX10_round 86 = .ok (.getfield 243, 3) := by decide +kernel
theorem dX10_round_89 : decode cX10_round 89 = .ok (.ireturn, 1) := by decide +kernel
theorem dX10_round_90 : decode cX10_round 90 = .ok (.ldc 54, 2) := by decide +kernel
theorem dX10_round_92 : decode cX10_round 92 = .ok (.ireturn, 1) := by decide +kernel
theorem dX10_volume_0 : decode cX10_volume 0 = .ok (.iload_n 1, 1) := by decide +kernel
theorem dX10_volume_1 : decode cX10_volume 1 = .ok (.tableswitch 59 0 2 #[27, 35, 43], 27) := by decide +kernel
theorem dX10_volume_28 : decode cX10_volume 28 = .ok (.aload_n 0, 1) := by decide +kernel
theorem dX10_volume_29 : decode cX10_volume 29 = .ok (.getfield 10, 3) := by decide +kernel
theorem dX10_volume_32 : decode cX10_volume 32 = .ok (.getfield 246, 3) := by decide +kernel
theorem dX10_volume_35 : decode cX10_volume 35 = .ok (.lreturn, 1) := by decide +kernel
theorem dX10_volume_36 : decode cX10_volume 36 = .ok (.aload_n 0, 1) := by decide +kernel
theorem dX10_volume_37 : decode cX10_volume 37 = .ok (.getfield 10, 3) := by decide +kernel
theorem dX10_volume_40 : decode cX10_volume 40 = .ok (.getfield 250, 3) := by decide +kernel
theorem dX10_volume_43 : decode cX10_volume 43 = .ok (.lreturn, 1) := by decide +kernel
theorem dX10_volume_44 : decode cX10_volume 44 = .ok (.aload_n 0, 1) := by decide +kernel
theorem dX10_volume_45 : decode cX10_volume 45 = .ok (.getfield 10, 3) := by decide +kernel
theorem dX10_volume_48 : decode cX10_volume 48 = .ok (.getfield 246, 3) := by decide +kernel
theorem dX10_volume_51 : decode cX10_volume 51 = .ok (.aload_n 0, 1) := by decide +kernel
theorem dX10_volume_52 : decode cX10_volume 52 = .ok (.getfield 10, 3) := by decide +kernel
theorem dX10_volume_55 : decode cX10_volume 55 = .ok (.getfield 250, 3) := by decide +kernel
theorem dX10_volume_58 : decode cX10_volume 58 = .ok (.lsub, 1) := by decide +kernel
theorem dX10_volume_59 : decode cX10_volume 59 = .ok (.lreturn, 1) := by decide +kernel
theorem dX10_volume_60 : decode cX10_volume 60 = .ok (.ldc2_w 253, 3) := by decide +kernel
theorem dX10_volume_63 : decode cX10_volume 63 = .ok (.lreturn, 1) := by decide +kernel
set_option maxRecDepth 20000 in
theorem ggX10_statistic_X10_isWithin : GoodIn wsX10_statistic wsX10_isWithin := goodIn_r _ [8] (by decide +kernel) (by decide +kernel)
set_option maxRecDepth 20000 in
theorem gX10_statistic_X10_isWithin : GoodIn wsX10_statistic (va_wsS RX10 50 yX10_isWithin wsX10_isWithin) := goodIn_app (goodIn_of _ (by decide +kernel)) ggX10_statistic_X10_isWithin
set_option maxRecDepth 20000 in
theorem ggX10_statistic_X6_measuredCount : GoodIn wsX10_statistic wsX6_measuredCount := goodIn_r _ [13, 14, 15, 16, 12, 17, 18, 19, 20, 21, 22, 7, 23, 56, 57, 58, 59, 60, 61, 62, 63] (by decide +kernel) (by decide +kernel)
set_option maxRecDepth 20000 in
theorem gX10_statistic_X6_measuredCount : GoodIn wsX10_statistic (wsV RX10 255 RX6 yX6_measuredCount wsX6_measuredCount) := goodIn_app (goodIn_of _ (by decide +kernel)) ggX10_statistic_X6_measuredCount
set_option maxRecDepth 20000 in
theorem ggX10_statistic_X6_ranked : GoodIn wsX10_statistic wsX6_ranked := goodIn_r _ [27, 19, 20, 21, 14, 15, 16, 12, 17, 18, 28, 29, 30, 31, 56, 57, 58, 59, 60, 61, 62, 63] (by decide +kernel) (by decide +kernel)
set_option maxRecDepth 20000 in
theorem gX10_statistic_X6_ranked : GoodIn wsX10_statistic (wsV RX10 258 RX6 yX6_ranked wsX6_ranked) := goodIn_app (goodIn_of _ (by decide +kernel)) ggX10_statistic_X6_ranked
set_option maxRecDepth 20000 in
theorem ggX10_statistic_X6_average : GoodIn wsX10_statistic wsX6_average := goodIn_r _ [35, 19, 20, 14, 15, 16, 12, 17, 18, 21, 36, 10, 11, 13, 22, 7, 23, 37, 38, 56, 57, 58, 59, 60, 61, 62, 63] (by decide +kernel) (by decide +kernel)
set_option maxRecDepth 20000 in
theorem gX10_statistic_X6_average : GoodIn wsX10_statistic (wsV RX10 261 RX6 yX6_average wsX6_average) := goodIn_app (goodIn_of _ (by decide +kernel)) ggX10_statistic_X6_average
theorem dX10_statistic_0 : decode cX10_statistic 0 = .ok (.iload_n 1, 1) := by decide +kernel
theorem dX10_statistic_1 : decode cX10_statistic 1 = .ok (.iconst 0, 1) := by decide +kernel
theorem dX10_statistic_2 : decode cX10_statistic 2 = .ok (.iconst 4, 1) := by decide +kernel
theorem dX10_statistic_3 : decode cX10_statistic 3 = .ok (.invokestatic 50, 3) := by decide +kernel
theorem dX10_statistic_6 : decode cX10_statistic 6 = .ok (.ifCond .ne 6, 3) := by decide +kernel
theorem dX10_statistic_9 : decode cX10_statistic 9 = .ok (.ldc 54, 2) := by decide +kernel
theorem dX10_statistic_11 : decode cX10_statistic 11 = .ok (.ireturn, 1) := by decide +kernel
theorem dX10_statistic_12 : decode cX10_statistic 12 = .ok (.aload_n 0, 1) := by decide +kernel
theorem dX10_statistic_13 : decode cX10_statistic 13 = .ok (.getfield 10, 3) := by decide +kernel
theorem dX10_statistic_16 : decode cX10_statistic 16 = .ok (.getfield 216, 3) := by decide +kernel
theorem dX10_statistic_19 : decode cX10_statistic 19 = .ok (.astore_n 2, 1) := by decide +kernel
theorem dX10_statistic_20 : decode cX10_statistic 20 = .ok (.aload_n 2, 1) := by decide +kernel
theorem dX10_statistic_21 : decode cX10_statistic 21 = .ok (.invokevirtual 255, 3) := by decide +kernel
theorem dX10_statistic_24 : decode cX10_statistic 24 = .ok (.istore_n 3, 1) := by decide +kernel
theorem dX10_statistic_25 : decode cX10_statistic 25 = .ok (.iload_n 1, 1) := by decide +kernel
theorem dX10_statistic_26 : decode cX10_statistic 26 = .ok (.ifCond .ne 5, 3) := by decide +kernel
theorem dX10_statistic_29 : decode cX10_statistic 29 = .ok (.iload_n 3, 1) := by decide +kernel
theorem dX10_statistic_30 : decode cX10_statistic 30 = .ok (.ireturn, 1) := by decide +kernel
theorem dX10_statistic_31 : decode cX10_statistic 31 = .ok (.iload_n 3, 1) := by decide +kernel
theorem dX10_statistic_32 : decode cX10_statistic 32 = .ok (.ifCond .ne 6, 3) := by decide +kernel
theorem dX10_statistic_35 : decode cX10_statistic 35 = .ok (.ldc 162, 2) := by decide +kernel
theorem dX10_statistic_37 : decode cX10_statistic 37 = .ok (.ireturn, 1) := by decide +kernel
theorem dX10_statistic_38 : decode cX10_statistic 38 = .ok (.iload_n 1, 1) := by decide +kernel
theorem dX10_statistic_39 : decode cX10_statistic 39 = .ok (.tableswitch 44 1 3 #[25, 31, 39], 25) := by decide +kernel
theorem dX10_statistic_64 : decode cX10_statistic 64 = .ok (.aload_n 2, 1) := by decide +kernel
theorem dX10_statistic_65 : decode cX10_statistic 65 = .ok (.iconst 0, 1) := by decide +kernel
theorem dX10_statistic_66 : decode cX10_statistic 66 = .ok (.invokevirtual 258, 3) := by decide +kernel
theorem dX10_statistic_69 : decode cX10_statistic 69 = .ok (.ireturn, 1) := by decide +kernel
theorem dX10_statistic_70 : decode cX10_statistic 70 = .ok (.aload_n 2, 1) := by decide +kernel
theorem dX10_statistic_71 : decode cX10_statistic 71 = .ok (.iload_n 3, 1) := by decide +kernel
theorem dX10_statistic_72 : decode cX10_statistic 72 = .ok (.iconst 1, 1) := by decide +kernel
theorem dX10_statistic_73 : decode cX10_statistic 73 = .ok (.isub, 1) := by decide +kernel
theorem dX10_statistic_74 : decode cX10_statistic 74 = .ok (.invokevirtual 258, 3) := by decide +kernel
theorem dX10_statistic_77 : decode cX10_statistic 77 = .ok (.ireturn, 1) := by decide +kernel
theorem dX10_statistic_78 : decode cX10_statistic 78 = .ok (.aload_n 2, 1) := by decide +kernel
theorem dX10_statistic_79 : decode cX10_statistic 79 = .ok (.invokevirtual 261, 3) := by decide +kernel
theorem dX10_statistic_82 : decode cX10_statistic 82 = .ok (.ireturn, 1) := by decide +kernel
theorem dX10_statistic_83 : decode cX10_statistic 83 = .ok (.aload_n 2, 1) := by decide +kernel
theorem dX10_statistic_84 : decode cX10_statistic 84 = .ok (.iload_n 3, 1) := by decide +kernel
theorem dX10_statistic_85 : decode cX10_statistic 85 = .ok (.iconst 1, 1) := by decide +kernel
theorem dX10_statistic_86 : decode cX10_statistic 86 = .ok (.isub, 1) := by decide +kernel
theorem dX10_statistic_87 : decode cX10_statistic 87 = .ok (.iconst 2, 1) := by decide +kernel
theorem dX10_statistic_88 : decode cX10_statistic 88 = .ok (.idiv, 1) := by decide +kernel
theorem dX10_statistic_89 : decode cX10_statistic 89 = .ok (.invokevirtual 258, 3) := by decide +kernel
theorem dX10_statistic_92 : decode cX10_statistic 92 = .ok (.aload_n 2, 1) := by decide +kernel
theorem dX10_statistic_93 : decode cX10_statistic 93 = .ok (.iload_n 3, 1) := by decide +kernel
theorem dX10_statistic_94 : decode cX10_statistic 94 = .ok (.iconst 2, 1) := by decide +kernel
theorem dX10_statistic_95 : decode cX10_statistic 95 = .ok (.idiv, 1) := by decide +kernel
theorem dX10_statistic_96 : decode cX10_statistic 96 = .ok (.invokevirtual 258, 3) := by decide +kernel
theorem dX10_statistic_99 : decode cX10_statistic 99 = .ok (.iadd, 1) := by decide +kernel
theorem dX10_statistic_100 : decode cX10_statistic 100 = .ok (.iconst 2, 1) := by decide +kernel
theorem dX10_statistic_101 : decode cX10_statistic 101 = .ok (.idiv, 1) := by decide +kernel
theorem dX10_statistic_102 : decode cX10_statistic 102 = .ok (.ireturn, 1) := by decide +kernel
set_option maxRecDepth 20000 in
theorem ggX10_trust_X8_placeInTrust : GoodIn wsX10_trust wsX8_placeInTrust := goodIn_r _ [9, 10, 11, 12, 13, 14, 8, 15, 16, 17, 18, 19, 20, 21, 22, 23, 24, 25, 26, 27, 28, 36, 37, 38, 39, 40, 41, 42, 43, 44, 45, 46, 47, 48, 49, 50, 51, 52, 53, 54, 55, 56, 57, 58, 59, 60, 61] (by decide +kernel) (by decide +kernel)
set_option maxRecDepth 20000 in
theorem gX10_trust_X8_placeInTrust : GoodIn wsX10_trust (wsV RX10 264 RX8 yX8_placeInTrust wsX8_placeInTrust) := goodIn_app (goodIn_of _ (by decide +kernel)) ggX10_trust_X8_placeInTrust
theorem dX10_trust_0 : decode cX10_trust 0 = .ok (.iload_n 1, 1) := by decide +kernel
theorem dX10_trust_1 : decode cX10_trust 1 = .ok (.ifCond .ge 6, 3) := by decide +kernel
theorem dX10_trust_4 : decode cX10_trust 4 = .ok (.ldc 54, 2) := by decide +kernel
theorem dX10_trust_6 : decode cX10_trust 6 = .ok (.ireturn, 1) := by decide +kernel
theorem dX10_trust_7 : decode cX10_trust 7 = .ok (.iconst 0, 1) := by decide +kernel
theorem dX10_trust_8 : decode cX10_trust 8 = .ok (.istore_n 2, 1) := by decide +kernel
theorem dX10_trust_9 : decode cX10_trust 9 = .ok (.iload_n 2, 1) := by decide +kernel
theorem dX10_trust_10 : decode cX10_trust 10 = .ok (.iconst 4, 1) := by decide +kernel
theorem dX10_trust_11 : decode cX10_trust 11 = .ok (.if_icmp .ge 34, 3) := by decide +kernel
theorem dX10_trust_14 : decode cX10_trust 14 = .ok (.iload_n 2, 1) := by decide +kernel
theorem dX10_trust_15 : decode cX10_trust 15 = .ok (.aload_n 0, 1) := by decide +kernel
theorem dX10_trust_16 : decode cX10_trust 16 = .ok (.getfield 10, 3) := by decide +kernel
theorem dX10_trust_19 : decode cX10_trust 19 = .ok (.getfield 55, 3) := by decide +kernel
theorem dX10_trust_22 : decode cX10_trust 22 = .ok (.if_icmp .ge 23, 3) := by decide +kernel
theorem dX10_trust_25 : decode cX10_trust 25 = .ok (.aload_n 0, 1) := by decide +kernel
theorem dX10_trust_26 : decode cX10_trust 26 = .ok (.getfield 10, 3) := by decide +kernel
theorem dX10_trust_29 : decode cX10_trust 29 = .ok (.iload_n 2, 1) := by decide +kernel
theorem dX10_trust_30 : decode cX10_trust 30 = .ok (.invokevirtual 264, 3) := by decide +kernel
theorem dX10_trust_33 : decode cX10_trust 33 = .ok (.iload_n 1, 1) := by decide +kernel
theorem dX10_trust_34 : decode cX10_trust 34 = .ok (.if_icmp .ne 5, 3) := by decide +kernel
theorem dX10_trust_37 : decode cX10_trust 37 = .ok (.iload_n 2, 1) := by decide +kernel
theorem dX10_trust_38 : decode cX10_trust 38 = .ok (.ireturn, 1) := by decide +kernel
theorem dX10_trust_39 : decode cX10_trust 39 = .ok (.iinc 2 1, 3) := by decide +kernel
theorem dX10_trust_42 : decode cX10_trust 42 = .ok (.goto (-33), 3) := by decide +kernel
theorem dX10_trust_45 : decode cX10_trust 45 = .ok (.ldc 162, 2) := by decide +kernel
theorem dX10_trust_47 : decode cX10_trust 47 = .ok (.ireturn, 1) := by decide +kernel
set_option maxRecDepth 20000 in
theorem ggX10_total_X8_toldShots : GoodIn wsX10_total wsX8_toldShots := goodIn_r _ [20, 21, 22, 23, 24, 25, 26, 48, 49, 50, 51, 52, 53, 54, 55, 56, 57, 67, 68, 69, 70, 71, 72, 73, 74, 75, 76, 77, 78, 79, 80, 81, 82, 83, 84, 85, 86] (by decide +kernel) (by decide +kernel)
set_option maxRecDepth 20000 in
theorem gX10_total_X8_toldShots : GoodIn wsX10_total (wsV RX10 267 RX8 yX8_toldShots wsX8_toldShots) := goodIn_app (goodIn_of _ (by decide +kernel)) ggX10_total_X8_toldShots
set_option maxRecDepth 20000 in
theorem ggX10_total_X10_asNumber : GoodIn wsX10_total wsX10_asNumber := goodIn_r _ [26] (by decide +kernel) (by decide +kernel)
set_option maxRecDepth 20000 in
theorem gX10_total_X10_asNumber : GoodIn wsX10_total (va_wsS RX10 132 yX10_asNumber wsX10_asNumber) := goodIn_app (goodIn_of _ (by decide +kernel)) ggX10_total_X10_asNumber
set_option maxRecDepth 20000 in
theorem ggX10_total_X8_failingPaths : GoodIn wsX10_total wsX8_failingPaths := goodIn_r _ [31, 21, 32, 33, 34, 35, 36, 37, 24, 25, 26, 48, 49, 50, 51, 52, 53, 54, 55, 56, 57, 67, 68, 69, 70, 71, 72, 73, 74, 75, 76, 77, 78, 79, 80, 81, 82] (by decide +kernel) (by decide +kernel)
set_option maxRecDepth 20000 in
theorem gX10_total_X8_failingPaths : GoodIn wsX10_total (wsV RX10 277 RX8 yX8_failingPaths wsX8_failingPaths) := goodIn_app (goodIn_of _ (by decide +kernel)) ggX10_total_X8_failingPaths
set_option maxRecDepth 20000 in
theorem ggX10_total_X10_isWithin : GoodIn wsX10_total wsX10_isWithin := goodIn_r _ [40] (by decide +kernel) (by decide +kernel)
set_option maxRecDepth 20000 in
theorem gX10_total_X10_isWithin : GoodIn wsX10_total (va_wsS RX10 50 yX10_isWithin wsX10_isWithin) := goodIn_app (goodIn_of _ (by decide +kernel)) ggX10_total_X10_isWithin
theorem dX10_total_0 : decode cX10_total 0 = .ok (.iload_n 1, 1) := by decide +kernel
theorem dX10_total_1 : decode cX10_total 1 = .ok (.tableswitch 144 0 9 #[55, 63, 74, 82, 90, 98, 109, 120, 128, 136], 55) := by decide +kernel
theorem dX10_total_56 : decode cX10_total 56 = .ok (.aload_n 0, 1) := by decide +kernel
theorem dX10_total_57 : decode cX10_total 57 = .ok (.getfield 10, 3) := by decide +kernel
theorem dX10_total_60 : decode cX10_total 60 = .ok (.getfield 55, 3) := by decide +kernel
theorem dX10_total_63 : decode cX10_total 63 = .ok (.ireturn, 1) := by decide +kernel
theorem dX10_total_64 : decode cX10_total 64 = .ok (.aload_n 0, 1) := by decide +kernel
theorem dX10_total_65 : decode cX10_total 65 = .ok (.getfield 10, 3) := by decide +kernel
theorem dX10_total_68 : decode cX10_total 68 = .ok (.getfield 83, 3) := by decide +kernel
theorem dX10_total_71 : decode cX10_total 71 = .ok (.getfield 93, 3) := by decide +kernel
theorem dX10_total_74 : decode cX10_total 74 = .ok (.ireturn, 1) := by decide +kernel
theorem dX10_total_75 : decode cX10_total 75 = .ok (.aload_n 0, 1) := by decide +kernel
theorem dX10_total_76 : decode cX10_total 76 = .ok (.getfield 10, 3) := by decide +kernel
theorem dX10_total_79 : decode cX10_total 79 = .ok (.invokevirtual 267, 3) := by decide +kernel
theorem dX10_total_82 : decode cX10_total 82 = .ok (.ireturn, 1) := by decide +kernel
theorem dX10_total_83 : decode cX10_total 83 = .ok (.aload_n 0, 1) := by decide +kernel
theorem dX10_total_84 : decode cX10_total 84 = .ok (.getfield 10, 3) := by decide +kernel
theorem dX10_total_87 : decode cX10_total 87 = .ok (.getfield 180, 3) := by decide +kernel
theorem dX10_total_90 : decode cX10_total 90 = .ok (.ireturn, 1) := by decide +kernel
theorem dX10_total_91 : decode cX10_total 91 = .ok (.aload_n 0, 1) := by decide +kernel
theorem dX10_total_92 : decode cX10_total 92 = .ok (.getfield 10, 3) := by decide +kernel
theorem dX10_total_95 : decode cX10_total 95 = .ok (.getfield 270, 3) := by decide +kernel
theorem dX10_total_98 : decode cX10_total 98 = .ok (.ireturn, 1) := by decide +kernel
theorem dX10_total_99 : decode cX10_total 99 = .ok (.aload_n 0, 1) := by decide +kernel
theorem dX10_total_100 : decode cX10_total 100 = .ok (.getfield 10, 3) := by decide +kernel
theorem dX10_total_103 : decode cX10_total 103 = .ok (.getfield 216, 3) := by decide +kernel
theorem dX10_total_106 : decode cX10_total 106 = .ok (.getfield 273, 3) := by decide +kernel
theorem dX10_total_109 : decode cX10_total 109 = .ok (.ireturn, 1) := by decide +kernel
theorem dX10_total_110 : decode cX10_total 110 = .ok (.aload_n 0, 1) := by decide +kernel
theorem dX10_total_111 : decode cX10_total 111 = .ok (.getfield 10, 3) := by decide +kernel
theorem dX10_total_114 : decode cX10_total 114 = .ok (.getfield 274, 3) := by decide +kernel
theorem dX10_total_117 : decode cX10_total 117 = .ok (.invokestatic 132, 3) := by decide +kernel
theorem dX10_total_120 : decode cX10_total 120 = .ok (.ireturn, 1) := by decide +kernel
theorem dX10_total_121 : decode cX10_total 121 = .ok (.aload_n 0, 1) := by decide +kernel
theorem dX10_total_122 : decode cX10_total 122 = .ok (.getfield 10, 3) := by decide +kernel
theorem dX10_total_125 : decode cX10_total 125 = .ok (.invokevirtual 277, 3) := by decide +kernel
theorem dX10_total_128 : decode cX10_total 128 = .ok (.ireturn, 1) := by decide +kernel
theorem dX10_total_129 : decode cX10_total 129 = .ok (.aload_n 0, 1) := by decide +kernel
theorem dX10_total_130 : decode cX10_total 130 = .ok (.getfield 19, 3) := by decide +kernel
theorem dX10_total_133 : decode cX10_total 133 = .ok (.getfield 173, 3) := by decide +kernel
theorem dX10_total_136 : decode cX10_total 136 = .ok (.ireturn, 1) := by decide +kernel
theorem dX10_total_137 : decode cX10_total 137 = .ok (.aload_n 0, 1) := by decide +kernel
theorem dX10_total_138 : decode cX10_total 138 = .ok (.getfield 42, 3) := by decide +kernel
theorem dX10_total_141 : decode cX10_total 141 = .ok (.getfield 139, 3) := by decide +kernel
theorem dX10_total_144 : decode cX10_total 144 = .ok (.ireturn, 1) := by decide +kernel
theorem dX10_total_145 : decode cX10_total 145 = .ok (.iload_n 1, 1) := by decide +kernel
theorem dX10_total_146 : decode cX10_total 146 = .ok (.bipush 10, 2) := by decide +kernel
theorem dX10_total_148 : decode cX10_total 148 = .ok (.bipush 14, 2) := by decide +kernel
theorem dX10_total_150 : decode cX10_total 150 = .ok (.invokestatic 50, 3) := by decide +kernel
theorem dX10_total_153 : decode cX10_total 153 = .ok (.ifCond .eq 10, 3) := by decide +kernel
theorem dX10_total_156 : decode cX10_total 156 = .ok (.iload_n 1, 1) := by decide +kernel
theorem dX10_total_157 : decode cX10_total 157 = .ok (.bipush 10, 2) := by decide +kernel
theorem dX10_total_159 : decode cX10_total 159 = .ok (.isub, 1) := by decide +kernel
theorem dX10_total_160 : decode cX10_total 160 = .ok (.goto 4, 3) := by decide +kernel
theorem dX10_total_163 : decode cX10_total 163 = .ok (.iconst (-1), 1) := by decide +kernel
theorem dX10_total_164 : decode cX10_total 164 = .ok (.istore_n 2, 1) := by decide +kernel
theorem dX10_total_165 : decode cX10_total 165 = .ok (.iload_n 2, 1) := by decide +kernel
theorem dX10_total_166 : decode cX10_total 166 = .ok (.ifCond .lt 8, 3) := by decide +kernel
theorem dX10_total_169 : decode cX10_total 169 = .ok (.iload_n 2, 1) := by decide +kernel
theorem dX10_total_170 : decode cX10_total 170 = .ok (.iconst 5, 1) := by decide +kernel
theorem dX10_total_171 : decode cX10_total 171 = .ok (.if_icmp .lt 6, 3) := by decide +kernel
theorem dX10_total_174 : decode cX10_total 174 = .ok (.ldc 54, 2) := by decide +kernel
theorem dX10_total_176 : decode cX10_total 176 = .ok (.ireturn, 1) := by decide +kernel
theorem dX10_total_177 : decode cX10_total 177 = .ok (.aload_n 0, 1) := by decide +kernel
theorem dX10_total_178 : decode cX10_total 178 = .ok (.getfield 10, 3) := by decide +kernel
theorem dX10_total_181 : decode cX10_total 181 = .ok (.getfield 111, 3) := by decide +kernel
theorem dX10_total_184 : decode cX10_total 184 = .ok (.iload_n 2, 1) := by decide +kernel
theorem dX10_total_185 : decode cX10_total 185 = .ok (.iaload, 1) := by decide +kernel
theorem dX10_total_186 : decode cX10_total 186 = .ok (.ireturn, 1) := by decide +kernel
set_option maxRecDepth 20000 in
theorem ggX10_velocity_X8_pathAt : GoodIn wsX10_velocity wsX8_pathAt := goodIn_r _ [8, 9, 10, 45, 46, 47, 48, 49, 50, 51, 52, 53, 54] (by decide +kernel) (by decide +kernel)
set_option maxRecDepth 20000 in
theorem gX10_velocity_X8_pathAt : GoodIn wsX10_velocity (wsV RX10 74 RX8 yX8_pathAt wsX8_pathAt) := goodIn_app (goodIn_of _ (by decide +kernel)) ggX10_velocity_X8_pathAt
set_option maxRecDepth 20000 in
theorem ggX10_velocity_X3_canTake : GoodIn wsX10_velocity wsX3_canTake := goodIn_r _ [15, 16, 17, 18, 19, 20, 21, 22, 14, 23, 24, 55, 56, 57, 58, 59, 60, 61, 62, 63, 64, 65, 66, 67, 68, 69, 70] (by decide +kernel) (by decide +kernel)
set_option maxRecDepth 20000 in
theorem gX10_velocity_X3_canTake : GoodIn wsX10_velocity (wsV RX10 280 RX3 yX3_canTake wsX3_canTake) := goodIn_app (goodIn_of _ (by decide +kernel)) ggX10_velocity_X3_canTake
set_option maxRecDepth 20000 in
theorem ggX10_velocity_X3_velocityFrom : GoodIn wsX10_velocity wsX3_velocityFrom := goodIn_r _ [28, 24, 29, 30, 31, 32, 33, 34, 18, 35, 36, 37, 55, 56, 57, 58, 59, 60, 61, 62, 63, 64, 65, 66, 67, 68, 69, 70] (by decide +kernel) (by decide +kernel)
set_option maxRecDepth 20000 in
theorem gX10_velocity_X3_velocityFrom : GoodIn wsX10_velocity (wsV RX10 283 RX3 yX3_velocityFrom wsX3_velocityFrom) := goodIn_app (goodIn_of _ (by decide +kernel)) ggX10_velocity_X3_velocityFrom
theorem dX10_velocity_0 : decode cX10_velocity 0 = .ok (.aload_n 0, 1) := by decide +kernel
theorem dX10_velocity_1 : decode cX10_velocity 1 = .ok (.getfield 10, 3) := by decide +kernel
theorem dX10_velocity_4 : decode cX10_velocity 4 = .ok (.iload_n 1, 1) := by decide +kernel
theorem dX10_velocity_5 : decode cX10_velocity 5 = .ok (.invokevirtual 74, 3) := by decide +kernel
theorem dX10_velocity_8 : decode cX10_velocity 8 = .ok (.astore 4, 2) := by decide +kernel
theorem dX10_velocity_10 : decode cX10_velocity 10 = .ok (.aload 4, 2) := by decide +kernel
theorem dX10_velocity_12 : decode cX10_velocity 12 = .ok (.ifnonnull 6, 3) := by decide +kernel
theorem dX10_velocity_15 : decode cX10_velocity 15 = .ok (.ldc 78, 2) := by decide +kernel
theorem dX10_velocity_17 : decode cX10_velocity 17 = .ok (.ireturn, 1) := by decide +kernel
theorem dX10_velocity_18 : decode cX10_velocity 18 = .ok (.aload 4, 2) := by decide +kernel
theorem dX10_velocity_20 : decode cX10_velocity 20 = .ok (.iload_n 2, 1) := by decide +kernel
theorem dX10_velocity_21 : decode cX10_velocity 21 = .ok (.invokevirtual 280, 3) := by decide +kernel
theorem dX10_velocity_24 : decode cX10_velocity 24 = .ok (.ifCond .eq 12, 3) := by decide +kernel
theorem dX10_velocity_27 : decode cX10_velocity 27 = .ok (.aload 4, 2) := by decide +kernel
theorem dX10_velocity_29 : decode cX10_velocity 29 = .ok (.iload_n 3, 1) := by decide +kernel
theorem dX10_velocity_30 : decode cX10_velocity 30 = .ok (.invokevirtual 280, 3) := by decide +kernel
theorem dX10_velocity_33 : decode cX10_velocity 33 = .ok (.ifCond .ne 6, 3) := by decide +kernel
theorem dX10_velocity_36 : decode cX10_velocity 36 = .ok (.ldc 54, 2) := by decide +kernel
theorem dX10_velocity_38 : decode cX10_velocity 38 = .ok (.ireturn, 1) := by decide +kernel
theorem dX10_velocity_39 : decode cX10_velocity 39 = .ok (.aload 4, 2) := by decide +kernel
theorem dX10_velocity_41 : decode cX10_velocity 41 = .ok (.iload_n 2, 1) := by decide +kernel
theorem dX10_velocity_42 : decode cX10_velocity 42 = .ok (.iload_n 3, 1) := by decide +kernel
theorem dX10_velocity_43 : decode cX10_velocity 43 = .ok (.invokevirtual 283, 3) := by decide +kernel
theorem dX10_velocity_46 : decode cX10_velocity 46 = .ok (.ireturn, 1) := by decide +kernel
set_option maxRecDepth 20000 in
theorem ggX10_ideal_X8_pathAt : GoodIn wsX10_ideal wsX8_pathAt := goodIn_r _ [8, 9, 10, 34, 35, 36, 37, 38, 39, 40, 41, 42, 43] (by decide +kernel) (by decide +kernel)
set_option maxRecDepth 20000 in
theorem gX10_ideal_X8_pathAt : GoodIn wsX10_ideal (wsV RX10 74 RX8 yX8_pathAt wsX8_pathAt) := goodIn_app (goodIn_of _ (by decide +kernel)) ggX10_ideal_X8_pathAt
set_option maxRecDepth 20000 in
theorem ggX10_ideal_X10_isWithin : GoodIn wsX10_ideal wsX10_isWithin := goodIn_r _ [14] (by decide +kernel) (by decide +kernel)
set_option maxRecDepth 20000 in
theorem gX10_ideal_X10_isWithin : GoodIn wsX10_ideal (va_wsS RX10 50 yX10_isWithin wsX10_isWithin) := goodIn_app (goodIn_of _ (by decide +kernel)) ggX10_ideal_X10_isWithin
set_option maxRecDepth 20000 in
theorem ggX10_ideal_X3_idealTime : GoodIn wsX10_ideal wsX3_idealTime := goodIn_r _ [19, 20, 21, 22, 23, 24, 25, 13, 26, 44, 45, 46, 47, 48, 49, 50, 51, 52, 53, 54, 55, 56, 57, 58, 59] (by decide +kernel) (by decide +kernel)
set_option maxRecDepth 20000 in
theorem gX10_ideal_X3_idealTime : GoodIn wsX10_ideal (wsV RX10 287 RX3 yX3_idealTime wsX3_idealTime) := goodIn_app (goodIn_of _ (by decide +kernel)) ggX10_ideal_X3_idealTime
theorem dX10_ideal_0 : decode cX10_ideal 0 = .ok (.aload_n 0, 1) := by decide +kernel
theorem dX10_ideal_1 : decode cX10_ideal 1 = .ok (.getfield 10, 3) := by decide +kernel
theorem dX10_ideal_4 : decode cX10_ideal 4 = .ok (.iload_n 1, 1) := by decide +kernel
theorem dX10_ideal_5 : decode cX10_ideal 5 = .ok (.invokevirtual 74, 3) := by decide +kernel
theorem dX10_ideal_8 : decode cX10_ideal 8 = .ok (.astore 5, 2) := by decide +kernel
theorem dX10_ideal_10 : decode cX10_ideal 10 = .ok (.aload 5, 2) := by decide +kernel
theorem dX10_ideal_12 : decode cX10_ideal 12 = .ok (.ifnonnull 6, 3) := by decide +kernel
theorem dX10_ideal_15 : decode cX10_ideal 15 = .ok (.ldc 78, 2) := by decide +kernel
theorem dX10_ideal_17 : decode cX10_ideal 17 = .ok (.ireturn, 1) := by decide +kernel
theorem dX10_ideal_18 : decode cX10_ideal 18 = .ok (.iload_n 2, 1) := by decide +kernel
theorem dX10_ideal_19 : decode cX10_ideal 19 = .ok (.sipush 300, 3) := by decide +kernel
theorem dX10_ideal_22 : decode cX10_ideal 22 = .ok (.sipush 3000, 3) := by decide +kernel
theorem dX10_ideal_25 : decode cX10_ideal 25 = .ok (.invokestatic 50, 3) := by decide +kernel
theorem dX10_ideal_28 : decode cX10_ideal 28 = .ok (.ifCond .eq 16, 3) := by decide +kernel
theorem dX10_ideal_31 : decode cX10_ideal 31 = .ok (.iload_n 3, 1) := by decide +kernel
theorem dX10_ideal_32 : decode cX10_ideal 32 = .ok (.sipush (-20000), 3) := by decide +kernel
theorem dX10_ideal_35 : decode cX10_ideal 35 = .ok (.sipush 20000, 3) := by decide +kernel
theorem dX10_ideal_38 : decode cX10_ideal 38 = .ok (.invokestatic 50, 3) := by decide +kernel
theorem dX10_ideal_41 : decode cX10_ideal 41 = .ok (.ifCond .ne 6, 3) := by decide +kernel
theorem dX10_ideal_44 : decode cX10_ideal 44 = .ok (.ldc 54, 2) := by decide +kernel
theorem dX10_ideal_46 : decode cX10_ideal 46 = .ok (.ireturn, 1) := by decide +kernel
theorem dX10_ideal_47 : decode cX10_ideal 47 = .ok (.aload 5, 2) := by decide +kernel
theorem dX10_ideal_49 : decode cX10_ideal 49 = .ok (.iload_n 2, 1) := by decide +kernel
theorem dX10_ideal_50 : decode cX10_ideal 50 = .ok (.iload 4, 2) := by decide +kernel
theorem dX10_ideal_52 : decode cX10_ideal 52 = .ok (.ifCond .eq 8, 3) := by decide +kernel
theorem dX10_ideal_55 : decode cX10_ideal 55 = .ok (.iload_n 3, 1) := by decide +kernel
theorem dX10_ideal_56 : decode cX10_ideal 56 = .ok (.ineg, 1) := by decide +kernel
theorem dX10_ideal_57 : decode cX10_ideal 57 = .ok (.goto 4, 3) := by decide +kernel
theorem dX10_ideal_60 : decode cX10_ideal 60 = .ok (.iload_n 3, 1) := by decide +kernel
theorem dX10_ideal_61 : decode cX10_ideal 61 = .ok (.invokevirtual 287, 3) := by decide +kernel
theorem dX10_ideal_64 : decode cX10_ideal 64 = .ok (.ireturn, 1) := by decide +kernel
set_option maxRecDepth 20000 in
theorem ggX10_wouldBe_X2_judge : GoodIn wsX10_wouldBe wsX2_judge := goodIn_r _ [11, 12, 13, 14, 15, 16, 17, 10, 18, 19, 20, 21, 22, 23, 24, 25, 26, 27, 28, 29, 30, 31, 32, 33, 34, 35, 36, 37, 38, 39, 40, 41, 42, 43, 44, 45, 46, 47, 48, 49, 50, 51, 52, 53, 54, 55, 56, 57, 58, 59, 60, 61, 62, 63, 64, 65, 66, 67, 68, 69, 70, 71, 72, 73, 74, 75, 76, 77, 78, 79, 80, 81, 82, 83, 84, 85, 86, 87, 88, 89, 90, 91, 92, 93, 94, 95, 96, 97, 98, 99, 100, 101, 102, 103, 104, 105, 106, 107, 108, 109, 110, 111, 112, 113, 114, 132, 133, 134, 135, 136, 137, 138, 139, 140, 141, 142, 122, 123, 124, 125, 126, 127, 128, 129, 130, 131, 143, 144, 145, 146, 147, 148, 149, 150, 151, 152, 153, 154, 155, 156, 157, 158, 159, 160, 161, 162, 163, 164, 165] (by decide +kernel) (by decide +kernel)
set_option maxRecDepth 20000 in
theorem gX10_wouldBe_X2_judge : GoodIn wsX10_wouldBe (wsV RX10 290 RX2 yX2_judge wsX2_judge) := goodIn_app (goodIn_of _ (by decide +kernel)) ggX10_wouldBe_X2_judge
theorem dX10_wouldBe_0 : decode cX10_wouldBe 0 = .ok (.aload_n 0, 1) := by decide +kernel
theorem dX10_wouldBe_1 : decode cX10_wouldBe 1 = .ok (.getfield 10, 3) := by decide +kernel
theorem dX10_wouldBe_4 : decode cX10_wouldBe 4 = .ok (.getfield 55, 3) := by decide +kernel
theorem dX10_wouldBe_7 : decode cX10_wouldBe 7 = .ok (.ifCond .ne 6, 3) := by decide +kernel
theorem dX10_wouldBe_10 : decode cX10_wouldBe 10 = .ok (.ldc 100, 2) := by decide +kernel
theorem dX10_wouldBe_12 : decode cX10_wouldBe 12 = .ok (.ireturn, 1) := by decide +kernel
theorem dX10_wouldBe_13 : decode cX10_wouldBe 13 = .ok (.aload_n 0, 1) := by decide +kernel
theorem dX10_wouldBe_14 : decode cX10_wouldBe 14 = .ok (.getfield 46, 3) := by decide +kernel
theorem dX10_wouldBe_17 : decode cX10_wouldBe 17 = .ok (.aload_n 0, 1) := by decide +kernel
theorem dX10_wouldBe_18 : decode cX10_wouldBe 18 = .ok (.getfield 10, 3) := by decide +kernel
theorem dX10_wouldBe_21 : decode cX10_wouldBe 21 = .ok (.aload_n 0, 1) := by decide +kernel
theorem dX10_wouldBe_22 : decode cX10_wouldBe 22 = .ok (.getfield 10, 3) := by decide +kernel
theorem dX10_wouldBe_25 : decode cX10_wouldBe 25 = .ok (.getfield 111, 3) := by decide +kernel
theorem dX10_wouldBe_28 : decode cX10_wouldBe 28 = .ok (.iconst 1, 1) := by decide +kernel
theorem dX10_wouldBe_29 : decode cX10_wouldBe 29 = .ok (.iaload, 1) := by decide +kernel
theorem dX10_wouldBe_30 : decode cX10_wouldBe 30 = .ok (.invokevirtual 290, 3) := by decide +kernel
theorem dX10_wouldBe_33 : decode cX10_wouldBe 33 = .ok (.aload_n 0, 1) := by decide +kernel
theorem dX10_wouldBe_34 : decode cX10_wouldBe 34 = .ok (.getfield 46, 3) := by decide +kernel
theorem dX10_wouldBe_37 : decode cX10_wouldBe 37 = .ok (.getfield 294, 3) := by decide +kernel
theorem dX10_wouldBe_40 : decode cX10_wouldBe 40 = .ok (.ireturn, 1) := by decide +kernel
set_option maxRecDepth 20000 in
theorem ggX10_wouldBecome_X8_pathAt : GoodIn wsX10_wouldBecome wsX8_pathAt := goodIn_r _ [9, 10, 11, 131, 132, 133, 134, 135, 136, 137, 138, 139, 140] (by decide +kernel) (by decide +kernel)
set_option maxRecDepth 20000 in
theorem gX10_wouldBecome_X8_pathAt : GoodIn wsX10_wouldBecome (wsV RX10 74 RX8 yX8_pathAt wsX8_pathAt) := goodIn_app (goodIn_of _ (by decide +kernel)) ggX10_wouldBecome_X8_pathAt
set_option maxRecDepth 20000 in
theorem ggX10_wouldBecome_X2_judge : GoodIn wsX10_wouldBecome wsX2_judge := goodIn_r _ [16, 17, 18, 19, 20, 21, 22, 15, 23, 24, 25, 26, 27, 28, 29, 30, 31, 32, 33, 34, 35, 36, 37, 38, 39, 40, 41, 42, 43, 44, 45, 46, 47, 48, 49, 50, 51, 52, 53, 54, 55, 56, 57, 58, 59, 60, 61, 62, 63, 64, 65, 66, 67, 68, 69, 70, 71, 72, 73, 74, 75, 76, 77, 78, 79, 80, 81, 82, 83, 84, 85, 86, 87, 88, 89, 90, 91, 92, 93, 94, 95, 96, 97, 98, 99, 100, 101, 102, 103, 104, 105, 106, 107, 108, 109, 110, 111, 112, 113, 114, 115, 116, 117, 118, 119, 141, 142, 143, 144, 145, 146, 147, 148, 149, 150, 151, 131, 132, 133, 134, 135, 136, 137, 138, 139, 140, 152, 153, 154, 155, 156, 157, 158, 159, 160, 161, 162, 163, 164, 165, 166, 167, 168, 169, 170, 171, 172, 173, 174] (by decide +kernel) (by decide +kernel)
set_option maxRecDepth 20000 in
theorem gX10_wouldBecome_X2_judge : GoodIn wsX10_wouldBecome (wsV RX10 290 RX2 yX2_judge wsX2_judge) := goodIn_app (goodIn_of _ (by decide +kernel)) ggX10_wouldBecome_X2_judge
set_option maxRecDepth 20000 in
theorem ggX10_wouldBecome_X2_outcomeOf : GoodIn wsX10_wouldBecome wsX2_outcomeOf := goodIn_r _ [123, 70, 141, 142, 143, 144, 145, 146, 147, 148, 149, 150, 151] (by decide +kernel) (by decide +kernel)
set_option maxRecDepth 20000 in
theorem gX10_wouldBecome_X2_outcomeOf : GoodIn wsX10_wouldBecome (wsV RX10 295 RX2 yX2_outcomeOf wsX2_outcomeOf) := goodIn_app (goodIn_of _ (by decide +kernel)) ggX10_wouldBecome_X2_outcomeOf
theorem dX10_wouldBecome_0 : decode cX10_wouldBecome 0 = .ok (.aload_n 0, 1) := by decide +kernel
theorem dX10_wouldBecome_1 : decode cX10_wouldBecome 1 = .ok (.getfield 10, 3) := by decide +kernel
theorem dX10_wouldBecome_4 : decode cX10_wouldBecome 4 = .ok (.iload_n 1, 1) := by decide +kernel
theorem dX10_wouldBecome_5 : decode cX10_wouldBecome 5 = .ok (.invokevirtual 74, 3) := by decide +kernel
theorem dX10_wouldBecome_8 : decode cX10_wouldBecome 8 = .ok (.ifnonnull 6, 3) := by decide +kernel
theorem dX10_wouldBecome_11 : decode cX10_wouldBecome 11 = .ok (.ldc 78, 2) := by decide +kernel
theorem dX10_wouldBecome_13 : decode cX10_wouldBecome 13 = .ok (.ireturn, 1) := by decide +kernel
theorem dX10_wouldBecome_14 : decode cX10_wouldBecome 14 = .ok (.aload_n 0, 1) := by decide +kernel
theorem dX10_wouldBecome_15 : decode cX10_wouldBecome 15 = .ok (.getfield 46, 3) := by decide +kernel
theorem dX10_wouldBecome_18 : decode cX10_wouldBecome 18 = .ok (.aload_n 0, 1) := by decide +kernel
theorem dX10_wouldBecome_19 : decode cX10_wouldBecome 19 = .ok (.getfield 10, 3) := by decide +kernel
theorem dX10_wouldBecome_22 : decode cX10_wouldBecome 22 = .ok (.aload_n 0, 1) := by decide +kernel
theorem dX10_wouldBecome_23 : decode cX10_wouldBecome 23 = .ok (.getfield 10, 3) := by decide +kernel
theorem dX10_wouldBecome_26 : decode cX10_wouldBecome 26 = .ok (.getfield 111, 3) := by decide +kernel
theorem dX10_wouldBecome_29 : decode cX10_wouldBecome 29 = .ok (.iconst 1, 1) := by decide +kernel
theorem dX10_wouldBecome_30 : decode cX10_wouldBecome 30 = .ok (.iaload, 1) := by decide +kernel
theorem dX10_wouldBecome_31 : decode cX10_wouldBecome 31 = .ok (.invokevirtual 290, 3) := by decide +kernel
theorem dX10_wouldBecome_34 : decode cX10_wouldBecome 34 = .ok (.aload_n 0, 1) := by decide +kernel
theorem dX10_wouldBecome_35 : decode cX10_wouldBecome 35 = .ok (.getfield 46, 3) := by decide +kernel
theorem dX10_wouldBecome_38 : decode cX10_wouldBecome 38 = .ok (.iload_n 1, 1) := by decide +kernel
theorem dX10_wouldBecome_39 : decode cX10_wouldBecome 39 = .ok (.invokevirtual 295, 3) := by decide +kernel
theorem dX10_wouldBecome_42 : decode cX10_wouldBecome 42 = .ok (.ireturn, 1) := by decide +kernel
set_option maxRecDepth 20000 in
theorem ggX10_skipsNeeded_X2_judge : GoodIn wsX10_skipsNeeded wsX2_judge := goodIn_r _ [8, 9, 10, 11, 12, 13, 14, 7, 15, 16, 17, 18, 19, 20, 21, 22, 23, 24, 25, 26, 27, 28, 29, 30, 31, 32, 33, 34, 35, 36, 37, 38, 39, 40, 41, 42, 43, 44, 45, 46, 47, 48, 49, 50, 51, 52, 53, 54, 55, 56, 57, 58, 59, 60, 61, 62, 63, 64, 65, 66, 67, 68, 69, 70, 71, 72, 73, 74, 75, 76, 77, 78, 79, 80, 81, 82, 83, 84, 85, 86, 87, 88, 89, 90, 91, 92, 93, 94, 95, 96, 97, 98, 99, 100, 101, 102, 103, 104, 105, 106, 107, 108, 109, 110, 111, 123, 124, 125, 126, 127, 128, 129, 130, 131, 132, 133, 134, 135, 136, 137, 138, 139, 140, 141, 142, 143, 144, 145, 146, 147, 148, 149, 150, 151, 152, 153, 154, 155, 156, 157, 158, 159, 160, 161, 162, 163, 164, 165, 166] (by decide +kernel) (by decide +kernel)
set_option maxRecDepth 20000 in
theorem gX10_skipsNeeded_X2_judge : GoodIn wsX10_skipsNeeded (wsV RX10 290 RX2 yX2_judge wsX2_judge) := goodIn_app (goodIn_of _ (by decide +kernel)) ggX10_skipsNeeded_X2_judge
set_option maxRecDepth 20000 in
theorem ggX10_skipsNeeded_X2_hasOutlier : GoodIn wsX10_skipsNeeded wsX2_hasOutlier := goodIn_r _ [115, 62, 123, 124, 125, 126, 127, 128, 129, 130, 131, 132, 133] (by decide +kernel) (by decide +kernel)
set_option maxRecDepth 20000 in
theorem gX10_skipsNeeded_X2_hasOutlier : GoodIn wsX10_skipsNeeded (wsV RX10 298 RX2 yX2_hasOutlier wsX2_hasOutlier) := goodIn_app (goodIn_of _ (by decide +kernel)) ggX10_skipsNeeded_X2_hasOutlier
theorem dX10_skipsNeeded_0 : decode cX10_skipsNeeded 0 = .ok (.iconst 0, 1) := by decide +kernel
theorem dX10_skipsNeeded_1 : decode cX10_skipsNeeded 1 = .ok (.istore_n 1, 1) := by decide +kernel
theorem dX10_skipsNeeded_2 : decode cX10_skipsNeeded 2 = .ok (.iload_n 1, 1) := by decide +kernel
theorem dX10_skipsNeeded_3 : decode cX10_skipsNeeded 3 = .ok (.iconst 5, 1) := by decide +kernel
theorem dX10_skipsNeeded_4 : decode cX10_skipsNeeded 4 = .ok (.if_icmp .gt 33, 3) := by decide +kernel
theorem dX10_skipsNeeded_7 : decode cX10_skipsNeeded 7 = .ok (.aload_n 0, 1) := by decide +kernel
theorem dX10_skipsNeeded_8 : decode cX10_skipsNeeded 8 = .ok (.getfield 46, 3) := by decide +kernel
theorem dX10_skipsNeeded_11 : decode cX10_skipsNeeded 11 = .ok (.aload_n 0, 1) := by decide +kernel
theorem dX10_skipsNeeded_12 : decode cX10_skipsNeeded 12 = .ok (.getfield 10, 3) := by decide +kernel
theorem dX10_skipsNeeded_15 : decode cX10_skipsNeeded 15 = .ok (.iload_n 1, 1) := by decide +kernel
theorem dX10_skipsNeeded_16 : decode cX10_skipsNeeded 16 = .ok (.invokevirtual 290, 3) := by decide +kernel
theorem dX10_skipsNeeded_19 : decode cX10_skipsNeeded 19 = .ok (.aload_n 0, 1) := by decide +kernel
theorem dX10_skipsNeeded_20 : decode cX10_skipsNeeded 20 = .ok (.getfield 46, 3) := by decide +kernel
theorem dX10_skipsNeeded_23 : decode cX10_skipsNeeded 23 = .ok (.invokevirtual 298, 3) := by decide +kernel
theorem dX10_skipsNeeded_26 : decode cX10_skipsNeeded 26 = .ok (.ifCond .ne 5, 3) := by decide +kernel
theorem dX10_skipsNeeded_29 : decode cX10_skipsNeeded 29 = .ok (.iload_n 1, 1) := by decide +kernel
theorem dX10_skipsNeeded_30 : decode cX10_skipsNeeded 30 = .ok (.ireturn, 1) := by decide +kernel
theorem dX10_skipsNeeded_31 : decode cX10_skipsNeeded 31 = .ok (.iinc 1 1, 3) := by decide +kernel
theorem dX10_skipsNeeded_34 : decode cX10_skipsNeeded 34 = .ok (.goto (-32), 3) := by decide +kernel
theorem dX10_skipsNeeded_37 : decode cX10_skipsNeeded 37 = .ok (.ldc 162, 2) := by decide +kernel
theorem dX10_skipsNeeded_39 : decode cX10_skipsNeeded 39 = .ok (.ireturn, 1) := by decide +kernel
set_option maxRecDepth 20000 in
theorem ggX10_shotFault_X8_pathAt : GoodIn wsX10_shotFault wsX8_pathAt := goodIn_r _ [8, 9, 10, 33, 34, 35, 36, 37, 38, 39, 40, 41, 42] (by decide +kernel) (by decide +kernel)
set_option maxRecDepth 20000 in
theorem gX10_shotFault_X8_pathAt : GoodIn wsX10_shotFault (wsV RX10 74 RX8 yX8_pathAt wsX8_pathAt) := goodIn_app (goodIn_of _ (by decide +kernel)) ggX10_shotFault_X8_pathAt
set_option maxRecDepth 20000 in
theorem ggX10_shotFault_X3_canTake : GoodIn wsX10_shotFault wsX3_canTake := goodIn_r _ [15, 16, 17, 18, 19, 20, 21, 22, 14, 23, 24, 43, 44, 45, 46, 47, 48, 49, 50, 51, 52, 53, 54, 55, 56, 57, 58] (by decide +kernel) (by decide +kernel)
set_option maxRecDepth 20000 in
theorem gX10_shotFault_X3_canTake : GoodIn wsX10_shotFault (wsV RX10 280 RX3 yX3_canTake wsX3_canTake) := goodIn_app (goodIn_of _ (by decide +kernel)) ggX10_shotFault_X3_canTake
set_option maxRecDepth 20000 in
theorem ggX10_shotFault_X10_isWithin : GoodIn wsX10_shotFault wsX10_isWithin := goodIn_r _ [19] (by decide +kernel) (by decide +kernel)
set_option maxRecDepth 20000 in
theorem gX10_shotFault_X10_isWithin : GoodIn wsX10_shotFault (va_wsS RX10 50 yX10_isWithin wsX10_isWithin) := goodIn_app (goodIn_of _ (by decide +kernel)) ggX10_shotFault_X10_isWithin
theorem dX10_shotFault_0 : decode cX10_shotFault 0 = .ok (.aload_n 0, 1) := by decide +kernel
theorem dX10_shotFault_1 : decode cX10_shotFault 1 = .ok (.getfield 10, 3) := by decide +kernel
theorem dX10_shotFault_4 : decode cX10_shotFault 4 = .ok (.iload_n 1, 1) := by decide +kernel
theorem dX10_shotFault_5 : decode cX10_shotFault 5 = .ok (.invokevirtual 74, 3) := by decide +kernel
theorem dX10_shotFault_8 : decode cX10_shotFault 8 = .ok (.astore 5, 2) := by decide +kernel
theorem dX10_shotFault_10 : decode cX10_shotFault 10 = .ok (.aload 5, 2) := by decide +kernel
theorem dX10_shotFault_12 : decode cX10_shotFault 12 = .ok (.ifnonnull 6, 3) := by decide +kernel
theorem dX10_shotFault_15 : decode cX10_shotFault 15 = .ok (.ldc 78, 2) := by decide +kernel
theorem dX10_shotFault_17 : decode cX10_shotFault 17 = .ok (.ireturn, 1) := by decide +kernel
theorem dX10_shotFault_18 : decode cX10_shotFault 18 = .ok (.aload 5, 2) := by decide +kernel
theorem dX10_shotFault_20 : decode cX10_shotFault 20 = .ok (.iload_n 2, 1) := by decide +kernel
theorem dX10_shotFault_21 : decode cX10_shotFault 21 = .ok (.invokevirtual 280, 3) := by decide +kernel
theorem dX10_shotFault_24 : decode cX10_shotFault 24 = .ok (.ifCond .eq 27, 3) := by decide +kernel
theorem dX10_shotFault_27 : decode cX10_shotFault 27 = .ok (.aload 5, 2) := by decide +kernel
theorem dX10_shotFault_29 : decode cX10_shotFault 29 = .ok (.iload_n 3, 1) := by decide +kernel
theorem dX10_shotFault_30 : decode cX10_shotFault 30 = .ok (.invokevirtual 280, 3) := by decide +kernel
theorem dX10_shotFault_33 : decode cX10_shotFault 33 = .ok (.ifCond .eq 18, 3) := by decide +kernel
theorem dX10_shotFault_36 : decode cX10_shotFault 36 = .ok (.iload 4, 2) := by decide +kernel
theorem dX10_shotFault_38 : decode cX10_shotFault 38 = .ok (.iconst 0, 1) := by decide +kernel
theorem dX10_shotFault_39 : decode cX10_shotFault 39 = .ok (.bipush 100, 2) := by decide +kernel
theorem dX10_shotFault_41 : decode cX10_shotFault 41 = .ok (.invokestatic 50, 3) := by decide +kernel
theorem dX10_shotFault_44 : decode cX10_shotFault 44 = .ok (.ifCond .eq 7, 3) := by decide +kernel
theorem dX10_shotFault_47 : decode cX10_shotFault 47 = .ok (.iconst 1, 1) := by decide +kernel
theorem dX10_shotFault_48 : decode cX10_shotFault 48 = .ok (.goto 4, 3) := by decide +kernel
theorem dX10_shotFault_51 : decode cX10_shotFault 51 = .ok (.iconst 0, 1) := by decide +kernel
theorem dX10_shotFault_52 : decode cX10_shotFault 52 = .ok (.istore 6, 2) := by decide +kernel
theorem dX10_shotFault_54 : decode cX10_shotFault 54 = .ok (.iload 6, 2) := by decide +kernel
theorem dX10_shotFault_56 : decode cX10_shotFault 56 = .ok (.ifCond .eq 7, 3) := by decide +kernel
theorem dX10_shotFault_59 : decode cX10_shotFault 59 = .ok (.iconst 0, 1) := by decide +kernel
theorem dX10_shotFault_60 : decode cX10_shotFault 60 = .ok (.goto 5, 3) := by decide +kernel
theorem dX10_shotFault_63 : decode cX10_shotFault 63 = .ok (.ldc 54, 2) := by decide +kernel
theorem dX10_shotFault_65 : decode cX10_shotFault 65 = .ok (.ireturn, 1) := by decide +kernel
set_option maxRecDepth 20000 in
theorem ggX10_takeShot_X10_shotFault : GoodIn wsX10_takeShot wsX10_shotFault := goodIn_r _ [6, 1, 7, 8, 9, 10, 11, 12, 13, 14, 15, 16, 17, 18, 19, 20, 21, 22, 5, 23, 24, 25, 26, 27, 28, 29, 47, 48, 49, 50, 51, 52, 53, 54, 55, 56, 57, 58, 59, 60, 61, 62, 63, 64, 65, 66, 67, 68, 69, 70, 71, 72, 73, 74, 75, 76, 77, 78, 79] (by decide +kernel) (by decide +kernel)
set_option maxRecDepth 20000 in
theorem gX10_takeShot_X10_shotFault : GoodIn wsX10_takeShot (wsV RX10 114 RX10 yX10_shotFault wsX10_shotFault) := goodIn_app (goodIn_of _ (by decide +kernel)) ggX10_takeShot_X10_shotFault
set_option maxRecDepth 20000 in
theorem ggX10_takeShot_X8_tellShot : GoodIn wsX10_takeShot wsX8_tellShot := goodIn_r _ [33, 34, 35, 36, 37, 38, 39, 40, 10, 11, 12, 13, 14, 15, 64, 65, 66, 67, 68, 69, 70, 71, 72, 73, 74, 75, 76, 77, 78, 79, 80, 81, 82, 83, 54, 55, 56, 57, 58, 59, 60, 61, 62, 63] (by decide +kernel) (by decide +kernel)
set_option maxRecDepth 20000 in
theorem gX10_takeShot_X8_tellShot : GoodIn wsX10_takeShot (wsV RX10 301 RX8 yX8_tellShot wsX8_tellShot) := goodIn_app (goodIn_of _ (by decide +kernel)) ggX10_takeShot_X8_tellShot
set_option maxRecDepth 20000 in
theorem ggX10_takeShot_X8_toldShots : GoodIn wsX10_takeShot wsX8_toldShots := goodIn_r _ [44, 15, 34, 35, 45, 5, 46, 54, 55, 56, 57, 58, 59, 60, 61, 62, 63, 64, 65, 66, 67, 68, 69, 70, 71, 72, 73, 74, 75, 76, 77, 78, 79, 80, 81, 82, 83] (by decide +kernel) (by decide +kernel)
set_option maxRecDepth 20000 in
theorem gX10_takeShot_X8_toldShots : GoodIn wsX10_takeShot (wsV RX10 267 RX8 yX8_toldShots wsX8_toldShots) := goodIn_app (goodIn_of _ (by decide +kernel)) ggX10_takeShot_X8_toldShots
theorem dX10_takeShot_0 : decode cX10_takeShot 0 = .ok (.aload_n 0, 1) := by decide +kernel
theorem dX10_takeShot_1 : decode cX10_takeShot 1 = .ok (.iload_n 1, 1) := by decide +kernel
theorem dX10_takeShot_2 : decode cX10_takeShot 2 = .ok (.iload_n 2, 1) := by decide +kernel
theorem dX10_takeShot_3 : decode cX10_takeShot 3 = .ok (.iload_n 3, 1) := by decide +kernel
theorem dX10_takeShot_4 : decode cX10_takeShot 4 = .ok (.iload 4, 2) := by decide +kernel
theorem dX10_takeShot_6 : decode cX10_takeShot 6 = .ok (.invokevirtual 114, 3) := by decide +kernel
theorem dX10_takeShot_9 : decode cX10_takeShot 9 = .ok (.istore 5, 2) := by decide +kernel
theorem dX10_takeShot_11 : decode cX10_takeShot 11 = .ok (.iload 5, 2) := by decide +kernel
theorem dX10_takeShot_13 : decode cX10_takeShot 13 = .ok (.ifCond .eq 6, 3) := by decide +kernel
theorem dX10_takeShot_16 : decode cX10_takeShot 16 = .ok (.iload 5, 2) := by decide +kernel
theorem dX10_takeShot_18 : decode cX10_takeShot 18 = .ok (.ireturn, 1) := by decide +kernel
theorem dX10_takeShot_19 : decode cX10_takeShot 19 = .ok (.aload_n 0, 1) := by decide +kernel
theorem dX10_takeShot_20 : decode cX10_takeShot 20 = .ok (.getfield 10, 3) := by decide +kernel
theorem dX10_takeShot_23 : decode cX10_takeShot 23 = .ok (.iload_n 1, 1) := by decide +kernel
theorem dX10_takeShot_24 : decode cX10_takeShot 24 = .ok (.iload_n 2, 1) := by decide +kernel
theorem dX10_takeShot_25 : decode cX10_takeShot 25 = .ok (.iload_n 3, 1) := by decide +kernel
theorem dX10_takeShot_26 : decode cX10_takeShot 26 = .ok (.iload 4, 2) := by decide +kernel
theorem dX10_takeShot_28 : decode cX10_takeShot 28 = .ok (.invokevirtual 301, 3) := by decide +kernel
theorem dX10_takeShot_31 : decode cX10_takeShot 31 = .ok (.aload_n 0, 1) := by decide +kernel
theorem dX10_takeShot_32 : decode cX10_takeShot 32 = .ok (.getfield 10, 3) := by decide +kernel
theorem dX10_takeShot_35 : decode cX10_takeShot 35 = .ok (.invokevirtual 267, 3) := by decide +kernel
theorem dX10_takeShot_38 : decode cX10_takeShot 38 = .ok (.ireturn, 1) := by decide +kernel
set_option maxRecDepth 20000 in
theorem ggX10_closeRound_X2_judge : GoodIn wsX10_closeRound wsX2_judge := goodIn_r _ [11, 12, 13, 14, 15, 16, 17, 10, 18, 19, 20, 21, 22, 23, 24, 25, 26, 27, 28, 29, 30, 31, 32, 33, 34, 35, 36, 37, 38, 39, 40, 41, 42, 43, 44, 45, 46, 47, 48, 49, 50, 51, 52, 53, 54, 55, 56, 57, 58, 59, 60, 61, 62, 63, 64, 65, 66, 67, 68, 69, 70, 71, 72, 73, 74, 75, 76, 77, 78, 79, 80, 81, 82, 83, 84, 85, 86, 87, 88, 89, 90, 91, 92, 93, 94, 95, 96, 97, 98, 99, 100, 101, 102, 103, 104, 105, 106, 107, 108, 109, 110, 111, 112, 113, 114, 180, 181, 182, 183, 184, 185, 186, 187, 188, 189, 190, 170, 171, 172, 173, 174, 175, 176, 177, 178, 179, 191, 192, 193, 194, 195, 196, 197, 198, 199, 200, 201, 202, 203, 204, 205, 206, 207, 208, 209, 210, 211, 212, 213] (by decide +kernel) (by decide +kernel)
set_option maxRecDepth 20000 in
theorem gX10_closeRound_X2_judge : GoodIn wsX10_closeRound (wsV RX10 290 RX2 yX2_judge wsX2_judge) := goodIn_app (goodIn_of _ (by decide +kernel)) ggX10_closeRound_X2_judge
set_option maxRecDepth 20000 in
theorem ggX10_closeRound_X2_settle : GoodIn wsX10_closeRound wsX2_settle := goodIn_r _ [118, 119, 19, 20, 22, 120, 121, 57, 122, 91, 123, 124, 125, 10, 126, 65, 127, 63, 128, 129, 130, 131, 25, 26, 12, 28, 27, 29, 13, 30, 90, 104, 93, 105, 132, 32, 133, 98, 99, 81, 82, 83, 84, 134, 135, 136, 137, 138, 139, 140, 141, 142, 36, 143, 144, 145, 146, 147, 148, 149, 150, 58, 151, 89, 152, 14, 153, 154, 155, 156, 157, 158, 159, 160, 161, 162, 170, 171, 172, 173, 174, 175, 176, 177, 178, 179, 191, 192, 193, 194, 195, 196, 197, 198, 199, 200, 201, 202, 203, 204, 205, 206, 207, 208, 209, 210, 180, 181, 182, 183, 184, 185, 186, 187, 188, 189, 190, 214, 215, 216, 217, 218, 219, 220, 221] (by decide +kernel) (by decide +kernel)
set_option maxRecDepth 20000 in
theorem gX10_closeRound_X2_settle : GoodIn wsX10_closeRound (wsV RX10 305 RX2 yX2_settle wsX2_settle) := goodIn_app (goodIn_of _ (by decide +kernel)) ggX10_closeRound_X2_settle
theorem dX10_closeRound_0 : decode cX10_closeRound 0 = .ok (.aload_n 0, 1) := by decide +kernel
theorem dX10_closeRound_1 : decode cX10_closeRound 1 = .ok (.getfield 10, 3) := by decide +kernel
theorem dX10_closeRound_4 : decode cX10_closeRound 4 = .ok (.getfield 55, 3) := by decide +kernel
theorem dX10_closeRound_7 : decode cX10_closeRound 7 = .ok (.ifCond .ne 6, 3) := by decide +kernel
theorem dX10_closeRound_10 : decode cX10_closeRound 10 = .ok (.ldc 100, 2) := by decide +kernel
theorem dX10_closeRound_12 : decode cX10_closeRound 12 = .ok (.ireturn, 1) := by decide +kernel
theorem dX10_closeRound_13 : decode cX10_closeRound 13 = .ok (.aload_n 0, 1) := by decide +kernel
theorem dX10_closeRound_14 : decode cX10_closeRound 14 = .ok (.getfield 46, 3) := by decide +kernel
theorem dX10_closeRound_17 : decode cX10_closeRound 17 = .ok (.aload_n 0, 1) := by decide +kernel
theorem dX10_closeRound_18 : decode cX10_closeRound 18 = .ok (.getfield 10, 3) := by decide +kernel
theorem dX10_closeRound_21 : decode cX10_closeRound 21 = .ok (.aload_n 0, 1) := by decide +kernel
theorem dX10_closeRound_22 : decode cX10_closeRound 22 = .ok (.getfield 10, 3) := by decide +kernel
theorem dX10_closeRound_25 : decode cX10_closeRound 25 = .ok (.getfield 111, 3) := by decide +kernel
theorem dX10_closeRound_28 : decode cX10_closeRound 28 = .ok (.iconst 1, 1) := by decide +kernel
theorem dX10_closeRound_29 : decode cX10_closeRound 29 = .ok (.iaload, 1) := by decide +kernel
theorem dX10_closeRound_30 : decode cX10_closeRound 30 = .ok (.invokevirtual 290, 3) := by decide +kernel
theorem dX10_closeRound_33 : decode cX10_closeRound 33 = .ok (.aload_n 0, 1) := by decide +kernel
theorem dX10_closeRound_34 : decode cX10_closeRound 34 = .ok (.getfield 46, 3) := by decide +kernel
theorem dX10_closeRound_37 : decode cX10_closeRound 37 = .ok (.aload_n 0, 1) := by decide +kernel
theorem dX10_closeRound_38 : decode cX10_closeRound 38 = .ok (.getfield 10, 3) := by decide +kernel
theorem dX10_closeRound_41 : decode cX10_closeRound 41 = .ok (.invokevirtual 305, 3) := by decide +kernel
theorem dX10_closeRound_44 : decode cX10_closeRound 44 = .ok (.aload_n 0, 1) := by decide +kernel
theorem dX10_closeRound_45 : decode cX10_closeRound 45 = .ok (.getfield 46, 3) := by decide +kernel
theorem dX10_closeRound_48 : decode cX10_closeRound 48 = .ok (.getfield 294, 3) := by decide +kernel
theorem dX10_closeRound_51 : decode cX10_closeRound 51 = .ok (.ireturn, 1) := by decide +kernel
set_option maxRecDepth 20000 in
theorem ggX10_swapTransducers_X8_exchangeTimes : GoodIn wsX10_swapTransducers wsX8_exchangeTimes := goodIn_r _ [7, 8, 9, 10, 11, 12, 13, 14, 15, 16, 17, 18, 19, 20, 21, 22, 23, 35, 36, 37, 38, 39, 40, 41, 42, 43, 44, 45, 46, 47, 48, 49, 50, 51, 52, 53, 54, 55, 56, 57, 58, 59, 60, 61, 62, 63, 64] (by decide +kernel) (by decide +kernel)
set_option maxRecDepth 20000 in
theorem gX10_swapTransducers_X8_exchangeTimes : GoodIn wsX10_swapTransducers (wsV RX10 308 RX8 yX8_exchangeTimes wsX8_exchangeTimes) := goodIn_app (goodIn_of _ (by decide +kernel)) ggX10_swapTransducers_X8_exchangeTimes
set_option maxRecDepth 20000 in
theorem ggX10_swapTransducers_X10_asNumber : GoodIn wsX10_swapTransducers wsX10_asNumber := goodIn_r _ [27] (by decide +kernel) (by decide +kernel)
set_option maxRecDepth 20000 in
theorem gX10_swapTransducers_X10_asNumber : GoodIn wsX10_swapTransducers (va_wsS RX10 132 yX10_asNumber wsX10_asNumber) := goodIn_app (goodIn_of _ (by decide +kernel)) ggX10_swapTransducers_X10_asNumber
theorem dX10_swapTransducers_0 : decode cX10_swapTransducers 0 = .ok (.aload_n 0, 1) := by decide +kernel
theorem dX10_swapTransducers_1 : decode cX10_swapTransducers 1 = .ok (.getfield 10, 3) := by decide +kernel
theorem dX10_swapTransducers_4 : decode cX10_swapTransducers 4 = .ok (.invokevirtual 308, 3) := by decide +kernel
theorem dX10_swapTransducers_7 : decode cX10_swapTransducers 7 = .ok (.aload_n 0, 1) := by decide +kernel
theorem dX10_swapTransducers_8 : decode cX10_swapTransducers 8 = .ok (.getfield 10, 3) := by decide +kernel
theorem dX10_swapTransducers_11 : decode cX10_swapTransducers 11 = .ok (.aload_n 0, 1) := by decide +kernel
theorem dX10_swapTransducers_12 : decode cX10_swapTransducers 12 = .ok (.getfield 10, 3) := by decide +kernel
theorem dX10_swapTransducers_15 : decode cX10_swapTransducers 15 = .ok (.getfield 274, 3) := by decide +kernel
theorem dX10_swapTransducers_18 : decode cX10_swapTransducers 18 = .ok (.ifCond .ne 7, 3) := by decide +kernel
theorem dX10_swapTransducers_21 : decode cX10_swapTransducers 21 = .ok (.iconst 1, 1) := by decide +kernel
theorem dX10_swapTransducers_22 : decode cX10_swapTransducers 22 = .ok (.goto 4, 3) := by decide +kernel
theorem dX10_swapTransducers_25 : decode cX10_swapTransducers 25 = .ok (.iconst 0, 1) := by decide +kernel
theorem dX10_swapTransducers_26 : decode cX10_swapTransducers 26 = .ok (.putfield 274, 3) := by decide +kernel
theorem dX10_swapTransducers_29 : decode cX10_swapTransducers 29 = .ok (.aload_n 0, 1) := by decide +kernel
theorem dX10_swapTransducers_30 : decode cX10_swapTransducers 30 = .ok (.getfield 10, 3) := by decide +kernel
theorem dX10_swapTransducers_33 : decode cX10_swapTransducers 33 = .ok (.getfield 274, 3) := by decide +kernel
theorem dX10_swapTransducers_36 : decode cX10_swapTransducers 36 = .ok (.invokestatic 132, 3) := by decide +kernel
theorem dX10_swapTransducers_39 : decode cX10_swapTransducers 39 = .ok (.ireturn, 1) := by decide +kernel
set_option maxRecDepth 20000 in
theorem ggX10_carryOutAct_X10_takeShot : GoodIn wsX10_carryOutAct wsX10_takeShot := goodIn_r _ [11, 12, 13, 14, 15, 10, 16, 17, 18, 19, 20, 21, 22, 23, 24, 25, 26, 27, 28, 29, 30, 31, 32, 33, 34, 35, 36, 37, 38, 39, 40, 41, 42, 43, 44, 45, 46, 47, 48, 49, 50, 51, 52, 53, 54, 55, 56, 237, 238, 239, 240, 241, 242, 243, 252, 253, 254, 255, 256, 257, 258, 259, 260, 261, 262, 263, 264, 265, 266, 267, 268, 269, 270, 271, 272, 273, 274, 275, 276, 277, 278, 279, 280, 281] (by decide +kernel) (by decide +kernel)
set_option maxRecDepth 20000 in
theorem gX10_carryOutAct_X10_takeShot : GoodIn wsX10_carryOutAct (wsV RX10 118 RX10 yX10_takeShot wsX10_takeShot) := goodIn_app (goodIn_of _ (by decide +kernel)) ggX10_carryOutAct_X10_takeShot
set_option maxRecDepth 20000 in
theorem ggX10_carryOutAct_X10_closeRound : GoodIn wsX10_carryOutAct wsX10_closeRound := goodIn_r _ [60, 12, 61, 62, 63, 64, 65, 66, 67, 68, 69, 70, 71, 72, 73, 74, 75, 76, 77, 78, 79, 80, 81, 82, 83, 84, 85, 86, 87, 88, 89, 90, 10, 91, 92, 93, 94, 95, 96, 97, 98, 99, 100, 101, 102, 103, 104, 105, 106, 107, 108, 109, 110, 111, 112, 113, 114, 115, 116, 117, 118, 119, 120, 121, 122, 123, 124, 35, 36, 29, 37, 38, 125, 126, 127, 128, 129, 130, 131, 132, 133, 134, 135, 136, 137, 138, 139, 140, 141, 142, 143, 144, 145, 146, 147, 148, 149, 150, 151, 152, 153, 154, 155, 156, 157, 158, 159, 160, 161, 162, 163, 164, 165, 166, 167, 168, 169, 170, 171, 172, 173, 174, 175, 176, 177, 178, 179, 180, 181, 182, 183, 184, 55, 56, 185, 186, 187, 188, 189, 190, 191, 192, 193, 194, 195, 196, 197, 198, 199, 200, 201, 202, 203, 204, 205, 206, 207, 22, 208, 209, 210, 211, 212, 237, 238, 239, 240, 241, 242, 243, 252, 253, 254, 255, 256, 257, 258, 259, 260, 261, 282, 283, 284, 285, 286, 287, 288, 289, 290, 291, 292, 262, 263, 264, 265, 266, 267, 268, 269, 270, 271, 272, 273, 274, 275, 276, 277, 278, 279, 280, 281, 293, 294, 295, 296, 297, 298, 299, 300, 301, 302, 303] (by decide +kernel) (by decide +kernel)
set_option maxRecDepth 20000 in
theorem gX10_carryOutAct_X10_closeRound : GoodIn wsX10_carryOutAct (wsV RX10 121 RX10 yX10_closeRound wsX10_closeRound) := goodIn_app (goodIn_of _ (by decide +kernel)) ggX10_carryOutAct_X10_closeRound
set_option maxRecDepth 20000 in
theorem ggX10_carryOutAct_X10_swapTransducers : GoodIn wsX10_carryOutAct wsX10_swapTransducers := goodIn_r _ [216, 12, 217, 218, 219, 220, 22, 221, 25, 222, 223, 224, 29, 225, 226, 227, 228, 229, 230, 231, 232, 233, 234, 235, 236, 55, 10, 56, 237, 238, 239, 240, 241, 242, 243, 252, 253, 254, 255, 256, 257, 258, 259, 260, 261, 262, 263, 264, 265, 266, 267, 268, 269, 270, 271, 272, 273, 274, 275, 276, 277, 278, 279, 280, 281] (by decide +kernel) (by decide +kernel)
set_option maxRecDepth 20000 in
theorem gX10_carryOutAct_X10_swapTransducers : GoodIn wsX10_carryOutAct (wsV RX10 125 RX10 yX10_swapTransducers wsX10_swapTransducers) := goodIn_app (goodIn_of _ (by decide +kernel)) ggX10_carryOutAct_X10_swapTransducers
theorem dX10_carryOutAct_0 : decode cX10_carryOutAct 0 = .ok (.aload_n 0, 1) := by decide +kernel
theorem dX10_carryOutAct_1 : decode cX10_carryOutAct 1 = .ok (.getfield 34, 3) := by decide +kernel
theorem dX10_carryOutAct_4 : decode cX10_carryOutAct 4 = .ok (.getfield 311, 3) := by decide +kernel
theorem dX10_carryOutAct_7 : decode cX10_carryOutAct 7 = .ok (.lookupswitch 63 #[(99, 58), (115, 25)], 25) := by decide +kernel
theorem dX10_carryOutAct_32 : decode cX10_carryOutAct 32 = .ok (.aload_n 0, 1) := by decide +kernel
theorem dX10_carryOutAct_33 : decode cX10_carryOutAct 33 = .ok (.aload_n 0, 1) := by decide +kernel
theorem dX10_carryOutAct_34 : decode cX10_carryOutAct 34 = .ok (.getfield 34, 3) := by decide +kernel
theorem dX10_carryOutAct_37 : decode cX10_carryOutAct 37 = .ok (.getfield 314, 3) := by decide +kernel
theorem dX10_carryOutAct_40 : decode cX10_carryOutAct 40 = .ok (.aload_n 0, 1) := by decide +kernel
theorem dX10_carryOutAct_41 : decode cX10_carryOutAct 41 = .ok (.getfield 34, 3) := by decide +kernel
theorem dX10_carryOutAct_44 : decode cX10_carryOutAct 44 = .ok (.getfield 317, 3) := by decide +kernel
theorem dX10_carryOutAct_47 : decode cX10_carryOutAct 47 = .ok (.aload_n 0, 1) := by decide +kernel
theorem dX10_carryOutAct_48 : decode cX10_carryOutAct 48 = .ok (.getfield 34, 3) := by decide +kernel
theorem dX10_carryOutAct_51 : decode cX10_carryOutAct 51 = .ok (.getfield 318, 3) := by decide +kernel
theorem dX10_carryOutAct_54 : decode cX10_carryOutAct 54 = .ok (.aload_n 0, 1) := by decide +kernel
theorem dX10_carryOutAct_55 : decode cX10_carryOutAct 55 = .ok (.getfield 34, 3) := by decide +kernel
theorem dX10_carryOutAct_58 : decode cX10_carryOutAct 58 = .ok (.getfield 319, 3) := by decide +kernel
theorem dX10_carryOutAct_61 : decode cX10_carryOutAct 61 = .ok (.invokevirtual 118, 3) := by decide +kernel
theorem dX10_carryOutAct_64 : decode cX10_carryOutAct 64 = .ok (.ireturn, 1) := by decide +kernel
theorem dX10_carryOutAct_65 : decode cX10_carryOutAct 65 = .ok (.aload_n 0, 1) := by decide +kernel
theorem dX10_carryOutAct_66 : decode cX10_carryOutAct 66 = .ok (.invokevirtual 121, 3) := by decide +kernel
theorem dX10_carryOutAct_69 : decode cX10_carryOutAct 69 = .ok (.ireturn, 1) := by decide +kernel
theorem dX10_carryOutAct_70 : decode cX10_carryOutAct 70 = .ok (.aload_n 0, 1) := by decide +kernel
theorem dX10_carryOutAct_71 : decode cX10_carryOutAct 71 = .ok (.invokevirtual 125, 3) := by decide +kernel
theorem dX10_carryOutAct_74 : decode cX10_carryOutAct 74 = .ok (.ireturn, 1) := by decide +kernel
theorem dX10_isError_0 : decode cX10_isError 0 = .ok (.iload_n 0, 1) := by decide +kernel
theorem dX10_isError_1 : decode cX10_isError 1 = .ok (.ldc 78, 2) := by decide +kernel
theorem dX10_isError_3 : decode cX10_isError 3 = .ok (.if_icmp .eq 21, 3) := by decide +kernel
theorem dX10_isError_6 : decode cX10_isError 6 = .ok (.iload_n 0, 1) := by decide +kernel
theorem dX10_isError_7 : decode cX10_isError 7 = .ok (.ldc 54, 2) := by decide +kernel
theorem dX10_isError_9 : decode cX10_isError 9 = .ok (.if_icmp .eq 15, 3) := by decide +kernel
theorem dX10_isError_12 : decode cX10_isError 12 = .ok (.iload_n 0, 1) := by decide +kernel
theorem dX10_isError_13 : decode cX10_isError 13 = .ok (.ldc 100, 2) := by decide +kernel
theorem dX10_isError_15 : decode cX10_isError 15 = .ok (.if_icmp .eq 9, 3) := by decide +kernel
theorem dX10_isError_18 : decode cX10_isError 18 = .ok (.iload_n 0, 1) := by decide +kernel
theorem dX10_isError_19 : decode cX10_isError 19 = .ok (.ldc 59, 2) := by decide +kernel
theorem dX10_isError_21 : decode cX10_isError 21 = .ok (.if_icmp .ne 7, 3) := by decide +kernel
theorem dX10_isError_24 : decode cX10_isError 24 = .ok (.iconst 1, 1) := by decide +kernel
theorem dX10_isError_25 : decode cX10_isError 25 = .ok (.goto 4, 3) := by decide +kernel
theorem dX10_isError_28 : decode cX10_isError 28 = .ok (.iconst 0, 1) := by decide +kernel
theorem dX10_isError_29 : decode cX10_isError 29 = .ok (.ireturn, 1) := by decide +kernel
theorem dX10_isWithin_0 : decode cX10_isWithin 0 = .ok (.iload_n 0, 1) := by decide +kernel
theorem dX10_isWithin_1 : decode cX10_isWithin 1 = .ok (.iload_n 1, 1) := by decide +kernel
theorem dX10_isWithin_2 : decode cX10_isWithin 2 = .ok (.if_icmp .lt 12, 3) := by decide +kernel
theorem dX10_isWithin_5 : decode cX10_isWithin 5 = .ok (.iload_n 0, 1) := by decide +kernel
theorem dX10_isWithin_6 : decode cX10_isWithin 6 = .ok (.iload_n 2, 1) := by decide +kernel
theorem dX10_isWithin_7 : decode cX10_isWithin 7 = .ok (.if_icmp .gt 7, 3) := by decide +kernel
theorem dX10_isWithin_10 : decode cX10_isWithin 10 = .ok (.iconst 1, 1) := by decide +kernel
theorem dX10_isWithin_11 : decode cX10_isWithin 11 = .ok (.goto 4, 3) := by decide +kernel
theorem dX10_isWithin_14 : decode cX10_isWithin 14 = .ok (.iconst 0, 1) := by decide +kernel
theorem dX10_isWithin_15 : decode cX10_isWithin 15 = .ok (.ireturn, 1) := by decide +kernel
theorem dX10_contains_0 : decode cX10_contains 0 = .ok (.iload_n 0, 1) := by decide +kernel
theorem dX10_contains_1 : decode cX10_contains 1 = .ok (.iload_n 1, 1) := by decide +kernel
theorem dX10_contains_2 : decode cX10_contains 2 = .ok (.ishr, 1) := by decide +kernel
theorem dX10_contains_3 : decode cX10_contains 3 = .ok (.iconst 1, 1) := by decide +kernel
theorem dX10_contains_4 : decode cX10_contains 4 = .ok (.iand, 1) := by decide +kernel
theorem dX10_contains_5 : decode cX10_contains 5 = .ok (.ifCond .eq 7, 3) := by decide +kernel
theorem dX10_contains_8 : decode cX10_contains 8 = .ok (.iconst 1, 1) := by decide +kernel
theorem dX10_contains_9 : decode cX10_contains 9 = .ok (.goto 4, 3) := by decide +kernel
theorem dX10_contains_12 : decode cX10_contains 12 = .ok (.iconst 0, 1) := by decide +kernel
theorem dX10_contains_13 : decode cX10_contains 13 = .ok (.ireturn, 1) := by decide +kernel
theorem dX10_asNumber_0 : decode cX10_asNumber 0 = .ok (.iload_n 0, 1) := by decide +kernel
theorem dX10_asNumber_1 : decode cX10_asNumber 1 = .ok (.ifCond .eq 7, 3) := by decide +kernel
theorem dX10_asNumber_4 : decode cX10_asNumber 4 = .ok (.iconst 1, 1) := by decide +kernel
theorem dX10_asNumber_5 : decode cX10_asNumber 5 = .ok (.goto 4, 3) := by decide +kernel
theorem dX10_asNumber_8 : decode cX10_asNumber 8 = .ok (.iconst 0, 1) := by decide +kernel
theorem dX10_asNumber_9 : decode cX10_asNumber 9 = .ok (.ireturn, 1) := by decide +kernel
theorem dX10_quotient_0 : decode cX10_quotient 0 = .ok (.lload_n 2, 1) := by decide +kernel
theorem dX10_quotient_1 : decode cX10_quotient 1 = .ok (.lconst 0, 1) := by decide +kernel
theorem dX10_quotient_2 : decode cX10_quotient 2 = .ok (.lcmp, 1) := by decide +kernel
theorem dX10_quotient_3 : decode cX10_quotient 3 = .ok (.ifCond .ne 7, 3) := by decide +kernel
theorem dX10_quotient_6 : decode cX10_quotient 6 = .ok (.lconst 0, 1) := by decide +kernel
theorem dX10_quotient_7 : decode cX10_quotient 7 = .ok (.goto 6, 3) := by decide +kernel
theorem dX10_quotient_10 : decode cX10_quotient 10 = .ok (.lload_n 0, 1) := by decide +kernel
theorem dX10_quotient_11 : decode cX10_quotient 11 = .ok (.lload_n 2, 1) := by decide +kernel
theorem dX10_quotient_12 : decode cX10_quotient 12 = .ok (.ldiv, 1) := by decide +kernel
theorem dX10_quotient_13 : decode cX10_quotient 13 = .ok (.lreturn, 1) := by decide +kernel
theorem dX10_limited_0 : decode cX10_limited 0 = .ok (.lload_n 0, 1) := by decide +kernel
theorem dX10_limited_1 : decode cX10_limited 1 = .ok (.iload_n 2, 1) := by decide +kernel
theorem dX10_limited_2 : decode cX10_limited 2 = .ok (.i2l, 1) := by decide +kernel
theorem dX10_limited_3 : decode cX10_limited 3 = .ok (.lcmp, 1) := by decide +kernel
theorem dX10_limited_4 : decode cX10_limited 4 = .ok (.ifCond .le 7, 3) := by decide +kernel
theorem dX10_limited_7 : decode cX10_limited 7 = .ok (.iload_n 2, 1) := by decide +kernel
theorem dX10_limited_8 : decode cX10_limited 8 = .ok (.goto 18, 3) := by decide +kernel
theorem dX10_limited_11 : decode cX10_limited 11 = .ok (.lload_n 0, 1) := by decide +kernel
theorem dX10_limited_12 : decode cX10_limited 12 = .ok (.iload_n 2, 1) := by decide +kernel
theorem dX10_limited_13 : decode cX10_limited 13 = .ok (.ineg, 1) := by decide +kernel
theorem dX10_limited_14 : decode cX10_limited 14 = .ok (.i2l, 1) := by decide +kernel
theorem dX10_limited_15 : decode cX10_limited 15 = .ok (.lcmp, 1) := by decide +kernel
theorem dX10_limited_16 : decode cX10_limited 16 = .ok (.ifCond .ge 8, 3) := by decide +kernel
theorem dX10_limited_19 : decode cX10_limited 19 = .ok (.iload_n 2, 1) := by decide +kernel
theorem dX10_limited_20 : decode cX10_limited 20 = .ok (.ineg, 1) := by decide +kernel
theorem dX10_limited_21 : decode cX10_limited 21 = .ok (.goto 5, 3) := by decide +kernel
theorem dX10_limited_24 : decode cX10_limited 24 = .ok (.lload_n 0, 1) := by decide +kernel
theorem dX10_limited_25 : decode cX10_limited 25 = .ok (.l2i, 1) := by decide +kernel
theorem dX10_limited_26 : decode cX10_limited 26 = .ok (.ireturn, 1) := by decide +kernel
theorem dX10_wholePeriods_0 : decode cX10_wholePeriods 0 = .ok (.iload_n 1, 1) := by decide +kernel
theorem dX10_wholePeriods_1 : decode cX10_wholePeriods 1 = .ok (.ifCond .gt 5, 3) := by decide +kernel
theorem dX10_wholePeriods_4 : decode cX10_wholePeriods 4 = .ok (.iconst 0, 1) := by decide +kernel
theorem dX10_wholePeriods_5 : decode cX10_wholePeriods 5 = .ok (.ireturn, 1) := by decide +kernel
theorem dX10_wholePeriods_6 : decode cX10_wholePeriods 6 = .ok (.iload_n 0, 1) := by decide +kernel
theorem dX10_wholePeriods_7 : decode cX10_wholePeriods 7 = .ok (.invokestatic 320, 3) := by decide +kernel
theorem dX10_wholePeriods_10 : decode cX10_wholePeriods 10 = .ok (.istore_n 2, 1) := by decide +kernel
theorem dX10_wholePeriods_11 : decode cX10_wholePeriods 11 = .ok (.iload_n 2, 1) := by decide +kernel
theorem dX10_wholePeriods_12 : decode cX10_wholePeriods 12 = .ok (.iload_n 1, 1) := by decide +kernel
theorem dX10_wholePeriods_13 : decode cX10_wholePeriods 13 = .ok (.idiv, 1) := by decide +kernel
theorem dX10_wholePeriods_14 : decode cX10_wholePeriods 14 = .ok (.istore_n 3, 1) := by decide +kernel
theorem dX10_wholePeriods_15 : decode cX10_wholePeriods 15 = .ok (.iload_n 2, 1) := by decide +kernel
theorem dX10_wholePeriods_16 : decode cX10_wholePeriods 16 = .ok (.iload_n 1, 1) := by decide +kernel
theorem dX10_wholePeriods_17 : decode cX10_wholePeriods 17 = .ok (.irem, 1) := by decide +kernel
theorem dX10_wholePeriods_18 : decode cX10_wholePeriods 18 = .ok (.iconst 2, 1) := by decide +kernel
theorem dX10_wholePeriods_19 : decode cX10_wholePeriods 19 = .ok (.imul, 1) := by decide +kernel
theorem dX10_wholePeriods_20 : decode cX10_wholePeriods 20 = .ok (.iload_n 1, 1) := by decide +kernel
theorem dX10_wholePeriods_21 : decode cX10_wholePeriods 21 = .ok (.if_icmp .le 6, 3) := by decide +kernel
theorem dX10_wholePeriods_24 : decode cX10_wholePeriods 24 = .ok (.iinc 3 1, 3) := by decide +kernel
theorem dX10_wholePeriods_27 : decode cX10_wholePeriods 27 = .ok (.iload_n 0, 1) := by decide +kernel
theorem dX10_wholePeriods_28 : decode cX10_wholePeriods 28 = .ok (.ifCond .ge 8, 3) := by decide +kernel
theorem dX10_wholePeriods_31 : decode cX10_wholePeriods 31 = .ok (.iload_n 3, 1) := by decide +kernel
theorem dX10_wholePeriods_32 : decode cX10_wholePeriods 32 = .ok (.ineg, 1) := by decide +kernel
theorem dX10_wholePeriods_33 : decode cX10_wholePeriods 33 = .ok (.goto 4, 3) := by decide +kernel
theorem dX10_wholePeriods_36 : decode cX10_wholePeriods 36 = .ok (.iload_n 3, 1) := by decide +kernel
theorem dX10_wholePeriods_37 : decode cX10_wholePeriods 37 = .ok (.ireturn, 1) := by decide +kernel
