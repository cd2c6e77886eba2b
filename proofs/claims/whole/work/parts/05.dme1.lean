theorem dX11_total_111 : decode cX11_total 111 = .ok (.ireturn, 1) := by decide +kernel
theorem dX11_total_112 : decode cX11_total 112 = .ok (.iload_n 1, 1) := by decide +kernel
theorem dX11_total_113 : decode cX11_total 113 = .ok (.bipush 10, 2) := by decide +kernel
theorem dX11_total_115 : decode cX11_total 115 = .ok (.bipush 14, 2) := by decide +kernel
theorem dX11_total_117 : decode cX11_total 117 = .ok (.invokestatic 64, 3) := by decide +kernel
theorem dX11_total_120 : decode cX11_total 120 = .ok (.ifCond .eq 18, 3) := by decide +kernel
theorem dX11_total_123 : decode cX11_total 123 = .ok (.aload_n 0, 1) := by decide +kernel
theorem dX11_total_124 : decode cX11_total 124 = .ok (.getfield 7, 3) := by decide +kernel
theorem dX11_total_127 : decode cX11_total 127 = .ok (.bipush 78, 2) := by decide +kernel
theorem dX11_total_129 : decode cX11_total 129 = .ok (.iload_n 1, 1) := by decide +kernel
theorem dX11_total_130 : decode cX11_total 130 = .ok (.iadd, 1) := by decide +kernel
theorem dX11_total_131 : decode cX11_total 131 = .ok (.bipush 10, 2) := by decide +kernel
theorem dX11_total_133 : decode cX11_total 133 = .ok (.isub, 1) := by decide +kernel
theorem dX11_total_134 : decode cX11_total 134 = .ok (.iaload, 1) := by decide +kernel
theorem dX11_total_135 : decode cX11_total 135 = .ok (.goto 5, 3) := by decide +kernel
theorem dX11_total_138 : decode cX11_total 138 = .ok (.ldc 68, 2) := by decide +kernel
theorem dX11_total_140 : decode cX11_total 140 = .ok (.ireturn, 1) := by decide +kernel
set_option maxRecDepth 20000 in
theorem ggX11_velocity_X11_whyShot : GoodIn wsX11_velocity wsX11_whyShot := goodIn_r _ [5, 6, 7, 8, 9, 10, 4, 11, 12, 13, 14, 15, 16, 17, 18, 19, 20, 21, 22, 23, 24, 25, 26, 27, 38, 39, 40, 41, 42, 43, 44, 45, 46, 47, 48, 49, 50, 51, 52, 53, 54, 55, 56, 57, 58, 59, 60, 61, 62] (by decide +kernel) (by decide +kernel)
set_option maxRecDepth 20000 in
theorem gX11_velocity_X11_whyShot : GoodIn wsX11_velocity (wsV RX11 128 RX11 yX11_whyShot wsX11_whyShot) := goodIn_app (goodIn_of _ (by decide +kernel)) ggX11_velocity_X11_whyShot
set_option maxRecDepth 20000 in
theorem ggX11_velocity_X11_velocityOf : GoodIn wsX11_velocity wsX11_velocityOf := goodIn_r _ [31, 32, 33, 34, 24, 25, 26, 4, 27, 12, 35, 36, 37, 38, 39, 40, 41, 42, 43, 44, 45, 46, 47, 48, 49, 50, 51, 52, 53, 54, 55, 56, 57, 58, 59, 60, 61, 62] (by decide +kernel) (by decide +kernel)
set_option maxRecDepth 20000 in
theorem gX11_velocity_X11_velocityOf : GoodIn wsX11_velocity (wsV RX11 170 RX11 yX11_velocityOf wsX11_velocityOf) := goodIn_app (goodIn_of _ (by decide +kernel)) ggX11_velocity_X11_velocityOf
theorem dX11_velocity_0 : decode cX11_velocity 0 = .ok (.aload_n 0, 1) := by decide +kernel
theorem dX11_velocity_1 : decode cX11_velocity 1 = .ok (.iload_n 1, 1) := by decide +kernel
theorem dX11_velocity_2 : decode cX11_velocity 2 = .ok (.iload_n 2, 1) := by decide +kernel
theorem dX11_velocity_3 : decode cX11_velocity 3 = .ok (.iload_n 3, 1) := by decide +kernel
theorem dX11_velocity_4 : decode cX11_velocity 4 = .ok (.iconst 0, 1) := by decide +kernel
theorem dX11_velocity_5 : decode cX11_velocity 5 = .ok (.invokevirtual 128, 3) := by decide +kernel
theorem dX11_velocity_8 : decode cX11_velocity 8 = .ok (.istore 4, 2) := by decide +kernel
theorem dX11_velocity_10 : decode cX11_velocity 10 = .ok (.iload 4, 2) := by decide +kernel
theorem dX11_velocity_12 : decode cX11_velocity 12 = .ok (.ifCond .ge 8, 3) := by decide +kernel
theorem dX11_velocity_15 : decode cX11_velocity 15 = .ok (.iload 4, 2) := by decide +kernel
theorem dX11_velocity_17 : decode cX11_velocity 17 = .ok (.goto 10, 3) := by decide +kernel
theorem dX11_velocity_20 : decode cX11_velocity 20 = .ok (.aload_n 0, 1) := by decide +kernel
theorem dX11_velocity_21 : decode cX11_velocity 21 = .ok (.iload_n 1, 1) := by decide +kernel
theorem dX11_velocity_22 : decode cX11_velocity 22 = .ok (.iload_n 2, 1) := by decide +kernel
theorem dX11_velocity_23 : decode cX11_velocity 23 = .ok (.iload_n 3, 1) := by decide +kernel
theorem dX11_velocity_24 : decode cX11_velocity 24 = .ok (.invokevirtual 170, 3) := by decide +kernel
theorem dX11_velocity_27 : decode cX11_velocity 27 = .ok (.ireturn, 1) := by decide +kernel
set_option maxRecDepth 20000 in
theorem ggX11_ideal_X11_isPath : GoodIn wsX11_ideal wsX11_isPath := goodIn_r _ [9, 10, 11, 12, 8, 13, 18, 19, 20, 21, 22, 23, 24, 25, 26, 27, 28, 29, 30, 31, 32, 33, 34, 35, 36, 37, 38, 39, 40, 41, 42] (by decide +kernel) (by decide +kernel)
set_option maxRecDepth 20000 in
theorem gX11_ideal_X11_isPath : GoodIn wsX11_ideal (wsV RX11 78 RX11 yX11_isPath wsX11_isPath) := goodIn_app (goodIn_of _ (by decide +kernel)) ggX11_ideal_X11_isPath
set_option maxRecDepth 20000 in
theorem ggX11_ideal_X11_in : GoodIn wsX11_ideal wsX11_in := goodIn_r _ [13] (by decide +kernel) (by decide +kernel)
set_option maxRecDepth 20000 in
theorem gX11_ideal_X11_in : GoodIn wsX11_ideal (va_wsS RX11 64 yX11_in wsX11_in) := goodIn_app (goodIn_of _ (by decide +kernel)) ggX11_ideal_X11_in
set_option maxRecDepth 20000 in
theorem ggX11_ideal_X11_of : GoodIn wsX11_ideal wsX11_of := goodIn_r _ [17, 10, 18, 19, 20, 21, 22, 23, 24, 25, 26, 27, 28, 29, 30, 31, 32, 33, 34, 35, 36, 37, 38, 39, 40, 41, 42] (by decide +kernel) (by decide +kernel)
set_option maxRecDepth 20000 in
theorem gX11_ideal_X11_of : GoodIn wsX11_ideal (wsV RX11 83 RX11 yX11_of wsX11_of) := goodIn_app (goodIn_of _ (by decide +kernel)) ggX11_ideal_X11_of
theorem dX11_ideal_0 : decode cX11_ideal 0 = .ok (.aload_n 0, 1) := by decide +kernel
theorem dX11_ideal_1 : decode cX11_ideal 1 = .ok (.iload_n 1, 1) := by decide +kernel
theorem dX11_ideal_2 : decode cX11_ideal 2 = .ok (.invokevirtual 78, 3) := by decide +kernel
theorem dX11_ideal_5 : decode cX11_ideal 5 = .ok (.ifCond .ne 6, 3) := by decide +kernel
theorem dX11_ideal_8 : decode cX11_ideal 8 = .ok (.ldc 82, 2) := by decide +kernel
theorem dX11_ideal_10 : decode cX11_ideal 10 = .ok (.ireturn, 1) := by decide +kernel
theorem dX11_ideal_11 : decode cX11_ideal 11 = .ok (.iload_n 2, 1) := by decide +kernel
theorem dX11_ideal_12 : decode cX11_ideal 12 = .ok (.sipush 300, 3) := by decide +kernel
theorem dX11_ideal_15 : decode cX11_ideal 15 = .ok (.sipush 3000, 3) := by decide +kernel
theorem dX11_ideal_18 : decode cX11_ideal 18 = .ok (.invokestatic 64, 3) := by decide +kernel
theorem dX11_ideal_21 : decode cX11_ideal 21 = .ok (.ifCond .eq 16, 3) := by decide +kernel
theorem dX11_ideal_24 : decode cX11_ideal 24 = .ok (.iload_n 3, 1) := by decide +kernel
theorem dX11_ideal_25 : decode cX11_ideal 25 = .ok (.sipush (-20000), 3) := by decide +kernel
theorem dX11_ideal_28 : decode cX11_ideal 28 = .ok (.sipush 20000, 3) := by decide +kernel
theorem dX11_ideal_31 : decode cX11_ideal 31 = .ok (.invokestatic 64, 3) := by decide +kernel
theorem dX11_ideal_34 : decode cX11_ideal 34 = .ok (.ifCond .ne 6, 3) := by decide +kernel
theorem dX11_ideal_37 : decode cX11_ideal 37 = .ok (.ldc 68, 2) := by decide +kernel
theorem dX11_ideal_39 : decode cX11_ideal 39 = .ok (.ireturn, 1) := by decide +kernel
theorem dX11_ideal_40 : decode cX11_ideal 40 = .ok (.iload_n 3, 1) := by decide +kernel
theorem dX11_ideal_41 : decode cX11_ideal 41 = .ok (.aload_n 0, 1) := by decide +kernel
theorem dX11_ideal_42 : decode cX11_ideal 42 = .ok (.iload_n 1, 1) := by decide +kernel
theorem dX11_ideal_43 : decode cX11_ideal 43 = .ok (.iconst 1, 1) := by decide +kernel
theorem dX11_ideal_44 : decode cX11_ideal 44 = .ok (.invokevirtual 83, 3) := by decide +kernel
theorem dX11_ideal_47 : decode cX11_ideal 47 = .ok (.imul, 1) := by decide +kernel
theorem dX11_ideal_48 : decode cX11_ideal 48 = .ok (.aload_n 0, 1) := by decide +kernel
theorem dX11_ideal_49 : decode cX11_ideal 49 = .ok (.iload_n 1, 1) := by decide +kernel
theorem dX11_ideal_50 : decode cX11_ideal 50 = .ok (.iconst 0, 1) := by decide +kernel
theorem dX11_ideal_51 : decode cX11_ideal 51 = .ok (.invokevirtual 83, 3) := by decide +kernel
theorem dX11_ideal_54 : decode cX11_ideal 54 = .ok (.idiv, 1) := by decide +kernel
theorem dX11_ideal_55 : decode cX11_ideal 55 = .ok (.istore 5, 2) := by decide +kernel
theorem dX11_ideal_57 : decode cX11_ideal 57 = .ok (.iload_n 2, 1) := by decide +kernel
theorem dX11_ideal_58 : decode cX11_ideal 58 = .ok (.i2l, 1) := by decide +kernel
theorem dX11_ideal_59 : decode cX11_ideal 59 = .ok (.ldc2_w 108, 3) := by decide +kernel
theorem dX11_ideal_62 : decode cX11_ideal 62 = .ok (.lmul, 1) := by decide +kernel
theorem dX11_ideal_63 : decode cX11_ideal 63 = .ok (.iload 4, 2) := by decide +kernel
theorem dX11_ideal_65 : decode cX11_ideal 65 = .ok (.ifCond .eq 9, 3) := by decide +kernel
theorem dX11_ideal_68 : decode cX11_ideal 68 = .ok (.iload 5, 2) := by decide +kernel
theorem dX11_ideal_70 : decode cX11_ideal 70 = .ok (.ineg, 1) := by decide +kernel
theorem dX11_ideal_71 : decode cX11_ideal 71 = .ok (.goto 5, 3) := by decide +kernel
theorem dX11_ideal_74 : decode cX11_ideal 74 = .ok (.iload 5, 2) := by decide +kernel
theorem dX11_ideal_76 : decode cX11_ideal 76 = .ok (.i2l, 1) := by decide +kernel
theorem dX11_ideal_77 : decode cX11_ideal 77 = .ok (.ladd, 1) := by decide +kernel
theorem dX11_ideal_78 : decode cX11_ideal 78 = .ok (.lstore 6, 2) := by decide +kernel
theorem dX11_ideal_80 : decode cX11_ideal 80 = .ok (.aload_n 0, 1) := by decide +kernel
theorem dX11_ideal_81 : decode cX11_ideal 81 = .ok (.iload_n 1, 1) := by decide +kernel
theorem dX11_ideal_82 : decode cX11_ideal 82 = .ok (.iconst 0, 1) := by decide +kernel
theorem dX11_ideal_83 : decode cX11_ideal 83 = .ok (.invokevirtual 83, 3) := by decide +kernel
theorem dX11_ideal_86 : decode cX11_ideal 86 = .ok (.i2l, 1) := by decide +kernel
theorem dX11_ideal_87 : decode cX11_ideal 87 = .ok (.ldc2_w 258, 3) := by decide +kernel
theorem dX11_ideal_90 : decode cX11_ideal 90 = .ok (.lmul, 1) := by decide +kernel
theorem dX11_ideal_91 : decode cX11_ideal 91 = .ok (.lload 6, 2) := by decide +kernel
theorem dX11_ideal_93 : decode cX11_ideal 93 = .ok (.ldiv, 1) := by decide +kernel
theorem dX11_ideal_94 : decode cX11_ideal 94 = .ok (.l2i, 1) := by decide +kernel
theorem dX11_ideal_95 : decode cX11_ideal 95 = .ok (.aload_n 0, 1) := by decide +kernel
theorem dX11_ideal_96 : decode cX11_ideal 96 = .ok (.iload_n 1, 1) := by decide +kernel
theorem dX11_ideal_97 : decode cX11_ideal 97 = .ok (.iconst 4, 1) := by decide +kernel
theorem dX11_ideal_98 : decode cX11_ideal 98 = .ok (.invokevirtual 83, 3) := by decide +kernel
theorem dX11_ideal_101 : decode cX11_ideal 101 = .ok (.iadd, 1) := by decide +kernel
theorem dX11_ideal_102 : decode cX11_ideal 102 = .ok (.ireturn, 1) := by decide +kernel
set_option maxRecDepth 20000 in
theorem ggX11_wouldBe_X11_worksOut : GoodIn wsX11_wouldBe wsX11_worksOut := goodIn_r _ [8, 9, 10, 11, 12, 1, 13, 14, 15, 16, 17, 3, 18, 19, 20, 21, 7, 22, 23, 24, 25, 26, 27, 28, 29, 30, 31, 32, 33, 34, 35, 36, 37, 38, 39, 40, 41, 42, 43, 44, 45, 46, 47, 48, 49, 50, 51, 52, 53, 54, 55, 56, 57, 58, 59, 60, 61, 62, 63, 84, 85, 86, 87, 88, 89, 90, 91, 92, 93, 94, 95, 96, 97, 98, 99, 100, 101, 102, 103, 104, 105, 106, 107, 108] (by decide +kernel) (by decide +kernel)
set_option maxRecDepth 20000 in
theorem gX11_wouldBe_X11_worksOut : GoodIn wsX11_wouldBe (wsV RX11 188 RX11 yX11_worksOut wsX11_worksOut) := goodIn_app (goodIn_of _ (by decide +kernel)) ggX11_wouldBe_X11_worksOut
set_option maxRecDepth 20000 in
theorem ggX11_wouldBe_X11_roundVelocity : GoodIn wsX11_wouldBe wsX11_roundVelocity := goodIn_r _ [67, 17, 18, 68, 69, 70, 7, 71, 1, 72, 73, 74, 75, 76, 77, 78, 79, 80, 81, 82, 83, 84, 85, 86, 87, 88, 89, 90, 91, 92, 93, 94, 95, 96, 97, 98, 99, 100, 101, 102, 103, 104, 105, 106, 107, 108] (by decide +kernel) (by decide +kernel)
set_option maxRecDepth 20000 in
theorem gX11_wouldBe_X11_roundVelocity : GoodIn wsX11_wouldBe (wsV RX11 191 RX11 yX11_roundVelocity wsX11_roundVelocity) := goodIn_app (goodIn_of _ (by decide +kernel)) ggX11_wouldBe_X11_roundVelocity
theorem dX11_wouldBe_0 : decode cX11_wouldBe 0 = .ok (.aload_n 0, 1) := by decide +kernel
theorem dX11_wouldBe_1 : decode cX11_wouldBe 1 = .ok (.getfield 7, 3) := by decide +kernel
theorem dX11_wouldBe_4 : decode cX11_wouldBe 4 = .ok (.bipush 64, 2) := by decide +kernel
theorem dX11_wouldBe_6 : decode cX11_wouldBe 6 = .ok (.iaload, 1) := by decide +kernel
theorem dX11_wouldBe_7 : decode cX11_wouldBe 7 = .ok (.ifCond .ne 6, 3) := by decide +kernel
theorem dX11_wouldBe_10 : decode cX11_wouldBe 10 = .ok (.ldc 98, 2) := by decide +kernel
theorem dX11_wouldBe_12 : decode cX11_wouldBe 12 = .ok (.ireturn, 1) := by decide +kernel
theorem dX11_wouldBe_13 : decode cX11_wouldBe 13 = .ok (.aload_n 0, 1) := by decide +kernel
theorem dX11_wouldBe_14 : decode cX11_wouldBe 14 = .ok (.aload_n 0, 1) := by decide +kernel
theorem dX11_wouldBe_15 : decode cX11_wouldBe 15 = .ok (.getfield 7, 3) := by decide +kernel
theorem dX11_wouldBe_18 : decode cX11_wouldBe 18 = .ok (.bipush 79, 2) := by decide +kernel
theorem dX11_wouldBe_20 : decode cX11_wouldBe 20 = .ok (.iaload, 1) := by decide +kernel
theorem dX11_wouldBe_21 : decode cX11_wouldBe 21 = .ok (.invokevirtual 188, 3) := by decide +kernel
theorem dX11_wouldBe_24 : decode cX11_wouldBe 24 = .ok (.ifCond .eq 10, 3) := by decide +kernel
theorem dX11_wouldBe_27 : decode cX11_wouldBe 27 = .ok (.aload_n 0, 1) := by decide +kernel
theorem dX11_wouldBe_28 : decode cX11_wouldBe 28 = .ok (.invokevirtual 191, 3) := by decide +kernel
theorem dX11_wouldBe_31 : decode cX11_wouldBe 31 = .ok (.goto 5, 3) := by decide +kernel
theorem dX11_wouldBe_34 : decode cX11_wouldBe 34 = .ok (.ldc 77, 2) := by decide +kernel
theorem dX11_wouldBe_36 : decode cX11_wouldBe 36 = .ok (.ireturn, 1) := by decide +kernel
set_option maxRecDepth 20000 in
theorem ggX11_wouldBecome_X11_isPath : GoodIn wsX11_wouldBecome wsX11_isPath := goodIn_r _ [8, 2, 9, 10, 7, 11, 71, 72, 73, 74, 75, 76, 77, 78, 79, 80, 81, 82, 83, 84, 85, 86, 87, 88, 89, 90, 91, 92, 93, 94, 95] (by decide +kernel) (by decide +kernel)
set_option maxRecDepth 20000 in
theorem gX11_wouldBecome_X11_isPath : GoodIn wsX11_wouldBecome (wsV RX11 78 RX11 yX11_isPath wsX11_isPath) := goodIn_app (goodIn_of _ (by decide +kernel)) ggX11_wouldBecome_X11_isPath
set_option maxRecDepth 20000 in
theorem ggX11_wouldBecome_X11_worksOut : GoodIn wsX11_wouldBecome wsX11_worksOut := goodIn_r _ [15, 16, 17, 18, 19, 2, 20, 3, 21, 22, 23, 24, 25, 26, 27, 28, 7, 29, 30, 31, 32, 33, 34, 35, 36, 37, 38, 39, 40, 41, 42, 43, 44, 45, 46, 47, 48, 49, 50, 51, 52, 53, 54, 55, 56, 57, 58, 59, 60, 61, 62, 63, 64, 65, 66, 67, 68, 69, 70, 71, 72, 73, 74, 75, 76, 77, 78, 79, 80, 81, 82, 83, 84, 85, 86, 87, 88, 89, 90, 91, 92, 93, 94, 95] (by decide +kernel) (by decide +kernel)
set_option maxRecDepth 20000 in
theorem gX11_wouldBecome_X11_worksOut : GoodIn wsX11_wouldBecome (wsV RX11 188 RX11 yX11_worksOut wsX11_worksOut) := goodIn_app (goodIn_of _ (by decide +kernel)) ggX11_wouldBecome_X11_worksOut
theorem dX11_wouldBecome_0 : decode cX11_wouldBecome 0 = .ok (.aload_n 0, 1) := by decide +kernel
theorem dX11_wouldBecome_1 : decode cX11_wouldBecome 1 = .ok (.iload_n 1, 1) := by decide +kernel
theorem dX11_wouldBecome_2 : decode cX11_wouldBecome 2 = .ok (.invokevirtual 78, 3) := by decide +kernel
theorem dX11_wouldBecome_5 : decode cX11_wouldBecome 5 = .ok (.ifCond .ne 6, 3) := by decide +kernel
theorem dX11_wouldBecome_8 : decode cX11_wouldBecome 8 = .ok (.ldc 82, 2) := by decide +kernel
theorem dX11_wouldBecome_10 : decode cX11_wouldBecome 10 = .ok (.ireturn, 1) := by decide +kernel
theorem dX11_wouldBecome_11 : decode cX11_wouldBecome 11 = .ok (.aload_n 0, 1) := by decide +kernel
theorem dX11_wouldBecome_12 : decode cX11_wouldBecome 12 = .ok (.aload_n 0, 1) := by decide +kernel
theorem dX11_wouldBecome_13 : decode cX11_wouldBecome 13 = .ok (.getfield 7, 3) := by decide +kernel
theorem dX11_wouldBecome_16 : decode cX11_wouldBecome 16 = .ok (.bipush 79, 2) := by decide +kernel
theorem dX11_wouldBecome_18 : decode cX11_wouldBecome 18 = .ok (.iaload, 1) := by decide +kernel
theorem dX11_wouldBecome_19 : decode cX11_wouldBecome 19 = .ok (.invokevirtual 188, 3) := by decide +kernel
theorem dX11_wouldBecome_22 : decode cX11_wouldBecome 22 = .ok (.istore_n 2, 1) := by decide +kernel
theorem dX11_wouldBecome_23 : decode cX11_wouldBecome 23 = .ok (.aload_n 0, 1) := by decide +kernel
theorem dX11_wouldBecome_24 : decode cX11_wouldBecome 24 = .ok (.getfield 36, 3) := by decide +kernel
theorem dX11_wouldBecome_27 : decode cX11_wouldBecome 27 = .ok (.iload_n 1, 1) := by decide +kernel
theorem dX11_wouldBecome_28 : decode cX11_wouldBecome 28 = .ok (.iaload, 1) := by decide +kernel
theorem dX11_wouldBecome_29 : decode cX11_wouldBecome 29 = .ok (.ireturn, 1) := by decide +kernel
set_option maxRecDepth 20000 in
theorem ggX11_skipsNeeded_X11_worksOut : GoodIn wsX11_skipsNeeded wsX11_worksOut := goodIn_r _ [8, 9, 10, 11, 12, 1, 13, 2, 14, 15, 16, 3, 17, 18, 19, 20, 7, 21, 22, 23, 24, 25, 26, 27, 28, 29, 30, 31, 32, 33, 34, 35, 36, 37, 38, 39, 40, 41, 42, 43, 44, 45, 46, 47, 48, 49, 50, 51, 52, 53, 54, 55, 56, 57, 58, 59, 60, 61, 62, 63, 64, 65, 66, 67, 68, 69, 70, 71, 72, 73, 74, 75, 76, 77, 78, 79, 80, 81, 82, 83, 84, 85, 86, 87] (by decide +kernel) (by decide +kernel)
set_option maxRecDepth 20000 in
theorem gX11_skipsNeeded_X11_worksOut : GoodIn wsX11_skipsNeeded (wsV RX11 188 RX11 yX11_worksOut wsX11_worksOut) := goodIn_app (goodIn_of _ (by decide +kernel)) ggX11_skipsNeeded_X11_worksOut
theorem dX11_skipsNeeded_0 : decode cX11_skipsNeeded 0 = .ok (.iconst 0, 1) := by decide +kernel
theorem dX11_skipsNeeded_1 : decode cX11_skipsNeeded 1 = .ok (.istore_n 1, 1) := by decide +kernel
theorem dX11_skipsNeeded_2 : decode cX11_skipsNeeded 2 = .ok (.iload_n 1, 1) := by decide +kernel
theorem dX11_skipsNeeded_3 : decode cX11_skipsNeeded 3 = .ok (.iconst 5, 1) := by decide +kernel
theorem dX11_skipsNeeded_4 : decode cX11_skipsNeeded 4 = .ok (.if_icmp .gt 65, 3) := by decide +kernel
theorem dX11_skipsNeeded_7 : decode cX11_skipsNeeded 7 = .ok (.aload_n 0, 1) := by decide +kernel
theorem dX11_skipsNeeded_8 : decode cX11_skipsNeeded 8 = .ok (.iload_n 1, 1) := by decide +kernel
theorem dX11_skipsNeeded_9 : decode cX11_skipsNeeded 9 = .ok (.invokevirtual 188, 3) := by decide +kernel
theorem dX11_skipsNeeded_12 : decode cX11_skipsNeeded 12 = .ok (.istore_n 2, 1) := by decide +kernel
theorem dX11_skipsNeeded_13 : decode cX11_skipsNeeded 13 = .ok (.iconst 0, 1) := by decide +kernel
theorem dX11_skipsNeeded_14 : decode cX11_skipsNeeded 14 = .ok (.istore_n 3, 1) := by decide +kernel
theorem dX11_skipsNeeded_15 : decode cX11_skipsNeeded 15 = .ok (.iconst 0, 1) := by decide +kernel
theorem dX11_skipsNeeded_16 : decode cX11_skipsNeeded 16 = .ok (.istore 4, 2) := by decide +kernel
theorem dX11_skipsNeeded_18 : decode cX11_skipsNeeded 18 = .ok (.iload 4, 2) := by decide +kernel
theorem dX11_skipsNeeded_20 : decode cX11_skipsNeeded 20 = .ok (.aload_n 0, 1) := by decide +kernel
theorem dX11_skipsNeeded_21 : decode cX11_skipsNeeded 21 = .ok (.getfield 7, 3) := by decide +kernel
theorem dX11_skipsNeeded_24 : decode cX11_skipsNeeded 24 = .ok (.bipush 64, 2) := by decide +kernel
theorem dX11_skipsNeeded_26 : decode cX11_skipsNeeded 26 = .ok (.iaload, 1) := by decide +kernel
theorem dX11_skipsNeeded_27 : decode cX11_skipsNeeded 27 = .ok (.if_icmp .ge 30, 3) := by decide +kernel
theorem dX11_skipsNeeded_30 : decode cX11_skipsNeeded 30 = .ok (.iload_n 3, 1) := by decide +kernel
theorem dX11_skipsNeeded_31 : decode cX11_skipsNeeded 31 = .ok (.ifCond .ne 14, 3) := by decide +kernel
theorem dX11_skipsNeeded_34 : decode cX11_skipsNeeded 34 = .ok (.aload_n 0, 1) := by decide +kernel
theorem dX11_skipsNeeded_35 : decode cX11_skipsNeeded 35 = .ok (.getfield 36, 3) := by decide +kernel
theorem dX11_skipsNeeded_38 : decode cX11_skipsNeeded 38 = .ok (.iload 4, 2) := by decide +kernel
theorem dX11_skipsNeeded_40 : decode cX11_skipsNeeded 40 = .ok (.iaload, 1) := by decide +kernel
theorem dX11_skipsNeeded_41 : decode cX11_skipsNeeded 41 = .ok (.iconst 2, 1) := by decide +kernel
theorem dX11_skipsNeeded_42 : decode cX11_skipsNeeded 42 = .ok (.if_icmp .ne 7, 3) := by decide +kernel
theorem dX11_skipsNeeded_45 : decode cX11_skipsNeeded 45 = .ok (.iconst 1, 1) := by decide +kernel
theorem dX11_skipsNeeded_46 : decode cX11_skipsNeeded 46 = .ok (.goto 4, 3) := by decide +kernel
theorem dX11_skipsNeeded_49 : decode cX11_skipsNeeded 49 = .ok (.iconst 0, 1) := by decide +kernel
theorem dX11_skipsNeeded_50 : decode cX11_skipsNeeded 50 = .ok (.istore_n 3, 1) := by decide +kernel
theorem dX11_skipsNeeded_51 : decode cX11_skipsNeeded 51 = .ok (.iinc 4 1, 3) := by decide +kernel
theorem dX11_skipsNeeded_54 : decode cX11_skipsNeeded 54 = .ok (.goto (-36), 3) := by decide +kernel
theorem dX11_skipsNeeded_57 : decode cX11_skipsNeeded 57 = .ok (.iload_n 3, 1) := by decide +kernel
theorem dX11_skipsNeeded_58 : decode cX11_skipsNeeded 58 = .ok (.ifCond .ne 5, 3) := by decide +kernel
theorem dX11_skipsNeeded_61 : decode cX11_skipsNeeded 61 = .ok (.iload_n 1, 1) := by decide +kernel
theorem dX11_skipsNeeded_62 : decode cX11_skipsNeeded 62 = .ok (.ireturn, 1) := by decide +kernel
theorem dX11_skipsNeeded_63 : decode cX11_skipsNeeded 63 = .ok (.iinc 1 1, 3) := by decide +kernel
theorem dX11_skipsNeeded_66 : decode cX11_skipsNeeded 66 = .ok (.goto (-64), 3) := by decide +kernel
theorem dX11_skipsNeeded_69 : decode cX11_skipsNeeded 69 = .ok (.ldc 77, 2) := by decide +kernel
theorem dX11_skipsNeeded_71 : decode cX11_skipsNeeded 71 = .ok (.ireturn, 1) := by decide +kernel
