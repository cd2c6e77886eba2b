set_option maxRecDepth 20000 in
theorem ggX11_path_X11_fails : GoodIn wsX11_path wsX11_fails := goodIn_r _ [15, 16, 17, 18, 6, 19, 8, 20, 21, 22, 23, 24, 25, 26, 27, 28, 29, 30, 31, 32, 33, 34, 35, 36, 37, 38, 39, 40, 41, 42, 43, 44] (by decide +kernel) (by decide +kernel)
set_option maxRecDepth 20000 in
theorem gX11_path_X11_fails : GoodIn wsX11_path (wsV RX11 239 RX11 yX11_fails wsX11_fails) := goodIn_app (goodIn_of _ (by decide +kernel)) ggX11_path_X11_fails
set_option maxRecDepth 20000 in
theorem ggX11_path_X11_of : GoodIn wsX11_path wsX11_of := goodIn_r _ [19, 8, 20, 21, 22, 23, 24, 25, 26, 27, 28, 29, 30, 31, 32, 33, 34, 35, 36, 37, 38, 39, 40, 41, 42, 43, 44] (by decide +kernel) (by decide +kernel)
set_option maxRecDepth 20000 in
theorem gX11_path_X11_of : GoodIn wsX11_path (wsV RX11 83 RX11 yX11_of wsX11_of) := goodIn_app (goodIn_of _ (by decide +kernel)) ggX11_path_X11_of
theorem dX11_path_0 : decode cX11_path 0 = .ok (.aload_n 0, 1) := by decide +kernel
theorem dX11_path_1 : decode cX11_path 1 = .ok (.iload_n 1, 1) := by decide +kernel
theorem dX11_path_2 : decode cX11_path 2 = .ok (.invokevirtual 78, 3) := by decide +kernel
theorem dX11_path_5 : decode cX11_path 5 = .ok (.ifCond .ne 6, 3) := by decide +kernel
theorem dX11_path_8 : decode cX11_path 8 = .ok (.ldc 82, 2) := by decide +kernel
theorem dX11_path_10 : decode cX11_path 10 = .ok (.ireturn, 1) := by decide +kernel
theorem dX11_path_11 : decode cX11_path 11 = .ok (.iload_n 2, 1) := by decide +kernel
theorem dX11_path_12 : decode cX11_path 12 = .ok (.iconst 0, 1) := by decide +kernel
theorem dX11_path_13 : decode cX11_path 13 = .ok (.bipush 13, 2) := by decide +kernel
theorem dX11_path_15 : decode cX11_path 15 = .ok (.invokestatic 64, 3) := by decide +kernel
theorem dX11_path_18 : decode cX11_path 18 = .ok (.ifCond .ne 6, 3) := by decide +kernel
theorem dX11_path_21 : decode cX11_path 21 = .ok (.ldc 68, 2) := by decide +kernel
theorem dX11_path_23 : decode cX11_path 23 = .ok (.ireturn, 1) := by decide +kernel
theorem dX11_path_24 : decode cX11_path 24 = .ok (.iload_n 2, 1) := by decide +kernel
theorem dX11_path_25 : decode cX11_path 25 = .ok (.bipush 13, 2) := by decide +kernel
theorem dX11_path_27 : decode cX11_path 27 = .ok (.if_icmp .ne 19, 3) := by decide +kernel
theorem dX11_path_30 : decode cX11_path 30 = .ok (.aload_n 0, 1) := by decide +kernel
theorem dX11_path_31 : decode cX11_path 31 = .ok (.iload_n 1, 1) := by decide +kernel
theorem dX11_path_32 : decode cX11_path 32 = .ok (.invokevirtual 239, 3) := by decide +kernel
theorem dX11_path_35 : decode cX11_path 35 = .ok (.ifCond .eq 7, 3) := by decide +kernel
theorem dX11_path_38 : decode cX11_path 38 = .ok (.iconst 1, 1) := by decide +kernel
theorem dX11_path_39 : decode cX11_path 39 = .ok (.goto 13, 3) := by decide +kernel
theorem dX11_path_42 : decode cX11_path 42 = .ok (.iconst 0, 1) := by decide +kernel
theorem dX11_path_43 : decode cX11_path 43 = .ok (.goto 9, 3) := by decide +kernel
theorem dX11_path_46 : decode cX11_path 46 = .ok (.aload_n 0, 1) := by decide +kernel
theorem dX11_path_47 : decode cX11_path 47 = .ok (.iload_n 1, 1) := by decide +kernel
theorem dX11_path_48 : decode cX11_path 48 = .ok (.iload_n 2, 1) := by decide +kernel
theorem dX11_path_49 : decode cX11_path 49 = .ok (.invokevirtual 83, 3) := by decide +kernel
theorem dX11_path_52 : decode cX11_path 52 = .ok (.ireturn, 1) := by decide +kernel
set_option maxRecDepth 20000 in
theorem ggX11_told_X11_isPath : GoodIn wsX11_told wsX11_isPath := goodIn_r _ [8, 9, 10, 11, 7, 12, 17, 18, 19, 20, 21, 22, 23, 24, 25, 26, 27, 28, 29, 30, 31, 32, 33, 34, 35, 36, 37, 38, 39, 40, 41] (by decide +kernel) (by decide +kernel)
set_option maxRecDepth 20000 in
theorem gX11_told_X11_isPath : GoodIn wsX11_told (wsV RX11 78 RX11 yX11_isPath wsX11_isPath) := goodIn_app (goodIn_of _ (by decide +kernel)) ggX11_told_X11_isPath
set_option maxRecDepth 20000 in
theorem ggX11_told_X11_in : GoodIn wsX11_told wsX11_in := goodIn_r _ [12] (by decide +kernel) (by decide +kernel)
set_option maxRecDepth 20000 in
theorem gX11_told_X11_in : GoodIn wsX11_told (va_wsS RX11 64 yX11_in wsX11_in) := goodIn_app (goodIn_of _ (by decide +kernel)) ggX11_told_X11_in
set_option maxRecDepth 20000 in
theorem ggX11_told_X11_of : GoodIn wsX11_told wsX11_of := goodIn_r _ [16, 9, 17, 18, 19, 20, 21, 22, 23, 24, 25, 26, 27, 28, 29, 30, 31, 32, 33, 34, 35, 36, 37, 38, 39, 40, 41] (by decide +kernel) (by decide +kernel)
set_option maxRecDepth 20000 in
theorem gX11_told_X11_of : GoodIn wsX11_told (wsV RX11 83 RX11 yX11_of wsX11_of) := goodIn_app (goodIn_of _ (by decide +kernel)) ggX11_told_X11_of
theorem dX11_told_0 : decode cX11_told 0 = .ok (.aload_n 0, 1) := by decide +kernel
theorem dX11_told_1 : decode cX11_told 1 = .ok (.iload_n 1, 1) := by decide +kernel
theorem dX11_told_2 : decode cX11_told 2 = .ok (.invokevirtual 78, 3) := by decide +kernel
theorem dX11_told_5 : decode cX11_told 5 = .ok (.ifCond .ne 6, 3) := by decide +kernel
theorem dX11_told_8 : decode cX11_told 8 = .ok (.ldc 82, 2) := by decide +kernel
theorem dX11_told_10 : decode cX11_told 10 = .ok (.ireturn, 1) := by decide +kernel
theorem dX11_told_11 : decode cX11_told 11 = .ok (.iload_n 2, 1) := by decide +kernel
theorem dX11_told_12 : decode cX11_told 12 = .ok (.iconst 0, 1) := by decide +kernel
theorem dX11_told_13 : decode cX11_told 13 = .ok (.iconst 2, 1) := by decide +kernel
theorem dX11_told_14 : decode cX11_told 14 = .ok (.invokestatic 64, 3) := by decide +kernel
theorem dX11_told_17 : decode cX11_told 17 = .ok (.ifCond .ne 6, 3) := by decide +kernel
theorem dX11_told_20 : decode cX11_told 20 = .ok (.ldc 68, 2) := by decide +kernel
theorem dX11_told_22 : decode cX11_told 22 = .ok (.ireturn, 1) := by decide +kernel
theorem dX11_told_23 : decode cX11_told 23 = .ok (.aload_n 0, 1) := by decide +kernel
theorem dX11_told_24 : decode cX11_told 24 = .ok (.iload_n 1, 1) := by decide +kernel
theorem dX11_told_25 : decode cX11_told 25 = .ok (.bipush 13, 2) := by decide +kernel
theorem dX11_told_27 : decode cX11_told 27 = .ok (.invokevirtual 83, 3) := by decide +kernel
theorem dX11_told_30 : decode cX11_told 30 = .ok (.ldc 77, 2) := by decide +kernel
theorem dX11_told_32 : decode cX11_told 32 = .ok (.if_icmp .ne 8, 3) := by decide +kernel
theorem dX11_told_35 : decode cX11_told 35 = .ok (.ldc 77, 2) := by decide +kernel
theorem dX11_told_37 : decode cX11_told 37 = .ok (.goto 12, 3) := by decide +kernel
theorem dX11_told_40 : decode cX11_told 40 = .ok (.aload_n 0, 1) := by decide +kernel
theorem dX11_told_41 : decode cX11_told 41 = .ok (.iload_n 1, 1) := by decide +kernel
theorem dX11_told_42 : decode cX11_told 42 = .ok (.bipush 13, 2) := by decide +kernel
theorem dX11_told_44 : decode cX11_told 44 = .ok (.iload_n 2, 1) := by decide +kernel
theorem dX11_told_45 : decode cX11_told 45 = .ok (.iadd, 1) := by decide +kernel
theorem dX11_told_46 : decode cX11_told 46 = .ok (.invokevirtual 83, 3) := by decide +kernel
theorem dX11_told_49 : decode cX11_told 49 = .ok (.ireturn, 1) := by decide +kernel
set_option maxRecDepth 20000 in
theorem ggX11_sound_X11_isPath : GoodIn wsX11_sound wsX11_isPath := goodIn_r _ [10, 11, 12, 13, 9, 14, 19, 20, 21, 22, 23, 24, 25, 26, 27, 28, 29, 30, 31, 32, 33, 34, 35, 36, 37, 38, 39, 40, 41, 42, 43] (by decide +kernel) (by decide +kernel)
set_option maxRecDepth 20000 in
theorem gX11_sound_X11_isPath : GoodIn wsX11_sound (wsV RX11 78 RX11 yX11_isPath wsX11_isPath) := goodIn_app (goodIn_of _ (by decide +kernel)) ggX11_sound_X11_isPath
set_option maxRecDepth 20000 in
theorem ggX11_sound_X11_of : GoodIn wsX11_sound wsX11_of := goodIn_r _ [18, 11, 19, 20, 21, 22, 23, 24, 25, 26, 27, 28, 29, 30, 31, 32, 33, 34, 35, 36, 37, 38, 39, 40, 41, 42, 43] (by decide +kernel) (by decide +kernel)
set_option maxRecDepth 20000 in
theorem gX11_sound_X11_of : GoodIn wsX11_sound (wsV RX11 83 RX11 yX11_of wsX11_of) := goodIn_app (goodIn_of _ (by decide +kernel)) ggX11_sound_X11_of
theorem dX11_sound_0 : decode cX11_sound 0 = .ok (.aload_n 0, 1) := by decide +kernel
theorem dX11_sound_1 : decode cX11_sound 1 = .ok (.iload_n 1, 1) := by decide +kernel
theorem dX11_sound_2 : decode cX11_sound 2 = .ok (.invokevirtual 78, 3) := by decide +kernel
theorem dX11_sound_5 : decode cX11_sound 5 = .ok (.ifCond .ne 7, 3) := by decide +kernel
theorem dX11_sound_8 : decode cX11_sound 8 = .ok (.ldc2_w 242, 3) := by decide +kernel
theorem dX11_sound_11 : decode cX11_sound 11 = .ok (.lreturn, 1) := by decide +kernel
theorem dX11_sound_12 : decode cX11_sound 12 = .ok (.aload_n 0, 1) := by decide +kernel
theorem dX11_sound_13 : decode cX11_sound 13 = .ok (.iload_n 1, 1) := by decide +kernel
theorem dX11_sound_14 : decode cX11_sound 14 = .ok (.iconst 5, 1) := by decide +kernel
theorem dX11_sound_15 : decode cX11_sound 15 = .ok (.invokevirtual 83, 3) := by decide +kernel
theorem dX11_sound_18 : decode cX11_sound 18 = .ok (.ldc 77, 2) := by decide +kernel
theorem dX11_sound_20 : decode cX11_sound 20 = .ok (.if_icmp .ne 7, 3) := by decide +kernel
theorem dX11_sound_23 : decode cX11_sound 23 = .ok (.ldc2_w 244, 3) := by decide +kernel
theorem dX11_sound_26 : decode cX11_sound 26 = .ok (.lreturn, 1) := by decide +kernel
theorem dX11_sound_27 : decode cX11_sound 27 = .ok (.aload_n 0, 1) := by decide +kernel
theorem dX11_sound_28 : decode cX11_sound 28 = .ok (.iload_n 1, 1) := by decide +kernel
theorem dX11_sound_29 : decode cX11_sound 29 = .ok (.iconst 5, 1) := by decide +kernel
theorem dX11_sound_30 : decode cX11_sound 30 = .ok (.invokevirtual 83, 3) := by decide +kernel
theorem dX11_sound_33 : decode cX11_sound 33 = .ok (.aload_n 0, 1) := by decide +kernel
theorem dX11_sound_34 : decode cX11_sound 34 = .ok (.iload_n 1, 1) := by decide +kernel
theorem dX11_sound_35 : decode cX11_sound 35 = .ok (.iconst 4, 1) := by decide +kernel
theorem dX11_sound_36 : decode cX11_sound 36 = .ok (.invokevirtual 83, 3) := by decide +kernel
theorem dX11_sound_39 : decode cX11_sound 39 = .ok (.isub, 1) := by decide +kernel
theorem dX11_sound_40 : decode cX11_sound 40 = .ok (.i2l, 1) := by decide +kernel
theorem dX11_sound_41 : decode cX11_sound 41 = .ok (.lstore_n 2, 1) := by decide +kernel
theorem dX11_sound_42 : decode cX11_sound 42 = .ok (.aload_n 0, 1) := by decide +kernel
theorem dX11_sound_43 : decode cX11_sound 43 = .ok (.iload_n 1, 1) := by decide +kernel
theorem dX11_sound_44 : decode cX11_sound 44 = .ok (.bipush 6, 2) := by decide +kernel
theorem dX11_sound_46 : decode cX11_sound 46 = .ok (.invokevirtual 83, 3) := by decide +kernel
theorem dX11_sound_49 : decode cX11_sound 49 = .ok (.aload_n 0, 1) := by decide +kernel
theorem dX11_sound_50 : decode cX11_sound 50 = .ok (.iload_n 1, 1) := by decide +kernel
theorem dX11_sound_51 : decode cX11_sound 51 = .ok (.iconst 4, 1) := by decide +kernel
theorem dX11_sound_52 : decode cX11_sound 52 = .ok (.invokevirtual 83, 3) := by decide +kernel
theorem dX11_sound_55 : decode cX11_sound 55 = .ok (.isub, 1) := by decide +kernel
theorem dX11_sound_56 : decode cX11_sound 56 = .ok (.i2l, 1) := by decide +kernel
theorem dX11_sound_57 : decode cX11_sound 57 = .ok (.lstore 4, 2) := by decide +kernel
theorem dX11_sound_59 : decode cX11_sound 59 = .ok (.aload_n 0, 1) := by decide +kernel
theorem dX11_sound_60 : decode cX11_sound 60 = .ok (.iload_n 1, 1) := by decide +kernel
theorem dX11_sound_61 : decode cX11_sound 61 = .ok (.iconst 0, 1) := by decide +kernel
theorem dX11_sound_62 : decode cX11_sound 62 = .ok (.invokevirtual 83, 3) := by decide +kernel
theorem dX11_sound_65 : decode cX11_sound 65 = .ok (.i2l, 1) := by decide +kernel
theorem dX11_sound_66 : decode cX11_sound 66 = .ok (.ldc2_w 106, 3) := by decide +kernel
theorem dX11_sound_69 : decode cX11_sound 69 = .ok (.lmul, 1) := by decide +kernel
theorem dX11_sound_70 : decode cX11_sound 70 = .ok (.lload_n 2, 1) := by decide +kernel
theorem dX11_sound_71 : decode cX11_sound 71 = .ok (.lload 4, 2) := by decide +kernel
theorem dX11_sound_73 : decode cX11_sound 73 = .ok (.ladd, 1) := by decide +kernel
theorem dX11_sound_74 : decode cX11_sound 74 = .ok (.lmul, 1) := by decide +kernel
theorem dX11_sound_75 : decode cX11_sound 75 = .ok (.lload_n 2, 1) := by decide +kernel
theorem dX11_sound_76 : decode cX11_sound 76 = .ok (.lload 4, 2) := by decide +kernel
theorem dX11_sound_78 : decode cX11_sound 78 = .ok (.lmul, 1) := by decide +kernel
theorem dX11_sound_79 : decode cX11_sound 79 = .ok (.ldc2_w 108, 3) := by decide +kernel
theorem dX11_sound_82 : decode cX11_sound 82 = .ok (.ldiv, 1) := by decide +kernel
theorem dX11_sound_83 : decode cX11_sound 83 = .ok (.ldiv, 1) := by decide +kernel
theorem dX11_sound_84 : decode cX11_sound 84 = .ok (.lreturn, 1) := by decide +kernel
set_option maxRecDepth 20000 in
theorem ggX11_factor_X11_in : GoodIn wsX11_factor wsX11_in := goodIn_r _ [7] (by decide +kernel) (by decide +kernel)
set_option maxRecDepth 20000 in
theorem gX11_factor_X11_in : GoodIn wsX11_factor (va_wsS RX11 64 yX11_in wsX11_in) := goodIn_app (goodIn_of _ (by decide +kernel)) ggX11_factor_X11_in
set_option maxRecDepth 20000 in
theorem ggX11_factor_X11_factorFor : GoodIn wsX11_factor wsX11_factorFor := goodIn_r _ [11, 12, 13, 14, 15, 6, 16, 17, 18, 19, 20, 21, 22, 23, 24, 25, 26, 27, 28, 29, 30, 31, 32, 33, 34, 35, 36, 37, 38, 39, 40, 41, 42, 43, 44, 45, 46, 47, 48, 49] (by decide +kernel) (by decide +kernel)
set_option maxRecDepth 20000 in
theorem gX11_factor_X11_factorFor : GoodIn wsX11_factor (wsV RX11 182 RX11 yX11_factorFor wsX11_factorFor) := goodIn_app (goodIn_of _ (by decide +kernel)) ggX11_factor_X11_factorFor
theorem dX11_factor_0 : decode cX11_factor 0 = .ok (.iload_n 1, 1) := by decide +kernel
theorem dX11_factor_1 : decode cX11_factor 1 = .ok (.ldc 246, 2) := by decide +kernel
theorem dX11_factor_3 : decode cX11_factor 3 = .ok (.ldc 91, 2) := by decide +kernel
theorem dX11_factor_5 : decode cX11_factor 5 = .ok (.invokestatic 64, 3) := by decide +kernel
theorem dX11_factor_8 : decode cX11_factor 8 = .ok (.ifCond .eq 12, 3) := by decide +kernel
theorem dX11_factor_11 : decode cX11_factor 11 = .ok (.aload_n 0, 1) := by decide +kernel
theorem dX11_factor_12 : decode cX11_factor 12 = .ok (.iload_n 1, 1) := by decide +kernel
theorem dX11_factor_13 : decode cX11_factor 13 = .ok (.i2l, 1) := by decide +kernel
theorem dX11_factor_14 : decode cX11_factor 14 = .ok (.invokevirtual 182, 3) := by decide +kernel
theorem dX11_factor_17 : decode cX11_factor 17 = .ok (.goto 5, 3) := by decide +kernel
theorem dX11_factor_20 : decode cX11_factor 20 = .ok (.ldc 68, 2) := by decide +kernel
theorem dX11_factor_22 : decode cX11_factor 22 = .ok (.ireturn, 1) := by decide +kernel
set_option maxRecDepth 20000 in
theorem ggX11_round_X11_in : GoodIn wsX11_round wsX11_in := goodIn_r _ [7] (by decide +kernel) (by decide +kernel)
set_option maxRecDepth 20000 in
theorem gX11_round_X11_in : GoodIn wsX11_round (va_wsS RX11 64 yX11_in wsX11_in) := goodIn_app (goodIn_of _ (by decide +kernel)) ggX11_round_X11_in
theorem dX11_round_0 : decode cX11_round 0 = .ok (.iload_n 1, 1) := by decide +kernel
theorem dX11_round_1 : decode cX11_round 1 = .ok (.iconst 0, 1) := by decide +kernel
theorem dX11_round_2 : decode cX11_round 2 = .ok (.aload_n 0, 1) := by decide +kernel
theorem dX11_round_3 : decode cX11_round 3 = .ok (.getfield 7, 3) := by decide +kernel
theorem dX11_round_6 : decode cX11_round 6 = .ok (.bipush 86, 2) := by decide +kernel
theorem dX11_round_8 : decode cX11_round 8 = .ok (.iaload, 1) := by decide +kernel
theorem dX11_round_9 : decode cX11_round 9 = .ok (.iconst 1, 1) := by decide +kernel
theorem dX11_round_10 : decode cX11_round 10 = .ok (.isub, 1) := by decide +kernel
theorem dX11_round_11 : decode cX11_round 11 = .ok (.invokestatic 64, 3) := by decide +kernel
theorem dX11_round_14 : decode cX11_round 14 = .ok (.ifCond .ne 6, 3) := by decide +kernel
theorem dX11_round_17 : decode cX11_round 17 = .ok (.ldc 82, 2) := by decide +kernel
theorem dX11_round_19 : decode cX11_round 19 = .ok (.ireturn, 1) := by decide +kernel
theorem dX11_round_20 : decode cX11_round 20 = .ok (.iload_n 2, 1) := by decide +kernel
theorem dX11_round_21 : decode cX11_round 21 = .ok (.iconst 0, 1) := by decide +kernel
theorem dX11_round_22 : decode cX11_round 22 = .ok (.iconst 5, 1) := by decide +kernel
theorem dX11_round_23 : decode cX11_round 23 = .ok (.invokestatic 64, 3) := by decide +kernel
theorem dX11_round_26 : decode cX11_round 26 = .ok (.ifCond .eq 20, 3) := by decide +kernel
theorem dX11_round_29 : decode cX11_round 29 = .ok (.aload_n 0, 1) := by decide +kernel
theorem dX11_round_30 : decode cX11_round 30 = .ok (.getfield 7, 3) := by decide +kernel
theorem dX11_round_33 : decode cX11_round 33 = .ok (.bipush 87, 2) := by decide +kernel
theorem dX11_round_35 : decode cX11_round 35 = .ok (.bipush 6, 2) := by decide +kernel
theorem dX11_round_37 : decode cX11_round 37 = .ok (.iload_n 1, 1) := by decide +kernel
theorem dX11_round_38 : decode cX11_round 38 = .ok (.imul, 1) := by decide +kernel
theorem dX11_round_39 : decode cX11_round 39 = .ok (.iadd, 1) := by decide +kernel
theorem dX11_round_40 : decode cX11_round 40 = .ok (.iload_n 2, 1) := by decide +kernel
theorem dX11_round_41 : decode cX11_round 41 = .ok (.iadd, 1) := by decide +kernel
theorem dX11_round_42 : decode cX11_round 42 = .ok (.iaload, 1) := by decide +kernel
theorem dX11_round_43 : decode cX11_round 43 = .ok (.goto 5, 3) := by decide +kernel
theorem dX11_round_46 : decode cX11_round 46 = .ok (.ldc 68, 2) := by decide +kernel
theorem dX11_round_48 : decode cX11_round 48 = .ok (.ireturn, 1) := by decide +kernel
set_option maxRecDepth 20000 in
theorem ggX11_volume_X11_in : GoodIn wsX11_volume wsX11_in := goodIn_r _ [6] (by decide +kernel) (by decide +kernel)
set_option maxRecDepth 20000 in
theorem gX11_volume_X11_in : GoodIn wsX11_volume (va_wsS RX11 64 yX11_in wsX11_in) := goodIn_app (goodIn_of _ (by decide +kernel)) ggX11_volume_X11_in
theorem dX11_volume_0 : decode cX11_volume 0 = .ok (.iload_n 1, 1) := by decide +kernel
theorem dX11_volume_1 : decode cX11_volume 1 = .ok (.iconst 0, 1) := by decide +kernel
theorem dX11_volume_2 : decode cX11_volume 2 = .ok (.iconst 2, 1) := by decide +kernel
theorem dX11_volume_3 : decode cX11_volume 3 = .ok (.invokestatic 64, 3) := by decide +kernel
