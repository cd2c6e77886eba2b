theorem ggX11_run_X11_does_c : ∀ {big a : List Cond} {c : Cond}, GoodIn big [c] → GoodIn big a → GoodIn big (c :: a) := fun h1 h2 w h => (List.mem_cons.mp h).elim (fun e => h1 w (List.mem_cons.mpr (Or.inl e))) (h2 w)
set_option maxRecDepth 20000 in
theorem ggX11_run_X11_does_1 : GoodIn wsX11_run ([.code yX11_does cX11_does 2 (some .boolean)]) := goodIn_r _ [44] (by decide +kernel) (by decide +kernel)
set_option maxRecDepth 20000 in
theorem ggX11_run_X11_does_2 : GoodIn wsX11_run (wsX11_does_r1) := goodIn_r _ [13, 24, 39, 45, 46, 47, 7, 48, 49, 50, 51, 52, 53, 54, 25, 26, 27, 55, 56, 57, 14, 58, 59, 60] (by decide +kernel) (by decide +kernel)
set_option maxRecDepth 20000 in
theorem ggX11_run_X11_does_3 : GoodIn wsX11_run (wsX11_does_r2) := goodIn_r _ [61, 62, 63, 64, 65, 66, 67, 68, 69, 70, 71, 72, 73, 74, 75, 76, 77, 78, 79, 80, 81, 82, 83, 40] (by decide +kernel) (by decide +kernel)
set_option maxRecDepth 20000 in
theorem ggX11_run_X11_does_4 : GoodIn wsX11_run (wsX11_does_r3) := goodIn_r _ [84, 85, 86, 87, 88, 89, 90, 91, 92, 93, 94, 95, 96, 97, 98, 99, 100, 101, 102, 103, 104, 105, 106, 107] (by decide +kernel) (by decide +kernel)
set_option maxRecDepth 20000 in
theorem ggX11_run_X11_does_5 : GoodIn wsX11_run (wsX11_does_r4) := goodIn_r _ [108, 109, 110, 111, 112, 113, 114, 115, 116, 117, 118, 119, 120, 121, 122, 123, 124, 125, 126, 127, 128, 129, 130, 131] (by decide +kernel) (by decide +kernel)
set_option maxRecDepth 20000 in
theorem ggX11_run_X11_does_6 : GoodIn wsX11_run (wsX11_does_r5) := goodIn_r _ [132, 133, 134, 135, 136, 137, 138, 139, 140, 141, 142, 143, 144, 145, 146, 147, 148, 149, 150, 151, 152, 153, 154, 155] (by decide +kernel) (by decide +kernel)
set_option maxRecDepth 20000 in
theorem ggX11_run_X11_does_7 : GoodIn wsX11_run (wsX11_does_r6) := goodIn_r _ [156, 157, 158, 159, 160, 161, 162, 163, 164, 165, 166, 167, 168, 169, 170, 171, 172, 173, 174] (by decide +kernel) (by decide +kernel)
set_option maxRecDepth 20000 in
theorem ggX11_run_X11_does_8 : GoodIn wsX11_run (wsX110) := goodIn_r _ [175, 176, 177, 178, 179, 180, 181, 182, 183, 184, 185, 186, 187, 188, 189, 190, 191, 192, 193, 194, 195, 196, 197, 198, 199] (by decide +kernel) (by decide +kernel)
theorem ggX11_run_X11_does : GoodIn wsX11_run wsX11_does := ggX11_run_X11_does_c ggX11_run_X11_does_1 (goodIn_app (goodIn_app ggX11_run_X11_does_2 (goodIn_app ggX11_run_X11_does_3 (goodIn_app ggX11_run_X11_does_4 (goodIn_app ggX11_run_X11_does_5 (goodIn_app ggX11_run_X11_does_6 ggX11_run_X11_does_7))))) ggX11_run_X11_does_8)
set_option maxRecDepth 20000 in
theorem gX11_run_X11_does : GoodIn wsX11_run (wsV RX11 236 RX11 yX11_does wsX11_does) := goodIn_app (goodIn_of _ (by decide +kernel)) ggX11_run_X11_does
theorem dX11_run_0 : decode cX11_run 0 = .ok (.aload_n 0, 1) := by decide +kernel
theorem dX11_run_1 : decode cX11_run 1 = .ok (.invokevirtual 233, 3) := by decide +kernel
theorem dX11_run_4 : decode cX11_run 4 = .ok (.ifCond .lt 6, 3) := by decide +kernel
theorem dX11_run_7 : decode cX11_run 7 = .ok (.ldc 98, 2) := by decide +kernel
theorem dX11_run_9 : decode cX11_run 9 = .ok (.ireturn, 1) := by decide +kernel
theorem dX11_run_10 : decode cX11_run 10 = .ok (.aload_n 0, 1) := by decide +kernel
theorem dX11_run_11 : decode cX11_run 11 = .ok (.invokevirtual 70, 3) := by decide +kernel
theorem dX11_run_14 : decode cX11_run 14 = .ok (.aload_n 0, 1) := by decide +kernel
theorem dX11_run_15 : decode cX11_run 15 = .ok (.iconst 0, 1) := by decide +kernel
theorem dX11_run_16 : decode cX11_run 16 = .ok (.putfield 214, 3) := by decide +kernel
theorem dX11_run_19 : decode cX11_run 19 = .ok (.iconst 0, 1) := by decide +kernel
theorem dX11_run_20 : decode cX11_run 20 = .ok (.istore_n 1, 1) := by decide +kernel
theorem dX11_run_21 : decode cX11_run 21 = .ok (.aload_n 0, 1) := by decide +kernel
theorem dX11_run_22 : decode cX11_run 22 = .ok (.getfield 214, 3) := by decide +kernel
theorem dX11_run_25 : decode cX11_run 25 = .ok (.aload_n 0, 1) := by decide +kernel
theorem dX11_run_26 : decode cX11_run 26 = .ok (.getfield 211, 3) := by decide +kernel
theorem dX11_run_29 : decode cX11_run 29 = .ok (.if_icmp .ge 23, 3) := by decide +kernel
theorem dX11_run_32 : decode cX11_run 32 = .ok (.aload_n 0, 1) := by decide +kernel
theorem dX11_run_33 : decode cX11_run 33 = .ok (.invokevirtual 229, 3) := by decide +kernel
theorem dX11_run_36 : decode cX11_run 36 = .ok (.ifCond .eq 16, 3) := by decide +kernel
theorem dX11_run_39 : decode cX11_run 39 = .ok (.aload_n 0, 1) := by decide +kernel
theorem dX11_run_40 : decode cX11_run 40 = .ok (.invokevirtual 236, 3) := by decide +kernel
theorem dX11_run_43 : decode cX11_run 43 = .ok (.ifCond .eq 9, 3) := by decide +kernel
theorem dX11_run_46 : decode cX11_run 46 = .ok (.iinc 1 1, 3) := by decide +kernel
theorem dX11_run_49 : decode cX11_run 49 = .ok (.goto (-28), 3) := by decide +kernel
theorem dX11_run_52 : decode cX11_run 52 = .ok (.iload_n 1, 1) := by decide +kernel
theorem dX11_run_53 : decode cX11_run 53 = .ok (.ireturn, 1) := by decide +kernel
theorem dX11_undo_0 : decode cX11_undo 0 = .ok (.aload_n 0, 1) := by decide +kernel
theorem dX11_undo_1 : decode cX11_undo 1 = .ok (.getfield 60, 3) := by decide +kernel
theorem dX11_undo_4 : decode cX11_undo 4 = .ok (.ifCond .ne 6, 3) := by decide +kernel
theorem dX11_undo_7 : decode cX11_undo 7 = .ok (.ldc 98, 2) := by decide +kernel
theorem dX11_undo_9 : decode cX11_undo 9 = .ok (.ireturn, 1) := by decide +kernel
theorem dX11_undo_10 : decode cX11_undo 10 = .ok (.aload_n 0, 1) := by decide +kernel
theorem dX11_undo_11 : decode cX11_undo 11 = .ok (.dup, 1) := by decide +kernel
theorem dX11_undo_12 : decode cX11_undo 12 = .ok (.getfield 60, 3) := by decide +kernel
theorem dX11_undo_15 : decode cX11_undo 15 = .ok (.iconst 1, 1) := by decide +kernel
theorem dX11_undo_16 : decode cX11_undo 16 = .ok (.isub, 1) := by decide +kernel
theorem dX11_undo_17 : decode cX11_undo 17 = .ok (.putfield 60, 3) := by decide +kernel
theorem dX11_undo_20 : decode cX11_undo 20 = .ok (.iconst 0, 1) := by decide +kernel
theorem dX11_undo_21 : decode cX11_undo 21 = .ok (.istore_n 1, 1) := by decide +kernel
theorem dX11_undo_22 : decode cX11_undo 22 = .ok (.iload_n 1, 1) := by decide +kernel
theorem dX11_undo_23 : decode cX11_undo 23 = .ok (.sipush 159, 3) := by decide +kernel
theorem dX11_undo_26 : decode cX11_undo 26 = .ok (.if_icmp .ge 30, 3) := by decide +kernel
theorem dX11_undo_29 : decode cX11_undo 29 = .ok (.aload_n 0, 1) := by decide +kernel
theorem dX11_undo_30 : decode cX11_undo 30 = .ok (.getfield 7, 3) := by decide +kernel
theorem dX11_undo_33 : decode cX11_undo 33 = .ok (.iload_n 1, 1) := by decide +kernel
theorem dX11_undo_34 : decode cX11_undo 34 = .ok (.aload_n 0, 1) := by decide +kernel
theorem dX11_undo_35 : decode cX11_undo 35 = .ok (.getfield 17, 3) := by decide +kernel
theorem dX11_undo_38 : decode cX11_undo 38 = .ok (.sipush 159, 3) := by decide +kernel
theorem dX11_undo_41 : decode cX11_undo 41 = .ok (.aload_n 0, 1) := by decide +kernel
theorem dX11_undo_42 : decode cX11_undo 42 = .ok (.getfield 60, 3) := by decide +kernel
theorem dX11_undo_45 : decode cX11_undo 45 = .ok (.imul, 1) := by decide +kernel
theorem dX11_undo_46 : decode cX11_undo 46 = .ok (.iload_n 1, 1) := by decide +kernel
theorem dX11_undo_47 : decode cX11_undo 47 = .ok (.iadd, 1) := by decide +kernel
theorem dX11_undo_48 : decode cX11_undo 48 = .ok (.iaload, 1) := by decide +kernel
theorem dX11_undo_49 : decode cX11_undo 49 = .ok (.iastore, 1) := by decide +kernel
theorem dX11_undo_50 : decode cX11_undo 50 = .ok (.iinc 1 1, 3) := by decide +kernel
theorem dX11_undo_53 : decode cX11_undo 53 = .ok (.goto (-31), 3) := by decide +kernel
theorem dX11_undo_56 : decode cX11_undo 56 = .ok (.aload_n 0, 1) := by decide +kernel
theorem dX11_undo_57 : decode cX11_undo 57 = .ok (.getfield 13, 3) := by decide +kernel
theorem dX11_undo_60 : decode cX11_undo 60 = .ok (.iconst 0, 1) := by decide +kernel
theorem dX11_undo_61 : decode cX11_undo 61 = .ok (.aload_n 0, 1) := by decide +kernel
theorem dX11_undo_62 : decode cX11_undo 62 = .ok (.getfield 20, 3) := by decide +kernel
theorem dX11_undo_65 : decode cX11_undo 65 = .ok (.iconst 2, 1) := by decide +kernel
theorem dX11_undo_66 : decode cX11_undo 66 = .ok (.aload_n 0, 1) := by decide +kernel
theorem dX11_undo_67 : decode cX11_undo 67 = .ok (.getfield 60, 3) := by decide +kernel
theorem dX11_undo_70 : decode cX11_undo 70 = .ok (.imul, 1) := by decide +kernel
theorem dX11_undo_71 : decode cX11_undo 71 = .ok (.laload, 1) := by decide +kernel
theorem dX11_undo_72 : decode cX11_undo 72 = .ok (.lastore, 1) := by decide +kernel
theorem dX11_undo_73 : decode cX11_undo 73 = .ok (.aload_n 0, 1) := by decide +kernel
theorem dX11_undo_74 : decode cX11_undo 74 = .ok (.getfield 13, 3) := by decide +kernel
theorem dX11_undo_77 : decode cX11_undo 77 = .ok (.iconst 1, 1) := by decide +kernel
theorem dX11_undo_78 : decode cX11_undo 78 = .ok (.aload_n 0, 1) := by decide +kernel
theorem dX11_undo_79 : decode cX11_undo 79 = .ok (.getfield 20, 3) := by decide +kernel
theorem dX11_undo_82 : decode cX11_undo 82 = .ok (.iconst 2, 1) := by decide +kernel
theorem dX11_undo_83 : decode cX11_undo 83 = .ok (.aload_n 0, 1) := by decide +kernel
theorem dX11_undo_84 : decode cX11_undo 84 = .ok (.getfield 60, 3) := by decide +kernel
theorem dX11_undo_87 : decode cX11_undo 87 = .ok (.imul, 1) := by decide +kernel
theorem dX11_undo_88 : decode cX11_undo 88 = .ok (.iconst 1, 1) := by decide +kernel
theorem dX11_undo_89 : decode cX11_undo 89 = .ok (.iadd, 1) := by decide +kernel
theorem dX11_undo_90 : decode cX11_undo 90 = .ok (.laload, 1) := by decide +kernel
theorem dX11_undo_91 : decode cX11_undo 91 = .ok (.lastore, 1) := by decide +kernel
theorem dX11_undo_92 : decode cX11_undo 92 = .ok (.aload_n 0, 1) := by decide +kernel
theorem dX11_undo_93 : decode cX11_undo 93 = .ok (.getfield 60, 3) := by decide +kernel
theorem dX11_undo_96 : decode cX11_undo 96 = .ok (.ireturn, 1) := by decide +kernel
set_option maxRecDepth 20000 in
theorem ggX11_save_X11_in : GoodIn wsX11_save wsX11_in := goodIn_r _ [10] (by decide +kernel) (by decide +kernel)
set_option maxRecDepth 20000 in
theorem gX11_save_X11_in : GoodIn wsX11_save (va_wsS RX11 64 yX11_in wsX11_in) := goodIn_app (goodIn_of _ (by decide +kernel)) ggX11_save_X11_in
theorem dX11_save_0 : decode cX11_save 0 = .ok (.iload_n 1, 1) := by decide +kernel
theorem dX11_save_1 : decode cX11_save 1 = .ok (.iconst 0, 1) := by decide +kernel
theorem dX11_save_2 : decode cX11_save 2 = .ok (.iconst 1, 1) := by decide +kernel
theorem dX11_save_3 : decode cX11_save 3 = .ok (.invokestatic 64, 3) := by decide +kernel
theorem dX11_save_6 : decode cX11_save 6 = .ok (.ifCond .ne 6, 3) := by decide +kernel
theorem dX11_save_9 : decode cX11_save 9 = .ok (.ldc 82, 2) := by decide +kernel
theorem dX11_save_11 : decode cX11_save 11 = .ok (.ireturn, 1) := by decide +kernel
theorem dX11_save_12 : decode cX11_save 12 = .ok (.iconst 0, 1) := by decide +kernel
theorem dX11_save_13 : decode cX11_save 13 = .ok (.istore_n 2, 1) := by decide +kernel
theorem dX11_save_14 : decode cX11_save 14 = .ok (.iload_n 2, 1) := by decide +kernel
theorem dX11_save_15 : decode cX11_save 15 = .ok (.sipush 159, 3) := by decide +kernel
theorem dX11_save_18 : decode cX11_save 18 = .ok (.if_icmp .ge 27, 3) := by decide +kernel
theorem dX11_save_21 : decode cX11_save 21 = .ok (.aload_n 0, 1) := by decide +kernel
theorem dX11_save_22 : decode cX11_save 22 = .ok (.getfield 23, 3) := by decide +kernel
theorem dX11_save_25 : decode cX11_save 25 = .ok (.sipush 159, 3) := by decide +kernel
theorem dX11_save_28 : decode cX11_save 28 = .ok (.iload_n 1, 1) := by decide +kernel
theorem dX11_save_29 : decode cX11_save 29 = .ok (.imul, 1) := by decide +kernel
theorem dX11_save_30 : decode cX11_save 30 = .ok (.iload_n 2, 1) := by decide +kernel
theorem dX11_save_31 : decode cX11_save 31 = .ok (.iadd, 1) := by decide +kernel
theorem dX11_save_32 : decode cX11_save 32 = .ok (.aload_n 0, 1) := by decide +kernel
theorem dX11_save_33 : decode cX11_save 33 = .ok (.getfield 7, 3) := by decide +kernel
theorem dX11_save_36 : decode cX11_save 36 = .ok (.iload_n 2, 1) := by decide +kernel
theorem dX11_save_37 : decode cX11_save 37 = .ok (.iaload, 1) := by decide +kernel
theorem dX11_save_38 : decode cX11_save 38 = .ok (.iastore, 1) := by decide +kernel
theorem dX11_save_39 : decode cX11_save 39 = .ok (.iinc 2 1, 3) := by decide +kernel
theorem dX11_save_42 : decode cX11_save 42 = .ok (.goto (-28), 3) := by decide +kernel
theorem dX11_save_45 : decode cX11_save 45 = .ok (.aload_n 0, 1) := by decide +kernel
theorem dX11_save_46 : decode cX11_save 46 = .ok (.getfield 26, 3) := by decide +kernel
theorem dX11_save_49 : decode cX11_save 49 = .ok (.iconst 2, 1) := by decide +kernel
theorem dX11_save_50 : decode cX11_save 50 = .ok (.iload_n 1, 1) := by decide +kernel
theorem dX11_save_51 : decode cX11_save 51 = .ok (.imul, 1) := by decide +kernel
theorem dX11_save_52 : decode cX11_save 52 = .ok (.aload_n 0, 1) := by decide +kernel
theorem dX11_save_53 : decode cX11_save 53 = .ok (.getfield 13, 3) := by decide +kernel
theorem dX11_save_56 : decode cX11_save 56 = .ok (.iconst 0, 1) := by decide +kernel
theorem dX11_save_57 : decode cX11_save 57 = .ok (.laload, 1) := by decide +kernel
theorem dX11_save_58 : decode cX11_save 58 = .ok (.lastore, 1) := by decide +kernel
theorem dX11_save_59 : decode cX11_save 59 = .ok (.aload_n 0, 1) := by decide +kernel
theorem dX11_save_60 : decode cX11_save 60 = .ok (.getfield 26, 3) := by decide +kernel
theorem dX11_save_63 : decode cX11_save 63 = .ok (.iconst 2, 1) := by decide +kernel
theorem dX11_save_64 : decode cX11_save 64 = .ok (.iload_n 1, 1) := by decide +kernel
theorem dX11_save_65 : decode cX11_save 65 = .ok (.imul, 1) := by decide +kernel
theorem dX11_save_66 : decode cX11_save 66 = .ok (.iconst 1, 1) := by decide +kernel
theorem dX11_save_67 : decode cX11_save 67 = .ok (.iadd, 1) := by decide +kernel
theorem dX11_save_68 : decode cX11_save 68 = .ok (.aload_n 0, 1) := by decide +kernel
theorem dX11_save_69 : decode cX11_save 69 = .ok (.getfield 13, 3) := by decide +kernel
theorem dX11_save_72 : decode cX11_save 72 = .ok (.iconst 1, 1) := by decide +kernel
theorem dX11_save_73 : decode cX11_save 73 = .ok (.laload, 1) := by decide +kernel
theorem dX11_save_74 : decode cX11_save 74 = .ok (.lastore, 1) := by decide +kernel
theorem dX11_save_75 : decode cX11_save 75 = .ok (.aload_n 0, 1) := by decide +kernel
theorem dX11_save_76 : decode cX11_save 76 = .ok (.getfield 29, 3) := by decide +kernel
theorem dX11_save_79 : decode cX11_save 79 = .ok (.iload_n 1, 1) := by decide +kernel
theorem dX11_save_80 : decode cX11_save 80 = .ok (.iconst 1, 1) := by decide +kernel
theorem dX11_save_81 : decode cX11_save 81 = .ok (.bastore, 1) := by decide +kernel
theorem dX11_save_82 : decode cX11_save 82 = .ok (.aload_n 0, 1) := by decide +kernel
theorem dX11_save_83 : decode cX11_save 83 = .ok (.getfield 7, 3) := by decide +kernel
theorem dX11_save_86 : decode cX11_save 86 = .ok (.bipush 84, 2) := by decide +kernel
theorem dX11_save_88 : decode cX11_save 88 = .ok (.iaload, 1) := by decide +kernel
theorem dX11_save_89 : decode cX11_save 89 = .ok (.ireturn, 1) := by decide +kernel
set_option maxRecDepth 20000 in
theorem ggX11_restore_X11_in : GoodIn wsX11_restore wsX11_in := goodIn_r _ [11] (by decide +kernel) (by decide +kernel)
set_option maxRecDepth 20000 in
theorem gX11_restore_X11_in : GoodIn wsX11_restore (va_wsS RX11 64 yX11_in wsX11_in) := goodIn_app (goodIn_of _ (by decide +kernel)) ggX11_restore_X11_in
set_option maxRecDepth 20000 in
theorem ggX11_restore_X11_records : GoodIn wsX11_restore wsX11_records := goodIn_r _ [15, 16, 17, 18, 4, 6, 19, 20, 21, 22, 23, 24, 25, 26, 27, 28, 29, 30, 31, 32, 33, 34, 35, 36, 37, 38, 39, 40, 41, 42, 43] (by decide +kernel) (by decide +kernel)
set_option maxRecDepth 20000 in
theorem gX11_restore_X11_records : GoodIn wsX11_restore (wsV RX11 70 RX11 yX11_records wsX11_records) := goodIn_app (goodIn_of _ (by decide +kernel)) ggX11_restore_X11_records
theorem dX11_restore_0 : decode cX11_restore 0 = .ok (.iload_n 1, 1) := by decide +kernel
theorem dX11_restore_1 : decode cX11_restore 1 = .ok (.iconst 0, 1) := by decide +kernel
theorem dX11_restore_2 : decode cX11_restore 2 = .ok (.iconst 1, 1) := by decide +kernel
theorem dX11_restore_3 : decode cX11_restore 3 = .ok (.invokestatic 64, 3) := by decide +kernel
theorem dX11_restore_6 : decode cX11_restore 6 = .ok (.ifCond .ne 6, 3) := by decide +kernel
theorem dX11_restore_9 : decode cX11_restore 9 = .ok (.ldc 82, 2) := by decide +kernel
theorem dX11_restore_11 : decode cX11_restore 11 = .ok (.ireturn, 1) := by decide +kernel
theorem dX11_restore_12 : decode cX11_restore 12 = .ok (.aload_n 0, 1) := by decide +kernel
theorem dX11_restore_13 : decode cX11_restore 13 = .ok (.getfield 29, 3) := by decide +kernel
theorem dX11_restore_16 : decode cX11_restore 16 = .ok (.iload_n 1, 1) := by decide +kernel
theorem dX11_restore_17 : decode cX11_restore 17 = .ok (.baload, 1) := by decide +kernel
theorem dX11_restore_18 : decode cX11_restore 18 = .ok (.ifCond .ne 6, 3) := by decide +kernel
theorem dX11_restore_21 : decode cX11_restore 21 = .ok (.ldc 98, 2) := by decide +kernel
theorem dX11_restore_23 : decode cX11_restore 23 = .ok (.ireturn, 1) := by decide +kernel
theorem dX11_restore_24 : decode cX11_restore 24 = .ok (.aload_n 0, 1) := by decide +kernel
theorem dX11_restore_25 : decode cX11_restore 25 = .ok (.invokevirtual 70, 3) := by decide +kernel
theorem dX11_restore_28 : decode cX11_restore 28 = .ok (.iconst 0, 1) := by decide +kernel
theorem dX11_restore_29 : decode cX11_restore 29 = .ok (.istore_n 2, 1) := by decide +kernel
theorem dX11_restore_30 : decode cX11_restore 30 = .ok (.iload_n 2, 1) := by decide +kernel
theorem dX11_restore_31 : decode cX11_restore 31 = .ok (.sipush 159, 3) := by decide +kernel
theorem dX11_restore_34 : decode cX11_restore 34 = .ok (.if_icmp .ge 27, 3) := by decide +kernel
theorem dX11_restore_37 : decode cX11_restore 37 = .ok (.aload_n 0, 1) := by decide +kernel
theorem dX11_restore_38 : decode cX11_restore 38 = .ok (.getfield 7, 3) := by decide +kernel
theorem dX11_restore_41 : decode cX11_restore 41 = .ok (.iload_n 2, 1) := by decide +kernel
theorem dX11_restore_42 : decode cX11_restore 42 = .ok (.aload_n 0, 1) := by decide +kernel
theorem dX11_restore_43 : decode cX11_restore 43 = .ok (.getfield 23, 3) := by decide +kernel
theorem dX11_restore_46 : decode cX11_restore 46 = .ok (.sipush 159, 3) := by decide +kernel
theorem dX11_restore_49 : decode cX11_restore 49 = .ok (.iload_n 1, 1) := by decide +kernel
theorem dX11_restore_50 : decode cX11_restore 50 = .ok (.imul, 1) := by decide +kernel
theorem dX11_restore_51 : decode cX11_restore 51 = .ok (.iload_n 2, 1) := by decide +kernel
theorem dX11_restore_52 : decode cX11_restore 52 = .ok (.iadd, 1) := by decide +kernel
theorem dX11_restore_53 : decode cX11_restore 53 = .ok (.iaload, 1) := by decide +kernel
theorem dX11_restore_54 : decode cX11_restore 54 = .ok (.iastore, 1) := by decide +kernel
theorem dX11_restore_55 : decode cX11_restore 55 = .ok (.iinc 2 1, 3) := by decide +kernel
theorem dX11_restore_58 : decode cX11_restore 58 = .ok (.goto (-28), 3) := by decide +kernel
theorem dX11_restore_61 : decode cX11_restore 61 = .ok (.aload_n 0, 1) := by decide +kernel
theorem dX11_restore_62 : decode cX11_restore 62 = .ok (.getfield 13, 3) := by decide +kernel
theorem dX11_restore_65 : decode cX11_restore 65 = .ok (.iconst 0, 1) := by decide +kernel
theorem dX11_restore_66 : decode cX11_restore 66 = .ok (.aload_n 0, 1) := by decide +kernel
theorem dX11_restore_67 : decode cX11_restore 67 = .ok (.getfield 26, 3) := by decide +kernel
theorem dX11_restore_70 : decode cX11_restore 70 = .ok (.iconst 2, 1) := by decide +kernel
theorem dX11_restore_71 : decode cX11_restore 71 = .ok (.iload_n 1, 1) := by decide +kernel
theorem dX11_restore_72 : decode cX11_restore 72 = .ok (.imul, 1) := by decide +kernel
theorem dX11_restore_73 : decode cX11_restore 73 = .ok (.laload, 1) := by decide +kernel
theorem dX11_restore_74 : decode cX11_restore 74 = .ok (.lastore, 1) := by decide +kernel
theorem dX11_restore_75 : decode cX11_restore 75 = .ok (.aload_n 0, 1) := by decide +kernel
theorem dX11_restore_76 : decode cX11_restore 76 = .ok (.getfield 13, 3) := by decide +kernel
theorem dX11_restore_79 : decode cX11_restore 79 = .ok (.iconst 1, 1) := by decide +kernel
theorem dX11_restore_80 : decode cX11_restore 80 = .ok (.aload_n 0, 1) := by decide +kernel
theorem dX11_restore_81 : decode cX11_restore 81 = .ok (.getfield 26, 3) := by decide +kernel
theorem dX11_restore_84 : decode cX11_restore 84 = .ok (.iconst 2, 1) := by decide +kernel
theorem dX11_restore_85 : decode cX11_restore 85 = .ok (.iload_n 1, 1) := by decide +kernel
theorem dX11_restore_86 : decode cX11_restore 86 = .ok (.imul, 1) := by decide +kernel
theorem dX11_restore_87 : decode cX11_restore 87 = .ok (.iconst 1, 1) := by decide +kernel
theorem dX11_restore_88 : decode cX11_restore 88 = .ok (.iadd, 1) := by decide +kernel
theorem dX11_restore_89 : decode cX11_restore 89 = .ok (.laload, 1) := by decide +kernel
theorem dX11_restore_90 : decode cX11_restore 90 = .ok (.lastore, 1) := by decide +kernel
theorem dX11_restore_91 : decode cX11_restore 91 = .ok (.aload_n 0, 1) := by decide +kernel
theorem dX11_restore_92 : decode cX11_restore 92 = .ok (.getfield 7, 3) := by decide +kernel
theorem dX11_restore_95 : decode cX11_restore 95 = .ok (.bipush 84, 2) := by decide +kernel
theorem dX11_restore_97 : decode cX11_restore 97 = .ok (.iaload, 1) := by decide +kernel
theorem dX11_restore_98 : decode cX11_restore 98 = .ok (.ireturn, 1) := by decide +kernel
set_option maxRecDepth 20000 in
theorem ggX11_fails_X11_of : GoodIn wsX11_fails wsX11_of := goodIn_r _ [5, 6, 7, 8, 9, 10, 11, 12, 13, 14, 15, 16, 17, 18, 19, 20, 21, 22, 23, 24, 25, 26, 27, 28, 29, 30, 31] (by decide +kernel) (by decide +kernel)
set_option maxRecDepth 20000 in
theorem gX11_fails_X11_of : GoodIn wsX11_fails (wsV RX11 83 RX11 yX11_of wsX11_of) := goodIn_app (goodIn_of _ (by decide +kernel)) ggX11_fails_X11_of
theorem dX11_fails_0 : decode cX11_fails 0 = .ok (.aload_n 0, 1) := by decide +kernel
theorem dX11_fails_1 : decode cX11_fails 1 = .ok (.iload_n 1, 1) := by decide +kernel
theorem dX11_fails_2 : decode cX11_fails 2 = .ok (.bipush 10, 2) := by decide +kernel
theorem dX11_fails_4 : decode cX11_fails 4 = .ok (.invokevirtual 83, 3) := by decide +kernel
theorem dX11_fails_7 : decode cX11_fails 7 = .ok (.iconst 3, 1) := by decide +kernel
theorem dX11_fails_8 : decode cX11_fails 8 = .ok (.if_icmp .lt 7, 3) := by decide +kernel
theorem dX11_fails_11 : decode cX11_fails 11 = .ok (.iconst 1, 1) := by decide +kernel
theorem dX11_fails_12 : decode cX11_fails 12 = .ok (.goto 4, 3) := by decide +kernel
theorem dX11_fails_15 : decode cX11_fails 15 = .ok (.iconst 0, 1) := by decide +kernel
theorem dX11_fails_16 : decode cX11_fails 16 = .ok (.ireturn, 1) := by decide +kernel
set_option maxRecDepth 20000 in
theorem ggX11_path_X11_isPath : GoodIn wsX11_path wsX11_isPath := goodIn_r _ [7, 8, 9, 10, 6, 11, 20, 21, 22, 23, 24, 25, 26, 27, 28, 29, 30, 31, 32, 33, 34, 35, 36, 37, 38, 39, 40, 41, 42, 43, 44] (by decide +kernel) (by decide +kernel)
set_option maxRecDepth 20000 in
theorem gX11_path_X11_isPath : GoodIn wsX11_path (wsV RX11 78 RX11 yX11_isPath wsX11_isPath) := goodIn_app (goodIn_of _ (by decide +kernel)) ggX11_path_X11_isPath
set_option maxRecDepth 20000 in
theorem ggX11_path_X11_in : GoodIn wsX11_path wsX11_in := goodIn_r _ [11] (by decide +kernel) (by decide +kernel)
set_option maxRecDepth 20000 in
theorem gX11_path_X11_in : GoodIn wsX11_path (va_wsS RX11 64 yX11_in wsX11_in) := goodIn_app (goodIn_of _ (by decide +kernel)) ggX11_path_X11_in
