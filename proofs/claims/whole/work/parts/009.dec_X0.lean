set_option maxRecDepth 20000 in
theorem ggX0_init_X2_init : GoodIn wsX0_init wsX2_init := goodIn_r _ [11, 12, 2, 3, 13, 14, 15, 16, 17, 18, 19, 20, 21, 22, 23, 24, 25, 26, 27, 28, 29, 30, 31, 32, 33, 34, 35, 36, 37, 38, 39, 40, 41, 42, 43, 44, 45, 46, 47, 48, 49, 50, 51, 56, 57, 58, 59, 60, 61, 62, 63] (by decide +kernel) (by decide +kernel)
set_option maxRecDepth 20000 in
theorem gX0_init_X2_init_n11 : GoodIn wsX0_init (wsX2_init) := ggX0_init_X2_init
theorem dX0_init_0 : decode cX0_init 0 = .ok (.aload_n 0, 1) := by decide +kernel
theorem dX0_init_1 : decode cX0_init 1 = .ok (.invokespecial 3, 3) := by decide +kernel
theorem dX0_init_4 : decode cX0_init 4 = .ok (.aload_n 0, 1) := by decide +kernel
theorem dX0_init_5 : decode cX0_init 5 = .ok (.new 9, 3) := by decide +kernel
theorem dX0_init_8 : decode cX0_init 8 = .ok (.dup, 1) := by decide +kernel
theorem dX0_init_9 : decode cX0_init 9 = .ok (.invokespecial 11, 3) := by decide +kernel
theorem dX0_init_12 : decode cX0_init 12 = .ok (.putfield 12, 3) := by decide +kernel
theorem dX0_init_15 : decode cX0_init 15 = .ok (.aload_n 0, 1) := by decide +kernel
theorem dX0_init_16 : decode cX0_init 16 = .ok (.new 9, 3) := by decide +kernel
theorem dX0_init_19 : decode cX0_init 19 = .ok (.dup, 1) := by decide +kernel
theorem dX0_init_20 : decode cX0_init 20 = .ok (.invokespecial 11, 3) := by decide +kernel
theorem dX0_init_23 : decode cX0_init 23 = .ok (.putfield 18, 3) := by decide +kernel
theorem dX0_init_26 : decode cX0_init 26 = .ok (.aload_n 0, 1) := by decide +kernel
theorem dX0_init_27 : decode cX0_init 27 = .ok (.iconst (-1), 1) := by decide +kernel
theorem dX0_init_28 : decode cX0_init 28 = .ok (.putfield 21, 3) := by decide +kernel
theorem dX0_init_31 : decode cX0_init 31 = .ok (.return_, 1) := by decide +kernel
theorem dX0_readerAt_0 : decode cX0_readerAt 0 = .ok (.iload_n 1, 1) := by decide +kernel
theorem dX0_readerAt_1 : decode cX0_readerAt 1 = .ok (.ifCond .ne 8, 3) := by decide +kernel
theorem dX0_readerAt_4 : decode cX0_readerAt 4 = .ok (.aload_n 0, 1) := by decide +kernel
theorem dX0_readerAt_5 : decode cX0_readerAt 5 = .ok (.getfield 12, 3) := by decide +kernel
theorem dX0_readerAt_8 : decode cX0_readerAt 8 = .ok (.areturn, 1) := by decide +kernel
theorem dX0_readerAt_9 : decode cX0_readerAt 9 = .ok (.iload_n 1, 1) := by decide +kernel
theorem dX0_readerAt_10 : decode cX0_readerAt 10 = .ok (.iconst 1, 1) := by decide +kernel
theorem dX0_readerAt_11 : decode cX0_readerAt 11 = .ok (.if_icmp .ne 10, 3) := by decide +kernel
theorem dX0_readerAt_14 : decode cX0_readerAt 14 = .ok (.aload_n 0, 1) := by decide +kernel
theorem dX0_readerAt_15 : decode cX0_readerAt 15 = .ok (.getfield 18, 3) := by decide +kernel
theorem dX0_readerAt_18 : decode cX0_readerAt 18 = .ok (.goto 4, 3) := by decide +kernel
theorem dX0_readerAt_21 : decode cX0_readerAt 21 = .ok (.aconst_null, 1) := by decide +kernel
theorem dX0_readerAt_22 : decode cX0_readerAt 22 = .ok (.areturn, 1) := by decide +kernel
set_option maxRecDepth 20000 in
theorem ggX0_step_X2_take : GoodIn wsX0_step wsX2_take := goodIn_r _ [8, 9, 10, 11, 12, 13, 14, 15, 16, 6, 17, 18, 19, 20, 21, 22, 23, 24, 25, 26, 27, 28, 29, 30, 31, 32, 33, 34, 35, 36, 37, 38, 39, 40, 41, 42, 43, 44, 45, 46, 47, 48, 49, 50, 51, 52, 53, 54, 55, 56, 57, 58, 59, 60, 61, 62, 63, 64, 65, 66, 67, 68, 69, 70, 71, 72, 73, 74, 75, 76, 77, 78, 79, 80, 81, 82, 96, 97, 98, 99, 100, 101, 102, 103, 104, 105, 106, 107, 108, 109, 110, 111, 112, 113, 114, 115, 116, 117, 118, 119] (by decide +kernel) (by decide +kernel)
set_option maxRecDepth 20000 in
theorem gX0_step_X2_take_n28 : GoodIn wsX0_step (wsX2_take) := ggX0_step_X2_take
set_option maxRecDepth 20000 in
theorem ggX0_step_X0_agree : GoodIn wsX0_step wsX0_agree := goodIn_r _ [87, 2, 3, 88, 89, 90, 91, 92, 93, 94, 95, 96, 97, 98, 99, 100, 101, 102, 103, 104, 105, 106, 107, 108, 109, 110, 111] (by decide +kernel) (by decide +kernel)
set_option maxRecDepth 20000 in
theorem gX0_step_X0_agree : GoodIn wsX0_step (wsV RX0 32 RX0 yX0_agree wsX0_agree) := goodIn_app (goodIn_of _ (by decide +kernel)) ggX0_step_X0_agree
theorem dX0_step_0 : decode cX0_step 0 = .ok (.aload_n 0, 1) := by decide +kernel
theorem dX0_step_1 : decode cX0_step 1 = .ok (.dup, 1) := by decide +kernel
theorem dX0_step_2 : decode cX0_step 2 = .ok (.getfield 25, 3) := by decide +kernel
theorem dX0_step_5 : decode cX0_step 5 = .ok (.iconst 1, 1) := by decide +kernel
theorem dX0_step_6 : decode cX0_step 6 = .ok (.iadd, 1) := by decide +kernel
theorem dX0_step_7 : decode cX0_step 7 = .ok (.putfield 25, 3) := by decide +kernel
theorem dX0_step_10 : decode cX0_step 10 = .ok (.aload_n 0, 1) := by decide +kernel
theorem dX0_step_11 : decode cX0_step 11 = .ok (.getfield 12, 3) := by decide +kernel
theorem dX0_step_14 : decode cX0_step 14 = .ok (.iload_n 1, 1) := by decide +kernel
theorem dX0_step_15 : decode cX0_step 15 = .ok (.aload_n 0, 1) := by decide +kernel
theorem dX0_step_16 : decode cX0_step 16 = .ok (.getfield 25, 3) := by decide +kernel
theorem dX0_step_19 : decode cX0_step 19 = .ok (.invokevirtual 28, 3) := by decide +kernel
theorem dX0_step_22 : decode cX0_step 22 = .ok (.aload_n 0, 1) := by decide +kernel
theorem dX0_step_23 : decode cX0_step 23 = .ok (.getfield 18, 3) := by decide +kernel
theorem dX0_step_26 : decode cX0_step 26 = .ok (.iload_n 2, 1) := by decide +kernel
theorem dX0_step_27 : decode cX0_step 27 = .ok (.aload_n 0, 1) := by decide +kernel
theorem dX0_step_28 : decode cX0_step 28 = .ok (.getfield 25, 3) := by decide +kernel
theorem dX0_step_31 : decode cX0_step 31 = .ok (.invokevirtual 28, 3) := by decide +kernel
theorem dX0_step_34 : decode cX0_step 34 = .ok (.aload_n 0, 1) := by decide +kernel
theorem dX0_step_35 : decode cX0_step 35 = .ok (.invokevirtual 32, 3) := by decide +kernel
theorem dX0_step_38 : decode cX0_step 38 = .ok (.ifCond .eq 11, 3) := by decide +kernel
theorem dX0_step_41 : decode cX0_step 41 = .ok (.aload_n 0, 1) := by decide +kernel
theorem dX0_step_42 : decode cX0_step 42 = .ok (.iconst (-1), 1) := by decide +kernel
theorem dX0_step_43 : decode cX0_step 43 = .ok (.putfield 21, 3) := by decide +kernel
theorem dX0_step_46 : decode cX0_step 46 = .ok (.goto 19, 3) := by decide +kernel
theorem dX0_step_49 : decode cX0_step 49 = .ok (.aload_n 0, 1) := by decide +kernel
theorem dX0_step_50 : decode cX0_step 50 = .ok (.getfield 21, 3) := by decide +kernel
theorem dX0_step_53 : decode cX0_step 53 = .ok (.iconst (-1), 1) := by decide +kernel
theorem dX0_step_54 : decode cX0_step 54 = .ok (.if_icmp .ne 11, 3) := by decide +kernel
theorem dX0_step_57 : decode cX0_step 57 = .ok (.aload_n 0, 1) := by decide +kernel
theorem dX0_step_58 : decode cX0_step 58 = .ok (.aload_n 0, 1) := by decide +kernel
theorem dX0_step_59 : decode cX0_step 59 = .ok (.getfield 25, 3) := by decide +kernel
theorem dX0_step_62 : decode cX0_step 62 = .ok (.putfield 21, 3) := by decide +kernel
theorem dX0_step_65 : decode cX0_step 65 = .ok (.return_, 1) := by decide +kernel
theorem dX0_agree_0 : decode cX0_agree 0 = .ok (.aload_n 0, 1) := by decide +kernel
theorem dX0_agree_1 : decode cX0_agree 1 = .ok (.getfield 12, 3) := by decide +kernel
theorem dX0_agree_4 : decode cX0_agree 4 = .ok (.getfield 36, 3) := by decide +kernel
theorem dX0_agree_7 : decode cX0_agree 7 = .ok (.ifCond .eq 13, 3) := by decide +kernel
theorem dX0_agree_10 : decode cX0_agree 10 = .ok (.aload_n 0, 1) := by decide +kernel
theorem dX0_agree_11 : decode cX0_agree 11 = .ok (.getfield 18, 3) := by decide +kernel
theorem dX0_agree_14 : decode cX0_agree 14 = .ok (.getfield 36, 3) := by decide +kernel
theorem dX0_agree_17 : decode cX0_agree 17 = .ok (.ifCond .ne 5, 3) := by decide +kernel
theorem dX0_agree_20 : decode cX0_agree 20 = .ok (.iconst 1, 1) := by decide +kernel
theorem dX0_agree_21 : decode cX0_agree 21 = .ok (.ireturn, 1) := by decide +kernel
theorem dX0_agree_22 : decode cX0_agree 22 = .ok (.aload_n 0, 1) := by decide +kernel
theorem dX0_agree_23 : decode cX0_agree 23 = .ok (.getfield 12, 3) := by decide +kernel
theorem dX0_agree_26 : decode cX0_agree 26 = .ok (.getfield 40, 3) := by decide +kernel
theorem dX0_agree_29 : decode cX0_agree 29 = .ok (.aload_n 0, 1) := by decide +kernel
theorem dX0_agree_30 : decode cX0_agree 30 = .ok (.getfield 12, 3) := by decide +kernel
theorem dX0_agree_33 : decode cX0_agree 33 = .ok (.getfield 43, 3) := by decide +kernel
theorem dX0_agree_36 : decode cX0_agree 36 = .ok (.isub, 1) := by decide +kernel
theorem dX0_agree_37 : decode cX0_agree 37 = .ok (.i2l, 1) := by decide +kernel
theorem dX0_agree_38 : decode cX0_agree 38 = .ok (.aload_n 0, 1) := by decide +kernel
theorem dX0_agree_39 : decode cX0_agree 39 = .ok (.getfield 18, 3) := by decide +kernel
theorem dX0_agree_42 : decode cX0_agree 42 = .ok (.getfield 46, 3) := by decide +kernel
theorem dX0_agree_45 : decode cX0_agree 45 = .ok (.i2l, 1) := by decide +kernel
theorem dX0_agree_46 : decode cX0_agree 46 = .ok (.lmul, 1) := by decide +kernel
theorem dX0_agree_47 : decode cX0_agree 47 = .ok (.lstore_n 1, 1) := by decide +kernel
theorem dX0_agree_48 : decode cX0_agree 48 = .ok (.aload_n 0, 1) := by decide +kernel
theorem dX0_agree_49 : decode cX0_agree 49 = .ok (.getfield 18, 3) := by decide +kernel
theorem dX0_agree_52 : decode cX0_agree 52 = .ok (.getfield 40, 3) := by decide +kernel
theorem dX0_agree_55 : decode cX0_agree 55 = .ok (.aload_n 0, 1) := by decide +kernel
theorem dX0_agree_56 : decode cX0_agree 56 = .ok (.getfield 18, 3) := by decide +kernel
theorem dX0_agree_59 : decode cX0_agree 59 = .ok (.getfield 43, 3) := by decide +kernel
theorem dX0_agree_62 : decode cX0_agree 62 = .ok (.isub, 1) := by decide +kernel
theorem dX0_agree_63 : decode cX0_agree 63 = .ok (.i2l, 1) := by decide +kernel
theorem dX0_agree_64 : decode cX0_agree 64 = .ok (.aload_n 0, 1) := by decide +kernel
theorem dX0_agree_65 : decode cX0_agree 65 = .ok (.getfield 12, 3) := by decide +kernel
theorem dX0_agree_68 : decode cX0_agree 68 = .ok (.getfield 46, 3) := by decide +kernel
theorem dX0_agree_71 : decode cX0_agree 71 = .ok (.i2l, 1) := by decide +kernel
theorem dX0_agree_72 : decode cX0_agree 72 = .ok (.lmul, 1) := by decide +kernel
theorem dX0_agree_73 : decode cX0_agree 73 = .ok (.lstore_n 3, 1) := by decide +kernel
theorem dX0_agree_74 : decode cX0_agree 74 = .ok (.lload_n 1, 1) := by decide +kernel
theorem dX0_agree_75 : decode cX0_agree 75 = .ok (.lload_n 3, 1) := by decide +kernel
theorem dX0_agree_76 : decode cX0_agree 76 = .ok (.lsub, 1) := by decide +kernel
theorem dX0_agree_77 : decode cX0_agree 77 = .ok (.invokestatic 49, 3) := by decide +kernel
theorem dX0_agree_80 : decode cX0_agree 80 = .ok (.aload_n 0, 1) := by decide +kernel
theorem dX0_agree_81 : decode cX0_agree 81 = .ok (.getfield 12, 3) := by decide +kernel
theorem dX0_agree_84 : decode cX0_agree 84 = .ok (.getfield 46, 3) := by decide +kernel
theorem dX0_agree_87 : decode cX0_agree 87 = .ok (.aload_n 0, 1) := by decide +kernel
theorem dX0_agree_88 : decode cX0_agree 88 = .ok (.getfield 18, 3) := by decide +kernel
theorem dX0_agree_91 : decode cX0_agree 91 = .ok (.getfield 46, 3) := by decide +kernel
theorem dX0_agree_94 : decode cX0_agree 94 = .ok (.iadd, 1) := by decide +kernel
theorem dX0_agree_95 : decode cX0_agree 95 = .ok (.i2l, 1) := by decide +kernel
theorem dX0_agree_96 : decode cX0_agree 96 = .ok (.lcmp, 1) := by decide +kernel
theorem dX0_agree_97 : decode cX0_agree 97 = .ok (.ifCond .gt 7, 3) := by decide +kernel
theorem dX0_agree_100 : decode cX0_agree 100 = .ok (.iconst 1, 1) := by decide +kernel
theorem dX0_agree_101 : decode cX0_agree 101 = .ok (.goto 4, 3) := by decide +kernel
theorem dX0_agree_104 : decode cX0_agree 104 = .ok (.iconst 0, 1) := by decide +kernel
theorem dX0_agree_105 : decode cX0_agree 105 = .ok (.ireturn, 1) := by decide +kernel
set_option maxRecDepth 20000 in
theorem ggX0_copyFrom_X2_copyFrom : GoodIn wsX0_copyFrom wsX2_copyFrom := goodIn_r _ [8, 9, 10, 11, 12, 13, 14, 15, 16, 17, 18, 19, 20, 21, 22, 23, 24, 25, 26, 27, 28, 29, 30, 31, 32, 33, 34, 35, 36, 37, 38, 39, 40, 41, 42, 43, 44, 45, 46, 51, 52, 53, 54, 55, 56, 57, 58, 59, 60, 61, 62, 63, 64, 65, 66, 67, 68, 69, 70, 71, 72, 73, 74] (by decide +kernel) (by decide +kernel)
set_option maxRecDepth 20000 in
theorem gX0_copyFrom_X2_copyFrom_n55 : GoodIn wsX0_copyFrom (wsX2_copyFrom) := ggX0_copyFrom_X2_copyFrom
theorem dX0_copyFrom_0 : decode cX0_copyFrom 0 = .ok (.aload_n 0, 1) := by decide +kernel
theorem dX0_copyFrom_1 : decode cX0_copyFrom 1 = .ok (.getfield 12, 3) := by decide +kernel
theorem dX0_copyFrom_4 : decode cX0_copyFrom 4 = .ok (.aload_n 1, 1) := by decide +kernel
theorem dX0_copyFrom_5 : decode cX0_copyFrom 5 = .ok (.getfield 12, 3) := by decide +kernel
theorem dX0_copyFrom_8 : decode cX0_copyFrom 8 = .ok (.invokevirtual 55, 3) := by decide +kernel
theorem dX0_copyFrom_11 : decode cX0_copyFrom 11 = .ok (.aload_n 0, 1) := by decide +kernel
theorem dX0_copyFrom_12 : decode cX0_copyFrom 12 = .ok (.getfield 18, 3) := by decide +kernel
theorem dX0_copyFrom_15 : decode cX0_copyFrom 15 = .ok (.aload_n 1, 1) := by decide +kernel
theorem dX0_copyFrom_16 : decode cX0_copyFrom 16 = .ok (.getfield 18, 3) := by decide +kernel
theorem dX0_copyFrom_19 : decode cX0_copyFrom 19 = .ok (.invokevirtual 55, 3) := by decide +kernel
theorem dX0_copyFrom_22 : decode cX0_copyFrom 22 = .ok (.aload_n 0, 1) := by decide +kernel
theorem dX0_copyFrom_23 : decode cX0_copyFrom 23 = .ok (.aload_n 1, 1) := by decide +kernel
theorem dX0_copyFrom_24 : decode cX0_copyFrom 24 = .ok (.getfield 25, 3) := by decide +kernel
theorem dX0_copyFrom_27 : decode cX0_copyFrom 27 = .ok (.putfield 25, 3) := by decide +kernel
theorem dX0_copyFrom_30 : decode cX0_copyFrom 30 = .ok (.aload_n 0, 1) := by decide +kernel
theorem dX0_copyFrom_31 : decode cX0_copyFrom 31 = .ok (.aload_n 1, 1) := by decide +kernel
theorem dX0_copyFrom_32 : decode cX0_copyFrom 32 = .ok (.getfield 21, 3) := by decide +kernel
theorem dX0_copyFrom_35 : decode cX0_copyFrom 35 = .ok (.putfield 21, 3) := by decide +kernel
theorem dX0_copyFrom_38 : decode cX0_copyFrom 38 = .ok (.return_, 1) := by decide +kernel
