set_option maxRecDepth 20000 in
theorem ggX2_init_X1_init : GoodIn wsX2_init wsX1_init := goodIn_r _ [18, 19, 2, 3, 4, 20, 21, 22, 43, 44, 45, 46, 47] (by decide +kernel) (by decide +kernel)
set_option maxRecDepth 20000 in
theorem gX2_init_X1_init_n20 : GoodIn wsX2_init (wsX1_init) := ggX2_init_X1_init
set_option maxRecDepth 20000 in
theorem ggX2_init_X4_init : GoodIn wsX2_init wsX4_init := goodIn_r _ [24, 25, 2, 3, 4, 26, 48, 49, 50] (by decide +kernel) (by decide +kernel)
set_option maxRecDepth 20000 in
theorem gX2_init_X4_init_n27 : GoodIn wsX2_init (wsX4_init) := ggX2_init_X4_init
theorem dX2_init_0 : decode cX2_init 0 = .ok (.aload_n 0, 1) := by decide +kernel
theorem dX2_init_1 : decode cX2_init 1 = .ok (.invokespecial 3, 3) := by decide +kernel
theorem dX2_init_4 : decode cX2_init 4 = .ok (.aload_n 0, 1) := by decide +kernel
theorem dX2_init_5 : decode cX2_init 5 = .ok (.iconst 3, 1) := by decide +kernel
theorem dX2_init_6 : decode cX2_init 6 = .ok (.newarray .int, 2) := by decide +kernel
theorem dX2_init_8 : decode cX2_init 8 = .ok (.putfield 9, 3) := by decide +kernel
theorem dX2_init_11 : decode cX2_init 11 = .ok (.aload_n 0, 1) := by decide +kernel
theorem dX2_init_12 : decode cX2_init 12 = .ok (.sipush 501, 3) := by decide +kernel
theorem dX2_init_15 : decode cX2_init 15 = .ok (.newarray .int, 2) := by decide +kernel
theorem dX2_init_17 : decode cX2_init 17 = .ok (.putfield 15, 3) := by decide +kernel
theorem dX2_init_20 : decode cX2_init 20 = .ok (.aload_n 0, 1) := by decide +kernel
theorem dX2_init_21 : decode cX2_init 21 = .ok (.new 18, 3) := by decide +kernel
theorem dX2_init_24 : decode cX2_init 24 = .ok (.dup, 1) := by decide +kernel
theorem dX2_init_25 : decode cX2_init 25 = .ok (.invokespecial 20, 3) := by decide +kernel
theorem dX2_init_28 : decode cX2_init 28 = .ok (.putfield 21, 3) := by decide +kernel
theorem dX2_init_31 : decode cX2_init 31 = .ok (.aload_n 0, 1) := by decide +kernel
theorem dX2_init_32 : decode cX2_init 32 = .ok (.new 25, 3) := by decide +kernel
theorem dX2_init_35 : decode cX2_init 35 = .ok (.dup, 1) := by decide +kernel
theorem dX2_init_36 : decode cX2_init 36 = .ok (.invokespecial 27, 3) := by decide +kernel
theorem dX2_init_39 : decode cX2_init 39 = .ok (.putfield 28, 3) := by decide +kernel
theorem dX2_init_42 : decode cX2_init 42 = .ok (.aload_n 0, 1) := by decide +kernel
theorem dX2_init_43 : decode cX2_init 43 = .ok (.iconst 1, 1) := by decide +kernel
theorem dX2_init_44 : decode cX2_init 44 = .ok (.putfield 32, 3) := by decide +kernel
theorem dX2_init_47 : decode cX2_init 47 = .ok (.aload_n 0, 1) := by decide +kernel
theorem dX2_init_48 : decode cX2_init 48 = .ok (.bipush 16, 2) := by decide +kernel
theorem dX2_init_50 : decode cX2_init 50 = .ok (.putfield 36, 3) := by decide +kernel
theorem dX2_init_53 : decode cX2_init 53 = .ok (.return_, 1) := by decide +kernel
set_option maxRecDepth 20000 in
theorem ggX2_beginAnew_J7_fill_53178 : GoodIn wsX2_beginAnew wsJ7_fill_53178 := goodIn_r _ [17] (by decide +kernel) (by decide +kernel)
set_option maxRecDepth 20000 in
theorem gX2_beginAnew_J7_fill_53178 : GoodIn wsX2_beginAnew (va_wsS RX2 39 yJ7_fill_53178 wsJ7_fill_53178) := goodIn_app (goodIn_of _ (by decide +kernel)) ggX2_beginAnew_J7_fill_53178
set_option maxRecDepth 20000 in
theorem ggX2_beginAnew_X1_forget : GoodIn wsX2_beginAnew wsX1_forget := goodIn_r _ [21, 22, 23, 58, 59, 60, 61, 62] (by decide +kernel) (by decide +kernel)
set_option maxRecDepth 20000 in
theorem gX2_beginAnew_X1_forget_n45 : GoodIn wsX2_beginAnew (wsX1_forget) := ggX2_beginAnew_X1_forget
set_option maxRecDepth 20000 in
theorem ggX2_beginAnew_X4_forget : GoodIn wsX2_beginAnew wsX4_forget := goodIn_r _ [27, 28, 29, 30, 31, 15, 16, 17, 63, 64, 65] (by decide +kernel) (by decide +kernel)
set_option maxRecDepth 20000 in
theorem gX2_beginAnew_X4_forget_n48 : GoodIn wsX2_beginAnew (wsX4_forget) := ggX2_beginAnew_X4_forget
set_option maxRecDepth 20000 in
theorem ggX2_beginAnew_X2_notePlace : GoodIn wsX2_beginAnew wsX2_notePlace := goodIn_r _ [36, 37, 5, 38, 39, 40, 41, 42, 43, 44, 45, 46, 47, 48, 49, 50, 51, 52, 53, 54, 55, 56, 57] (by decide +kernel) (by decide +kernel)
set_option maxRecDepth 20000 in
theorem gX2_beginAnew_X2_notePlace : GoodIn wsX2_beginAnew (wsV RX2 80 RX2 yX2_notePlace wsX2_notePlace) := goodIn_app (goodIn_of _ (by decide +kernel)) ggX2_beginAnew_X2_notePlace
theorem dX2_beginAnew_0 : decode cX2_beginAnew 0 = .ok (.aload_n 0, 1) := by decide +kernel
theorem dX2_beginAnew_1 : decode cX2_beginAnew 1 = .ok (.getfield 9, 3) := by decide +kernel
theorem dX2_beginAnew_4 : decode cX2_beginAnew 4 = .ok (.iconst 0, 1) := by decide +kernel
theorem dX2_beginAnew_5 : decode cX2_beginAnew 5 = .ok (.invokestatic 39, 3) := by decide +kernel
theorem dX2_beginAnew_8 : decode cX2_beginAnew 8 = .ok (.aload_n 0, 1) := by decide +kernel
theorem dX2_beginAnew_9 : decode cX2_beginAnew 9 = .ok (.getfield 21, 3) := by decide +kernel
theorem dX2_beginAnew_12 : decode cX2_beginAnew 12 = .ok (.invokevirtual 45, 3) := by decide +kernel
theorem dX2_beginAnew_15 : decode cX2_beginAnew 15 = .ok (.aload_n 0, 1) := by decide +kernel
theorem dX2_beginAnew_16 : decode cX2_beginAnew 16 = .ok (.getfield 28, 3) := by decide +kernel
theorem dX2_beginAnew_19 : decode cX2_beginAnew 19 = .ok (.invokevirtual 48, 3) := by decide +kernel
theorem dX2_beginAnew_22 : decode cX2_beginAnew 22 = .ok (.aload_n 0, 1) := by decide +kernel
theorem dX2_beginAnew_23 : decode cX2_beginAnew 23 = .ok (.iconst 0, 1) := by decide +kernel
theorem dX2_beginAnew_24 : decode cX2_beginAnew 24 = .ok (.putfield 49, 3) := by decide +kernel
theorem dX2_beginAnew_27 : decode cX2_beginAnew 27 = .ok (.aload_n 0, 1) := by decide +kernel
theorem dX2_beginAnew_28 : decode cX2_beginAnew 28 = .ok (.iconst 0, 1) := by decide +kernel
theorem dX2_beginAnew_29 : decode cX2_beginAnew 29 = .ok (.putfield 52, 3) := by decide +kernel
theorem dX2_beginAnew_32 : decode cX2_beginAnew 32 = .ok (.aload_n 0, 1) := by decide +kernel
theorem dX2_beginAnew_33 : decode cX2_beginAnew 33 = .ok (.iconst 0, 1) := by decide +kernel
theorem dX2_beginAnew_34 : decode cX2_beginAnew 34 = .ok (.putfield 55, 3) := by decide +kernel
theorem dX2_beginAnew_37 : decode cX2_beginAnew 37 = .ok (.aload_n 0, 1) := by decide +kernel
theorem dX2_beginAnew_38 : decode cX2_beginAnew 38 = .ok (.iconst 0, 1) := by decide +kernel
theorem dX2_beginAnew_39 : decode cX2_beginAnew 39 = .ok (.putfield 58, 3) := by decide +kernel
theorem dX2_beginAnew_42 : decode cX2_beginAnew 42 = .ok (.aload_n 0, 1) := by decide +kernel
theorem dX2_beginAnew_43 : decode cX2_beginAnew 43 = .ok (.iconst 0, 1) := by decide +kernel
theorem dX2_beginAnew_44 : decode cX2_beginAnew 44 = .ok (.putfield 61, 3) := by decide +kernel
theorem dX2_beginAnew_47 : decode cX2_beginAnew 47 = .ok (.aload_n 0, 1) := by decide +kernel
theorem dX2_beginAnew_48 : decode cX2_beginAnew 48 = .ok (.iconst 0, 1) := by decide +kernel
theorem dX2_beginAnew_49 : decode cX2_beginAnew 49 = .ok (.putfield 65, 3) := by decide +kernel
theorem dX2_beginAnew_52 : decode cX2_beginAnew 52 = .ok (.aload_n 0, 1) := by decide +kernel
theorem dX2_beginAnew_53 : decode cX2_beginAnew 53 = .ok (.iconst 0, 1) := by decide +kernel
theorem dX2_beginAnew_54 : decode cX2_beginAnew 54 = .ok (.putfield 68, 3) := by decide +kernel
theorem dX2_beginAnew_57 : decode cX2_beginAnew 57 = .ok (.aload_n 0, 1) := by decide +kernel
theorem dX2_beginAnew_58 : decode cX2_beginAnew 58 = .ok (.iconst 0, 1) := by decide +kernel
theorem dX2_beginAnew_59 : decode cX2_beginAnew 59 = .ok (.putfield 71, 3) := by decide +kernel
theorem dX2_beginAnew_62 : decode cX2_beginAnew 62 = .ok (.aload_n 0, 1) := by decide +kernel
theorem dX2_beginAnew_63 : decode cX2_beginAnew 63 = .ok (.iconst 0, 1) := by decide +kernel
theorem dX2_beginAnew_64 : decode cX2_beginAnew 64 = .ok (.putfield 74, 3) := by decide +kernel
theorem dX2_beginAnew_67 : decode cX2_beginAnew 67 = .ok (.aload_n 0, 1) := by decide +kernel
theorem dX2_beginAnew_68 : decode cX2_beginAnew 68 = .ok (.iload_n 1, 1) := by decide +kernel
theorem dX2_beginAnew_69 : decode cX2_beginAnew 69 = .ok (.putfield 77, 3) := by decide +kernel
theorem dX2_beginAnew_72 : decode cX2_beginAnew 72 = .ok (.aload_n 0, 1) := by decide +kernel
theorem dX2_beginAnew_73 : decode cX2_beginAnew 73 = .ok (.iload_n 1, 1) := by decide +kernel
theorem dX2_beginAnew_74 : decode cX2_beginAnew 74 = .ok (.invokevirtual 80, 3) := by decide +kernel
theorem dX2_beginAnew_77 : decode cX2_beginAnew 77 = .ok (.return_, 1) := by decide +kernel
theorem dX2_phase_0 : decode cX2_phase 0 = .ok (.aload_n 0, 1) := by decide +kernel
theorem dX2_phase_1 : decode cX2_phase 1 = .ok (.getfield 49, 3) := by decide +kernel
theorem dX2_phase_4 : decode cX2_phase 4 = .ok (.iconst 1, 1) := by decide +kernel
theorem dX2_phase_5 : decode cX2_phase 5 = .ok (.iand, 1) := by decide +kernel
theorem dX2_phase_6 : decode cX2_phase 6 = .ok (.ifCond .ne 7, 3) := by decide +kernel
theorem dX2_phase_9 : decode cX2_phase 9 = .ok (.iconst 0, 1) := by decide +kernel
theorem dX2_phase_10 : decode cX2_phase 10 = .ok (.goto 4, 3) := by decide +kernel
theorem dX2_phase_13 : decode cX2_phase 13 = .ok (.iconst 1, 1) := by decide +kernel
theorem dX2_phase_14 : decode cX2_phase 14 = .ok (.istore_n 1, 1) := by decide +kernel
theorem dX2_phase_15 : decode cX2_phase 15 = .ok (.aload_n 0, 1) := by decide +kernel
theorem dX2_phase_16 : decode cX2_phase 16 = .ok (.getfield 49, 3) := by decide +kernel
theorem dX2_phase_19 : decode cX2_phase 19 = .ok (.iconst 2, 1) := by decide +kernel
theorem dX2_phase_20 : decode cX2_phase 20 = .ok (.iand, 1) := by decide +kernel
theorem dX2_phase_21 : decode cX2_phase 21 = .ok (.ifCond .ne 7, 3) := by decide +kernel
theorem dX2_phase_24 : decode cX2_phase 24 = .ok (.iload_n 1, 1) := by decide +kernel
theorem dX2_phase_25 : decode cX2_phase 25 = .ok (.goto 6, 3) := by decide +kernel
theorem dX2_phase_28 : decode cX2_phase 28 = .ok (.iconst 3, 1) := by decide +kernel
theorem dX2_phase_29 : decode cX2_phase 29 = .ok (.iload_n 1, 1) := by decide +kernel
theorem dX2_phase_30 : decode cX2_phase 30 = .ok (.isub, 1) := by decide +kernel
theorem dX2_phase_31 : decode cX2_phase 31 = .ok (.ireturn, 1) := by decide +kernel
set_option maxRecDepth 20000 in
theorem ggX2_take_X2_phase : GoodIn wsX2_take wsX2_phase := goodIn_r _ [10, 1, 76, 77, 78, 79, 80, 81, 82, 83, 84, 85, 86, 87, 88, 89, 90, 91] (by decide +kernel) (by decide +kernel)
set_option maxRecDepth 20000 in
theorem gX2_take_X2_phase : GoodIn wsX2_take (wsV RX2 84 RX2 yX2_phase wsX2_phase) := goodIn_app (goodIn_of _ (by decide +kernel)) ggX2_take_X2_phase
set_option maxRecDepth 20000 in
theorem ggX2_take_X2_settleLines : GoodIn wsX2_take wsX2_settleLines := goodIn_r _ [14, 15, 1, 16, 76, 77, 78, 79, 80, 81, 82, 83, 84, 85, 86, 87, 88, 89, 90, 91] (by decide +kernel) (by decide +kernel)
set_option maxRecDepth 20000 in
theorem gX2_take_X2_settleLines : GoodIn wsX2_take (wsV RX2 88 RX2 yX2_settleLines wsX2_settleLines) := goodIn_app (goodIn_of _ (by decide +kernel)) ggX2_take_X2_settleLines
set_option maxRecDepth 20000 in
theorem ggX2_take_J9_floorMod_7cf53 : GoodIn wsX2_take wsJ9_floorMod_7cf53 := goodIn_r _ [20] (by decide +kernel) (by decide +kernel)
set_option maxRecDepth 20000 in
theorem gX2_take_J9_floorMod_7cf53 : GoodIn wsX2_take (va_wsS RX2 91 yJ9_floorMod_7cf53 wsJ9_floorMod_7cf53) := goodIn_app (goodIn_of _ (by decide +kernel)) ggX2_take_J9_floorMod_7cf53
set_option maxRecDepth 20000 in
theorem ggX2_take_X2_noteChange : GoodIn wsX2_take wsX2_noteChange := goodIn_r _ [24, 25, 26, 27, 4, 28, 29, 30, 31, 9, 32, 33, 34, 35, 36, 37, 38, 39, 40, 41, 42, 43, 44, 45, 76, 77, 78, 79, 80, 81, 82, 83, 84, 85, 86, 87, 88, 89, 90, 91, 92, 93, 94, 95, 96] (by decide +kernel) (by decide +kernel)
set_option maxRecDepth 20000 in
theorem gX2_take_X2_noteChange : GoodIn wsX2_take (wsV RX2 97 RX2 yX2_noteChange wsX2_noteChange) := goodIn_app (goodIn_of _ (by decide +kernel)) ggX2_take_X2_noteChange
set_option maxRecDepth 20000 in
theorem ggX2_take_X4_learn : GoodIn wsX2_take wsX4_learn := goodIn_r _ [49, 50, 51, 52, 53, 47, 54, 55, 56, 57, 34, 58, 59, 40, 42, 43, 44, 45, 37, 97, 98, 99, 92, 93, 94, 95, 96] (by decide +kernel) (by decide +kernel)
set_option maxRecDepth 20000 in
theorem gX2_take_X4_learn_n101 : GoodIn wsX2_take (wsX4_learn) := ggX2_take_X4_learn
set_option maxRecDepth 20000 in
theorem ggX2_take_X2_heedMark : GoodIn wsX2_take wsX2_heedMark := goodIn_r _ [63, 64, 26, 27, 28, 65, 66, 67, 68, 9, 69, 5, 70, 17, 18, 19, 20, 76, 77, 78, 79, 80, 81, 82, 83, 84, 85, 86, 87, 88, 89, 90, 91] (by decide +kernel) (by decide +kernel)
set_option maxRecDepth 20000 in
theorem gX2_take_X2_heedMark : GoodIn wsX2_take (wsV RX2 105 RX2 yX2_heedMark wsX2_heedMark) := goodIn_app (goodIn_of _ (by decide +kernel)) ggX2_take_X2_heedMark
set_option maxRecDepth 20000 in
theorem ggX2_take_X2_notePlace : GoodIn wsX2_take wsX2_notePlace := goodIn_r _ [74, 75, 28, 17, 18, 19, 20, 76, 77, 78, 79, 80, 81, 82, 83, 84, 85, 86, 87, 88, 89, 90, 91] (by decide +kernel) (by decide +kernel)
set_option maxRecDepth 20000 in
theorem gX2_take_X2_notePlace : GoodIn wsX2_take (wsV RX2 80 RX2 yX2_notePlace wsX2_notePlace) := goodIn_app (goodIn_of _ (by decide +kernel)) ggX2_take_X2_notePlace
theorem dX2_take_0 : decode cX2_take 0 = .ok (.aload_n 0, 1) := by decide +kernel
theorem dX2_take_1 : decode cX2_take 1 = .ok (.getfield 49, 3) := by decide +kernel
theorem dX2_take_4 : decode cX2_take 4 = .ok (.istore_n 3, 1) := by decide +kernel
theorem dX2_take_5 : decode cX2_take 5 = .ok (.aload_n 0, 1) := by decide +kernel
theorem dX2_take_6 : decode cX2_take 6 = .ok (.invokevirtual 84, 3) := by decide +kernel
theorem dX2_take_9 : decode cX2_take 9 = .ok (.istore 4, 2) := by decide +kernel
theorem dX2_take_11 : decode cX2_take 11 = .ok (.aload_n 0, 1) := by decide +kernel
theorem dX2_take_12 : decode cX2_take 12 = .ok (.iload_n 1, 1) := by decide +kernel
theorem dX2_take_13 : decode cX2_take 13 = .ok (.invokevirtual 88, 3) := by decide +kernel
theorem dX2_take_16 : decode cX2_take 16 = .ok (.aload_n 0, 1) := by decide +kernel
theorem dX2_take_17 : decode cX2_take 17 = .ok (.aload_n 0, 1) := by decide +kernel
theorem dX2_take_18 : decode cX2_take 18 = .ok (.invokevirtual 84, 3) := by decide +kernel
theorem dX2_take_21 : decode cX2_take 21 = .ok (.iload 4, 2) := by decide +kernel
theorem dX2_take_23 : decode cX2_take 23 = .ok (.isub, 1) := by decide +kernel
theorem dX2_take_24 : decode cX2_take 24 = .ok (.iconst 4, 1) := by decide +kernel
theorem dX2_take_25 : decode cX2_take 25 = .ok (.invokestatic 91, 3) := by decide +kernel
theorem dX2_take_28 : decode cX2_take 28 = .ok (.iload_n 2, 1) := by decide +kernel
theorem dX2_take_29 : decode cX2_take 29 = .ok (.invokevirtual 97, 3) := by decide +kernel
theorem dX2_take_32 : decode cX2_take 32 = .ok (.aload_n 0, 1) := by decide +kernel
theorem dX2_take_33 : decode cX2_take 33 = .ok (.getfield 49, 3) := by decide +kernel
theorem dX2_take_36 : decode cX2_take 36 = .ok (.iload_n 3, 1) := by decide +kernel
theorem dX2_take_37 : decode cX2_take 37 = .ok (.iconst (-1), 1) := by decide +kernel
theorem dX2_take_38 : decode cX2_take 38 = .ok (.ixor, 1) := by decide +kernel
theorem dX2_take_39 : decode cX2_take 39 = .ok (.iand, 1) := by decide +kernel
theorem dX2_take_40 : decode cX2_take 40 = .ok (.iconst 4, 1) := by decide +kernel
theorem dX2_take_41 : decode cX2_take 41 = .ok (.iand, 1) := by decide +kernel
theorem dX2_take_42 : decode cX2_take 42 = .ok (.ifCond .eq 32, 3) := by decide +kernel
theorem dX2_take_45 : decode cX2_take 45 = .ok (.aload_n 0, 1) := by decide +kernel
theorem dX2_take_46 : decode cX2_take 46 = .ok (.dup, 1) := by decide +kernel
theorem dX2_take_47 : decode cX2_take 47 = .ok (.getfield 74, 3) := by decide +kernel
theorem dX2_take_50 : decode cX2_take 50 = .ok (.iconst 1, 1) := by decide +kernel
theorem dX2_take_51 : decode cX2_take 51 = .ok (.iadd, 1) := by decide +kernel
theorem dX2_take_52 : decode cX2_take 52 = .ok (.putfield 74, 3) := by decide +kernel
theorem dX2_take_55 : decode cX2_take 55 = .ok (.aload_n 0, 1) := by decide +kernel
theorem dX2_take_56 : decode cX2_take 56 = .ok (.getfield 28, 3) := by decide +kernel
theorem dX2_take_59 : decode cX2_take 59 = .ok (.aload_n 0, 1) := by decide +kernel
theorem dX2_take_60 : decode cX2_take 60 = .ok (.getfield 21, 3) := by decide +kernel
theorem dX2_take_63 : decode cX2_take 63 = .ok (.aload_n 0, 1) := by decide +kernel
theorem dX2_take_64 : decode cX2_take 64 = .ok (.getfield 36, 3) := by decide +kernel
theorem dX2_take_67 : decode cX2_take 67 = .ok (.invokevirtual 101, 3) := by decide +kernel
theorem dX2_take_70 : decode cX2_take 70 = .ok (.aload_n 0, 1) := by decide +kernel
theorem dX2_take_71 : decode cX2_take 71 = .ok (.invokevirtual 105, 3) := by decide +kernel
theorem dX2_take_74 : decode cX2_take 74 = .ok (.aload_n 0, 1) := by decide +kernel
theorem dX2_take_75 : decode cX2_take 75 = .ok (.iload_n 2, 1) := by decide +kernel
theorem dX2_take_76 : decode cX2_take 76 = .ok (.invokevirtual 80, 3) := by decide +kernel
theorem dX2_take_79 : decode cX2_take 79 = .ok (.return_, 1) := by decide +kernel
theorem dX2_settleLines_0 : decode cX2_settleLines 0 = .ok (.iconst 0, 1) := by decide +kernel
theorem dX2_settleLines_1 : decode cX2_settleLines 1 = .ok (.istore_n 2, 1) := by decide +kernel
theorem dX2_settleLines_2 : decode cX2_settleLines 2 = .ok (.iload_n 2, 1) := by decide +kernel
theorem dX2_settleLines_3 : decode cX2_settleLines 3 = .ok (.aload_n 0, 1) := by decide +kernel
theorem dX2_settleLines_4 : decode cX2_settleLines 4 = .ok (.getfield 9, 3) := by decide +kernel
theorem dX2_settleLines_7 : decode cX2_settleLines 7 = .ok (.arraylength, 1) := by decide +kernel
theorem dX2_settleLines_8 : decode cX2_settleLines 8 = .ok (.if_icmp .ge 72, 3) := by decide +kernel
theorem dX2_settleLines_11 : decode cX2_settleLines 11 = .ok (.iconst 1, 1) := by decide +kernel
theorem dX2_settleLines_12 : decode cX2_settleLines 12 = .ok (.iload_n 2, 1) := by decide +kernel
theorem dX2_settleLines_13 : decode cX2_settleLines 13 = .ok (.ishl, 1) := by decide +kernel
theorem dX2_settleLines_14 : decode cX2_settleLines 14 = .ok (.istore_n 3, 1) := by decide +kernel
theorem dX2_settleLines_15 : decode cX2_settleLines 15 = .ok (.aload_n 0, 1) := by decide +kernel
theorem dX2_settleLines_16 : decode cX2_settleLines 16 = .ok (.getfield 9, 3) := by decide +kernel
theorem dX2_settleLines_19 : decode cX2_settleLines 19 = .ok (.iload_n 2, 1) := by decide +kernel
theorem dX2_settleLines_20 : decode cX2_settleLines 20 = .ok (.iload_n 1, 1) := by decide +kernel
theorem dX2_settleLines_21 : decode cX2_settleLines 21 = .ok (.aload_n 0, 1) := by decide +kernel
theorem dX2_settleLines_22 : decode cX2_settleLines 22 = .ok (.getfield 49, 3) := by decide +kernel
theorem dX2_settleLines_25 : decode cX2_settleLines 25 = .ok (.ixor, 1) := by decide +kernel
theorem dX2_settleLines_26 : decode cX2_settleLines 26 = .ok (.iload_n 3, 1) := by decide +kernel
theorem dX2_settleLines_27 : decode cX2_settleLines 27 = .ok (.iand, 1) := by decide +kernel
theorem dX2_settleLines_28 : decode cX2_settleLines 28 = .ok (.ifCond .ne 7, 3) := by decide +kernel
theorem dX2_settleLines_31 : decode cX2_settleLines 31 = .ok (.iconst 0, 1) := by decide +kernel
theorem dX2_settleLines_32 : decode cX2_settleLines 32 = .ok (.goto 11, 3) := by decide +kernel
theorem dX2_settleLines_35 : decode cX2_settleLines 35 = .ok (.aload_n 0, 1) := by decide +kernel
theorem dX2_settleLines_36 : decode cX2_settleLines 36 = .ok (.getfield 9, 3) := by decide +kernel
theorem dX2_settleLines_39 : decode cX2_settleLines 39 = .ok (.iload_n 2, 1) := by decide +kernel
theorem dX2_settleLines_40 : decode cX2_settleLines 40 = .ok (.iaload, 1) := by decide +kernel
theorem dX2_settleLines_41 : decode cX2_settleLines 41 = .ok (.iconst 1, 1) := by decide +kernel
theorem dX2_settleLines_42 : decode cX2_settleLines 42 = .ok (.iadd, 1) := by decide +kernel
theorem dX2_settleLines_43 : decode cX2_settleLines 43 = .ok (.iastore, 1) := by decide +kernel
theorem dX2_settleLines_44 : decode cX2_settleLines 44 = .ok (.aload_n 0, 1) := by decide +kernel
theorem dX2_settleLines_45 : decode cX2_settleLines 45 = .ok (.getfield 9, 3) := by decide +kernel
theorem dX2_settleLines_48 : decode cX2_settleLines 48 = .ok (.iload_n 2, 1) := by decide +kernel
theorem dX2_settleLines_49 : decode cX2_settleLines 49 = .ok (.iaload, 1) := by decide +kernel
theorem dX2_settleLines_50 : decode cX2_settleLines 50 = .ok (.aload_n 0, 1) := by decide +kernel
theorem dX2_settleLines_51 : decode cX2_settleLines 51 = .ok (.getfield 32, 3) := by decide +kernel
theorem dX2_settleLines_54 : decode cX2_settleLines 54 = .ok (.if_icmp .lt 20, 3) := by decide +kernel
theorem dX2_settleLines_57 : decode cX2_settleLines 57 = .ok (.aload_n 0, 1) := by decide +kernel
theorem dX2_settleLines_58 : decode cX2_settleLines 58 = .ok (.dup, 1) := by decide +kernel
theorem dX2_settleLines_59 : decode cX2_settleLines 59 = .ok (.getfield 49, 3) := by decide +kernel
theorem dX2_settleLines_62 : decode cX2_settleLines 62 = .ok (.iload_n 3, 1) := by decide +kernel
theorem dX2_settleLines_63 : decode cX2_settleLines 63 = .ok (.ixor, 1) := by decide +kernel
theorem dX2_settleLines_64 : decode cX2_settleLines 64 = .ok (.putfield 49, 3) := by decide +kernel
theorem dX2_settleLines_67 : decode cX2_settleLines 67 = .ok (.aload_n 0, 1) := by decide +kernel
theorem dX2_settleLines_68 : decode cX2_settleLines 68 = .ok (.getfield 9, 3) := by decide +kernel
theorem dX2_settleLines_71 : decode cX2_settleLines 71 = .ok (.iload_n 2, 1) := by decide +kernel
theorem dX2_settleLines_72 : decode cX2_settleLines 72 = .ok (.iconst 0, 1) := by decide +kernel
theorem dX2_settleLines_73 : decode cX2_settleLines 73 = .ok (.iastore, 1) := by decide +kernel
theorem dX2_settleLines_74 : decode cX2_settleLines 74 = .ok (.iinc 2 1, 3) := by decide +kernel
theorem dX2_settleLines_77 : decode cX2_settleLines 77 = .ok (.goto (-75), 3) := by decide +kernel
theorem dX2_settleLines_80 : decode cX2_settleLines 80 = .ok (.return_, 1) := by decide +kernel
set_option maxRecDepth 20000 in
theorem ggX2_noteChange_X2_noteCount : GoodIn wsX2_noteChange wsX2_noteCount := goodIn_r _ [10, 5, 2, 3, 4, 11, 12, 13, 14, 15, 16, 17, 18, 19, 20, 21, 22, 23, 24, 25, 26, 27, 28, 29, 30, 31, 32, 33, 34, 35, 36, 37, 38, 39, 40, 41, 42, 43, 44] (by decide +kernel) (by decide +kernel)
set_option maxRecDepth 20000 in
theorem gX2_noteChange_X2_noteCount : GoodIn wsX2_noteChange (wsV RX2 108 RX2 yX2_noteCount wsX2_noteCount) := goodIn_app (goodIn_of _ (by decide +kernel)) ggX2_noteChange_X2_noteCount
set_option maxRecDepth 20000 in
theorem ggX2_noteChange_X1_add : GoodIn wsX2_noteChange wsX1_add := goodIn_r _ [14, 15, 16, 17, 18, 19, 20, 21, 22, 12, 23, 40, 41, 42, 43, 44] (by decide +kernel) (by decide +kernel)
set_option maxRecDepth 20000 in
theorem gX2_noteChange_X1_add_n111 : GoodIn wsX2_noteChange (wsX1_add) := ggX2_noteChange_X1_add
theorem dX2_noteChange_0 : decode cX2_noteChange 0 = .ok (.iload_n 1, 1) := by decide +kernel
theorem dX2_noteChange_1 : decode cX2_noteChange 1 = .ok (.ifCond .ne 4, 3) := by decide +kernel
theorem dX2_noteChange_4 : decode cX2_noteChange 4 = .ok (.return_, 1) := by decide +kernel
theorem dX2_noteChange_5 : decode cX2_noteChange 5 = .ok (.iload_n 1, 1) := by decide +kernel
theorem dX2_noteChange_6 : decode cX2_noteChange 6 = .ok (.iconst 1, 1) := by decide +kernel
theorem dX2_noteChange_7 : decode cX2_noteChange 7 = .ok (.if_icmp .ne 12, 3) := by decide +kernel
theorem dX2_noteChange_10 : decode cX2_noteChange 10 = .ok (.aload_n 0, 1) := by decide +kernel
theorem dX2_noteChange_11 : decode cX2_noteChange 11 = .ok (.iconst 1, 1) := by decide +kernel
theorem dX2_noteChange_12 : decode cX2_noteChange 12 = .ok (.iload_n 2, 1) := by decide +kernel
theorem dX2_noteChange_13 : decode cX2_noteChange 13 = .ok (.invokevirtual 108, 3) := by decide +kernel
theorem dX2_noteChange_16 : decode cX2_noteChange 16 = .ok (.goto 60, 3) := by decide +kernel
theorem dX2_noteChange_19 : decode cX2_noteChange 19 = .ok (.iload_n 1, 1) := by decide +kernel
theorem dX2_noteChange_20 : decode cX2_noteChange 20 = .ok (.iconst 3, 1) := by decide +kernel
theorem dX2_noteChange_21 : decode cX2_noteChange 21 = .ok (.if_icmp .ne 12, 3) := by decide +kernel
theorem dX2_noteChange_24 : decode cX2_noteChange 24 = .ok (.aload_n 0, 1) := by decide +kernel
theorem dX2_noteChange_25 : decode cX2_noteChange 25 = .ok (.iconst (-1), 1) := by decide +kernel
theorem dX2_noteChange_26 : decode cX2_noteChange 26 = .ok (.iload_n 2, 1) := by decide +kernel
theorem dX2_noteChange_27 : decode cX2_noteChange 27 = .ok (.invokevirtual 108, 3) := by decide +kernel
theorem dX2_noteChange_30 : decode cX2_noteChange 30 = .ok (.goto 46, 3) := by decide +kernel
theorem dX2_noteChange_33 : decode cX2_noteChange 33 = .ok (.aload_n 0, 1) := by decide +kernel
theorem dX2_noteChange_34 : decode cX2_noteChange 34 = .ok (.dup, 1) := by decide +kernel
theorem dX2_noteChange_35 : decode cX2_noteChange 35 = .ok (.getfield 68, 3) := by decide +kernel
theorem dX2_noteChange_38 : decode cX2_noteChange 38 = .ok (.iconst 1, 1) := by decide +kernel
theorem dX2_noteChange_39 : decode cX2_noteChange 39 = .ok (.iadd, 1) := by decide +kernel
theorem dX2_noteChange_40 : decode cX2_noteChange 40 = .ok (.putfield 68, 3) := by decide +kernel
theorem dX2_noteChange_43 : decode cX2_noteChange 43 = .ok (.aload_n 0, 1) := by decide +kernel
theorem dX2_noteChange_44 : decode cX2_noteChange 44 = .ok (.dup, 1) := by decide +kernel
theorem dX2_noteChange_45 : decode cX2_noteChange 45 = .ok (.getfield 55, 3) := by decide +kernel
theorem dX2_noteChange_48 : decode cX2_noteChange 48 = .ok (.iconst 2, 1) := by decide +kernel
theorem dX2_noteChange_49 : decode cX2_noteChange 49 = .ok (.isub, 1) := by decide +kernel
theorem dX2_noteChange_50 : decode cX2_noteChange 50 = .ok (.putfield 55, 3) := by decide +kernel
theorem dX2_noteChange_53 : decode cX2_noteChange 53 = .ok (.aload_n 0, 1) := by decide +kernel
theorem dX2_noteChange_54 : decode cX2_noteChange 54 = .ok (.dup, 1) := by decide +kernel
theorem dX2_noteChange_55 : decode cX2_noteChange 55 = .ok (.getfield 58, 3) := by decide +kernel
theorem dX2_noteChange_58 : decode cX2_noteChange 58 = .ok (.iconst 2, 1) := by decide +kernel
theorem dX2_noteChange_59 : decode cX2_noteChange 59 = .ok (.iadd, 1) := by decide +kernel
theorem dX2_noteChange_60 : decode cX2_noteChange 60 = .ok (.putfield 58, 3) := by decide +kernel
theorem dX2_noteChange_63 : decode cX2_noteChange 63 = .ok (.aload_n 0, 1) := by decide +kernel
theorem dX2_noteChange_64 : decode cX2_noteChange 64 = .ok (.getfield 21, 3) := by decide +kernel
theorem dX2_noteChange_67 : decode cX2_noteChange 67 = .ok (.iconst 0, 1) := by decide +kernel
theorem dX2_noteChange_68 : decode cX2_noteChange 68 = .ok (.iload_n 2, 1) := by decide +kernel
theorem dX2_noteChange_69 : decode cX2_noteChange 69 = .ok (.aload_n 0, 1) := by decide +kernel
theorem dX2_noteChange_70 : decode cX2_noteChange 70 = .ok (.getfield 52, 3) := by decide +kernel
theorem dX2_noteChange_73 : decode cX2_noteChange 73 = .ok (.invokevirtual 111, 3) := by decide +kernel
theorem dX2_noteChange_76 : decode cX2_noteChange 76 = .ok (.return_, 1) := by decide +kernel
set_option maxRecDepth 20000 in
theorem ggX2_noteCount_X1_add : GoodIn wsX2_noteCount wsX1_add := goodIn_r _ [8, 9, 10, 11, 12, 13, 14, 15, 16, 6, 17, 34, 35, 36, 37, 38] (by decide +kernel) (by decide +kernel)
set_option maxRecDepth 20000 in
theorem gX2_noteCount_X1_add_n111 : GoodIn wsX2_noteCount (wsX1_add) := ggX2_noteCount_X1_add
theorem dX2_noteCount_0 : decode cX2_noteCount 0 = .ok (.aload_n 0, 1) := by decide +kernel
theorem dX2_noteCount_1 : decode cX2_noteCount 1 = .ok (.dup, 1) := by decide +kernel
theorem dX2_noteCount_2 : decode cX2_noteCount 2 = .ok (.getfield 52, 3) := by decide +kernel
theorem dX2_noteCount_5 : decode cX2_noteCount 5 = .ok (.iload_n 1, 1) := by decide +kernel
theorem dX2_noteCount_6 : decode cX2_noteCount 6 = .ok (.iadd, 1) := by decide +kernel
theorem dX2_noteCount_7 : decode cX2_noteCount 7 = .ok (.putfield 52, 3) := by decide +kernel
theorem dX2_noteCount_10 : decode cX2_noteCount 10 = .ok (.aload_n 0, 1) := by decide +kernel
theorem dX2_noteCount_11 : decode cX2_noteCount 11 = .ok (.dup, 1) := by decide +kernel
theorem dX2_noteCount_12 : decode cX2_noteCount 12 = .ok (.getfield 55, 3) := by decide +kernel
theorem dX2_noteCount_15 : decode cX2_noteCount 15 = .ok (.iload_n 1, 1) := by decide +kernel
theorem dX2_noteCount_16 : decode cX2_noteCount 16 = .ok (.iadd, 1) := by decide +kernel
theorem dX2_noteCount_17 : decode cX2_noteCount 17 = .ok (.putfield 55, 3) := by decide +kernel
theorem dX2_noteCount_20 : decode cX2_noteCount 20 = .ok (.aload_n 0, 1) := by decide +kernel
theorem dX2_noteCount_21 : decode cX2_noteCount 21 = .ok (.dup, 1) := by decide +kernel
theorem dX2_noteCount_22 : decode cX2_noteCount 22 = .ok (.getfield 58, 3) := by decide +kernel
theorem dX2_noteCount_25 : decode cX2_noteCount 25 = .ok (.iload_n 1, 1) := by decide +kernel
theorem dX2_noteCount_26 : decode cX2_noteCount 26 = .ok (.iadd, 1) := by decide +kernel
theorem dX2_noteCount_27 : decode cX2_noteCount 27 = .ok (.putfield 58, 3) := by decide +kernel
theorem dX2_noteCount_30 : decode cX2_noteCount 30 = .ok (.aload_n 0, 1) := by decide +kernel
theorem dX2_noteCount_31 : decode cX2_noteCount 31 = .ok (.getfield 21, 3) := by decide +kernel
theorem dX2_noteCount_34 : decode cX2_noteCount 34 = .ok (.iload_n 1, 1) := by decide +kernel
theorem dX2_noteCount_35 : decode cX2_noteCount 35 = .ok (.iload_n 2, 1) := by decide +kernel
theorem dX2_noteCount_36 : decode cX2_noteCount 36 = .ok (.aload_n 0, 1) := by decide +kernel
theorem dX2_noteCount_37 : decode cX2_noteCount 37 = .ok (.getfield 52, 3) := by decide +kernel
theorem dX2_noteCount_40 : decode cX2_noteCount 40 = .ok (.invokevirtual 111, 3) := by decide +kernel
theorem dX2_noteCount_43 : decode cX2_noteCount 43 = .ok (.return_, 1) := by decide +kernel
set_option maxRecDepth 20000 in
theorem ggX2_heedMark_X2_mend : GoodIn wsX2_heedMark wsX2_mend := goodIn_r _ [10, 3, 5, 11, 2, 12, 4, 13, 14, 15, 16, 17, 18, 19, 20, 21, 22, 23, 24, 25, 26, 27, 28, 29, 30, 31, 32] (by decide +kernel) (by decide +kernel)
set_option maxRecDepth 20000 in
theorem gX2_heedMark_X2_mend : GoodIn wsX2_heedMark (wsV RX2 115 RX2 yX2_mend wsX2_mend) := goodIn_app (goodIn_of _ (by decide +kernel)) ggX2_heedMark_X2_mend
theorem dX2_heedMark_0 : decode cX2_heedMark 0 = .ok (.aload_n 0, 1) := by decide +kernel
theorem dX2_heedMark_1 : decode cX2_heedMark 1 = .ok (.getfield 61, 3) := by decide +kernel
theorem dX2_heedMark_4 : decode cX2_heedMark 4 = .ok (.ifCond .eq 10, 3) := by decide +kernel
theorem dX2_heedMark_7 : decode cX2_heedMark 7 = .ok (.aload_n 0, 1) := by decide +kernel
theorem dX2_heedMark_8 : decode cX2_heedMark 8 = .ok (.invokevirtual 115, 3) := by decide +kernel
theorem dX2_heedMark_11 : decode cX2_heedMark 11 = .ok (.goto 27, 3) := by decide +kernel
theorem dX2_heedMark_14 : decode cX2_heedMark 14 = .ok (.aload_n 0, 1) := by decide +kernel
theorem dX2_heedMark_15 : decode cX2_heedMark 15 = .ok (.getfield 55, 3) := by decide +kernel
theorem dX2_heedMark_18 : decode cX2_heedMark 18 = .ok (.aload_n 0, 1) := by decide +kernel
theorem dX2_heedMark_19 : decode cX2_heedMark 19 = .ok (.getfield 58, 3) := by decide +kernel
theorem dX2_heedMark_22 : decode cX2_heedMark 22 = .ok (.if_icmp .ne 16, 3) := by decide +kernel
theorem dX2_heedMark_25 : decode cX2_heedMark 25 = .ok (.aload_n 0, 1) := by decide +kernel
theorem dX2_heedMark_26 : decode cX2_heedMark 26 = .ok (.iconst 1, 1) := by decide +kernel
theorem dX2_heedMark_27 : decode cX2_heedMark 27 = .ok (.putfield 61, 3) := by decide +kernel
theorem dX2_heedMark_30 : decode cX2_heedMark 30 = .ok (.aload_n 0, 1) := by decide +kernel
theorem dX2_heedMark_31 : decode cX2_heedMark 31 = .ok (.aload_n 0, 1) := by decide +kernel
theorem dX2_heedMark_32 : decode cX2_heedMark 32 = .ok (.getfield 52, 3) := by decide +kernel
theorem dX2_heedMark_35 : decode cX2_heedMark 35 = .ok (.putfield 65, 3) := by decide +kernel
theorem dX2_heedMark_38 : decode cX2_heedMark 38 = .ok (.return_, 1) := by decide +kernel
set_option maxRecDepth 20000 in
theorem ggX2_mend_J9_floorMod_7cf53 : GoodIn wsX2_mend wsJ9_floorMod_7cf53 := goodIn_r _ [10] (by decide +kernel) (by decide +kernel)
set_option maxRecDepth 20000 in
theorem gX2_mend_J9_floorMod_7cf53 : GoodIn wsX2_mend (va_wsS RX2 91 yJ9_floorMod_7cf53 wsJ9_floorMod_7cf53) := goodIn_app (goodIn_of _ (by decide +kernel)) ggX2_mend_J9_floorMod_7cf53
theorem dX2_mend_0 : decode cX2_mend 0 = .ok (.aload_n 0, 1) := by decide +kernel
theorem dX2_mend_1 : decode cX2_mend 1 = .ok (.getfield 58, 3) := by decide +kernel
theorem dX2_mend_4 : decode cX2_mend 4 = .ok (.aload_n 0, 1) := by decide +kernel
theorem dX2_mend_5 : decode cX2_mend 5 = .ok (.getfield 58, 3) := by decide +kernel
theorem dX2_mend_8 : decode cX2_mend 8 = .ok (.aload_n 0, 1) := by decide +kernel
theorem dX2_mend_9 : decode cX2_mend 9 = .ok (.getfield 65, 3) := by decide +kernel
theorem dX2_mend_12 : decode cX2_mend 12 = .ok (.isub, 1) := by decide +kernel
theorem dX2_mend_13 : decode cX2_mend 13 = .ok (.aload_n 0, 1) := by decide +kernel
theorem dX2_mend_14 : decode cX2_mend 14 = .ok (.getfield 36, 3) := by decide +kernel
theorem dX2_mend_17 : decode cX2_mend 17 = .ok (.invokestatic 91, 3) := by decide +kernel
theorem dX2_mend_20 : decode cX2_mend 20 = .ok (.isub, 1) := by decide +kernel
theorem dX2_mend_21 : decode cX2_mend 21 = .ok (.istore_n 1, 1) := by decide +kernel
theorem dX2_mend_22 : decode cX2_mend 22 = .ok (.iload_n 1, 1) := by decide +kernel
theorem dX2_mend_23 : decode cX2_mend 23 = .ok (.aload_n 0, 1) := by decide +kernel
theorem dX2_mend_24 : decode cX2_mend 24 = .ok (.getfield 55, 3) := by decide +kernel
theorem dX2_mend_27 : decode cX2_mend 27 = .ok (.if_icmp .ge 16, 3) := by decide +kernel
theorem dX2_mend_30 : decode cX2_mend 30 = .ok (.aload_n 0, 1) := by decide +kernel
theorem dX2_mend_31 : decode cX2_mend 31 = .ok (.dup, 1) := by decide +kernel
theorem dX2_mend_32 : decode cX2_mend 32 = .ok (.getfield 71, 3) := by decide +kernel
theorem dX2_mend_35 : decode cX2_mend 35 = .ok (.iconst 1, 1) := by decide +kernel
theorem dX2_mend_36 : decode cX2_mend 36 = .ok (.iadd, 1) := by decide +kernel
theorem dX2_mend_37 : decode cX2_mend 37 = .ok (.putfield 71, 3) := by decide +kernel
theorem dX2_mend_40 : decode cX2_mend 40 = .ok (.goto 31, 3) := by decide +kernel
theorem dX2_mend_43 : decode cX2_mend 43 = .ok (.iload_n 1, 1) := by decide +kernel
theorem dX2_mend_44 : decode cX2_mend 44 = .ok (.aload_n 0, 1) := by decide +kernel
theorem dX2_mend_45 : decode cX2_mend 45 = .ok (.getfield 36, 3) := by decide +kernel
theorem dX2_mend_48 : decode cX2_mend 48 = .ok (.isub, 1) := by decide +kernel
theorem dX2_mend_49 : decode cX2_mend 49 = .ok (.aload_n 0, 1) := by decide +kernel
theorem dX2_mend_50 : decode cX2_mend 50 = .ok (.getfield 55, 3) := by decide +kernel
theorem dX2_mend_53 : decode cX2_mend 53 = .ok (.if_icmp .ge 18, 3) := by decide +kernel
theorem dX2_mend_56 : decode cX2_mend 56 = .ok (.aload_n 0, 1) := by decide +kernel
theorem dX2_mend_57 : decode cX2_mend 57 = .ok (.iload_n 1, 1) := by decide +kernel
theorem dX2_mend_58 : decode cX2_mend 58 = .ok (.putfield 52, 3) := by decide +kernel
theorem dX2_mend_61 : decode cX2_mend 61 = .ok (.aload_n 0, 1) := by decide +kernel
theorem dX2_mend_62 : decode cX2_mend 62 = .ok (.iload_n 1, 1) := by decide +kernel
theorem dX2_mend_63 : decode cX2_mend 63 = .ok (.putfield 55, 3) := by decide +kernel
theorem dX2_mend_66 : decode cX2_mend 66 = .ok (.aload_n 0, 1) := by decide +kernel
theorem dX2_mend_67 : decode cX2_mend 67 = .ok (.iload_n 1, 1) := by decide +kernel
theorem dX2_mend_68 : decode cX2_mend 68 = .ok (.putfield 58, 3) := by decide +kernel
theorem dX2_mend_71 : decode cX2_mend 71 = .ok (.return_, 1) := by decide +kernel
set_option maxRecDepth 20000 in
theorem ggX2_notePlace_J9_floorMod_7cf53 : GoodIn wsX2_notePlace wsJ9_floorMod_7cf53 := goodIn_r _ [6] (by decide +kernel) (by decide +kernel)
set_option maxRecDepth 20000 in
theorem gX2_notePlace_J9_floorMod_7cf53 : GoodIn wsX2_notePlace (va_wsS RX2 91 yJ9_floorMod_7cf53 wsJ9_floorMod_7cf53) := goodIn_app (goodIn_of _ (by decide +kernel)) ggX2_notePlace_J9_floorMod_7cf53
theorem dX2_notePlace_0 : decode cX2_notePlace 0 = .ok (.aload_n 0, 1) := by decide +kernel
theorem dX2_notePlace_1 : decode cX2_notePlace 1 = .ok (.getfield 15, 3) := by decide +kernel
theorem dX2_notePlace_4 : decode cX2_notePlace 4 = .ok (.iload_n 1, 1) := by decide +kernel
theorem dX2_notePlace_5 : decode cX2_notePlace 5 = .ok (.aload_n 0, 1) := by decide +kernel
theorem dX2_notePlace_6 : decode cX2_notePlace 6 = .ok (.getfield 15, 3) := by decide +kernel
theorem dX2_notePlace_9 : decode cX2_notePlace 9 = .ok (.arraylength, 1) := by decide +kernel
theorem dX2_notePlace_10 : decode cX2_notePlace 10 = .ok (.invokestatic 91, 3) := by decide +kernel
theorem dX2_notePlace_13 : decode cX2_notePlace 13 = .ok (.aload_n 0, 1) := by decide +kernel
theorem dX2_notePlace_14 : decode cX2_notePlace 14 = .ok (.getfield 52, 3) := by decide +kernel
theorem dX2_notePlace_17 : decode cX2_notePlace 17 = .ok (.iastore, 1) := by decide +kernel
theorem dX2_notePlace_18 : decode cX2_notePlace 18 = .ok (.return_, 1) := by decide +kernel
set_option maxRecDepth 20000 in
theorem ggX2_placeAfter_J9_floorMod_7cf53 : GoodIn wsX2_placeAfter wsJ9_floorMod_7cf53 := goodIn_r _ [5] (by decide +kernel) (by decide +kernel)
set_option maxRecDepth 20000 in
theorem gX2_placeAfter_J9_floorMod_7cf53 : GoodIn wsX2_placeAfter (va_wsS RX2 91 yJ9_floorMod_7cf53 wsJ9_floorMod_7cf53) := goodIn_app (goodIn_of _ (by decide +kernel)) ggX2_placeAfter_J9_floorMod_7cf53
theorem dX2_placeAfter_0 : decode cX2_placeAfter 0 = .ok (.aload_n 0, 1) := by decide +kernel
theorem dX2_placeAfter_1 : decode cX2_placeAfter 1 = .ok (.getfield 15, 3) := by decide +kernel
theorem dX2_placeAfter_4 : decode cX2_placeAfter 4 = .ok (.iload_n 1, 1) := by decide +kernel
theorem dX2_placeAfter_5 : decode cX2_placeAfter 5 = .ok (.aload_n 0, 1) := by decide +kernel
theorem dX2_placeAfter_6 : decode cX2_placeAfter 6 = .ok (.getfield 15, 3) := by decide +kernel
theorem dX2_placeAfter_9 : decode cX2_placeAfter 9 = .ok (.arraylength, 1) := by decide +kernel
theorem dX2_placeAfter_10 : decode cX2_placeAfter 10 = .ok (.invokestatic 91, 3) := by decide +kernel
theorem dX2_placeAfter_13 : decode cX2_placeAfter 13 = .ok (.iaload, 1) := by decide +kernel
theorem dX2_placeAfter_14 : decode cX2_placeAfter 14 = .ok (.ireturn, 1) := by decide +kernel
set_option maxRecDepth 20000 in
theorem ggX2_copyFrom_X1_copyFrom : GoodIn wsX2_copyFrom wsX1_copyFrom := goodIn_r _ [24, 25, 26, 3, 4, 5, 27, 28, 29, 30, 55, 56, 57, 58, 59] (by decide +kernel) (by decide +kernel)
set_option maxRecDepth 20000 in
theorem gX2_copyFrom_X1_copyFrom_n124 : GoodIn wsX2_copyFrom (wsX1_copyFrom) := ggX2_copyFrom_X1_copyFrom
set_option maxRecDepth 20000 in
theorem ggX2_copyFrom_X4_copyFrom : GoodIn wsX2_copyFrom wsX4_copyFrom := goodIn_r _ [34, 35, 36, 3, 4, 5, 37, 38, 60, 61, 62] (by decide +kernel) (by decide +kernel)
set_option maxRecDepth 20000 in
theorem gX2_copyFrom_X4_copyFrom_n128 : GoodIn wsX2_copyFrom (wsX4_copyFrom) := ggX2_copyFrom_X4_copyFrom
theorem dX2_copyFrom_0 : decode cX2_copyFrom 0 = .ok (.aload_n 1, 1) := by decide +kernel
theorem dX2_copyFrom_1 : decode cX2_copyFrom 1 = .ok (.getfield 9, 3) := by decide +kernel
theorem dX2_copyFrom_4 : decode cX2_copyFrom 4 = .ok (.iconst 0, 1) := by decide +kernel
theorem dX2_copyFrom_5 : decode cX2_copyFrom 5 = .ok (.aload_n 0, 1) := by decide +kernel
theorem dX2_copyFrom_6 : decode cX2_copyFrom 6 = .ok (.getfield 9, 3) := by decide +kernel
theorem dX2_copyFrom_9 : decode cX2_copyFrom 9 = .ok (.iconst 0, 1) := by decide +kernel
theorem dX2_copyFrom_10 : decode cX2_copyFrom 10 = .ok (.aload_n 0, 1) := by decide +kernel
theorem dX2_copyFrom_11 : decode cX2_copyFrom 11 = .ok (.getfield 9, 3) := by decide +kernel
theorem dX2_copyFrom_14 : decode cX2_copyFrom 14 = .ok (.arraylength, 1) := by decide +kernel
theorem dX2_copyFrom_15 : decode cX2_copyFrom 15 = .ok (.invokestatic 118, 3) := by decide +kernel
theorem dX2_copyFrom_18 : decode cX2_copyFrom 18 = .ok (.aload_n 1, 1) := by decide +kernel
theorem dX2_copyFrom_19 : decode cX2_copyFrom 19 = .ok (.getfield 15, 3) := by decide +kernel
theorem dX2_copyFrom_22 : decode cX2_copyFrom 22 = .ok (.iconst 0, 1) := by decide +kernel
theorem dX2_copyFrom_23 : decode cX2_copyFrom 23 = .ok (.aload_n 0, 1) := by decide +kernel
theorem dX2_copyFrom_24 : decode cX2_copyFrom 24 = .ok (.getfield 15, 3) := by decide +kernel
theorem dX2_copyFrom_27 : decode cX2_copyFrom 27 = .ok (.iconst 0, 1) := by decide +kernel
theorem dX2_copyFrom_28 : decode cX2_copyFrom 28 = .ok (.aload_n 0, 1) := by decide +kernel
theorem dX2_copyFrom_29 : decode cX2_copyFrom 29 = .ok (.getfield 15, 3) := by decide +kernel
theorem dX2_copyFrom_32 : decode cX2_copyFrom 32 = .ok (.arraylength, 1) := by decide +kernel
theorem dX2_copyFrom_33 : decode cX2_copyFrom 33 = .ok (.invokestatic 118, 3) := by decide +kernel
theorem dX2_copyFrom_36 : decode cX2_copyFrom 36 = .ok (.aload_n 0, 1) := by decide +kernel
theorem dX2_copyFrom_37 : decode cX2_copyFrom 37 = .ok (.getfield 21, 3) := by decide +kernel
theorem dX2_copyFrom_40 : decode cX2_copyFrom 40 = .ok (.aload_n 1, 1) := by decide +kernel
theorem dX2_copyFrom_41 : decode cX2_copyFrom 41 = .ok (.getfield 21, 3) := by decide +kernel
theorem dX2_copyFrom_44 : decode cX2_copyFrom 44 = .ok (.invokevirtual 124, 3) := by decide +kernel
theorem dX2_copyFrom_47 : decode cX2_copyFrom 47 = .ok (.aload_n 0, 1) := by decide +kernel
theorem dX2_copyFrom_48 : decode cX2_copyFrom 48 = .ok (.getfield 28, 3) := by decide +kernel
theorem dX2_copyFrom_51 : decode cX2_copyFrom 51 = .ok (.aload_n 1, 1) := by decide +kernel
theorem dX2_copyFrom_52 : decode cX2_copyFrom 52 = .ok (.getfield 28, 3) := by decide +kernel
theorem dX2_copyFrom_55 : decode cX2_copyFrom 55 = .ok (.invokevirtual 128, 3) := by decide +kernel
theorem dX2_copyFrom_58 : decode cX2_copyFrom 58 = .ok (.aload_n 0, 1) := by decide +kernel
theorem dX2_copyFrom_59 : decode cX2_copyFrom 59 = .ok (.aload_n 1, 1) := by decide +kernel
theorem dX2_copyFrom_60 : decode cX2_copyFrom 60 = .ok (.getfield 32, 3) := by decide +kernel
theorem dX2_copyFrom_63 : decode cX2_copyFrom 63 = .ok (.putfield 32, 3) := by decide +kernel
theorem dX2_copyFrom_66 : decode cX2_copyFrom 66 = .ok (.aload_n 0, 1) := by decide +kernel
theorem dX2_copyFrom_67 : decode cX2_copyFrom 67 = .ok (.aload_n 1, 1) := by decide +kernel
theorem dX2_copyFrom_68 : decode cX2_copyFrom 68 = .ok (.getfield 36, 3) := by decide +kernel
theorem dX2_copyFrom_71 : decode cX2_copyFrom 71 = .ok (.putfield 36, 3) := by decide +kernel
theorem dX2_copyFrom_74 : decode cX2_copyFrom 74 = .ok (.aload_n 0, 1) := by decide +kernel
theorem dX2_copyFrom_75 : decode cX2_copyFrom 75 = .ok (.aload_n 1, 1) := by decide +kernel
theorem dX2_copyFrom_76 : decode cX2_copyFrom 76 = .ok (.getfield 49, 3) := by decide +kernel
theorem dX2_copyFrom_79 : decode cX2_copyFrom 79 = .ok (.putfield 49, 3) := by decide +kernel
theorem dX2_copyFrom_82 : decode cX2_copyFrom 82 = .ok (.aload_n 0, 1) := by decide +kernel
theorem dX2_copyFrom_83 : decode cX2_copyFrom 83 = .ok (.aload_n 1, 1) := by decide +kernel
theorem dX2_copyFrom_84 : decode cX2_copyFrom 84 = .ok (.getfield 52, 3) := by decide +kernel
theorem dX2_copyFrom_87 : decode cX2_copyFrom 87 = .ok (.putfield 52, 3) := by decide +kernel
theorem dX2_copyFrom_90 : decode cX2_copyFrom 90 = .ok (.aload_n 0, 1) := by decide +kernel
theorem dX2_copyFrom_91 : decode cX2_copyFrom 91 = .ok (.aload_n 1, 1) := by decide +kernel
theorem dX2_copyFrom_92 : decode cX2_copyFrom 92 = .ok (.getfield 55, 3) := by decide +kernel
theorem dX2_copyFrom_95 : decode cX2_copyFrom 95 = .ok (.putfield 55, 3) := by decide +kernel
theorem dX2_copyFrom_98 : decode cX2_copyFrom 98 = .ok (.aload_n 0, 1) := by decide +kernel
theorem dX2_copyFrom_99 : decode cX2_copyFrom 99 = .ok (.aload_n 1, 1) := by decide +kernel
theorem dX2_copyFrom_100 : decode cX2_copyFrom 100 = .ok (.getfield 58, 3) := by decide +kernel
theorem dX2_copyFrom_103 : decode cX2_copyFrom 103 = .ok (.putfield 58, 3) := by decide +kernel
theorem dX2_copyFrom_106 : decode cX2_copyFrom 106 = .ok (.aload_n 0, 1) := by decide +kernel
theorem dX2_copyFrom_107 : decode cX2_copyFrom 107 = .ok (.aload_n 1, 1) := by decide +kernel
theorem dX2_copyFrom_108 : decode cX2_copyFrom 108 = .ok (.getfield 61, 3) := by decide +kernel
theorem dX2_copyFrom_111 : decode cX2_copyFrom 111 = .ok (.putfield 61, 3) := by decide +kernel
theorem dX2_copyFrom_114 : decode cX2_copyFrom 114 = .ok (.aload_n 0, 1) := by decide +kernel
theorem dX2_copyFrom_115 : decode cX2_copyFrom 115 = .ok (.aload_n 1, 1) := by decide +kernel
theorem dX2_copyFrom_116 : decode cX2_copyFrom 116 = .ok (.getfield 65, 3) := by decide +kernel
theorem dX2_copyFrom_119 : decode cX2_copyFrom 119 = .ok (.putfield 65, 3) := by decide +kernel
theorem dX2_copyFrom_122 : decode cX2_copyFrom 122 = .ok (.aload_n 0, 1) := by decide +kernel
theorem dX2_copyFrom_123 : decode cX2_copyFrom 123 = .ok (.aload_n 1, 1) := by decide +kernel
theorem dX2_copyFrom_124 : decode cX2_copyFrom 124 = .ok (.getfield 68, 3) := by decide +kernel
theorem dX2_copyFrom_127 : decode cX2_copyFrom 127 = .ok (.putfield 68, 3) := by decide +kernel
theorem dX2_copyFrom_130 : decode cX2_copyFrom 130 = .ok (.aload_n 0, 1) := by decide +kernel
theorem dX2_copyFrom_131 : decode cX2_copyFrom 131 = .ok (.aload_n 1, 1) := by decide +kernel
theorem dX2_copyFrom_132 : decode cX2_copyFrom 132 = .ok (.getfield 71, 3) := by decide +kernel
theorem dX2_copyFrom_135 : decode cX2_copyFrom 135 = .ok (.putfield 71, 3) := by decide +kernel
theorem dX2_copyFrom_138 : decode cX2_copyFrom 138 = .ok (.aload_n 0, 1) := by decide +kernel
theorem dX2_copyFrom_139 : decode cX2_copyFrom 139 = .ok (.aload_n 1, 1) := by decide +kernel
theorem dX2_copyFrom_140 : decode cX2_copyFrom 140 = .ok (.getfield 74, 3) := by decide +kernel
theorem dX2_copyFrom_143 : decode cX2_copyFrom 143 = .ok (.putfield 74, 3) := by decide +kernel
theorem dX2_copyFrom_146 : decode cX2_copyFrom 146 = .ok (.aload_n 0, 1) := by decide +kernel
theorem dX2_copyFrom_147 : decode cX2_copyFrom 147 = .ok (.aload_n 1, 1) := by decide +kernel
theorem dX2_copyFrom_148 : decode cX2_copyFrom 148 = .ok (.getfield 77, 3) := by decide +kernel
theorem dX2_copyFrom_151 : decode cX2_copyFrom 151 = .ok (.putfield 77, 3) := by decide +kernel
theorem dX2_copyFrom_154 : decode cX2_copyFrom 154 = .ok (.return_, 1) := by decide +kernel
