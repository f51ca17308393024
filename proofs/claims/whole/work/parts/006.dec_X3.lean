theorem dX3_init_0 : decode cX3_init 0 = .ok (.aload_n 0, 1) := by decide +kernel
theorem dX3_init_1 : decode cX3_init 1 = .ok (.invokespecial 3, 3) := by decide +kernel
theorem dX3_init_4 : decode cX3_init 4 = .ok (.aload_n 0, 1) := by decide +kernel
theorem dX3_init_5 : decode cX3_init 5 = .ok (.iconst 0, 1) := by decide +kernel
theorem dX3_init_6 : decode cX3_init 6 = .ok (.putfield 9, 3) := by decide +kernel
theorem dX3_init_9 : decode cX3_init 9 = .ok (.aload_n 0, 1) := by decide +kernel
theorem dX3_init_10 : decode cX3_init 10 = .ok (.iconst 1, 1) := by decide +kernel
theorem dX3_init_11 : decode cX3_init 11 = .ok (.putfield 15, 3) := by decide +kernel
theorem dX3_init_14 : decode cX3_init 14 = .ok (.aload_n 0, 1) := by decide +kernel
theorem dX3_init_15 : decode cX3_init 15 = .ok (.iconst 1, 1) := by decide +kernel
theorem dX3_init_16 : decode cX3_init 16 = .ok (.putfield 18, 3) := by decide +kernel
theorem dX3_init_19 : decode cX3_init 19 = .ok (.aload_n 0, 1) := by decide +kernel
theorem dX3_init_20 : decode cX3_init 20 = .ok (.iconst 0, 1) := by decide +kernel
theorem dX3_init_21 : decode cX3_init 21 = .ok (.putfield 21, 3) := by decide +kernel
theorem dX3_init_24 : decode cX3_init 24 = .ok (.return_, 1) := by decide +kernel
theorem dX3_isBelow_0 : decode cX3_isBelow 0 = .ok (.iload_n 0, 1) := by decide +kernel
theorem dX3_isBelow_1 : decode cX3_isBelow 1 = .ok (.i2l, 1) := by decide +kernel
theorem dX3_isBelow_2 : decode cX3_isBelow 2 = .ok (.iload_n 3, 1) := by decide +kernel
theorem dX3_isBelow_3 : decode cX3_isBelow 3 = .ok (.i2l, 1) := by decide +kernel
theorem dX3_isBelow_4 : decode cX3_isBelow 4 = .ok (.lmul, 1) := by decide +kernel
theorem dX3_isBelow_5 : decode cX3_isBelow 5 = .ok (.iload_n 2, 1) := by decide +kernel
theorem dX3_isBelow_6 : decode cX3_isBelow 6 = .ok (.i2l, 1) := by decide +kernel
theorem dX3_isBelow_7 : decode cX3_isBelow 7 = .ok (.iload_n 1, 1) := by decide +kernel
theorem dX3_isBelow_8 : decode cX3_isBelow 8 = .ok (.i2l, 1) := by decide +kernel
theorem dX3_isBelow_9 : decode cX3_isBelow 9 = .ok (.lmul, 1) := by decide +kernel
theorem dX3_isBelow_10 : decode cX3_isBelow 10 = .ok (.lcmp, 1) := by decide +kernel
theorem dX3_isBelow_11 : decode cX3_isBelow 11 = .ok (.ifCond .ge 7, 3) := by decide +kernel
theorem dX3_isBelow_14 : decode cX3_isBelow 14 = .ok (.iconst 1, 1) := by decide +kernel
theorem dX3_isBelow_15 : decode cX3_isBelow 15 = .ok (.goto 4, 3) := by decide +kernel
theorem dX3_isBelow_18 : decode cX3_isBelow 18 = .ok (.iconst 0, 1) := by decide +kernel
theorem dX3_isBelow_19 : decode cX3_isBelow 19 = .ok (.ireturn, 1) := by decide +kernel
set_option maxRecDepth 20000 in
theorem ggX3_raiseLeast_X3_isBelow : GoodIn wsX3_raiseLeast wsX3_isBelow := goodIn_r _ [6] (by decide +kernel) (by decide +kernel)
set_option maxRecDepth 20000 in
theorem gX3_raiseLeast_X3_isBelow : GoodIn wsX3_raiseLeast (va_wsS RX3 24 yX3_isBelow wsX3_isBelow) := goodIn_app (goodIn_of _ (by decide +kernel)) ggX3_raiseLeast_X3_isBelow
theorem dX3_raiseLeast_0 : decode cX3_raiseLeast 0 = .ok (.aload_n 0, 1) := by decide +kernel
theorem dX3_raiseLeast_1 : decode cX3_raiseLeast 1 = .ok (.getfield 9, 3) := by decide +kernel
theorem dX3_raiseLeast_4 : decode cX3_raiseLeast 4 = .ok (.aload_n 0, 1) := by decide +kernel
theorem dX3_raiseLeast_5 : decode cX3_raiseLeast 5 = .ok (.getfield 15, 3) := by decide +kernel
theorem dX3_raiseLeast_8 : decode cX3_raiseLeast 8 = .ok (.iload_n 1, 1) := by decide +kernel
theorem dX3_raiseLeast_9 : decode cX3_raiseLeast 9 = .ok (.iload_n 2, 1) := by decide +kernel
theorem dX3_raiseLeast_10 : decode cX3_raiseLeast 10 = .ok (.invokestatic 24, 3) := by decide +kernel
theorem dX3_raiseLeast_13 : decode cX3_raiseLeast 13 = .ok (.ifCond .eq 13, 3) := by decide +kernel
theorem dX3_raiseLeast_16 : decode cX3_raiseLeast 16 = .ok (.aload_n 0, 1) := by decide +kernel
theorem dX3_raiseLeast_17 : decode cX3_raiseLeast 17 = .ok (.iload_n 1, 1) := by decide +kernel
theorem dX3_raiseLeast_18 : decode cX3_raiseLeast 18 = .ok (.putfield 9, 3) := by decide +kernel
theorem dX3_raiseLeast_21 : decode cX3_raiseLeast 21 = .ok (.aload_n 0, 1) := by decide +kernel
theorem dX3_raiseLeast_22 : decode cX3_raiseLeast 22 = .ok (.iload_n 2, 1) := by decide +kernel
theorem dX3_raiseLeast_23 : decode cX3_raiseLeast 23 = .ok (.putfield 15, 3) := by decide +kernel
theorem dX3_raiseLeast_26 : decode cX3_raiseLeast 26 = .ok (.return_, 1) := by decide +kernel
set_option maxRecDepth 20000 in
theorem ggX3_lowerMost_X3_isBelow : GoodIn wsX3_lowerMost wsX3_isBelow := goodIn_r _ [6] (by decide +kernel) (by decide +kernel)
set_option maxRecDepth 20000 in
theorem gX3_lowerMost_X3_isBelow : GoodIn wsX3_lowerMost (va_wsS RX3 24 yX3_isBelow wsX3_isBelow) := goodIn_app (goodIn_of _ (by decide +kernel)) ggX3_lowerMost_X3_isBelow
theorem dX3_lowerMost_0 : decode cX3_lowerMost 0 = .ok (.iload_n 1, 1) := by decide +kernel
theorem dX3_lowerMost_1 : decode cX3_lowerMost 1 = .ok (.iload_n 2, 1) := by decide +kernel
theorem dX3_lowerMost_2 : decode cX3_lowerMost 2 = .ok (.aload_n 0, 1) := by decide +kernel
theorem dX3_lowerMost_3 : decode cX3_lowerMost 3 = .ok (.getfield 18, 3) := by decide +kernel
theorem dX3_lowerMost_6 : decode cX3_lowerMost 6 = .ok (.aload_n 0, 1) := by decide +kernel
theorem dX3_lowerMost_7 : decode cX3_lowerMost 7 = .ok (.getfield 21, 3) := by decide +kernel
theorem dX3_lowerMost_10 : decode cX3_lowerMost 10 = .ok (.invokestatic 24, 3) := by decide +kernel
theorem dX3_lowerMost_13 : decode cX3_lowerMost 13 = .ok (.ifCond .eq 13, 3) := by decide +kernel
theorem dX3_lowerMost_16 : decode cX3_lowerMost 16 = .ok (.aload_n 0, 1) := by decide +kernel
theorem dX3_lowerMost_17 : decode cX3_lowerMost 17 = .ok (.iload_n 1, 1) := by decide +kernel
theorem dX3_lowerMost_18 : decode cX3_lowerMost 18 = .ok (.putfield 18, 3) := by decide +kernel
theorem dX3_lowerMost_21 : decode cX3_lowerMost 21 = .ok (.aload_n 0, 1) := by decide +kernel
theorem dX3_lowerMost_22 : decode cX3_lowerMost 22 = .ok (.iload_n 2, 1) := by decide +kernel
theorem dX3_lowerMost_23 : decode cX3_lowerMost 23 = .ok (.putfield 21, 3) := by decide +kernel
theorem dX3_lowerMost_26 : decode cX3_lowerMost 26 = .ok (.return_, 1) := by decide +kernel
set_option maxRecDepth 20000 in
theorem ggX3_hasMotion_X3_isBelow : GoodIn wsX3_hasMotion wsX3_isBelow := goodIn_r _ [8] (by decide +kernel) (by decide +kernel)
set_option maxRecDepth 20000 in
theorem gX3_hasMotion_X3_isBelow : GoodIn wsX3_hasMotion (va_wsS RX3 24 yX3_isBelow wsX3_isBelow) := goodIn_app (goodIn_of _ (by decide +kernel)) ggX3_hasMotion_X3_isBelow
theorem dX3_hasMotion_0 : decode cX3_hasMotion 0 = .ok (.aload_n 0, 1) := by decide +kernel
theorem dX3_hasMotion_1 : decode cX3_hasMotion 1 = .ok (.getfield 9, 3) := by decide +kernel
theorem dX3_hasMotion_4 : decode cX3_hasMotion 4 = .ok (.aload_n 0, 1) := by decide +kernel
theorem dX3_hasMotion_5 : decode cX3_hasMotion 5 = .ok (.getfield 15, 3) := by decide +kernel
theorem dX3_hasMotion_8 : decode cX3_hasMotion 8 = .ok (.aload_n 0, 1) := by decide +kernel
theorem dX3_hasMotion_9 : decode cX3_hasMotion 9 = .ok (.getfield 18, 3) := by decide +kernel
theorem dX3_hasMotion_12 : decode cX3_hasMotion 12 = .ok (.aload_n 0, 1) := by decide +kernel
theorem dX3_hasMotion_13 : decode cX3_hasMotion 13 = .ok (.getfield 21, 3) := by decide +kernel
theorem dX3_hasMotion_16 : decode cX3_hasMotion 16 = .ok (.invokestatic 24, 3) := by decide +kernel
theorem dX3_hasMotion_19 : decode cX3_hasMotion 19 = .ok (.ireturn, 1) := by decide +kernel
set_option maxRecDepth 20000 in
theorem ggX3_part_X3_reduced : GoodIn wsX3_part wsX3_reduced := goodIn_r _ [8, 9, 10, 7, 11] (by decide +kernel) (by decide +kernel)
set_option maxRecDepth 20000 in
theorem gX3_part_X3_reduced : GoodIn wsX3_part (va_wsS RX3 28 yX3_reduced wsX3_reduced) := goodIn_app (goodIn_of _ (by decide +kernel)) ggX3_part_X3_reduced
theorem dX3_part_0 : decode cX3_part 0 = .ok (.iload_n 1, 1) := by decide +kernel
theorem dX3_part_1 : decode cX3_part 1 = .ok (.tableswitch 79 0 3 #[31, 43, 55, 67], 31) := by decide +kernel
theorem dX3_part_32 : decode cX3_part 32 = .ok (.aload_n 0, 1) := by decide +kernel
theorem dX3_part_33 : decode cX3_part 33 = .ok (.getfield 9, 3) := by decide +kernel
theorem dX3_part_36 : decode cX3_part 36 = .ok (.aload_n 0, 1) := by decide +kernel
theorem dX3_part_37 : decode cX3_part 37 = .ok (.getfield 15, 3) := by decide +kernel
theorem dX3_part_40 : decode cX3_part 40 = .ok (.invokestatic 28, 3) := by decide +kernel
theorem dX3_part_43 : decode cX3_part 43 = .ok (.ireturn, 1) := by decide +kernel
theorem dX3_part_44 : decode cX3_part 44 = .ok (.aload_n 0, 1) := by decide +kernel
theorem dX3_part_45 : decode cX3_part 45 = .ok (.getfield 15, 3) := by decide +kernel
theorem dX3_part_48 : decode cX3_part 48 = .ok (.aload_n 0, 1) := by decide +kernel
theorem dX3_part_49 : decode cX3_part 49 = .ok (.getfield 9, 3) := by decide +kernel
theorem dX3_part_52 : decode cX3_part 52 = .ok (.invokestatic 28, 3) := by decide +kernel
theorem dX3_part_55 : decode cX3_part 55 = .ok (.ireturn, 1) := by decide +kernel
theorem dX3_part_56 : decode cX3_part 56 = .ok (.aload_n 0, 1) := by decide +kernel
theorem dX3_part_57 : decode cX3_part 57 = .ok (.getfield 18, 3) := by decide +kernel
theorem dX3_part_60 : decode cX3_part 60 = .ok (.aload_n 0, 1) := by decide +kernel
theorem dX3_part_61 : decode cX3_part 61 = .ok (.getfield 21, 3) := by decide +kernel
theorem dX3_part_64 : decode cX3_part 64 = .ok (.invokestatic 28, 3) := by decide +kernel
theorem dX3_part_67 : decode cX3_part 67 = .ok (.ireturn, 1) := by decide +kernel
theorem dX3_part_68 : decode cX3_part 68 = .ok (.aload_n 0, 1) := by decide +kernel
theorem dX3_part_69 : decode cX3_part 69 = .ok (.getfield 21, 3) := by decide +kernel
theorem dX3_part_72 : decode cX3_part 72 = .ok (.aload_n 0, 1) := by decide +kernel
theorem dX3_part_73 : decode cX3_part 73 = .ok (.getfield 18, 3) := by decide +kernel
theorem dX3_part_76 : decode cX3_part 76 = .ok (.invokestatic 28, 3) := by decide +kernel
theorem dX3_part_79 : decode cX3_part 79 = .ok (.ireturn, 1) := by decide +kernel
theorem dX3_part_80 : decode cX3_part 80 = .ok (.iconst (-1), 1) := by decide +kernel
theorem dX3_part_81 : decode cX3_part 81 = .ok (.ireturn, 1) := by decide +kernel
set_option maxRecDepth 20000 in
theorem ggX3_reduced_X3_greatestDivisor : GoodIn wsX3_reduced wsX3_greatestDivisor := goodIn_r _ [4] (by decide +kernel) (by decide +kernel)
set_option maxRecDepth 20000 in
theorem gX3_reduced_X3_greatestDivisor : GoodIn wsX3_reduced (va_wsS RX3 32 yX3_greatestDivisor wsX3_greatestDivisor) := goodIn_app (goodIn_of _ (by decide +kernel)) ggX3_reduced_X3_greatestDivisor
theorem dX3_reduced_0 : decode cX3_reduced 0 = .ok (.iload_n 0, 1) := by decide +kernel
theorem dX3_reduced_1 : decode cX3_reduced 1 = .ok (.iload_n 1, 1) := by decide +kernel
theorem dX3_reduced_2 : decode cX3_reduced 2 = .ok (.invokestatic 32, 3) := by decide +kernel
theorem dX3_reduced_5 : decode cX3_reduced 5 = .ok (.istore_n 2, 1) := by decide +kernel
theorem dX3_reduced_6 : decode cX3_reduced 6 = .ok (.iload_n 2, 1) := by decide +kernel
theorem dX3_reduced_7 : decode cX3_reduced 7 = .ok (.ifCond .ne 7, 3) := by decide +kernel
theorem dX3_reduced_10 : decode cX3_reduced 10 = .ok (.iload_n 0, 1) := by decide +kernel
theorem dX3_reduced_11 : decode cX3_reduced 11 = .ok (.goto 6, 3) := by decide +kernel
theorem dX3_reduced_14 : decode cX3_reduced 14 = .ok (.iload_n 0, 1) := by decide +kernel
theorem dX3_reduced_15 : decode cX3_reduced 15 = .ok (.iload_n 2, 1) := by decide +kernel
theorem dX3_reduced_16 : decode cX3_reduced 16 = .ok (.idiv, 1) := by decide +kernel
theorem dX3_reduced_17 : decode cX3_reduced 17 = .ok (.ireturn, 1) := by decide +kernel
theorem dX3_greatestDivisor_0 : decode cX3_greatestDivisor 0 = .ok (.iload_n 0, 1) := by decide +kernel
theorem dX3_greatestDivisor_1 : decode cX3_greatestDivisor 1 = .ok (.istore_n 2, 1) := by decide +kernel
theorem dX3_greatestDivisor_2 : decode cX3_greatestDivisor 2 = .ok (.iload_n 1, 1) := by decide +kernel
theorem dX3_greatestDivisor_3 : decode cX3_greatestDivisor 3 = .ok (.istore_n 3, 1) := by decide +kernel
theorem dX3_greatestDivisor_4 : decode cX3_greatestDivisor 4 = .ok (.iconst 0, 1) := by decide +kernel
theorem dX3_greatestDivisor_5 : decode cX3_greatestDivisor 5 = .ok (.istore 4, 2) := by decide +kernel
theorem dX3_greatestDivisor_7 : decode cX3_greatestDivisor 7 = .ok (.iload 4, 2) := by decide +kernel
theorem dX3_greatestDivisor_9 : decode cX3_greatestDivisor 9 = .ok (.bipush 100, 2) := by decide +kernel
theorem dX3_greatestDivisor_11 : decode cX3_greatestDivisor 11 = .ok (.if_icmp .ge 23, 3) := by decide +kernel
theorem dX3_greatestDivisor_14 : decode cX3_greatestDivisor 14 = .ok (.iload_n 3, 1) := by decide +kernel
theorem dX3_greatestDivisor_15 : decode cX3_greatestDivisor 15 = .ok (.ifCond .eq 19, 3) := by decide +kernel
theorem dX3_greatestDivisor_18 : decode cX3_greatestDivisor 18 = .ok (.iload_n 2, 1) := by decide +kernel
theorem dX3_greatestDivisor_19 : decode cX3_greatestDivisor 19 = .ok (.iload_n 3, 1) := by decide +kernel
theorem dX3_greatestDivisor_20 : decode cX3_greatestDivisor 20 = .ok (.irem, 1) := by decide +kernel
theorem dX3_greatestDivisor_21 : decode cX3_greatestDivisor 21 = .ok (.istore 5, 2) := by decide +kernel
theorem dX3_greatestDivisor_23 : decode cX3_greatestDivisor 23 = .ok (.iload_n 3, 1) := by decide +kernel
theorem dX3_greatestDivisor_24 : decode cX3_greatestDivisor 24 = .ok (.istore_n 2, 1) := by decide +kernel
theorem dX3_greatestDivisor_25 : decode cX3_greatestDivisor 25 = .ok (.iload 5, 2) := by decide +kernel
theorem dX3_greatestDivisor_27 : decode cX3_greatestDivisor 27 = .ok (.istore_n 3, 1) := by decide +kernel
theorem dX3_greatestDivisor_28 : decode cX3_greatestDivisor 28 = .ok (.iinc 4 1, 3) := by decide +kernel
theorem dX3_greatestDivisor_31 : decode cX3_greatestDivisor 31 = .ok (.goto (-24), 3) := by decide +kernel
theorem dX3_greatestDivisor_34 : decode cX3_greatestDivisor 34 = .ok (.iload_n 2, 1) := by decide +kernel
theorem dX3_greatestDivisor_35 : decode cX3_greatestDivisor 35 = .ok (.ireturn, 1) := by decide +kernel
