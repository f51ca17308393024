theorem dX4_init_0 : decode cX4_init 0 = .ok (.aload_n 0, 1) := by decide +kernel
theorem dX4_init_1 : decode cX4_init 1 = .ok (.invokespecial 3, 3) := by decide +kernel
theorem dX4_init_4 : decode cX4_init 4 = .ok (.aload_n 0, 1) := by decide +kernel
theorem dX4_init_5 : decode cX4_init 5 = .ok (.bipush 64, 2) := by decide +kernel
theorem dX4_init_7 : decode cX4_init 7 = .ok (.newarray .int, 2) := by decide +kernel
theorem dX4_init_9 : decode cX4_init 9 = .ok (.putfield 9, 3) := by decide +kernel
theorem dX4_init_12 : decode cX4_init 12 = .ok (.return_, 1) := by decide +kernel
set_option maxRecDepth 20000 in
theorem ggX4_forget_J7_fill_53178 : GoodIn wsX4_forget wsJ7_fill_53178 := goodIn_r _ [7] (by decide +kernel) (by decide +kernel)
set_option maxRecDepth 20000 in
theorem gX4_forget_J7_fill_53178 : GoodIn wsX4_forget (va_wsS RX4 15 yJ7_fill_53178 wsJ7_fill_53178) := goodIn_app (goodIn_of _ (by decide +kernel)) ggX4_forget_J7_fill_53178
theorem dX4_forget_0 : decode cX4_forget 0 = .ok (.aload_n 0, 1) := by decide +kernel
theorem dX4_forget_1 : decode cX4_forget 1 = .ok (.getfield 9, 3) := by decide +kernel
theorem dX4_forget_4 : decode cX4_forget 4 = .ok (.iconst 0, 1) := by decide +kernel
theorem dX4_forget_5 : decode cX4_forget 5 = .ok (.invokestatic 15, 3) := by decide +kernel
theorem dX4_forget_8 : decode cX4_forget 8 = .ok (.aload_n 0, 1) := by decide +kernel
theorem dX4_forget_9 : decode cX4_forget 9 = .ok (.iconst 0, 1) := by decide +kernel
theorem dX4_forget_10 : decode cX4_forget 10 = .ok (.putfield 21, 3) := by decide +kernel
theorem dX4_forget_13 : decode cX4_forget 13 = .ok (.aload_n 0, 1) := by decide +kernel
theorem dX4_forget_14 : decode cX4_forget 14 = .ok (.iconst 0, 1) := by decide +kernel
theorem dX4_forget_15 : decode cX4_forget 15 = .ok (.putfield 25, 3) := by decide +kernel
theorem dX4_forget_18 : decode cX4_forget 18 = .ok (.return_, 1) := by decide +kernel
set_option maxRecDepth 20000 in
theorem ggX4_learn_X4_addTurn : GoodIn wsX4_learn wsX4_addTurn := goodIn_r _ [6, 7, 8, 9, 10, 11, 12, 13, 14, 15, 16, 17, 18, 19, 20, 21, 22, 23, 24, 25, 26] (by decide +kernel) (by decide +kernel)
set_option maxRecDepth 20000 in
theorem gX4_learn_X4_addTurn : GoodIn wsX4_learn (wsV RX4 36 RX4 yX4_addTurn wsX4_addTurn) := goodIn_app (goodIn_of _ (by decide +kernel)) ggX4_learn_X4_addTurn
theorem dX4_learn_0 : decode cX4_learn 0 = .ok (.aload_n 0, 1) := by decide +kernel
theorem dX4_learn_1 : decode cX4_learn 1 = .ok (.getfield 25, 3) := by decide +kernel
theorem dX4_learn_4 : decode cX4_learn 4 = .ok (.ifCond .le 7, 3) := by decide +kernel
theorem dX4_learn_7 : decode cX4_learn 7 = .ok (.iconst 1, 1) := by decide +kernel
theorem dX4_learn_8 : decode cX4_learn 8 = .ok (.goto 4, 3) := by decide +kernel
theorem dX4_learn_11 : decode cX4_learn 11 = .ok (.iconst 0, 1) := by decide +kernel
theorem dX4_learn_12 : decode cX4_learn 12 = .ok (.istore_n 3, 1) := by decide +kernel
theorem dX4_learn_13 : decode cX4_learn 13 = .ok (.aload_n 1, 1) := by decide +kernel
theorem dX4_learn_14 : decode cX4_learn 14 = .ok (.getfield 28, 3) := by decide +kernel
theorem dX4_learn_17 : decode cX4_learn 17 = .ok (.aload_n 0, 1) := by decide +kernel
theorem dX4_learn_18 : decode cX4_learn 18 = .ok (.getfield 25, 3) := by decide +kernel
theorem dX4_learn_21 : decode cX4_learn 21 = .ok (.isub, 1) := by decide +kernel
theorem dX4_learn_22 : decode cX4_learn 22 = .ok (.iload_n 2, 1) := by decide +kernel
theorem dX4_learn_23 : decode cX4_learn 23 = .ok (.if_icmp .ne 7, 3) := by decide +kernel
theorem dX4_learn_26 : decode cX4_learn 26 = .ok (.iconst 1, 1) := by decide +kernel
theorem dX4_learn_27 : decode cX4_learn 27 = .ok (.goto 4, 3) := by decide +kernel
theorem dX4_learn_30 : decode cX4_learn 30 = .ok (.iconst 0, 1) := by decide +kernel
theorem dX4_learn_31 : decode cX4_learn 31 = .ok (.istore 4, 2) := by decide +kernel
theorem dX4_learn_33 : decode cX4_learn 33 = .ok (.iload_n 3, 1) := by decide +kernel
theorem dX4_learn_34 : decode cX4_learn 34 = .ok (.ifCond .eq 22, 3) := by decide +kernel
theorem dX4_learn_37 : decode cX4_learn 37 = .ok (.iload 4, 2) := by decide +kernel
theorem dX4_learn_39 : decode cX4_learn 39 = .ok (.ifCond .eq 17, 3) := by decide +kernel
theorem dX4_learn_42 : decode cX4_learn 42 = .ok (.aload_n 1, 1) := by decide +kernel
theorem dX4_learn_43 : decode cX4_learn 43 = .ok (.getfield 33, 3) := by decide +kernel
theorem dX4_learn_46 : decode cX4_learn 46 = .ok (.iload_n 2, 1) := by decide +kernel
theorem dX4_learn_47 : decode cX4_learn 47 = .ok (.if_icmp .lt 9, 3) := by decide +kernel
theorem dX4_learn_50 : decode cX4_learn 50 = .ok (.aload_n 0, 1) := by decide +kernel
theorem dX4_learn_51 : decode cX4_learn 51 = .ok (.aload_n 1, 1) := by decide +kernel
theorem dX4_learn_52 : decode cX4_learn 52 = .ok (.iload_n 2, 1) := by decide +kernel
theorem dX4_learn_53 : decode cX4_learn 53 = .ok (.invokevirtual 36, 3) := by decide +kernel
theorem dX4_learn_56 : decode cX4_learn 56 = .ok (.aload_n 0, 1) := by decide +kernel
theorem dX4_learn_57 : decode cX4_learn 57 = .ok (.aload_n 1, 1) := by decide +kernel
theorem dX4_learn_58 : decode cX4_learn 58 = .ok (.getfield 28, 3) := by decide +kernel
theorem dX4_learn_61 : decode cX4_learn 61 = .ok (.putfield 25, 3) := by decide +kernel
theorem dX4_learn_64 : decode cX4_learn 64 = .ok (.return_, 1) := by decide +kernel
set_option maxRecDepth 20000 in
theorem ggX4_addTurn_X1_tickAt : GoodIn wsX4_addTurn wsX1_tickAt := goodIn_r _ [6, 7, 8, 9, 10, 4, 11, 12, 16, 17, 18, 19, 20] (by decide +kernel) (by decide +kernel)
set_option maxRecDepth 20000 in
theorem gX4_addTurn_X1_tickAt_n40 : GoodIn wsX4_addTurn (wsX1_tickAt) := ggX4_addTurn_X1_tickAt
theorem dX4_addTurn_0 : decode cX4_addTurn 0 = .ok (.aload_n 0, 1) := by decide +kernel
theorem dX4_addTurn_1 : decode cX4_addTurn 1 = .ok (.dup, 1) := by decide +kernel
theorem dX4_addTurn_2 : decode cX4_addTurn 2 = .ok (.getfield 21, 3) := by decide +kernel
theorem dX4_addTurn_5 : decode cX4_addTurn 5 = .ok (.iconst 1, 1) := by decide +kernel
theorem dX4_addTurn_6 : decode cX4_addTurn 6 = .ok (.iadd, 1) := by decide +kernel
theorem dX4_addTurn_7 : decode cX4_addTurn 7 = .ok (.putfield 21, 3) := by decide +kernel
theorem dX4_addTurn_10 : decode cX4_addTurn 10 = .ok (.iconst 0, 1) := by decide +kernel
theorem dX4_addTurn_11 : decode cX4_addTurn 11 = .ok (.istore_n 3, 1) := by decide +kernel
theorem dX4_addTurn_12 : decode cX4_addTurn 12 = .ok (.iload_n 3, 1) := by decide +kernel
theorem dX4_addTurn_13 : decode cX4_addTurn 13 = .ok (.iload_n 2, 1) := by decide +kernel
theorem dX4_addTurn_14 : decode cX4_addTurn 14 = .ok (.if_icmp .ge 49, 3) := by decide +kernel
theorem dX4_addTurn_17 : decode cX4_addTurn 17 = .ok (.iload_n 3, 1) := by decide +kernel
theorem dX4_addTurn_18 : decode cX4_addTurn 18 = .ok (.aload_n 0, 1) := by decide +kernel
theorem dX4_addTurn_19 : decode cX4_addTurn 19 = .ok (.getfield 9, 3) := by decide +kernel
theorem dX4_addTurn_22 : decode cX4_addTurn 22 = .ok (.arraylength, 1) := by decide +kernel
theorem dX4_addTurn_23 : decode cX4_addTurn 23 = .ok (.if_icmp .ge 40, 3) := by decide +kernel
theorem dX4_addTurn_26 : decode cX4_addTurn 26 = .ok (.iload_n 2, 1) := by decide +kernel
theorem dX4_addTurn_27 : decode cX4_addTurn 27 = .ok (.iconst 1, 1) := by decide +kernel
theorem dX4_addTurn_28 : decode cX4_addTurn 28 = .ok (.isub, 1) := by decide +kernel
theorem dX4_addTurn_29 : decode cX4_addTurn 29 = .ok (.iload_n 3, 1) := by decide +kernel
theorem dX4_addTurn_30 : decode cX4_addTurn 30 = .ok (.isub, 1) := by decide +kernel
theorem dX4_addTurn_31 : decode cX4_addTurn 31 = .ok (.istore 4, 2) := by decide +kernel
theorem dX4_addTurn_33 : decode cX4_addTurn 33 = .ok (.aload_n 0, 1) := by decide +kernel
theorem dX4_addTurn_34 : decode cX4_addTurn 34 = .ok (.getfield 9, 3) := by decide +kernel
theorem dX4_addTurn_37 : decode cX4_addTurn 37 = .ok (.iload_n 3, 1) := by decide +kernel
theorem dX4_addTurn_38 : decode cX4_addTurn 38 = .ok (.dup2, 1) := by decide +kernel
theorem dX4_addTurn_39 : decode cX4_addTurn 39 = .ok (.iaload, 1) := by decide +kernel
theorem dX4_addTurn_40 : decode cX4_addTurn 40 = .ok (.aload_n 1, 1) := by decide +kernel
theorem dX4_addTurn_41 : decode cX4_addTurn 41 = .ok (.iload 4, 2) := by decide +kernel
theorem dX4_addTurn_43 : decode cX4_addTurn 43 = .ok (.invokevirtual 40, 3) := by decide +kernel
theorem dX4_addTurn_46 : decode cX4_addTurn 46 = .ok (.aload_n 1, 1) := by decide +kernel
theorem dX4_addTurn_47 : decode cX4_addTurn 47 = .ok (.iload 4, 2) := by decide +kernel
theorem dX4_addTurn_49 : decode cX4_addTurn 49 = .ok (.iconst 1, 1) := by decide +kernel
theorem dX4_addTurn_50 : decode cX4_addTurn 50 = .ok (.iadd, 1) := by decide +kernel
theorem dX4_addTurn_51 : decode cX4_addTurn 51 = .ok (.invokevirtual 40, 3) := by decide +kernel
theorem dX4_addTurn_54 : decode cX4_addTurn 54 = .ok (.isub, 1) := by decide +kernel
theorem dX4_addTurn_55 : decode cX4_addTurn 55 = .ok (.iadd, 1) := by decide +kernel
theorem dX4_addTurn_56 : decode cX4_addTurn 56 = .ok (.iastore, 1) := by decide +kernel
theorem dX4_addTurn_57 : decode cX4_addTurn 57 = .ok (.iinc 3 1, 3) := by decide +kernel
theorem dX4_addTurn_60 : decode cX4_addTurn 60 = .ok (.goto (-48), 3) := by decide +kernel
theorem dX4_addTurn_63 : decode cX4_addTurn 63 = .ok (.return_, 1) := by decide +kernel
theorem dX4_sumAt_0 : decode cX4_sumAt 0 = .ok (.iload_n 1, 1) := by decide +kernel
theorem dX4_sumAt_1 : decode cX4_sumAt 1 = .ok (.ifCond .lt 21, 3) := by decide +kernel
theorem dX4_sumAt_4 : decode cX4_sumAt 4 = .ok (.iload_n 1, 1) := by decide +kernel
theorem dX4_sumAt_5 : decode cX4_sumAt 5 = .ok (.aload_n 0, 1) := by decide +kernel
theorem dX4_sumAt_6 : decode cX4_sumAt 6 = .ok (.getfield 9, 3) := by decide +kernel
theorem dX4_sumAt_9 : decode cX4_sumAt 9 = .ok (.arraylength, 1) := by decide +kernel
theorem dX4_sumAt_10 : decode cX4_sumAt 10 = .ok (.if_icmp .ge 12, 3) := by decide +kernel
theorem dX4_sumAt_13 : decode cX4_sumAt 13 = .ok (.aload_n 0, 1) := by decide +kernel
theorem dX4_sumAt_14 : decode cX4_sumAt 14 = .ok (.getfield 9, 3) := by decide +kernel
theorem dX4_sumAt_17 : decode cX4_sumAt 17 = .ok (.iload_n 1, 1) := by decide +kernel
theorem dX4_sumAt_18 : decode cX4_sumAt 18 = .ok (.iaload, 1) := by decide +kernel
theorem dX4_sumAt_19 : decode cX4_sumAt 19 = .ok (.goto 4, 3) := by decide +kernel
theorem dX4_sumAt_22 : decode cX4_sumAt 22 = .ok (.iconst (-1), 1) := by decide +kernel
theorem dX4_sumAt_23 : decode cX4_sumAt 23 = .ok (.ireturn, 1) := by decide +kernel
theorem dX4_firstGreatest_0 : decode cX4_firstGreatest 0 = .ok (.iconst 0, 1) := by decide +kernel
theorem dX4_firstGreatest_1 : decode cX4_firstGreatest 1 = .ok (.istore_n 2, 1) := by decide +kernel
theorem dX4_firstGreatest_2 : decode cX4_firstGreatest 2 = .ok (.iconst 1, 1) := by decide +kernel
theorem dX4_firstGreatest_3 : decode cX4_firstGreatest 3 = .ok (.istore_n 3, 1) := by decide +kernel
theorem dX4_firstGreatest_4 : decode cX4_firstGreatest 4 = .ok (.iload_n 3, 1) := by decide +kernel
theorem dX4_firstGreatest_5 : decode cX4_firstGreatest 5 = .ok (.iload_n 1, 1) := by decide +kernel
theorem dX4_firstGreatest_6 : decode cX4_firstGreatest 6 = .ok (.if_icmp .ge 35, 3) := by decide +kernel
theorem dX4_firstGreatest_9 : decode cX4_firstGreatest 9 = .ok (.iload_n 3, 1) := by decide +kernel
theorem dX4_firstGreatest_10 : decode cX4_firstGreatest 10 = .ok (.aload_n 0, 1) := by decide +kernel
theorem dX4_firstGreatest_11 : decode cX4_firstGreatest 11 = .ok (.getfield 9, 3) := by decide +kernel
theorem dX4_firstGreatest_14 : decode cX4_firstGreatest 14 = .ok (.arraylength, 1) := by decide +kernel
theorem dX4_firstGreatest_15 : decode cX4_firstGreatest 15 = .ok (.if_icmp .ge 26, 3) := by decide +kernel
theorem dX4_firstGreatest_18 : decode cX4_firstGreatest 18 = .ok (.aload_n 0, 1) := by decide +kernel
theorem dX4_firstGreatest_19 : decode cX4_firstGreatest 19 = .ok (.getfield 9, 3) := by decide +kernel
theorem dX4_firstGreatest_22 : decode cX4_firstGreatest 22 = .ok (.iload_n 3, 1) := by decide +kernel
theorem dX4_firstGreatest_23 : decode cX4_firstGreatest 23 = .ok (.iaload, 1) := by decide +kernel
theorem dX4_firstGreatest_24 : decode cX4_firstGreatest 24 = .ok (.aload_n 0, 1) := by decide +kernel
theorem dX4_firstGreatest_25 : decode cX4_firstGreatest 25 = .ok (.getfield 9, 3) := by decide +kernel
theorem dX4_firstGreatest_28 : decode cX4_firstGreatest 28 = .ok (.iload_n 2, 1) := by decide +kernel
theorem dX4_firstGreatest_29 : decode cX4_firstGreatest 29 = .ok (.iaload, 1) := by decide +kernel
theorem dX4_firstGreatest_30 : decode cX4_firstGreatest 30 = .ok (.if_icmp .le 5, 3) := by decide +kernel
theorem dX4_firstGreatest_33 : decode cX4_firstGreatest 33 = .ok (.iload_n 3, 1) := by decide +kernel
theorem dX4_firstGreatest_34 : decode cX4_firstGreatest 34 = .ok (.istore_n 2, 1) := by decide +kernel
theorem dX4_firstGreatest_35 : decode cX4_firstGreatest 35 = .ok (.iinc 3 1, 3) := by decide +kernel
theorem dX4_firstGreatest_38 : decode cX4_firstGreatest 38 = .ok (.goto (-34), 3) := by decide +kernel
theorem dX4_firstGreatest_41 : decode cX4_firstGreatest 41 = .ok (.iload_n 2, 1) := by decide +kernel
theorem dX4_firstGreatest_42 : decode cX4_firstGreatest 42 = .ok (.ireturn, 1) := by decide +kernel
theorem dX4_copyFrom_0 : decode cX4_copyFrom 0 = .ok (.aload_n 1, 1) := by decide +kernel
theorem dX4_copyFrom_1 : decode cX4_copyFrom 1 = .ok (.getfield 9, 3) := by decide +kernel
theorem dX4_copyFrom_4 : decode cX4_copyFrom 4 = .ok (.iconst 0, 1) := by decide +kernel
theorem dX4_copyFrom_5 : decode cX4_copyFrom 5 = .ok (.aload_n 0, 1) := by decide +kernel
theorem dX4_copyFrom_6 : decode cX4_copyFrom 6 = .ok (.getfield 9, 3) := by decide +kernel
theorem dX4_copyFrom_9 : decode cX4_copyFrom 9 = .ok (.iconst 0, 1) := by decide +kernel
theorem dX4_copyFrom_10 : decode cX4_copyFrom 10 = .ok (.aload_n 0, 1) := by decide +kernel
theorem dX4_copyFrom_11 : decode cX4_copyFrom 11 = .ok (.getfield 9, 3) := by decide +kernel
theorem dX4_copyFrom_14 : decode cX4_copyFrom 14 = .ok (.arraylength, 1) := by decide +kernel
theorem dX4_copyFrom_15 : decode cX4_copyFrom 15 = .ok (.invokestatic 44, 3) := by decide +kernel
theorem dX4_copyFrom_18 : decode cX4_copyFrom 18 = .ok (.aload_n 0, 1) := by decide +kernel
theorem dX4_copyFrom_19 : decode cX4_copyFrom 19 = .ok (.aload_n 1, 1) := by decide +kernel
theorem dX4_copyFrom_20 : decode cX4_copyFrom 20 = .ok (.getfield 21, 3) := by decide +kernel
theorem dX4_copyFrom_23 : decode cX4_copyFrom 23 = .ok (.putfield 21, 3) := by decide +kernel
theorem dX4_copyFrom_26 : decode cX4_copyFrom 26 = .ok (.aload_n 0, 1) := by decide +kernel
theorem dX4_copyFrom_27 : decode cX4_copyFrom 27 = .ok (.aload_n 1, 1) := by decide +kernel
theorem dX4_copyFrom_28 : decode cX4_copyFrom 28 = .ok (.getfield 25, 3) := by decide +kernel
theorem dX4_copyFrom_31 : decode cX4_copyFrom 31 = .ok (.putfield 25, 3) := by decide +kernel
theorem dX4_copyFrom_34 : decode cX4_copyFrom 34 = .ok (.return_, 1) := by decide +kernel
