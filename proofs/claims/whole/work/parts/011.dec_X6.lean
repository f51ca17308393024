theorem dX6_init_0 : decode cX6_init 0 = .ok (.aload_n 0, 1) := by decide +kernel
theorem dX6_init_1 : decode cX6_init 1 = .ok (.invokespecial 1, 3) := by decide +kernel
theorem dX6_init_4 : decode cX6_init 4 = .ok (.aload_n 0, 1) := by decide +kernel
theorem dX6_init_5 : decode cX6_init 5 = .ok (.sipush 3020, 3) := by decide +kernel
theorem dX6_init_8 : decode cX6_init 8 = .ok (.newarray .int, 2) := by decide +kernel
theorem dX6_init_10 : decode cX6_init 10 = .ok (.putfield 7, 3) := by decide +kernel
theorem dX6_init_13 : decode cX6_init 13 = .ok (.aload_n 0, 1) := by decide +kernel
theorem dX6_init_14 : decode cX6_init 14 = .ok (.sipush 12080, 3) := by decide +kernel
theorem dX6_init_17 : decode cX6_init 17 = .ok (.newarray .int, 2) := by decide +kernel
theorem dX6_init_19 : decode cX6_init 19 = .ok (.putfield 13, 3) := by decide +kernel
theorem dX6_init_22 : decode cX6_init 22 = .ok (.aload_n 0, 1) := by decide +kernel
theorem dX6_init_23 : decode cX6_init 23 = .ok (.iconst 4, 1) := by decide +kernel
theorem dX6_init_24 : decode cX6_init 24 = .ok (.newarray .int, 2) := by decide +kernel
theorem dX6_init_26 : decode cX6_init 26 = .ok (.putfield 16, 3) := by decide +kernel
theorem dX6_init_29 : decode cX6_init 29 = .ok (.aload_n 0, 1) := by decide +kernel
theorem dX6_init_30 : decode cX6_init 30 = .ok (.iconst 4, 1) := by decide +kernel
theorem dX6_init_31 : decode cX6_init 31 = .ok (.newarray .int, 2) := by decide +kernel
theorem dX6_init_33 : decode cX6_init 33 = .ok (.putfield 19, 3) := by decide +kernel
theorem dX6_init_36 : decode cX6_init 36 = .ok (.aload_n 0, 1) := by decide +kernel
theorem dX6_init_37 : decode cX6_init 37 = .ok (.iconst (-1), 1) := by decide +kernel
theorem dX6_init_38 : decode cX6_init 38 = .ok (.putfield 22, 3) := by decide +kernel
theorem dX6_init_41 : decode cX6_init 41 = .ok (.aload_n 0, 1) := by decide +kernel
theorem dX6_init_42 : decode cX6_init 42 = .ok (.sipush 2000, 3) := by decide +kernel
theorem dX6_init_45 : decode cX6_init 45 = .ok (.newarray .int, 2) := by decide +kernel
theorem dX6_init_47 : decode cX6_init 47 = .ok (.putfield 26, 3) := by decide +kernel
theorem dX6_init_50 : decode cX6_init 50 = .ok (.iconst 0, 1) := by decide +kernel
theorem dX6_init_51 : decode cX6_init 51 = .ok (.istore_n 1, 1) := by decide +kernel
theorem dX6_init_52 : decode cX6_init 52 = .ok (.iload_n 1, 1) := by decide +kernel
theorem dX6_init_53 : decode cX6_init 53 = .ok (.iconst 2, 1) := by decide +kernel
theorem dX6_init_54 : decode cX6_init 54 = .ok (.if_icmp .ge 36, 3) := by decide +kernel
theorem dX6_init_57 : decode cX6_init 57 = .ok (.aload_n 0, 1) := by decide +kernel
theorem dX6_init_58 : decode cX6_init 58 = .ok (.getfield 7, 3) := by decide +kernel
theorem dX6_init_61 : decode cX6_init 61 = .ok (.sipush 1510, 3) := by decide +kernel
theorem dX6_init_64 : decode cX6_init 64 = .ok (.iload_n 1, 1) := by decide +kernel
theorem dX6_init_65 : decode cX6_init 65 = .ok (.imul, 1) := by decide +kernel
theorem dX6_init_66 : decode cX6_init 66 = .ok (.iconst 0, 1) := by decide +kernel
theorem dX6_init_67 : decode cX6_init 67 = .ok (.iadd, 1) := by decide +kernel
theorem dX6_init_68 : decode cX6_init 68 = .ok (.iconst 1, 1) := by decide +kernel
theorem dX6_init_69 : decode cX6_init 69 = .ok (.iastore, 1) := by decide +kernel
theorem dX6_init_70 : decode cX6_init 70 = .ok (.aload_n 0, 1) := by decide +kernel
theorem dX6_init_71 : decode cX6_init 71 = .ok (.getfield 7, 3) := by decide +kernel
theorem dX6_init_74 : decode cX6_init 74 = .ok (.sipush 1510, 3) := by decide +kernel
theorem dX6_init_77 : decode cX6_init 77 = .ok (.iload_n 1, 1) := by decide +kernel
theorem dX6_init_78 : decode cX6_init 78 = .ok (.imul, 1) := by decide +kernel
theorem dX6_init_79 : decode cX6_init 79 = .ok (.iconst 1, 1) := by decide +kernel
theorem dX6_init_80 : decode cX6_init 80 = .ok (.iadd, 1) := by decide +kernel
theorem dX6_init_81 : decode cX6_init 81 = .ok (.bipush 16, 2) := by decide +kernel
theorem dX6_init_83 : decode cX6_init 83 = .ok (.iastore, 1) := by decide +kernel
theorem dX6_init_84 : decode cX6_init 84 = .ok (.iinc 1 1, 3) := by decide +kernel
theorem dX6_init_87 : decode cX6_init 87 = .ok (.goto (-35), 3) := by decide +kernel
theorem dX6_init_90 : decode cX6_init 90 = .ok (.return_, 1) := by decide +kernel
theorem dX6_isReader_0 : decode cX6_isReader 0 = .ok (.iload_n 0, 1) := by decide +kernel
theorem dX6_isReader_1 : decode cX6_isReader 1 = .ok (.ifCond .eq 8, 3) := by decide +kernel
theorem dX6_isReader_4 : decode cX6_isReader 4 = .ok (.iload_n 0, 1) := by decide +kernel
theorem dX6_isReader_5 : decode cX6_isReader 5 = .ok (.iconst 1, 1) := by decide +kernel
theorem dX6_isReader_6 : decode cX6_isReader 6 = .ok (.if_icmp .ne 7, 3) := by decide +kernel
theorem dX6_isReader_9 : decode cX6_isReader 9 = .ok (.iconst 1, 1) := by decide +kernel
theorem dX6_isReader_10 : decode cX6_isReader 10 = .ok (.goto 4, 3) := by decide +kernel
theorem dX6_isReader_13 : decode cX6_isReader 13 = .ok (.iconst 0, 1) := by decide +kernel
theorem dX6_isReader_14 : decode cX6_isReader 14 = .ok (.ireturn, 1) := by decide +kernel
theorem dX6_anew_0 : decode cX6_anew 0 = .ok (.iconst 0, 1) := by decide +kernel
theorem dX6_anew_1 : decode cX6_anew 1 = .ok (.istore 4, 2) := by decide +kernel
theorem dX6_anew_3 : decode cX6_anew 3 = .ok (.iload 4, 2) := by decide +kernel
theorem dX6_anew_5 : decode cX6_anew 5 = .ok (.sipush 1510, 3) := by decide +kernel
theorem dX6_anew_8 : decode cX6_anew 8 = .ok (.if_icmp .ge 23, 3) := by decide +kernel
theorem dX6_anew_11 : decode cX6_anew 11 = .ok (.aload_n 0, 1) := by decide +kernel
theorem dX6_anew_12 : decode cX6_anew 12 = .ok (.getfield 7, 3) := by decide +kernel
theorem dX6_anew_15 : decode cX6_anew 15 = .ok (.sipush 1510, 3) := by decide +kernel
theorem dX6_anew_18 : decode cX6_anew 18 = .ok (.iload_n 1, 1) := by decide +kernel
theorem dX6_anew_19 : decode cX6_anew 19 = .ok (.imul, 1) := by decide +kernel
theorem dX6_anew_20 : decode cX6_anew 20 = .ok (.iload 4, 2) := by decide +kernel
theorem dX6_anew_22 : decode cX6_anew 22 = .ok (.iadd, 1) := by decide +kernel
theorem dX6_anew_23 : decode cX6_anew 23 = .ok (.iconst 0, 1) := by decide +kernel
theorem dX6_anew_24 : decode cX6_anew 24 = .ok (.iastore, 1) := by decide +kernel
theorem dX6_anew_25 : decode cX6_anew 25 = .ok (.iinc 4 1, 3) := by decide +kernel
theorem dX6_anew_28 : decode cX6_anew 28 = .ok (.goto (-25), 3) := by decide +kernel
theorem dX6_anew_31 : decode cX6_anew 31 = .ok (.aload_n 0, 1) := by decide +kernel
theorem dX6_anew_32 : decode cX6_anew 32 = .ok (.getfield 7, 3) := by decide +kernel
theorem dX6_anew_35 : decode cX6_anew 35 = .ok (.sipush 1510, 3) := by decide +kernel
theorem dX6_anew_38 : decode cX6_anew 38 = .ok (.iload_n 1, 1) := by decide +kernel
theorem dX6_anew_39 : decode cX6_anew 39 = .ok (.imul, 1) := by decide +kernel
theorem dX6_anew_40 : decode cX6_anew 40 = .ok (.iconst 0, 1) := by decide +kernel
theorem dX6_anew_41 : decode cX6_anew 41 = .ok (.iadd, 1) := by decide +kernel
theorem dX6_anew_42 : decode cX6_anew 42 = .ok (.iload_n 2, 1) := by decide +kernel
theorem dX6_anew_43 : decode cX6_anew 43 = .ok (.iastore, 1) := by decide +kernel
theorem dX6_anew_44 : decode cX6_anew 44 = .ok (.aload_n 0, 1) := by decide +kernel
theorem dX6_anew_45 : decode cX6_anew 45 = .ok (.getfield 7, 3) := by decide +kernel
theorem dX6_anew_48 : decode cX6_anew 48 = .ok (.sipush 1510, 3) := by decide +kernel
theorem dX6_anew_51 : decode cX6_anew 51 = .ok (.iload_n 1, 1) := by decide +kernel
theorem dX6_anew_52 : decode cX6_anew 52 = .ok (.imul, 1) := by decide +kernel
theorem dX6_anew_53 : decode cX6_anew 53 = .ok (.iconst 1, 1) := by decide +kernel
theorem dX6_anew_54 : decode cX6_anew 54 = .ok (.iadd, 1) := by decide +kernel
theorem dX6_anew_55 : decode cX6_anew 55 = .ok (.iload_n 3, 1) := by decide +kernel
theorem dX6_anew_56 : decode cX6_anew 56 = .ok (.iastore, 1) := by decide +kernel
theorem dX6_anew_57 : decode cX6_anew 57 = .ok (.return_, 1) := by decide +kernel
set_option maxRecDepth 20000 in
theorem ggX6_hold_X6_isReader : GoodIn wsX6_hold wsX6_isReader := goodIn_r _ [5] (by decide +kernel) (by decide +kernel)
set_option maxRecDepth 20000 in
theorem gX6_hold_X6_isReader : GoodIn wsX6_hold (va_wsS RX6 29 yX6_isReader wsX6_isReader) := goodIn_app (goodIn_of _ (by decide +kernel)) ggX6_hold_X6_isReader
set_option maxRecDepth 20000 in
theorem ggX6_hold_X6_anew : GoodIn wsX6_hold wsX6_anew := goodIn_r _ [9, 1, 10, 11, 12, 13, 14, 15, 16, 17, 18] (by decide +kernel) (by decide +kernel)
set_option maxRecDepth 20000 in
theorem gX6_hold_X6_anew : GoodIn wsX6_hold (wsV RX6 33 RX6 yX6_anew wsX6_anew) := goodIn_app (goodIn_of _ (by decide +kernel)) ggX6_hold_X6_anew
theorem dX6_hold_0 : decode cX6_hold 0 = .ok (.iload_n 1, 1) := by decide +kernel
theorem dX6_hold_1 : decode cX6_hold 1 = .ok (.invokestatic 29, 3) := by decide +kernel
theorem dX6_hold_4 : decode cX6_hold 4 = .ok (.ifCond .eq 14, 3) := by decide +kernel
theorem dX6_hold_7 : decode cX6_hold 7 = .ok (.iload_n 2, 1) := by decide +kernel
theorem dX6_hold_8 : decode cX6_hold 8 = .ok (.iconst 1, 1) := by decide +kernel
theorem dX6_hold_9 : decode cX6_hold 9 = .ok (.if_icmp .lt 9, 3) := by decide +kernel
theorem dX6_hold_12 : decode cX6_hold 12 = .ok (.iload_n 2, 1) := by decide +kernel
theorem dX6_hold_13 : decode cX6_hold 13 = .ok (.bipush 16, 2) := by decide +kernel
theorem dX6_hold_15 : decode cX6_hold 15 = .ok (.if_icmp .le 5, 3) := by decide +kernel
theorem dX6_hold_18 : decode cX6_hold 18 = .ok (.iconst 0, 1) := by decide +kernel
theorem dX6_hold_19 : decode cX6_hold 19 = .ok (.ireturn, 1) := by decide +kernel
theorem dX6_hold_20 : decode cX6_hold 20 = .ok (.aload_n 0, 1) := by decide +kernel
theorem dX6_hold_21 : decode cX6_hold 21 = .ok (.iload_n 1, 1) := by decide +kernel
theorem dX6_hold_22 : decode cX6_hold 22 = .ok (.iload_n 2, 1) := by decide +kernel
theorem dX6_hold_23 : decode cX6_hold 23 = .ok (.aload_n 0, 1) := by decide +kernel
theorem dX6_hold_24 : decode cX6_hold 24 = .ok (.getfield 7, 3) := by decide +kernel
theorem dX6_hold_27 : decode cX6_hold 27 = .ok (.sipush 1510, 3) := by decide +kernel
theorem dX6_hold_30 : decode cX6_hold 30 = .ok (.iload_n 1, 1) := by decide +kernel
theorem dX6_hold_31 : decode cX6_hold 31 = .ok (.imul, 1) := by decide +kernel
theorem dX6_hold_32 : decode cX6_hold 32 = .ok (.iconst 1, 1) := by decide +kernel
theorem dX6_hold_33 : decode cX6_hold 33 = .ok (.iadd, 1) := by decide +kernel
theorem dX6_hold_34 : decode cX6_hold 34 = .ok (.iaload, 1) := by decide +kernel
theorem dX6_hold_35 : decode cX6_hold 35 = .ok (.invokevirtual 33, 3) := by decide +kernel
theorem dX6_hold_38 : decode cX6_hold 38 = .ok (.iconst 1, 1) := by decide +kernel
theorem dX6_hold_39 : decode cX6_hold 39 = .ok (.ireturn, 1) := by decide +kernel
set_option maxRecDepth 20000 in
theorem ggX6_turn_X6_isReader : GoodIn wsX6_turn wsX6_isReader := goodIn_r _ [5] (by decide +kernel) (by decide +kernel)
set_option maxRecDepth 20000 in
theorem gX6_turn_X6_isReader : GoodIn wsX6_turn (va_wsS RX6 29 yX6_isReader wsX6_isReader) := goodIn_app (goodIn_of _ (by decide +kernel)) ggX6_turn_X6_isReader
set_option maxRecDepth 20000 in
theorem ggX6_turn_X6_anew : GoodIn wsX6_turn wsX6_anew := goodIn_r _ [9, 1, 10, 11, 12, 13, 14, 15, 16, 17, 18] (by decide +kernel) (by decide +kernel)
set_option maxRecDepth 20000 in
theorem gX6_turn_X6_anew : GoodIn wsX6_turn (wsV RX6 33 RX6 yX6_anew wsX6_anew) := goodIn_app (goodIn_of _ (by decide +kernel)) ggX6_turn_X6_anew
theorem dX6_turn_0 : decode cX6_turn 0 = .ok (.iload_n 1, 1) := by decide +kernel
theorem dX6_turn_1 : decode cX6_turn 1 = .ok (.invokestatic 29, 3) := by decide +kernel
theorem dX6_turn_4 : decode cX6_turn 4 = .ok (.ifCond .eq 14, 3) := by decide +kernel
theorem dX6_turn_7 : decode cX6_turn 7 = .ok (.iload_n 2, 1) := by decide +kernel
theorem dX6_turn_8 : decode cX6_turn 8 = .ok (.iconst 4, 1) := by decide +kernel
theorem dX6_turn_9 : decode cX6_turn 9 = .ok (.if_icmp .lt 9, 3) := by decide +kernel
theorem dX6_turn_12 : decode cX6_turn 12 = .ok (.iload_n 2, 1) := by decide +kernel
theorem dX6_turn_13 : decode cX6_turn 13 = .ok (.bipush 64, 2) := by decide +kernel
theorem dX6_turn_15 : decode cX6_turn 15 = .ok (.if_icmp .le 5, 3) := by decide +kernel
theorem dX6_turn_18 : decode cX6_turn 18 = .ok (.iconst 0, 1) := by decide +kernel
theorem dX6_turn_19 : decode cX6_turn 19 = .ok (.ireturn, 1) := by decide +kernel
theorem dX6_turn_20 : decode cX6_turn 20 = .ok (.aload_n 0, 1) := by decide +kernel
theorem dX6_turn_21 : decode cX6_turn 21 = .ok (.iload_n 1, 1) := by decide +kernel
theorem dX6_turn_22 : decode cX6_turn 22 = .ok (.aload_n 0, 1) := by decide +kernel
theorem dX6_turn_23 : decode cX6_turn 23 = .ok (.getfield 7, 3) := by decide +kernel
theorem dX6_turn_26 : decode cX6_turn 26 = .ok (.sipush 1510, 3) := by decide +kernel
theorem dX6_turn_29 : decode cX6_turn 29 = .ok (.iload_n 1, 1) := by decide +kernel
theorem dX6_turn_30 : decode cX6_turn 30 = .ok (.imul, 1) := by decide +kernel
theorem dX6_turn_31 : decode cX6_turn 31 = .ok (.iconst 0, 1) := by decide +kernel
theorem dX6_turn_32 : decode cX6_turn 32 = .ok (.iadd, 1) := by decide +kernel
theorem dX6_turn_33 : decode cX6_turn 33 = .ok (.iaload, 1) := by decide +kernel
theorem dX6_turn_34 : decode cX6_turn 34 = .ok (.iload_n 2, 1) := by decide +kernel
theorem dX6_turn_35 : decode cX6_turn 35 = .ok (.invokevirtual 33, 3) := by decide +kernel
theorem dX6_turn_38 : decode cX6_turn 38 = .ok (.iconst 1, 1) := by decide +kernel
theorem dX6_turn_39 : decode cX6_turn 39 = .ok (.ireturn, 1) := by decide +kernel
theorem dX6_phaseOf_0 : decode cX6_phaseOf 0 = .ok (.iload_n 0, 1) := by decide +kernel
theorem dX6_phaseOf_1 : decode cX6_phaseOf 1 = .ok (.iconst 3, 1) := by decide +kernel
theorem dX6_phaseOf_2 : decode cX6_phaseOf 2 = .ok (.iand, 1) := by decide +kernel
theorem dX6_phaseOf_3 : decode cX6_phaseOf 3 = .ok (.ifCond .ne 7, 3) := by decide +kernel
theorem dX6_phaseOf_6 : decode cX6_phaseOf 6 = .ok (.iconst 0, 1) := by decide +kernel
theorem dX6_phaseOf_7 : decode cX6_phaseOf 7 = .ok (.goto 26, 3) := by decide +kernel
theorem dX6_phaseOf_10 : decode cX6_phaseOf 10 = .ok (.iload_n 0, 1) := by decide +kernel
theorem dX6_phaseOf_11 : decode cX6_phaseOf 11 = .ok (.iconst 3, 1) := by decide +kernel
theorem dX6_phaseOf_12 : decode cX6_phaseOf 12 = .ok (.iand, 1) := by decide +kernel
theorem dX6_phaseOf_13 : decode cX6_phaseOf 13 = .ok (.iconst 1, 1) := by decide +kernel
theorem dX6_phaseOf_14 : decode cX6_phaseOf 14 = .ok (.if_icmp .ne 7, 3) := by decide +kernel
theorem dX6_phaseOf_17 : decode cX6_phaseOf 17 = .ok (.iconst 1, 1) := by decide +kernel
theorem dX6_phaseOf_18 : decode cX6_phaseOf 18 = .ok (.goto 15, 3) := by decide +kernel
theorem dX6_phaseOf_21 : decode cX6_phaseOf 21 = .ok (.iload_n 0, 1) := by decide +kernel
theorem dX6_phaseOf_22 : decode cX6_phaseOf 22 = .ok (.iconst 3, 1) := by decide +kernel
theorem dX6_phaseOf_23 : decode cX6_phaseOf 23 = .ok (.iand, 1) := by decide +kernel
theorem dX6_phaseOf_24 : decode cX6_phaseOf 24 = .ok (.iconst 3, 1) := by decide +kernel
theorem dX6_phaseOf_25 : decode cX6_phaseOf 25 = .ok (.if_icmp .ne 7, 3) := by decide +kernel
theorem dX6_phaseOf_28 : decode cX6_phaseOf 28 = .ok (.iconst 2, 1) := by decide +kernel
theorem dX6_phaseOf_29 : decode cX6_phaseOf 29 = .ok (.goto 4, 3) := by decide +kernel
theorem dX6_phaseOf_32 : decode cX6_phaseOf 32 = .ok (.iconst 3, 1) := by decide +kernel
theorem dX6_phaseOf_33 : decode cX6_phaseOf 33 = .ok (.ireturn, 1) := by decide +kernel
theorem dX6_down_0 : decode cX6_down 0 = .ok (.iload_n 0, 1) := by decide +kernel
theorem dX6_down_1 : decode cX6_down 1 = .ok (.iload_n 1, 1) := by decide +kernel
theorem dX6_down_2 : decode cX6_down 2 = .ok (.idiv, 1) := by decide +kernel
theorem dX6_down_3 : decode cX6_down 3 = .ok (.istore_n 2, 1) := by decide +kernel
theorem dX6_down_4 : decode cX6_down 4 = .ok (.iload_n 0, 1) := by decide +kernel
theorem dX6_down_5 : decode cX6_down 5 = .ok (.ifCond .ge 16, 3) := by decide +kernel
theorem dX6_down_8 : decode cX6_down 8 = .ok (.iload_n 2, 1) := by decide +kernel
theorem dX6_down_9 : decode cX6_down 9 = .ok (.iload_n 1, 1) := by decide +kernel
theorem dX6_down_10 : decode cX6_down 10 = .ok (.imul, 1) := by decide +kernel
theorem dX6_down_11 : decode cX6_down 11 = .ok (.iload_n 0, 1) := by decide +kernel
theorem dX6_down_12 : decode cX6_down 12 = .ok (.if_icmp .eq 9, 3) := by decide +kernel
theorem dX6_down_15 : decode cX6_down 15 = .ok (.iload_n 2, 1) := by decide +kernel
theorem dX6_down_16 : decode cX6_down 16 = .ok (.iconst 1, 1) := by decide +kernel
theorem dX6_down_17 : decode cX6_down 17 = .ok (.isub, 1) := by decide +kernel
theorem dX6_down_18 : decode cX6_down 18 = .ok (.goto 4, 3) := by decide +kernel
theorem dX6_down_21 : decode cX6_down 21 = .ok (.iload_n 2, 1) := by decide +kernel
theorem dX6_down_22 : decode cX6_down 22 = .ok (.ireturn, 1) := by decide +kernel
theorem dX6_event_0 : decode cX6_event 0 = .ok (.aload_n 0, 1) := by decide +kernel
theorem dX6_event_1 : decode cX6_event 1 = .ok (.getfield 7, 3) := by decide +kernel
theorem dX6_event_4 : decode cX6_event 4 = .ok (.iload_n 1, 1) := by decide +kernel
theorem dX6_event_5 : decode cX6_event 5 = .ok (.bipush 9, 2) := by decide +kernel
theorem dX6_event_7 : decode cX6_event 7 = .ok (.iadd, 1) := by decide +kernel
theorem dX6_event_8 : decode cX6_event 8 = .ok (.iaload, 1) := by decide +kernel
theorem dX6_event_9 : decode cX6_event 9 = .ok (.sipush 300, 3) := by decide +kernel
theorem dX6_event_12 : decode cX6_event 12 = .ok (.irem, 1) := by decide +kernel
theorem dX6_event_13 : decode cX6_event 13 = .ok (.istore_n 3, 1) := by decide +kernel
theorem dX6_event_14 : decode cX6_event 14 = .ok (.aload_n 0, 1) := by decide +kernel
theorem dX6_event_15 : decode cX6_event 15 = .ok (.getfield 7, 3) := by decide +kernel
theorem dX6_event_18 : decode cX6_event 18 = .ok (.iload_n 1, 1) := by decide +kernel
theorem dX6_event_19 : decode cX6_event 19 = .ok (.bipush 6, 2) := by decide +kernel
theorem dX6_event_21 : decode cX6_event 21 = .ok (.iadd, 1) := by decide +kernel
theorem dX6_event_22 : decode cX6_event 22 = .ok (.dup2, 1) := by decide +kernel
theorem dX6_event_23 : decode cX6_event 23 = .ok (.iaload, 1) := by decide +kernel
theorem dX6_event_24 : decode cX6_event 24 = .ok (.iload_n 2, 1) := by decide +kernel
theorem dX6_event_25 : decode cX6_event 25 = .ok (.iadd, 1) := by decide +kernel
theorem dX6_event_26 : decode cX6_event 26 = .ok (.iastore, 1) := by decide +kernel
theorem dX6_event_27 : decode cX6_event 27 = .ok (.aload_n 0, 1) := by decide +kernel
theorem dX6_event_28 : decode cX6_event 28 = .ok (.getfield 7, 3) := by decide +kernel
theorem dX6_event_31 : decode cX6_event 31 = .ok (.iload_n 1, 1) := by decide +kernel
theorem dX6_event_32 : decode cX6_event 32 = .ok (.bipush 7, 2) := by decide +kernel
theorem dX6_event_34 : decode cX6_event 34 = .ok (.iadd, 1) := by decide +kernel
theorem dX6_event_35 : decode cX6_event 35 = .ok (.dup2, 1) := by decide +kernel
theorem dX6_event_36 : decode cX6_event 36 = .ok (.iaload, 1) := by decide +kernel
theorem dX6_event_37 : decode cX6_event 37 = .ok (.iload_n 2, 1) := by decide +kernel
theorem dX6_event_38 : decode cX6_event 38 = .ok (.ifCond .ne 8, 3) := by decide +kernel
theorem dX6_event_41 : decode cX6_event 41 = .ok (.bipush (-2), 2) := by decide +kernel
theorem dX6_event_43 : decode cX6_event 43 = .ok (.goto 4, 3) := by decide +kernel
theorem dX6_event_46 : decode cX6_event 46 = .ok (.iload_n 2, 1) := by decide +kernel
theorem dX6_event_47 : decode cX6_event 47 = .ok (.iadd, 1) := by decide +kernel
theorem dX6_event_48 : decode cX6_event 48 = .ok (.iastore, 1) := by decide +kernel
theorem dX6_event_49 : decode cX6_event 49 = .ok (.aload_n 0, 1) := by decide +kernel
theorem dX6_event_50 : decode cX6_event 50 = .ok (.getfield 7, 3) := by decide +kernel
theorem dX6_event_53 : decode cX6_event 53 = .ok (.iload_n 1, 1) := by decide +kernel
theorem dX6_event_54 : decode cX6_event 54 = .ok (.bipush 8, 2) := by decide +kernel
theorem dX6_event_56 : decode cX6_event 56 = .ok (.iadd, 1) := by decide +kernel
theorem dX6_event_57 : decode cX6_event 57 = .ok (.dup2, 1) := by decide +kernel
theorem dX6_event_58 : decode cX6_event 58 = .ok (.iaload, 1) := by decide +kernel
theorem dX6_event_59 : decode cX6_event 59 = .ok (.iload_n 2, 1) := by decide +kernel
theorem dX6_event_60 : decode cX6_event 60 = .ok (.ifCond .ne 7, 3) := by decide +kernel
theorem dX6_event_63 : decode cX6_event 63 = .ok (.iconst 2, 1) := by decide +kernel
theorem dX6_event_64 : decode cX6_event 64 = .ok (.goto 4, 3) := by decide +kernel
theorem dX6_event_67 : decode cX6_event 67 = .ok (.iload_n 2, 1) := by decide +kernel
theorem dX6_event_68 : decode cX6_event 68 = .ok (.iadd, 1) := by decide +kernel
theorem dX6_event_69 : decode cX6_event 69 = .ok (.iastore, 1) := by decide +kernel
theorem dX6_event_70 : decode cX6_event 70 = .ok (.iload_n 2, 1) := by decide +kernel
theorem dX6_event_71 : decode cX6_event 71 = .ok (.ifCond .ne 16, 3) := by decide +kernel
theorem dX6_event_74 : decode cX6_event 74 = .ok (.aload_n 0, 1) := by decide +kernel
theorem dX6_event_75 : decode cX6_event 75 = .ok (.getfield 7, 3) := by decide +kernel
theorem dX6_event_78 : decode cX6_event 78 = .ok (.iload_n 1, 1) := by decide +kernel
theorem dX6_event_79 : decode cX6_event 79 = .ok (.bipush 10, 2) := by decide +kernel
theorem dX6_event_81 : decode cX6_event 81 = .ok (.iadd, 1) := by decide +kernel
theorem dX6_event_82 : decode cX6_event 82 = .ok (.dup2, 1) := by decide +kernel
theorem dX6_event_83 : decode cX6_event 83 = .ok (.iaload, 1) := by decide +kernel
theorem dX6_event_84 : decode cX6_event 84 = .ok (.iconst 1, 1) := by decide +kernel
theorem dX6_event_85 : decode cX6_event 85 = .ok (.iadd, 1) := by decide +kernel
theorem dX6_event_86 : decode cX6_event 86 = .ok (.iastore, 1) := by decide +kernel
theorem dX6_event_87 : decode cX6_event 87 = .ok (.aload_n 0, 1) := by decide +kernel
theorem dX6_event_88 : decode cX6_event 88 = .ok (.getfield 7, 3) := by decide +kernel
theorem dX6_event_91 : decode cX6_event 91 = .ok (.iload_n 1, 1) := by decide +kernel
theorem dX6_event_92 : decode cX6_event 92 = .ok (.bipush 20, 2) := by decide +kernel
theorem dX6_event_94 : decode cX6_event 94 = .ok (.iadd, 1) := by decide +kernel
theorem dX6_event_95 : decode cX6_event 95 = .ok (.iload_n 3, 1) := by decide +kernel
theorem dX6_event_96 : decode cX6_event 96 = .ok (.iadd, 1) := by decide +kernel
theorem dX6_event_97 : decode cX6_event 97 = .ok (.iload_n 2, 1) := by decide +kernel
theorem dX6_event_98 : decode cX6_event 98 = .ok (.iastore, 1) := by decide +kernel
theorem dX6_event_99 : decode cX6_event 99 = .ok (.aload_n 0, 1) := by decide +kernel
theorem dX6_event_100 : decode cX6_event 100 = .ok (.getfield 7, 3) := by decide +kernel
theorem dX6_event_103 : decode cX6_event 103 = .ok (.iload_n 1, 1) := by decide +kernel
theorem dX6_event_104 : decode cX6_event 104 = .ok (.sipush 320, 3) := by decide +kernel
theorem dX6_event_107 : decode cX6_event 107 = .ok (.iadd, 1) := by decide +kernel
theorem dX6_event_108 : decode cX6_event 108 = .ok (.iload_n 3, 1) := by decide +kernel
theorem dX6_event_109 : decode cX6_event 109 = .ok (.iadd, 1) := by decide +kernel
theorem dX6_event_110 : decode cX6_event 110 = .ok (.aload_n 0, 1) := by decide +kernel
theorem dX6_event_111 : decode cX6_event 111 = .ok (.getfield 37, 3) := by decide +kernel
theorem dX6_event_114 : decode cX6_event 114 = .ok (.iastore, 1) := by decide +kernel
theorem dX6_event_115 : decode cX6_event 115 = .ok (.aload_n 0, 1) := by decide +kernel
theorem dX6_event_116 : decode cX6_event 116 = .ok (.getfield 7, 3) := by decide +kernel
theorem dX6_event_119 : decode cX6_event 119 = .ok (.iload_n 1, 1) := by decide +kernel
theorem dX6_event_120 : decode cX6_event 120 = .ok (.sipush 620, 3) := by decide +kernel
theorem dX6_event_123 : decode cX6_event 123 = .ok (.iadd, 1) := by decide +kernel
theorem dX6_event_124 : decode cX6_event 124 = .ok (.iload_n 3, 1) := by decide +kernel
theorem dX6_event_125 : decode cX6_event 125 = .ok (.iadd, 1) := by decide +kernel
theorem dX6_event_126 : decode cX6_event 126 = .ok (.aload_n 0, 1) := by decide +kernel
theorem dX6_event_127 : decode cX6_event 127 = .ok (.getfield 7, 3) := by decide +kernel
theorem dX6_event_130 : decode cX6_event 130 = .ok (.iload_n 1, 1) := by decide +kernel
theorem dX6_event_131 : decode cX6_event 131 = .ok (.bipush 6, 2) := by decide +kernel
theorem dX6_event_133 : decode cX6_event 133 = .ok (.iadd, 1) := by decide +kernel
theorem dX6_event_134 : decode cX6_event 134 = .ok (.iaload, 1) := by decide +kernel
theorem dX6_event_135 : decode cX6_event 135 = .ok (.iastore, 1) := by decide +kernel
theorem dX6_event_136 : decode cX6_event 136 = .ok (.aload_n 0, 1) := by decide +kernel
theorem dX6_event_137 : decode cX6_event 137 = .ok (.getfield 7, 3) := by decide +kernel
theorem dX6_event_140 : decode cX6_event 140 = .ok (.iload_n 1, 1) := by decide +kernel
theorem dX6_event_141 : decode cX6_event 141 = .ok (.bipush 9, 2) := by decide +kernel
theorem dX6_event_143 : decode cX6_event 143 = .ok (.iadd, 1) := by decide +kernel
theorem dX6_event_144 : decode cX6_event 144 = .ok (.dup2, 1) := by decide +kernel
theorem dX6_event_145 : decode cX6_event 145 = .ok (.iaload, 1) := by decide +kernel
theorem dX6_event_146 : decode cX6_event 146 = .ok (.iconst 1, 1) := by decide +kernel
theorem dX6_event_147 : decode cX6_event 147 = .ok (.iadd, 1) := by decide +kernel
theorem dX6_event_148 : decode cX6_event 148 = .ok (.iastore, 1) := by decide +kernel
theorem dX6_event_149 : decode cX6_event 149 = .ok (.return_, 1) := by decide +kernel
theorem dX6_latest_0 : decode cX6_latest 0 = .ok (.aload_n 0, 1) := by decide +kernel
theorem dX6_latest_1 : decode cX6_latest 1 = .ok (.getfield 7, 3) := by decide +kernel
theorem dX6_latest_4 : decode cX6_latest 4 = .ok (.iload_n 1, 1) := by decide +kernel
theorem dX6_latest_5 : decode cX6_latest 5 = .ok (.bipush 9, 2) := by decide +kernel
theorem dX6_latest_7 : decode cX6_latest 7 = .ok (.iadd, 1) := by decide +kernel
theorem dX6_latest_8 : decode cX6_latest 8 = .ok (.iaload, 1) := by decide +kernel
theorem dX6_latest_9 : decode cX6_latest 9 = .ok (.istore_n 3, 1) := by decide +kernel
theorem dX6_latest_10 : decode cX6_latest 10 = .ok (.iload_n 2, 1) := by decide +kernel
theorem dX6_latest_11 : decode cX6_latest 11 = .ok (.ifCond .lt 15, 3) := by decide +kernel
theorem dX6_latest_14 : decode cX6_latest 14 = .ok (.iload_n 2, 1) := by decide +kernel
theorem dX6_latest_15 : decode cX6_latest 15 = .ok (.sipush 300, 3) := by decide +kernel
theorem dX6_latest_18 : decode cX6_latest 18 = .ok (.if_icmp .ge 8, 3) := by decide +kernel
theorem dX6_latest_21 : decode cX6_latest 21 = .ok (.iload_n 2, 1) := by decide +kernel
theorem dX6_latest_22 : decode cX6_latest 22 = .ok (.iload_n 3, 1) := by decide +kernel
theorem dX6_latest_23 : decode cX6_latest 23 = .ok (.if_icmp .lt 7, 3) := by decide +kernel
theorem dX6_latest_26 : decode cX6_latest 26 = .ok (.iconst (-1), 1) := by decide +kernel
theorem dX6_latest_27 : decode cX6_latest 27 = .ok (.goto 12, 3) := by decide +kernel
theorem dX6_latest_30 : decode cX6_latest 30 = .ok (.iload_n 3, 1) := by decide +kernel
theorem dX6_latest_31 : decode cX6_latest 31 = .ok (.iconst 1, 1) := by decide +kernel
theorem dX6_latest_32 : decode cX6_latest 32 = .ok (.isub, 1) := by decide +kernel
theorem dX6_latest_33 : decode cX6_latest 33 = .ok (.iload_n 2, 1) := by decide +kernel
theorem dX6_latest_34 : decode cX6_latest 34 = .ok (.isub, 1) := by decide +kernel
theorem dX6_latest_35 : decode cX6_latest 35 = .ok (.sipush 300, 3) := by decide +kernel
theorem dX6_latest_38 : decode cX6_latest 38 = .ok (.irem, 1) := by decide +kernel
theorem dX6_latest_39 : decode cX6_latest 39 = .ok (.ireturn, 1) := by decide +kernel
set_option maxRecDepth 20000 in
theorem ggX6_zero_X6_down : GoodIn wsX6_zero wsX6_down := goodIn_r _ [6] (by decide +kernel) (by decide +kernel)
set_option maxRecDepth 20000 in
theorem gX6_zero_X6_down : GoodIn wsX6_zero (va_wsS RX6 40 yX6_down wsX6_down) := goodIn_app (goodIn_of _ (by decide +kernel)) ggX6_zero_X6_down
set_option maxRecDepth 20000 in
theorem ggX6_zero_X6_teeth : GoodIn wsX6_zero wsX6_teeth := goodIn_r _ [10, 1, 11, 12, 13, 5, 14, 15, 16, 17, 18, 19, 20, 21, 22, 23] (by decide +kernel) (by decide +kernel)
set_option maxRecDepth 20000 in
theorem gX6_zero_X6_teeth : GoodIn wsX6_zero (wsV RX6 44 RX6 yX6_teeth wsX6_teeth) := goodIn_app (goodIn_of _ (by decide +kernel)) ggX6_zero_X6_teeth
theorem dX6_zero_0 : decode cX6_zero 0 = .ok (.aload_n 0, 1) := by decide +kernel
theorem dX6_zero_1 : decode cX6_zero 1 = .ok (.getfield 7, 3) := by decide +kernel
theorem dX6_zero_4 : decode cX6_zero 4 = .ok (.iload_n 1, 1) := by decide +kernel
theorem dX6_zero_5 : decode cX6_zero 5 = .ok (.bipush 12, 2) := by decide +kernel
theorem dX6_zero_7 : decode cX6_zero 7 = .ok (.iadd, 1) := by decide +kernel
theorem dX6_zero_8 : decode cX6_zero 8 = .ok (.dup2, 1) := by decide +kernel
theorem dX6_zero_9 : decode cX6_zero 9 = .ok (.iaload, 1) := by decide +kernel
theorem dX6_zero_10 : decode cX6_zero 10 = .ok (.iconst 1, 1) := by decide +kernel
theorem dX6_zero_11 : decode cX6_zero 11 = .ok (.iadd, 1) := by decide +kernel
theorem dX6_zero_12 : decode cX6_zero 12 = .ok (.iastore, 1) := by decide +kernel
theorem dX6_zero_13 : decode cX6_zero 13 = .ok (.aload_n 0, 1) := by decide +kernel
theorem dX6_zero_14 : decode cX6_zero 14 = .ok (.getfield 7, 3) := by decide +kernel
theorem dX6_zero_17 : decode cX6_zero 17 = .ok (.iload_n 1, 1) := by decide +kernel
theorem dX6_zero_18 : decode cX6_zero 18 = .ok (.bipush 13, 2) := by decide +kernel
theorem dX6_zero_20 : decode cX6_zero 20 = .ok (.iadd, 1) := by decide +kernel
theorem dX6_zero_21 : decode cX6_zero 21 = .ok (.iaload, 1) := by decide +kernel
theorem dX6_zero_22 : decode cX6_zero 22 = .ok (.ifCond .ne 55, 3) := by decide +kernel
theorem dX6_zero_25 : decode cX6_zero 25 = .ok (.aload_n 0, 1) := by decide +kernel
theorem dX6_zero_26 : decode cX6_zero 26 = .ok (.getfield 7, 3) := by decide +kernel
theorem dX6_zero_29 : decode cX6_zero 29 = .ok (.iload_n 1, 1) := by decide +kernel
theorem dX6_zero_30 : decode cX6_zero 30 = .ok (.bipush 7, 2) := by decide +kernel
theorem dX6_zero_32 : decode cX6_zero 32 = .ok (.iadd, 1) := by decide +kernel
theorem dX6_zero_33 : decode cX6_zero 33 = .ok (.iaload, 1) := by decide +kernel
theorem dX6_zero_34 : decode cX6_zero 34 = .ok (.aload_n 0, 1) := by decide +kernel
theorem dX6_zero_35 : decode cX6_zero 35 = .ok (.getfield 7, 3) := by decide +kernel
theorem dX6_zero_38 : decode cX6_zero 38 = .ok (.iload_n 1, 1) := by decide +kernel
theorem dX6_zero_39 : decode cX6_zero 39 = .ok (.bipush 8, 2) := by decide +kernel
theorem dX6_zero_41 : decode cX6_zero 41 = .ok (.iadd, 1) := by decide +kernel
theorem dX6_zero_42 : decode cX6_zero 42 = .ok (.iaload, 1) := by decide +kernel
theorem dX6_zero_43 : decode cX6_zero 43 = .ok (.if_icmp .ne 169, 3) := by decide +kernel
theorem dX6_zero_46 : decode cX6_zero 46 = .ok (.aload_n 0, 1) := by decide +kernel
theorem dX6_zero_47 : decode cX6_zero 47 = .ok (.getfield 7, 3) := by decide +kernel
theorem dX6_zero_50 : decode cX6_zero 50 = .ok (.iload_n 1, 1) := by decide +kernel
theorem dX6_zero_51 : decode cX6_zero 51 = .ok (.bipush 13, 2) := by decide +kernel
theorem dX6_zero_53 : decode cX6_zero 53 = .ok (.iadd, 1) := by decide +kernel
theorem dX6_zero_54 : decode cX6_zero 54 = .ok (.iconst 1, 1) := by decide +kernel
theorem dX6_zero_55 : decode cX6_zero 55 = .ok (.iastore, 1) := by decide +kernel
theorem dX6_zero_56 : decode cX6_zero 56 = .ok (.aload_n 0, 1) := by decide +kernel
theorem dX6_zero_57 : decode cX6_zero 57 = .ok (.getfield 7, 3) := by decide +kernel
theorem dX6_zero_60 : decode cX6_zero 60 = .ok (.iload_n 1, 1) := by decide +kernel
theorem dX6_zero_61 : decode cX6_zero 61 = .ok (.bipush 14, 2) := by decide +kernel
theorem dX6_zero_63 : decode cX6_zero 63 = .ok (.iadd, 1) := by decide +kernel
theorem dX6_zero_64 : decode cX6_zero 64 = .ok (.aload_n 0, 1) := by decide +kernel
theorem dX6_zero_65 : decode cX6_zero 65 = .ok (.getfield 7, 3) := by decide +kernel
theorem dX6_zero_68 : decode cX6_zero 68 = .ok (.iload_n 1, 1) := by decide +kernel
theorem dX6_zero_69 : decode cX6_zero 69 = .ok (.bipush 6, 2) := by decide +kernel
theorem dX6_zero_71 : decode cX6_zero 71 = .ok (.iadd, 1) := by decide +kernel
theorem dX6_zero_72 : decode cX6_zero 72 = .ok (.iaload, 1) := by decide +kernel
theorem dX6_zero_73 : decode cX6_zero 73 = .ok (.iastore, 1) := by decide +kernel
theorem dX6_zero_74 : decode cX6_zero 74 = .ok (.goto 138, 3) := by decide +kernel
theorem dX6_zero_77 : decode cX6_zero 77 = .ok (.aload_n 0, 1) := by decide +kernel
theorem dX6_zero_78 : decode cX6_zero 78 = .ok (.getfield 7, 3) := by decide +kernel
theorem dX6_zero_81 : decode cX6_zero 81 = .ok (.iload_n 1, 1) := by decide +kernel
theorem dX6_zero_82 : decode cX6_zero 82 = .ok (.iconst 1, 1) := by decide +kernel
theorem dX6_zero_83 : decode cX6_zero 83 = .ok (.iadd, 1) := by decide +kernel
theorem dX6_zero_84 : decode cX6_zero 84 = .ok (.iaload, 1) := by decide +kernel
theorem dX6_zero_85 : decode cX6_zero 85 = .ok (.istore_n 2, 1) := by decide +kernel
theorem dX6_zero_86 : decode cX6_zero 86 = .ok (.aload_n 0, 1) := by decide +kernel
theorem dX6_zero_87 : decode cX6_zero 87 = .ok (.getfield 7, 3) := by decide +kernel
theorem dX6_zero_90 : decode cX6_zero 90 = .ok (.iload_n 1, 1) := by decide +kernel
theorem dX6_zero_91 : decode cX6_zero 91 = .ok (.bipush 14, 2) := by decide +kernel
theorem dX6_zero_93 : decode cX6_zero 93 = .ok (.iadd, 1) := by decide +kernel
theorem dX6_zero_94 : decode cX6_zero 94 = .ok (.iaload, 1) := by decide +kernel
theorem dX6_zero_95 : decode cX6_zero 95 = .ok (.aload_n 0, 1) := by decide +kernel
theorem dX6_zero_96 : decode cX6_zero 96 = .ok (.getfield 7, 3) := by decide +kernel
theorem dX6_zero_99 : decode cX6_zero 99 = .ok (.iload_n 1, 1) := by decide +kernel
theorem dX6_zero_100 : decode cX6_zero 100 = .ok (.bipush 7, 2) := by decide +kernel
theorem dX6_zero_102 : decode cX6_zero 102 = .ok (.iadd, 1) := by decide +kernel
theorem dX6_zero_103 : decode cX6_zero 103 = .ok (.iaload, 1) := by decide +kernel
theorem dX6_zero_104 : decode cX6_zero 104 = .ok (.isub, 1) := by decide +kernel
theorem dX6_zero_105 : decode cX6_zero 105 = .ok (.iload_n 2, 1) := by decide +kernel
theorem dX6_zero_106 : decode cX6_zero 106 = .ok (.invokestatic 40, 3) := by decide +kernel
theorem dX6_zero_109 : decode cX6_zero 109 = .ok (.ineg, 1) := by decide +kernel
theorem dX6_zero_110 : decode cX6_zero 110 = .ok (.istore_n 3, 1) := by decide +kernel
theorem dX6_zero_111 : decode cX6_zero 111 = .ok (.aload_n 0, 1) := by decide +kernel
theorem dX6_zero_112 : decode cX6_zero 112 = .ok (.getfield 7, 3) := by decide +kernel
theorem dX6_zero_115 : decode cX6_zero 115 = .ok (.iload_n 1, 1) := by decide +kernel
theorem dX6_zero_116 : decode cX6_zero 116 = .ok (.bipush 8, 2) := by decide +kernel
theorem dX6_zero_118 : decode cX6_zero 118 = .ok (.iadd, 1) := by decide +kernel
theorem dX6_zero_119 : decode cX6_zero 119 = .ok (.iaload, 1) := by decide +kernel
theorem dX6_zero_120 : decode cX6_zero 120 = .ok (.aload_n 0, 1) := by decide +kernel
theorem dX6_zero_121 : decode cX6_zero 121 = .ok (.getfield 7, 3) := by decide +kernel
theorem dX6_zero_124 : decode cX6_zero 124 = .ok (.iload_n 1, 1) := by decide +kernel
theorem dX6_zero_125 : decode cX6_zero 125 = .ok (.bipush 14, 2) := by decide +kernel
theorem dX6_zero_127 : decode cX6_zero 127 = .ok (.iadd, 1) := by decide +kernel
theorem dX6_zero_128 : decode cX6_zero 128 = .ok (.iaload, 1) := by decide +kernel
theorem dX6_zero_129 : decode cX6_zero 129 = .ok (.isub, 1) := by decide +kernel
theorem dX6_zero_130 : decode cX6_zero 130 = .ok (.iload_n 2, 1) := by decide +kernel
theorem dX6_zero_131 : decode cX6_zero 131 = .ok (.invokestatic 40, 3) := by decide +kernel
theorem dX6_zero_134 : decode cX6_zero 134 = .ok (.istore 4, 2) := by decide +kernel
theorem dX6_zero_136 : decode cX6_zero 136 = .ok (.iload_n 3, 1) := by decide +kernel
theorem dX6_zero_137 : decode cX6_zero 137 = .ok (.iload 4, 2) := by decide +kernel
theorem dX6_zero_139 : decode cX6_zero 139 = .ok (.if_icmp .ne 54, 3) := by decide +kernel
theorem dX6_zero_142 : decode cX6_zero 142 = .ok (.aload_n 0, 1) := by decide +kernel
theorem dX6_zero_143 : decode cX6_zero 143 = .ok (.getfield 7, 3) := by decide +kernel
theorem dX6_zero_146 : decode cX6_zero 146 = .ok (.iload_n 1, 1) := by decide +kernel
theorem dX6_zero_147 : decode cX6_zero 147 = .ok (.bipush 14, 2) := by decide +kernel
theorem dX6_zero_149 : decode cX6_zero 149 = .ok (.iadd, 1) := by decide +kernel
theorem dX6_zero_150 : decode cX6_zero 150 = .ok (.iaload, 1) := by decide +kernel
theorem dX6_zero_151 : decode cX6_zero 151 = .ok (.iload_n 3, 1) := by decide +kernel
theorem dX6_zero_152 : decode cX6_zero 152 = .ok (.iload_n 2, 1) := by decide +kernel
theorem dX6_zero_153 : decode cX6_zero 153 = .ok (.imul, 1) := by decide +kernel
theorem dX6_zero_154 : decode cX6_zero 154 = .ok (.iadd, 1) := by decide +kernel
theorem dX6_zero_155 : decode cX6_zero 155 = .ok (.istore 5, 2) := by decide +kernel
theorem dX6_zero_157 : decode cX6_zero 157 = .ok (.aload_n 0, 1) := by decide +kernel
theorem dX6_zero_158 : decode cX6_zero 158 = .ok (.getfield 7, 3) := by decide +kernel
theorem dX6_zero_161 : decode cX6_zero 161 = .ok (.iload_n 1, 1) := by decide +kernel
theorem dX6_zero_162 : decode cX6_zero 162 = .ok (.bipush 6, 2) := by decide +kernel
theorem dX6_zero_164 : decode cX6_zero 164 = .ok (.iadd, 1) := by decide +kernel
theorem dX6_zero_165 : decode cX6_zero 165 = .ok (.iload 5, 2) := by decide +kernel
theorem dX6_zero_167 : decode cX6_zero 167 = .ok (.iastore, 1) := by decide +kernel
theorem dX6_zero_168 : decode cX6_zero 168 = .ok (.aload_n 0, 1) := by decide +kernel
theorem dX6_zero_169 : decode cX6_zero 169 = .ok (.getfield 7, 3) := by decide +kernel
theorem dX6_zero_172 : decode cX6_zero 172 = .ok (.iload_n 1, 1) := by decide +kernel
theorem dX6_zero_173 : decode cX6_zero 173 = .ok (.bipush 7, 2) := by decide +kernel
theorem dX6_zero_175 : decode cX6_zero 175 = .ok (.iadd, 1) := by decide +kernel
theorem dX6_zero_176 : decode cX6_zero 176 = .ok (.iload 5, 2) := by decide +kernel
theorem dX6_zero_178 : decode cX6_zero 178 = .ok (.iastore, 1) := by decide +kernel
theorem dX6_zero_179 : decode cX6_zero 179 = .ok (.aload_n 0, 1) := by decide +kernel
theorem dX6_zero_180 : decode cX6_zero 180 = .ok (.getfield 7, 3) := by decide +kernel
theorem dX6_zero_183 : decode cX6_zero 183 = .ok (.iload_n 1, 1) := by decide +kernel
theorem dX6_zero_184 : decode cX6_zero 184 = .ok (.bipush 8, 2) := by decide +kernel
theorem dX6_zero_186 : decode cX6_zero 186 = .ok (.iadd, 1) := by decide +kernel
theorem dX6_zero_187 : decode cX6_zero 187 = .ok (.iload 5, 2) := by decide +kernel
theorem dX6_zero_189 : decode cX6_zero 189 = .ok (.iastore, 1) := by decide +kernel
theorem dX6_zero_190 : decode cX6_zero 190 = .ok (.goto 22, 3) := by decide +kernel
theorem dX6_zero_193 : decode cX6_zero 193 = .ok (.iload_n 3, 1) := by decide +kernel
theorem dX6_zero_194 : decode cX6_zero 194 = .ok (.iload 4, 2) := by decide +kernel
theorem dX6_zero_196 : decode cX6_zero 196 = .ok (.if_icmp .le 16, 3) := by decide +kernel
theorem dX6_zero_199 : decode cX6_zero 199 = .ok (.aload_n 0, 1) := by decide +kernel
theorem dX6_zero_200 : decode cX6_zero 200 = .ok (.getfield 7, 3) := by decide +kernel
theorem dX6_zero_203 : decode cX6_zero 203 = .ok (.iload_n 1, 1) := by decide +kernel
theorem dX6_zero_204 : decode cX6_zero 204 = .ok (.bipush 11, 2) := by decide +kernel
theorem dX6_zero_206 : decode cX6_zero 206 = .ok (.iadd, 1) := by decide +kernel
theorem dX6_zero_207 : decode cX6_zero 207 = .ok (.dup2, 1) := by decide +kernel
theorem dX6_zero_208 : decode cX6_zero 208 = .ok (.iaload, 1) := by decide +kernel
theorem dX6_zero_209 : decode cX6_zero 209 = .ok (.iconst 1, 1) := by decide +kernel
theorem dX6_zero_210 : decode cX6_zero 210 = .ok (.iadd, 1) := by decide +kernel
theorem dX6_zero_211 : decode cX6_zero 211 = .ok (.iastore, 1) := by decide +kernel
theorem dX6_zero_212 : decode cX6_zero 212 = .ok (.aload_n 0, 1) := by decide +kernel
theorem dX6_zero_213 : decode cX6_zero 213 = .ok (.iload_n 1, 1) := by decide +kernel
theorem dX6_zero_214 : decode cX6_zero 214 = .ok (.invokevirtual 44, 3) := by decide +kernel
theorem dX6_zero_217 : decode cX6_zero 217 = .ok (.aload_n 0, 1) := by decide +kernel
theorem dX6_zero_218 : decode cX6_zero 218 = .ok (.getfield 7, 3) := by decide +kernel
theorem dX6_zero_221 : decode cX6_zero 221 = .ok (.iload_n 1, 1) := by decide +kernel
theorem dX6_zero_222 : decode cX6_zero 222 = .ok (.bipush 16, 2) := by decide +kernel
theorem dX6_zero_224 : decode cX6_zero 224 = .ok (.iadd, 1) := by decide +kernel
theorem dX6_zero_225 : decode cX6_zero 225 = .ok (.aload_n 0, 1) := by decide +kernel
theorem dX6_zero_226 : decode cX6_zero 226 = .ok (.getfield 37, 3) := by decide +kernel
theorem dX6_zero_229 : decode cX6_zero 229 = .ok (.iastore, 1) := by decide +kernel
theorem dX6_zero_230 : decode cX6_zero 230 = .ok (.return_, 1) := by decide +kernel
set_option maxRecDepth 20000 in
theorem ggX6_teeth_X6_latest : GoodIn wsX6_teeth wsX6_latest := goodIn_r _ [6, 1, 7, 8, 9, 10, 11, 12, 13, 14, 15] (by decide +kernel) (by decide +kernel)
set_option maxRecDepth 20000 in
theorem gX6_teeth_X6_latest : GoodIn wsX6_teeth (wsV RX6 48 RX6 yX6_latest wsX6_latest) := goodIn_app (goodIn_of _ (by decide +kernel)) ggX6_teeth_X6_latest
theorem dX6_teeth_0 : decode cX6_teeth 0 = .ok (.aload_n 0, 1) := by decide +kernel
theorem dX6_teeth_1 : decode cX6_teeth 1 = .ok (.getfield 7, 3) := by decide +kernel
theorem dX6_teeth_4 : decode cX6_teeth 4 = .ok (.iload_n 1, 1) := by decide +kernel
theorem dX6_teeth_5 : decode cX6_teeth 5 = .ok (.bipush 16, 2) := by decide +kernel
theorem dX6_teeth_7 : decode cX6_teeth 7 = .ok (.iadd, 1) := by decide +kernel
theorem dX6_teeth_8 : decode cX6_teeth 8 = .ok (.iaload, 1) := by decide +kernel
theorem dX6_teeth_9 : decode cX6_teeth 9 = .ok (.istore_n 2, 1) := by decide +kernel
theorem dX6_teeth_10 : decode cX6_teeth 10 = .ok (.aload_n 0, 1) := by decide +kernel
theorem dX6_teeth_11 : decode cX6_teeth 11 = .ok (.getfield 7, 3) := by decide +kernel
theorem dX6_teeth_14 : decode cX6_teeth 14 = .ok (.iload_n 1, 1) := by decide +kernel
theorem dX6_teeth_15 : decode cX6_teeth 15 = .ok (.iconst 1, 1) := by decide +kernel
theorem dX6_teeth_16 : decode cX6_teeth 16 = .ok (.iadd, 1) := by decide +kernel
theorem dX6_teeth_17 : decode cX6_teeth 17 = .ok (.iaload, 1) := by decide +kernel
theorem dX6_teeth_18 : decode cX6_teeth 18 = .ok (.istore_n 3, 1) := by decide +kernel
theorem dX6_teeth_19 : decode cX6_teeth 19 = .ok (.aload_n 0, 1) := by decide +kernel
theorem dX6_teeth_20 : decode cX6_teeth 20 = .ok (.iload_n 1, 1) := by decide +kernel
theorem dX6_teeth_21 : decode cX6_teeth 21 = .ok (.iload_n 3, 1) := by decide +kernel
theorem dX6_teeth_22 : decode cX6_teeth 22 = .ok (.invokevirtual 48, 3) := by decide +kernel
theorem dX6_teeth_25 : decode cX6_teeth 25 = .ok (.istore 4, 2) := by decide +kernel
theorem dX6_teeth_27 : decode cX6_teeth 27 = .ok (.iload_n 2, 1) := by decide +kernel
theorem dX6_teeth_28 : decode cX6_teeth 28 = .ok (.ifCond .eq 25, 3) := by decide +kernel
theorem dX6_teeth_31 : decode cX6_teeth 31 = .ok (.iload 4, 2) := by decide +kernel
theorem dX6_teeth_33 : decode cX6_teeth 33 = .ok (.ifCond .lt 20, 3) := by decide +kernel
theorem dX6_teeth_36 : decode cX6_teeth 36 = .ok (.aload_n 0, 1) := by decide +kernel
theorem dX6_teeth_37 : decode cX6_teeth 37 = .ok (.getfield 7, 3) := by decide +kernel
theorem dX6_teeth_40 : decode cX6_teeth 40 = .ok (.iload_n 1, 1) := by decide +kernel
theorem dX6_teeth_41 : decode cX6_teeth 41 = .ok (.sipush 320, 3) := by decide +kernel
theorem dX6_teeth_44 : decode cX6_teeth 44 = .ok (.iadd, 1) := by decide +kernel
theorem dX6_teeth_45 : decode cX6_teeth 45 = .ok (.iload 4, 2) := by decide +kernel
theorem dX6_teeth_47 : decode cX6_teeth 47 = .ok (.iadd, 1) := by decide +kernel
theorem dX6_teeth_48 : decode cX6_teeth 48 = .ok (.iaload, 1) := by decide +kernel
theorem dX6_teeth_49 : decode cX6_teeth 49 = .ok (.iload_n 2, 1) := by decide +kernel
theorem dX6_teeth_50 : decode cX6_teeth 50 = .ok (.if_icmp .le 4, 3) := by decide +kernel
theorem dX6_teeth_53 : decode cX6_teeth 53 = .ok (.return_, 1) := by decide +kernel
theorem dX6_teeth_54 : decode cX6_teeth 54 = .ok (.iconst 0, 1) := by decide +kernel
theorem dX6_teeth_55 : decode cX6_teeth 55 = .ok (.istore 5, 2) := by decide +kernel
theorem dX6_teeth_57 : decode cX6_teeth 57 = .ok (.iload 5, 2) := by decide +kernel
theorem dX6_teeth_59 : decode cX6_teeth 59 = .ok (.iload_n 3, 1) := by decide +kernel
theorem dX6_teeth_60 : decode cX6_teeth 60 = .ok (.if_icmp .ge 52, 3) := by decide +kernel
theorem dX6_teeth_63 : decode cX6_teeth 63 = .ok (.aload_n 0, 1) := by decide +kernel
theorem dX6_teeth_64 : decode cX6_teeth 64 = .ok (.iload_n 1, 1) := by decide +kernel
theorem dX6_teeth_65 : decode cX6_teeth 65 = .ok (.iload 5, 2) := by decide +kernel
theorem dX6_teeth_67 : decode cX6_teeth 67 = .ok (.invokevirtual 48, 3) := by decide +kernel
theorem dX6_teeth_70 : decode cX6_teeth 70 = .ok (.istore 6, 2) := by decide +kernel
theorem dX6_teeth_72 : decode cX6_teeth 72 = .ok (.aload_n 0, 1) := by decide +kernel
theorem dX6_teeth_73 : decode cX6_teeth 73 = .ok (.getfield 7, 3) := by decide +kernel
theorem dX6_teeth_76 : decode cX6_teeth 76 = .ok (.iload_n 1, 1) := by decide +kernel
theorem dX6_teeth_77 : decode cX6_teeth 77 = .ok (.bipush 20, 2) := by decide +kernel
theorem dX6_teeth_79 : decode cX6_teeth 79 = .ok (.iadd, 1) := by decide +kernel
theorem dX6_teeth_80 : decode cX6_teeth 80 = .ok (.iload 6, 2) := by decide +kernel
theorem dX6_teeth_82 : decode cX6_teeth 82 = .ok (.iadd, 1) := by decide +kernel
theorem dX6_teeth_83 : decode cX6_teeth 83 = .ok (.iaload, 1) := by decide +kernel
theorem dX6_teeth_84 : decode cX6_teeth 84 = .ok (.iconst 1, 1) := by decide +kernel
theorem dX6_teeth_85 : decode cX6_teeth 85 = .ok (.if_icmp .ne 20, 3) := by decide +kernel
theorem dX6_teeth_88 : decode cX6_teeth 88 = .ok (.aload_n 0, 1) := by decide +kernel
theorem dX6_teeth_89 : decode cX6_teeth 89 = .ok (.getfield 7, 3) := by decide +kernel
theorem dX6_teeth_92 : decode cX6_teeth 92 = .ok (.iload_n 1, 1) := by decide +kernel
theorem dX6_teeth_93 : decode cX6_teeth 93 = .ok (.sipush 320, 3) := by decide +kernel
theorem dX6_teeth_96 : decode cX6_teeth 96 = .ok (.iadd, 1) := by decide +kernel
theorem dX6_teeth_97 : decode cX6_teeth 97 = .ok (.iload 6, 2) := by decide +kernel
theorem dX6_teeth_99 : decode cX6_teeth 99 = .ok (.iadd, 1) := by decide +kernel
theorem dX6_teeth_100 : decode cX6_teeth 100 = .ok (.iaload, 1) := by decide +kernel
theorem dX6_teeth_101 : decode cX6_teeth 101 = .ok (.iload_n 2, 1) := by decide +kernel
theorem dX6_teeth_102 : decode cX6_teeth 102 = .ok (.if_icmp .gt 4, 3) := by decide +kernel
theorem dX6_teeth_105 : decode cX6_teeth 105 = .ok (.return_, 1) := by decide +kernel
theorem dX6_teeth_106 : decode cX6_teeth 106 = .ok (.iinc 5 1, 3) := by decide +kernel
theorem dX6_teeth_109 : decode cX6_teeth 109 = .ok (.goto (-52), 3) := by decide +kernel
theorem dX6_teeth_112 : decode cX6_teeth 112 = .ok (.iconst 0, 1) := by decide +kernel
theorem dX6_teeth_113 : decode cX6_teeth 113 = .ok (.istore 5, 2) := by decide +kernel
theorem dX6_teeth_115 : decode cX6_teeth 115 = .ok (.iload 5, 2) := by decide +kernel
theorem dX6_teeth_117 : decode cX6_teeth 117 = .ok (.iload_n 3, 1) := by decide +kernel
theorem dX6_teeth_118 : decode cX6_teeth 118 = .ok (.if_icmp .ge 68, 3) := by decide +kernel
theorem dX6_teeth_121 : decode cX6_teeth 121 = .ok (.aload_n 0, 1) := by decide +kernel
theorem dX6_teeth_122 : decode cX6_teeth 122 = .ok (.getfield 7, 3) := by decide +kernel
theorem dX6_teeth_125 : decode cX6_teeth 125 = .ok (.iload_n 1, 1) := by decide +kernel
theorem dX6_teeth_126 : decode cX6_teeth 126 = .ok (.sipush 1440, 3) := by decide +kernel
theorem dX6_teeth_129 : decode cX6_teeth 129 = .ok (.iadd, 1) := by decide +kernel
theorem dX6_teeth_130 : decode cX6_teeth 130 = .ok (.iload 5, 2) := by decide +kernel
theorem dX6_teeth_132 : decode cX6_teeth 132 = .ok (.iadd, 1) := by decide +kernel
theorem dX6_teeth_133 : decode cX6_teeth 133 = .ok (.dup2, 1) := by decide +kernel
theorem dX6_teeth_134 : decode cX6_teeth 134 = .ok (.iaload, 1) := by decide +kernel
theorem dX6_teeth_135 : decode cX6_teeth 135 = .ok (.aload_n 0, 1) := by decide +kernel
theorem dX6_teeth_136 : decode cX6_teeth 136 = .ok (.getfield 7, 3) := by decide +kernel
theorem dX6_teeth_139 : decode cX6_teeth 139 = .ok (.iload_n 1, 1) := by decide +kernel
theorem dX6_teeth_140 : decode cX6_teeth 140 = .ok (.sipush 320, 3) := by decide +kernel
theorem dX6_teeth_143 : decode cX6_teeth 143 = .ok (.iadd, 1) := by decide +kernel
theorem dX6_teeth_144 : decode cX6_teeth 144 = .ok (.aload_n 0, 1) := by decide +kernel
theorem dX6_teeth_145 : decode cX6_teeth 145 = .ok (.iload_n 1, 1) := by decide +kernel
theorem dX6_teeth_146 : decode cX6_teeth 146 = .ok (.iload_n 3, 1) := by decide +kernel
theorem dX6_teeth_147 : decode cX6_teeth 147 = .ok (.iconst 1, 1) := by decide +kernel
theorem dX6_teeth_148 : decode cX6_teeth 148 = .ok (.isub, 1) := by decide +kernel
theorem dX6_teeth_149 : decode cX6_teeth 149 = .ok (.iload 5, 2) := by decide +kernel
theorem dX6_teeth_151 : decode cX6_teeth 151 = .ok (.isub, 1) := by decide +kernel
theorem dX6_teeth_152 : decode cX6_teeth 152 = .ok (.invokevirtual 48, 3) := by decide +kernel
theorem dX6_teeth_155 : decode cX6_teeth 155 = .ok (.iadd, 1) := by decide +kernel
theorem dX6_teeth_156 : decode cX6_teeth 156 = .ok (.iaload, 1) := by decide +kernel
theorem dX6_teeth_157 : decode cX6_teeth 157 = .ok (.aload_n 0, 1) := by decide +kernel
theorem dX6_teeth_158 : decode cX6_teeth 158 = .ok (.getfield 7, 3) := by decide +kernel
theorem dX6_teeth_161 : decode cX6_teeth 161 = .ok (.iload_n 1, 1) := by decide +kernel
theorem dX6_teeth_162 : decode cX6_teeth 162 = .ok (.sipush 320, 3) := by decide +kernel
theorem dX6_teeth_165 : decode cX6_teeth 165 = .ok (.iadd, 1) := by decide +kernel
theorem dX6_teeth_166 : decode cX6_teeth 166 = .ok (.aload_n 0, 1) := by decide +kernel
theorem dX6_teeth_167 : decode cX6_teeth 167 = .ok (.iload_n 1, 1) := by decide +kernel
theorem dX6_teeth_168 : decode cX6_teeth 168 = .ok (.iload_n 3, 1) := by decide +kernel
theorem dX6_teeth_169 : decode cX6_teeth 169 = .ok (.iload 5, 2) := by decide +kernel
theorem dX6_teeth_171 : decode cX6_teeth 171 = .ok (.isub, 1) := by decide +kernel
theorem dX6_teeth_172 : decode cX6_teeth 172 = .ok (.invokevirtual 48, 3) := by decide +kernel
theorem dX6_teeth_175 : decode cX6_teeth 175 = .ok (.iadd, 1) := by decide +kernel
theorem dX6_teeth_176 : decode cX6_teeth 176 = .ok (.iaload, 1) := by decide +kernel
theorem dX6_teeth_177 : decode cX6_teeth 177 = .ok (.isub, 1) := by decide +kernel
theorem dX6_teeth_178 : decode cX6_teeth 178 = .ok (.iadd, 1) := by decide +kernel
theorem dX6_teeth_179 : decode cX6_teeth 179 = .ok (.iastore, 1) := by decide +kernel
theorem dX6_teeth_180 : decode cX6_teeth 180 = .ok (.iinc 5 1, 3) := by decide +kernel
theorem dX6_teeth_183 : decode cX6_teeth 183 = .ok (.goto (-68), 3) := by decide +kernel
theorem dX6_teeth_186 : decode cX6_teeth 186 = .ok (.aload_n 0, 1) := by decide +kernel
theorem dX6_teeth_187 : decode cX6_teeth 187 = .ok (.getfield 7, 3) := by decide +kernel
theorem dX6_teeth_190 : decode cX6_teeth 190 = .ok (.iload_n 1, 1) := by decide +kernel
theorem dX6_teeth_191 : decode cX6_teeth 191 = .ok (.bipush 17, 2) := by decide +kernel
theorem dX6_teeth_193 : decode cX6_teeth 193 = .ok (.iadd, 1) := by decide +kernel
theorem dX6_teeth_194 : decode cX6_teeth 194 = .ok (.dup2, 1) := by decide +kernel
theorem dX6_teeth_195 : decode cX6_teeth 195 = .ok (.iaload, 1) := by decide +kernel
theorem dX6_teeth_196 : decode cX6_teeth 196 = .ok (.iconst 1, 1) := by decide +kernel
theorem dX6_teeth_197 : decode cX6_teeth 197 = .ok (.iadd, 1) := by decide +kernel
theorem dX6_teeth_198 : decode cX6_teeth 198 = .ok (.iastore, 1) := by decide +kernel
theorem dX6_teeth_199 : decode cX6_teeth 199 = .ok (.return_, 1) := by decide +kernel
set_option maxRecDepth 20000 in
theorem ggX6_read_X6_phaseOf : GoodIn wsX6_read wsX6_phaseOf := goodIn_r _ [5] (by decide +kernel) (by decide +kernel)
set_option maxRecDepth 20000 in
theorem gX6_read_X6_phaseOf : GoodIn wsX6_read (va_wsS RX6 51 yX6_phaseOf wsX6_phaseOf) := goodIn_app (goodIn_of _ (by decide +kernel)) ggX6_read_X6_phaseOf
set_option maxRecDepth 20000 in
theorem ggX6_read_X6_event : GoodIn wsX6_read wsX6_event := goodIn_r _ [9, 1, 10, 26, 27, 28, 29, 30, 31, 32, 33, 34] (by decide +kernel) (by decide +kernel)
set_option maxRecDepth 20000 in
theorem gX6_read_X6_event : GoodIn wsX6_read (wsV RX6 55 RX6 yX6_event wsX6_event) := goodIn_app (goodIn_of _ (by decide +kernel)) ggX6_read_X6_event
set_option maxRecDepth 20000 in
theorem ggX6_read_X6_zero : GoodIn wsX6_read wsX6_zero := goodIn_r _ [14, 1, 10, 15, 16, 4, 17, 18, 19, 20, 21, 22, 23, 24, 25, 26, 27, 28, 29, 30, 31, 32, 33, 34] (by decide +kernel) (by decide +kernel)
set_option maxRecDepth 20000 in
theorem gX6_read_X6_zero : GoodIn wsX6_read (wsV RX6 59 RX6 yX6_zero wsX6_zero) := goodIn_app (goodIn_of _ (by decide +kernel)) ggX6_read_X6_zero
theorem dX6_read_0 : decode cX6_read 0 = .ok (.sipush 1510, 3) := by decide +kernel
theorem dX6_read_3 : decode cX6_read 3 = .ok (.iload_n 1, 1) := by decide +kernel
theorem dX6_read_4 : decode cX6_read 4 = .ok (.imul, 1) := by decide +kernel
theorem dX6_read_5 : decode cX6_read 5 = .ok (.istore_n 3, 1) := by decide +kernel
theorem dX6_read_6 : decode cX6_read 6 = .ok (.aload_n 0, 1) := by decide +kernel
theorem dX6_read_7 : decode cX6_read 7 = .ok (.getfield 7, 3) := by decide +kernel
theorem dX6_read_10 : decode cX6_read 10 = .ok (.iload_n 3, 1) := by decide +kernel
theorem dX6_read_11 : decode cX6_read 11 = .ok (.iconst 2, 1) := by decide +kernel
theorem dX6_read_12 : decode cX6_read 12 = .ok (.iadd, 1) := by decide +kernel
theorem dX6_read_13 : decode cX6_read 13 = .ok (.iaload, 1) := by decide +kernel
theorem dX6_read_14 : decode cX6_read 14 = .ok (.istore 4, 2) := by decide +kernel
theorem dX6_read_16 : decode cX6_read 16 = .ok (.iload 4, 2) := by decide +kernel
theorem dX6_read_18 : decode cX6_read 18 = .ok (.istore 5, 2) := by decide +kernel
theorem dX6_read_20 : decode cX6_read 20 = .ok (.iconst 0, 1) := by decide +kernel
theorem dX6_read_21 : decode cX6_read 21 = .ok (.istore 6, 2) := by decide +kernel
theorem dX6_read_23 : decode cX6_read 23 = .ok (.iload 6, 2) := by decide +kernel
theorem dX6_read_25 : decode cX6_read 25 = .ok (.iconst 3, 1) := by decide +kernel
theorem dX6_read_26 : decode cX6_read 26 = .ok (.if_icmp .ge 101, 3) := by decide +kernel
theorem dX6_read_29 : decode cX6_read 29 = .ok (.iload_n 2, 1) := by decide +kernel
theorem dX6_read_30 : decode cX6_read 30 = .ok (.iload 6, 2) := by decide +kernel
theorem dX6_read_32 : decode cX6_read 32 = .ok (.ishr, 1) := by decide +kernel
theorem dX6_read_33 : decode cX6_read 33 = .ok (.iconst 1, 1) := by decide +kernel
theorem dX6_read_34 : decode cX6_read 34 = .ok (.iand, 1) := by decide +kernel
theorem dX6_read_35 : decode cX6_read 35 = .ok (.iload 4, 2) := by decide +kernel
theorem dX6_read_37 : decode cX6_read 37 = .ok (.iload 6, 2) := by decide +kernel
theorem dX6_read_39 : decode cX6_read 39 = .ok (.ishr, 1) := by decide +kernel
theorem dX6_read_40 : decode cX6_read 40 = .ok (.iconst 1, 1) := by decide +kernel
theorem dX6_read_41 : decode cX6_read 41 = .ok (.iand, 1) := by decide +kernel
theorem dX6_read_42 : decode cX6_read 42 = .ok (.if_icmp .ne 18, 3) := by decide +kernel
theorem dX6_read_45 : decode cX6_read 45 = .ok (.aload_n 0, 1) := by decide +kernel
theorem dX6_read_46 : decode cX6_read 46 = .ok (.getfield 7, 3) := by decide +kernel
theorem dX6_read_49 : decode cX6_read 49 = .ok (.iload_n 3, 1) := by decide +kernel
theorem dX6_read_50 : decode cX6_read 50 = .ok (.iconst 3, 1) := by decide +kernel
theorem dX6_read_51 : decode cX6_read 51 = .ok (.iadd, 1) := by decide +kernel
theorem dX6_read_52 : decode cX6_read 52 = .ok (.iload 6, 2) := by decide +kernel
theorem dX6_read_54 : decode cX6_read 54 = .ok (.iadd, 1) := by decide +kernel
theorem dX6_read_55 : decode cX6_read 55 = .ok (.iconst 0, 1) := by decide +kernel
theorem dX6_read_56 : decode cX6_read 56 = .ok (.iastore, 1) := by decide +kernel
theorem dX6_read_57 : decode cX6_read 57 = .ok (.goto 64, 3) := by decide +kernel
theorem dX6_read_60 : decode cX6_read 60 = .ok (.aload_n 0, 1) := by decide +kernel
theorem dX6_read_61 : decode cX6_read 61 = .ok (.getfield 7, 3) := by decide +kernel
theorem dX6_read_64 : decode cX6_read 64 = .ok (.iload_n 3, 1) := by decide +kernel
theorem dX6_read_65 : decode cX6_read 65 = .ok (.iconst 3, 1) := by decide +kernel
theorem dX6_read_66 : decode cX6_read 66 = .ok (.iadd, 1) := by decide +kernel
theorem dX6_read_67 : decode cX6_read 67 = .ok (.iload 6, 2) := by decide +kernel
theorem dX6_read_69 : decode cX6_read 69 = .ok (.iadd, 1) := by decide +kernel
theorem dX6_read_70 : decode cX6_read 70 = .ok (.dup2, 1) := by decide +kernel
theorem dX6_read_71 : decode cX6_read 71 = .ok (.iaload, 1) := by decide +kernel
theorem dX6_read_72 : decode cX6_read 72 = .ok (.iconst 1, 1) := by decide +kernel
theorem dX6_read_73 : decode cX6_read 73 = .ok (.iadd, 1) := by decide +kernel
theorem dX6_read_74 : decode cX6_read 74 = .ok (.iastore, 1) := by decide +kernel
theorem dX6_read_75 : decode cX6_read 75 = .ok (.aload_n 0, 1) := by decide +kernel
theorem dX6_read_76 : decode cX6_read 76 = .ok (.getfield 7, 3) := by decide +kernel
theorem dX6_read_79 : decode cX6_read 79 = .ok (.iload_n 3, 1) := by decide +kernel
theorem dX6_read_80 : decode cX6_read 80 = .ok (.iconst 3, 1) := by decide +kernel
theorem dX6_read_81 : decode cX6_read 81 = .ok (.iadd, 1) := by decide +kernel
theorem dX6_read_82 : decode cX6_read 82 = .ok (.iload 6, 2) := by decide +kernel
theorem dX6_read_84 : decode cX6_read 84 = .ok (.iadd, 1) := by decide +kernel
theorem dX6_read_85 : decode cX6_read 85 = .ok (.iaload, 1) := by decide +kernel
theorem dX6_read_86 : decode cX6_read 86 = .ok (.aload_n 0, 1) := by decide +kernel
theorem dX6_read_87 : decode cX6_read 87 = .ok (.getfield 7, 3) := by decide +kernel
theorem dX6_read_90 : decode cX6_read 90 = .ok (.iload_n 3, 1) := by decide +kernel
theorem dX6_read_91 : decode cX6_read 91 = .ok (.iconst 0, 1) := by decide +kernel
theorem dX6_read_92 : decode cX6_read 92 = .ok (.iadd, 1) := by decide +kernel
theorem dX6_read_93 : decode cX6_read 93 = .ok (.iaload, 1) := by decide +kernel
theorem dX6_read_94 : decode cX6_read 94 = .ok (.if_icmp .ge 6, 3) := by decide +kernel
theorem dX6_read_97 : decode cX6_read 97 = .ok (.goto 24, 3) := by decide +kernel
theorem dX6_read_100 : decode cX6_read 100 = .ok (.aload_n 0, 1) := by decide +kernel
theorem dX6_read_101 : decode cX6_read 101 = .ok (.getfield 7, 3) := by decide +kernel
theorem dX6_read_104 : decode cX6_read 104 = .ok (.iload_n 3, 1) := by decide +kernel
theorem dX6_read_105 : decode cX6_read 105 = .ok (.iconst 3, 1) := by decide +kernel
theorem dX6_read_106 : decode cX6_read 106 = .ok (.iadd, 1) := by decide +kernel
theorem dX6_read_107 : decode cX6_read 107 = .ok (.iload 6, 2) := by decide +kernel
theorem dX6_read_109 : decode cX6_read 109 = .ok (.iadd, 1) := by decide +kernel
theorem dX6_read_110 : decode cX6_read 110 = .ok (.iconst 0, 1) := by decide +kernel
theorem dX6_read_111 : decode cX6_read 111 = .ok (.iastore, 1) := by decide +kernel
theorem dX6_read_112 : decode cX6_read 112 = .ok (.iload 5, 2) := by decide +kernel
theorem dX6_read_114 : decode cX6_read 114 = .ok (.iconst 1, 1) := by decide +kernel
theorem dX6_read_115 : decode cX6_read 115 = .ok (.iload 6, 2) := by decide +kernel
theorem dX6_read_117 : decode cX6_read 117 = .ok (.ishl, 1) := by decide +kernel
theorem dX6_read_118 : decode cX6_read 118 = .ok (.ixor, 1) := by decide +kernel
theorem dX6_read_119 : decode cX6_read 119 = .ok (.istore 5, 2) := by decide +kernel
theorem dX6_read_121 : decode cX6_read 121 = .ok (.iinc 6 1, 3) := by decide +kernel
theorem dX6_read_124 : decode cX6_read 124 = .ok (.goto (-101), 3) := by decide +kernel
theorem dX6_read_127 : decode cX6_read 127 = .ok (.aload_n 0, 1) := by decide +kernel
theorem dX6_read_128 : decode cX6_read 128 = .ok (.getfield 7, 3) := by decide +kernel
theorem dX6_read_131 : decode cX6_read 131 = .ok (.iload_n 3, 1) := by decide +kernel
theorem dX6_read_132 : decode cX6_read 132 = .ok (.iconst 2, 1) := by decide +kernel
theorem dX6_read_133 : decode cX6_read 133 = .ok (.iadd, 1) := by decide +kernel
theorem dX6_read_134 : decode cX6_read 134 = .ok (.iload 5, 2) := by decide +kernel
theorem dX6_read_136 : decode cX6_read 136 = .ok (.iastore, 1) := by decide +kernel
theorem dX6_read_137 : decode cX6_read 137 = .ok (.iload 5, 2) := by decide +kernel
theorem dX6_read_139 : decode cX6_read 139 = .ok (.invokestatic 51, 3) := by decide +kernel
theorem dX6_read_142 : decode cX6_read 142 = .ok (.iload 4, 2) := by decide +kernel
theorem dX6_read_144 : decode cX6_read 144 = .ok (.invokestatic 51, 3) := by decide +kernel
theorem dX6_read_147 : decode cX6_read 147 = .ok (.isub, 1) := by decide +kernel
theorem dX6_read_148 : decode cX6_read 148 = .ok (.iconst 4, 1) := by decide +kernel
theorem dX6_read_149 : decode cX6_read 149 = .ok (.iadd, 1) := by decide +kernel
theorem dX6_read_150 : decode cX6_read 150 = .ok (.iconst 3, 1) := by decide +kernel
theorem dX6_read_151 : decode cX6_read 151 = .ok (.iand, 1) := by decide +kernel
theorem dX6_read_152 : decode cX6_read 152 = .ok (.istore 6, 2) := by decide +kernel
theorem dX6_read_154 : decode cX6_read 154 = .ok (.iload 6, 2) := by decide +kernel
theorem dX6_read_156 : decode cX6_read 156 = .ok (.iconst 1, 1) := by decide +kernel
theorem dX6_read_157 : decode cX6_read 157 = .ok (.if_icmp .ne 12, 3) := by decide +kernel
theorem dX6_read_160 : decode cX6_read 160 = .ok (.aload_n 0, 1) := by decide +kernel
theorem dX6_read_161 : decode cX6_read 161 = .ok (.iload_n 3, 1) := by decide +kernel
theorem dX6_read_162 : decode cX6_read 162 = .ok (.iconst 1, 1) := by decide +kernel
theorem dX6_read_163 : decode cX6_read 163 = .ok (.invokevirtual 55, 3) := by decide +kernel
theorem dX6_read_166 : decode cX6_read 166 = .ok (.goto 30, 3) := by decide +kernel
theorem dX6_read_169 : decode cX6_read 169 = .ok (.iload 6, 2) := by decide +kernel
theorem dX6_read_171 : decode cX6_read 171 = .ok (.iconst 3, 1) := by decide +kernel
theorem dX6_read_172 : decode cX6_read 172 = .ok (.if_icmp .ne 12, 3) := by decide +kernel
theorem dX6_read_175 : decode cX6_read 175 = .ok (.aload_n 0, 1) := by decide +kernel
theorem dX6_read_176 : decode cX6_read 176 = .ok (.iload_n 3, 1) := by decide +kernel
theorem dX6_read_177 : decode cX6_read 177 = .ok (.iconst (-1), 1) := by decide +kernel
theorem dX6_read_178 : decode cX6_read 178 = .ok (.invokevirtual 55, 3) := by decide +kernel
theorem dX6_read_181 : decode cX6_read 181 = .ok (.goto 15, 3) := by decide +kernel
theorem dX6_read_184 : decode cX6_read 184 = .ok (.iload 6, 2) := by decide +kernel
theorem dX6_read_186 : decode cX6_read 186 = .ok (.iconst 2, 1) := by decide +kernel
theorem dX6_read_187 : decode cX6_read 187 = .ok (.if_icmp .ne 9, 3) := by decide +kernel
theorem dX6_read_190 : decode cX6_read 190 = .ok (.aload_n 0, 1) := by decide +kernel
theorem dX6_read_191 : decode cX6_read 191 = .ok (.iload_n 3, 1) := by decide +kernel
theorem dX6_read_192 : decode cX6_read 192 = .ok (.iconst 0, 1) := by decide +kernel
theorem dX6_read_193 : decode cX6_read 193 = .ok (.invokevirtual 55, 3) := by decide +kernel
theorem dX6_read_196 : decode cX6_read 196 = .ok (.iload 5, 2) := by decide +kernel
theorem dX6_read_198 : decode cX6_read 198 = .ok (.iconst 2, 1) := by decide +kernel
theorem dX6_read_199 : decode cX6_read 199 = .ok (.ishr, 1) := by decide +kernel
theorem dX6_read_200 : decode cX6_read 200 = .ok (.iconst 1, 1) := by decide +kernel
theorem dX6_read_201 : decode cX6_read 201 = .ok (.iand, 1) := by decide +kernel
theorem dX6_read_202 : decode cX6_read 202 = .ok (.iconst 1, 1) := by decide +kernel
theorem dX6_read_203 : decode cX6_read 203 = .ok (.if_icmp .ne 17, 3) := by decide +kernel
theorem dX6_read_206 : decode cX6_read 206 = .ok (.iload 4, 2) := by decide +kernel
theorem dX6_read_208 : decode cX6_read 208 = .ok (.iconst 2, 1) := by decide +kernel
theorem dX6_read_209 : decode cX6_read 209 = .ok (.ishr, 1) := by decide +kernel
theorem dX6_read_210 : decode cX6_read 210 = .ok (.iconst 1, 1) := by decide +kernel
theorem dX6_read_211 : decode cX6_read 211 = .ok (.iand, 1) := by decide +kernel
theorem dX6_read_212 : decode cX6_read 212 = .ok (.ifCond .ne 8, 3) := by decide +kernel
theorem dX6_read_215 : decode cX6_read 215 = .ok (.aload_n 0, 1) := by decide +kernel
theorem dX6_read_216 : decode cX6_read 216 = .ok (.iload_n 3, 1) := by decide +kernel
theorem dX6_read_217 : decode cX6_read 217 = .ok (.invokevirtual 59, 3) := by decide +kernel
theorem dX6_read_220 : decode cX6_read 220 = .ok (.aload_n 0, 1) := by decide +kernel
theorem dX6_read_221 : decode cX6_read 221 = .ok (.getfield 7, 3) := by decide +kernel
theorem dX6_read_224 : decode cX6_read 224 = .ok (.iload_n 3, 1) := by decide +kernel
theorem dX6_read_225 : decode cX6_read 225 = .ok (.bipush 15, 2) := by decide +kernel
theorem dX6_read_227 : decode cX6_read 227 = .ok (.iadd, 1) := by decide +kernel
theorem dX6_read_228 : decode cX6_read 228 = .ok (.dup2, 1) := by decide +kernel
theorem dX6_read_229 : decode cX6_read 229 = .ok (.iaload, 1) := by decide +kernel
theorem dX6_read_230 : decode cX6_read 230 = .ok (.iconst 1, 1) := by decide +kernel
theorem dX6_read_231 : decode cX6_read 231 = .ok (.iadd, 1) := by decide +kernel
theorem dX6_read_232 : decode cX6_read 232 = .ok (.iastore, 1) := by decide +kernel
theorem dX6_read_233 : decode cX6_read 233 = .ok (.aload_n 0, 1) := by decide +kernel
theorem dX6_read_234 : decode cX6_read 234 = .ok (.getfield 7, 3) := by decide +kernel
theorem dX6_read_237 : decode cX6_read 237 = .ok (.iload_n 3, 1) := by decide +kernel
theorem dX6_read_238 : decode cX6_read 238 = .ok (.sipush 920, 3) := by decide +kernel
theorem dX6_read_241 : decode cX6_read 241 = .ok (.iadd, 1) := by decide +kernel
theorem dX6_read_242 : decode cX6_read 242 = .ok (.aload_n 0, 1) := by decide +kernel
theorem dX6_read_243 : decode cX6_read 243 = .ok (.getfield 7, 3) := by decide +kernel
theorem dX6_read_246 : decode cX6_read 246 = .ok (.iload_n 3, 1) := by decide +kernel
theorem dX6_read_247 : decode cX6_read 247 = .ok (.bipush 15, 2) := by decide +kernel
theorem dX6_read_249 : decode cX6_read 249 = .ok (.iadd, 1) := by decide +kernel
theorem dX6_read_250 : decode cX6_read 250 = .ok (.iaload, 1) := by decide +kernel
theorem dX6_read_251 : decode cX6_read 251 = .ok (.sipush 512, 3) := by decide +kernel
theorem dX6_read_254 : decode cX6_read 254 = .ok (.irem, 1) := by decide +kernel
theorem dX6_read_255 : decode cX6_read 255 = .ok (.iadd, 1) := by decide +kernel
theorem dX6_read_256 : decode cX6_read 256 = .ok (.aload_n 0, 1) := by decide +kernel
theorem dX6_read_257 : decode cX6_read 257 = .ok (.getfield 7, 3) := by decide +kernel
theorem dX6_read_260 : decode cX6_read 260 = .ok (.iload_n 3, 1) := by decide +kernel
theorem dX6_read_261 : decode cX6_read 261 = .ok (.bipush 6, 2) := by decide +kernel
theorem dX6_read_263 : decode cX6_read 263 = .ok (.iadd, 1) := by decide +kernel
theorem dX6_read_264 : decode cX6_read 264 = .ok (.iaload, 1) := by decide +kernel
theorem dX6_read_265 : decode cX6_read 265 = .ok (.iastore, 1) := by decide +kernel
theorem dX6_read_266 : decode cX6_read 266 = .ok (.return_, 1) := by decide +kernel
theorem dX6_doAgree_0 : decode cX6_doAgree 0 = .ok (.aload_n 0, 1) := by decide +kernel
theorem dX6_doAgree_1 : decode cX6_doAgree 1 = .ok (.getfield 7, 3) := by decide +kernel
theorem dX6_doAgree_4 : decode cX6_doAgree 4 = .ok (.bipush 13, 2) := by decide +kernel
theorem dX6_doAgree_6 : decode cX6_doAgree 6 = .ok (.iaload, 1) := by decide +kernel
theorem dX6_doAgree_7 : decode cX6_doAgree 7 = .ok (.ifCond .eq 14, 3) := by decide +kernel
theorem dX6_doAgree_10 : decode cX6_doAgree 10 = .ok (.aload_n 0, 1) := by decide +kernel
theorem dX6_doAgree_11 : decode cX6_doAgree 11 = .ok (.getfield 7, 3) := by decide +kernel
theorem dX6_doAgree_14 : decode cX6_doAgree 14 = .ok (.sipush 1523, 3) := by decide +kernel
theorem dX6_doAgree_17 : decode cX6_doAgree 17 = .ok (.iaload, 1) := by decide +kernel
theorem dX6_doAgree_18 : decode cX6_doAgree 18 = .ok (.ifCond .ne 5, 3) := by decide +kernel
theorem dX6_doAgree_21 : decode cX6_doAgree 21 = .ok (.iconst 1, 1) := by decide +kernel
theorem dX6_doAgree_22 : decode cX6_doAgree 22 = .ok (.ireturn, 1) := by decide +kernel
theorem dX6_doAgree_23 : decode cX6_doAgree 23 = .ok (.aload_n 0, 1) := by decide +kernel
theorem dX6_doAgree_24 : decode cX6_doAgree 24 = .ok (.getfield 7, 3) := by decide +kernel
theorem dX6_doAgree_27 : decode cX6_doAgree 27 = .ok (.iconst 1, 1) := by decide +kernel
theorem dX6_doAgree_28 : decode cX6_doAgree 28 = .ok (.iaload, 1) := by decide +kernel
theorem dX6_doAgree_29 : decode cX6_doAgree 29 = .ok (.istore_n 1, 1) := by decide +kernel
theorem dX6_doAgree_30 : decode cX6_doAgree 30 = .ok (.aload_n 0, 1) := by decide +kernel
theorem dX6_doAgree_31 : decode cX6_doAgree 31 = .ok (.getfield 7, 3) := by decide +kernel
theorem dX6_doAgree_34 : decode cX6_doAgree 34 = .ok (.sipush 1511, 3) := by decide +kernel
theorem dX6_doAgree_37 : decode cX6_doAgree 37 = .ok (.iaload, 1) := by decide +kernel
theorem dX6_doAgree_38 : decode cX6_doAgree 38 = .ok (.istore_n 2, 1) := by decide +kernel
theorem dX6_doAgree_39 : decode cX6_doAgree 39 = .ok (.aload_n 0, 1) := by decide +kernel
theorem dX6_doAgree_40 : decode cX6_doAgree 40 = .ok (.getfield 7, 3) := by decide +kernel
theorem dX6_doAgree_43 : decode cX6_doAgree 43 = .ok (.bipush 6, 2) := by decide +kernel
theorem dX6_doAgree_45 : decode cX6_doAgree 45 = .ok (.iaload, 1) := by decide +kernel
theorem dX6_doAgree_46 : decode cX6_doAgree 46 = .ok (.aload_n 0, 1) := by decide +kernel
theorem dX6_doAgree_47 : decode cX6_doAgree 47 = .ok (.getfield 7, 3) := by decide +kernel
theorem dX6_doAgree_50 : decode cX6_doAgree 50 = .ok (.bipush 14, 2) := by decide +kernel
theorem dX6_doAgree_52 : decode cX6_doAgree 52 = .ok (.iaload, 1) := by decide +kernel
theorem dX6_doAgree_53 : decode cX6_doAgree 53 = .ok (.isub, 1) := by decide +kernel
theorem dX6_doAgree_54 : decode cX6_doAgree 54 = .ok (.iload_n 2, 1) := by decide +kernel
theorem dX6_doAgree_55 : decode cX6_doAgree 55 = .ok (.imul, 1) := by decide +kernel
theorem dX6_doAgree_56 : decode cX6_doAgree 56 = .ok (.aload_n 0, 1) := by decide +kernel
theorem dX6_doAgree_57 : decode cX6_doAgree 57 = .ok (.getfield 7, 3) := by decide +kernel
theorem dX6_doAgree_60 : decode cX6_doAgree 60 = .ok (.sipush 1516, 3) := by decide +kernel
theorem dX6_doAgree_63 : decode cX6_doAgree 63 = .ok (.iaload, 1) := by decide +kernel
theorem dX6_doAgree_64 : decode cX6_doAgree 64 = .ok (.aload_n 0, 1) := by decide +kernel
theorem dX6_doAgree_65 : decode cX6_doAgree 65 = .ok (.getfield 7, 3) := by decide +kernel
theorem dX6_doAgree_68 : decode cX6_doAgree 68 = .ok (.sipush 1524, 3) := by decide +kernel
theorem dX6_doAgree_71 : decode cX6_doAgree 71 = .ok (.iaload, 1) := by decide +kernel
theorem dX6_doAgree_72 : decode cX6_doAgree 72 = .ok (.isub, 1) := by decide +kernel
theorem dX6_doAgree_73 : decode cX6_doAgree 73 = .ok (.iload_n 1, 1) := by decide +kernel
theorem dX6_doAgree_74 : decode cX6_doAgree 74 = .ok (.imul, 1) := by decide +kernel
theorem dX6_doAgree_75 : decode cX6_doAgree 75 = .ok (.isub, 1) := by decide +kernel
theorem dX6_doAgree_76 : decode cX6_doAgree 76 = .ok (.istore_n 3, 1) := by decide +kernel
theorem dX6_doAgree_77 : decode cX6_doAgree 77 = .ok (.iload_n 3, 1) := by decide +kernel
theorem dX6_doAgree_78 : decode cX6_doAgree 78 = .ok (.iload_n 1, 1) := by decide +kernel
theorem dX6_doAgree_79 : decode cX6_doAgree 79 = .ok (.iload_n 2, 1) := by decide +kernel
theorem dX6_doAgree_80 : decode cX6_doAgree 80 = .ok (.iadd, 1) := by decide +kernel
theorem dX6_doAgree_81 : decode cX6_doAgree 81 = .ok (.if_icmp .gt 15, 3) := by decide +kernel
theorem dX6_doAgree_84 : decode cX6_doAgree 84 = .ok (.iload_n 3, 1) := by decide +kernel
theorem dX6_doAgree_85 : decode cX6_doAgree 85 = .ok (.ineg, 1) := by decide +kernel
theorem dX6_doAgree_86 : decode cX6_doAgree 86 = .ok (.iload_n 1, 1) := by decide +kernel
theorem dX6_doAgree_87 : decode cX6_doAgree 87 = .ok (.iload_n 2, 1) := by decide +kernel
theorem dX6_doAgree_88 : decode cX6_doAgree 88 = .ok (.iadd, 1) := by decide +kernel
theorem dX6_doAgree_89 : decode cX6_doAgree 89 = .ok (.if_icmp .gt 7, 3) := by decide +kernel
theorem dX6_doAgree_92 : decode cX6_doAgree 92 = .ok (.iconst 1, 1) := by decide +kernel
theorem dX6_doAgree_93 : decode cX6_doAgree 93 = .ok (.goto 4, 3) := by decide +kernel
theorem dX6_doAgree_96 : decode cX6_doAgree 96 = .ok (.iconst 0, 1) := by decide +kernel
theorem dX6_doAgree_97 : decode cX6_doAgree 97 = .ok (.ireturn, 1) := by decide +kernel
set_option maxRecDepth 20000 in
theorem ggX6_one_X6_read : GoodIn wsX6_one wsX6_read := goodIn_r _ [7, 8, 9, 10, 6, 11, 12, 13, 14, 15, 1, 16, 17, 18, 19, 20, 21, 22, 23, 24, 25, 26, 27, 28, 29, 30, 35, 36, 37, 38, 39, 40, 41, 42, 43] (by decide +kernel) (by decide +kernel)
set_option maxRecDepth 20000 in
theorem gX6_one_X6_read : GoodIn wsX6_one (wsV RX6 62 RX6 yX6_read wsX6_read) := goodIn_app (goodIn_of _ (by decide +kernel)) ggX6_one_X6_read
set_option maxRecDepth 20000 in
theorem ggX6_one_X6_doAgree : GoodIn wsX6_one wsX6_doAgree := goodIn_r _ [34, 8, 35, 36, 37, 38, 39, 40, 41, 42, 43] (by decide +kernel) (by decide +kernel)
set_option maxRecDepth 20000 in
theorem gX6_one_X6_doAgree : GoodIn wsX6_one (wsV RX6 65 RX6 yX6_doAgree wsX6_doAgree) := goodIn_app (goodIn_of _ (by decide +kernel)) ggX6_one_X6_doAgree
theorem dX6_one_0 : decode cX6_one 0 = .ok (.aload_n 0, 1) := by decide +kernel
theorem dX6_one_1 : decode cX6_one 1 = .ok (.dup, 1) := by decide +kernel
theorem dX6_one_2 : decode cX6_one 2 = .ok (.getfield 37, 3) := by decide +kernel
theorem dX6_one_5 : decode cX6_one 5 = .ok (.iconst 1, 1) := by decide +kernel
theorem dX6_one_6 : decode cX6_one 6 = .ok (.iadd, 1) := by decide +kernel
theorem dX6_one_7 : decode cX6_one 7 = .ok (.putfield 37, 3) := by decide +kernel
theorem dX6_one_10 : decode cX6_one 10 = .ok (.aload_n 0, 1) := by decide +kernel
theorem dX6_one_11 : decode cX6_one 11 = .ok (.iconst 0, 1) := by decide +kernel
theorem dX6_one_12 : decode cX6_one 12 = .ok (.iload_n 1, 1) := by decide +kernel
theorem dX6_one_13 : decode cX6_one 13 = .ok (.invokevirtual 62, 3) := by decide +kernel
theorem dX6_one_16 : decode cX6_one 16 = .ok (.aload_n 0, 1) := by decide +kernel
theorem dX6_one_17 : decode cX6_one 17 = .ok (.iconst 1, 1) := by decide +kernel
theorem dX6_one_18 : decode cX6_one 18 = .ok (.iload_n 2, 1) := by decide +kernel
theorem dX6_one_19 : decode cX6_one 19 = .ok (.invokevirtual 62, 3) := by decide +kernel
theorem dX6_one_22 : decode cX6_one 22 = .ok (.aload_n 0, 1) := by decide +kernel
theorem dX6_one_23 : decode cX6_one 23 = .ok (.invokevirtual 65, 3) := by decide +kernel
theorem dX6_one_26 : decode cX6_one 26 = .ok (.ifCond .eq 11, 3) := by decide +kernel
theorem dX6_one_29 : decode cX6_one 29 = .ok (.aload_n 0, 1) := by decide +kernel
theorem dX6_one_30 : decode cX6_one 30 = .ok (.iconst (-1), 1) := by decide +kernel
theorem dX6_one_31 : decode cX6_one 31 = .ok (.putfield 22, 3) := by decide +kernel
theorem dX6_one_34 : decode cX6_one 34 = .ok (.goto 19, 3) := by decide +kernel
theorem dX6_one_37 : decode cX6_one 37 = .ok (.aload_n 0, 1) := by decide +kernel
theorem dX6_one_38 : decode cX6_one 38 = .ok (.getfield 22, 3) := by decide +kernel
theorem dX6_one_41 : decode cX6_one 41 = .ok (.iconst (-1), 1) := by decide +kernel
theorem dX6_one_42 : decode cX6_one 42 = .ok (.if_icmp .ne 11, 3) := by decide +kernel
theorem dX6_one_45 : decode cX6_one 45 = .ok (.aload_n 0, 1) := by decide +kernel
theorem dX6_one_46 : decode cX6_one 46 = .ok (.aload_n 0, 1) := by decide +kernel
theorem dX6_one_47 : decode cX6_one 47 = .ok (.getfield 37, 3) := by decide +kernel
theorem dX6_one_50 : decode cX6_one 50 = .ok (.putfield 22, 3) := by decide +kernel
theorem dX6_one_53 : decode cX6_one 53 = .ok (.return_, 1) := by decide +kernel
set_option maxRecDepth 20000 in
theorem ggX6_tick_X6_one : GoodIn wsX6_tick wsX6_one := goodIn_r _ [7, 1, 8, 9, 10, 11, 6, 12, 13, 14, 15, 16, 17, 18, 19, 20, 21, 22, 23, 24, 25, 26, 27, 28, 29, 30, 31, 32, 33, 34, 35, 36, 37, 38, 39, 40, 41, 42, 43, 44, 45, 46, 47, 48] (by decide +kernel) (by decide +kernel)
set_option maxRecDepth 20000 in
theorem gX6_tick_X6_one : GoodIn wsX6_tick (wsV RX6 70 RX6 yX6_one wsX6_one) := goodIn_app (goodIn_of _ (by decide +kernel)) ggX6_tick_X6_one
theorem dX6_tick_0 : decode cX6_tick 0 = .ok (.iload_n 1, 1) := by decide +kernel
theorem dX6_tick_1 : decode cX6_tick 1 = .ok (.ifCond .lt 41, 3) := by decide +kernel
theorem dX6_tick_4 : decode cX6_tick 4 = .ok (.iload_n 1, 1) := by decide +kernel
theorem dX6_tick_5 : decode cX6_tick 5 = .ok (.sipush 2000, 3) := by decide +kernel
theorem dX6_tick_8 : decode cX6_tick 8 = .ok (.if_icmp .gt 34, 3) := by decide +kernel
theorem dX6_tick_11 : decode cX6_tick 11 = .ok (.iload_n 2, 1) := by decide +kernel
theorem dX6_tick_12 : decode cX6_tick 12 = .ok (.ifCond .lt 30, 3) := by decide +kernel
theorem dX6_tick_15 : decode cX6_tick 15 = .ok (.iload_n 2, 1) := by decide +kernel
theorem dX6_tick_16 : decode cX6_tick 16 = .ok (.bipush 7, 2) := by decide +kernel
theorem dX6_tick_18 : decode cX6_tick 18 = .ok (.if_icmp .gt 24, 3) := by decide +kernel
theorem dX6_tick_21 : decode cX6_tick 21 = .ok (.iload_n 3, 1) := by decide +kernel
theorem dX6_tick_22 : decode cX6_tick 22 = .ok (.ifCond .lt 20, 3) := by decide +kernel
theorem dX6_tick_25 : decode cX6_tick 25 = .ok (.iload_n 3, 1) := by decide +kernel
theorem dX6_tick_26 : decode cX6_tick 26 = .ok (.bipush 7, 2) := by decide +kernel
theorem dX6_tick_28 : decode cX6_tick 28 = .ok (.if_icmp .gt 14, 3) := by decide +kernel
theorem dX6_tick_31 : decode cX6_tick 31 = .ok (.aload_n 0, 1) := by decide +kernel
theorem dX6_tick_32 : decode cX6_tick 32 = .ok (.getfield 37, 3) := by decide +kernel
theorem dX6_tick_35 : decode cX6_tick 35 = .ok (.iload_n 1, 1) := by decide +kernel
theorem dX6_tick_36 : decode cX6_tick 36 = .ok (.iadd, 1) := by decide +kernel
theorem dX6_tick_37 : decode cX6_tick 37 = .ok (.ldc 69, 2) := by decide +kernel
theorem dX6_tick_39 : decode cX6_tick 39 = .ok (.if_icmp .le 5, 3) := by decide +kernel
theorem dX6_tick_42 : decode cX6_tick 42 = .ok (.iconst (-1), 1) := by decide +kernel
theorem dX6_tick_43 : decode cX6_tick 43 = .ok (.ireturn, 1) := by decide +kernel
theorem dX6_tick_44 : decode cX6_tick 44 = .ok (.iconst 0, 1) := by decide +kernel
theorem dX6_tick_45 : decode cX6_tick 45 = .ok (.istore 4, 2) := by decide +kernel
theorem dX6_tick_47 : decode cX6_tick 47 = .ok (.iload 4, 2) := by decide +kernel
theorem dX6_tick_49 : decode cX6_tick 49 = .ok (.iload_n 1, 1) := by decide +kernel
theorem dX6_tick_50 : decode cX6_tick 50 = .ok (.if_icmp .ge 15, 3) := by decide +kernel
theorem dX6_tick_53 : decode cX6_tick 53 = .ok (.aload_n 0, 1) := by decide +kernel
theorem dX6_tick_54 : decode cX6_tick 54 = .ok (.iload_n 2, 1) := by decide +kernel
theorem dX6_tick_55 : decode cX6_tick 55 = .ok (.iload_n 3, 1) := by decide +kernel
theorem dX6_tick_56 : decode cX6_tick 56 = .ok (.invokevirtual 70, 3) := by decide +kernel
theorem dX6_tick_59 : decode cX6_tick 59 = .ok (.iinc 4 1, 3) := by decide +kernel
theorem dX6_tick_62 : decode cX6_tick 62 = .ok (.goto (-15), 3) := by decide +kernel
theorem dX6_tick_65 : decode cX6_tick 65 = .ok (.iload_n 1, 1) := by decide +kernel
theorem dX6_tick_66 : decode cX6_tick 66 = .ok (.ireturn, 1) := by decide +kernel
set_option maxRecDepth 20000 in
theorem ggX6_feed_X6_four : GoodIn wsX6_feed wsX6_four := goodIn_r _ [6, 7, 1, 8, 9, 10, 11, 12, 13, 14, 15, 16] (by decide +kernel) (by decide +kernel)
set_option maxRecDepth 20000 in
theorem gX6_feed_X6_four : GoodIn wsX6_feed (wsV RX6 76 RX6 yX6_four wsX6_four) := goodIn_app (goodIn_of _ (by decide +kernel)) ggX6_feed_X6_four
theorem dX6_feed_0 : decode cX6_feed 0 = .ok (.aload_n 0, 1) := by decide +kernel
theorem dX6_feed_1 : decode cX6_feed 1 = .ok (.getfield 73, 3) := by decide +kernel
theorem dX6_feed_4 : decode cX6_feed 4 = .ok (.bipush 20, 2) := by decide +kernel
theorem dX6_feed_6 : decode cX6_feed 6 = .ok (.iadd, 1) := by decide +kernel
theorem dX6_feed_7 : decode cX6_feed 7 = .ok (.sipush 2000, 3) := by decide +kernel
theorem dX6_feed_10 : decode cX6_feed 10 = .ok (.if_icmp .le 5, 3) := by decide +kernel
theorem dX6_feed_13 : decode cX6_feed 13 = .ok (.iconst (-1), 1) := by decide +kernel
theorem dX6_feed_14 : decode cX6_feed 14 = .ok (.ireturn, 1) := by decide +kernel
theorem dX6_feed_15 : decode cX6_feed 15 = .ok (.aload_n 0, 1) := by decide +kernel
theorem dX6_feed_16 : decode cX6_feed 16 = .ok (.iload_n 1, 1) := by decide +kernel
theorem dX6_feed_17 : decode cX6_feed 17 = .ok (.invokevirtual 76, 3) := by decide +kernel
theorem dX6_feed_20 : decode cX6_feed 20 = .ok (.aload_n 0, 1) := by decide +kernel
theorem dX6_feed_21 : decode cX6_feed 21 = .ok (.iload_n 2, 1) := by decide +kernel
theorem dX6_feed_22 : decode cX6_feed 22 = .ok (.invokevirtual 76, 3) := by decide +kernel
theorem dX6_feed_25 : decode cX6_feed 25 = .ok (.aload_n 0, 1) := by decide +kernel
theorem dX6_feed_26 : decode cX6_feed 26 = .ok (.iload_n 3, 1) := by decide +kernel
theorem dX6_feed_27 : decode cX6_feed 27 = .ok (.invokevirtual 76, 3) := by decide +kernel
theorem dX6_feed_30 : decode cX6_feed 30 = .ok (.aload_n 0, 1) := by decide +kernel
theorem dX6_feed_31 : decode cX6_feed 31 = .ok (.iload 4, 2) := by decide +kernel
theorem dX6_feed_33 : decode cX6_feed 33 = .ok (.invokevirtual 76, 3) := by decide +kernel
theorem dX6_feed_36 : decode cX6_feed 36 = .ok (.aload_n 0, 1) := by decide +kernel
theorem dX6_feed_37 : decode cX6_feed 37 = .ok (.iload 5, 2) := by decide +kernel
theorem dX6_feed_39 : decode cX6_feed 39 = .ok (.invokevirtual 76, 3) := by decide +kernel
theorem dX6_feed_42 : decode cX6_feed 42 = .ok (.aload_n 0, 1) := by decide +kernel
theorem dX6_feed_43 : decode cX6_feed 43 = .ok (.getfield 73, 3) := by decide +kernel
theorem dX6_feed_46 : decode cX6_feed 46 = .ok (.ireturn, 1) := by decide +kernel
theorem dX6_four_0 : decode cX6_four 0 = .ok (.bipush 24, 2) := by decide +kernel
theorem dX6_four_2 : decode cX6_four 2 = .ok (.istore_n 2, 1) := by decide +kernel
theorem dX6_four_3 : decode cX6_four 3 = .ok (.iload_n 2, 1) := by decide +kernel
theorem dX6_four_4 : decode cX6_four 4 = .ok (.ifCond .lt 35, 3) := by decide +kernel
theorem dX6_four_7 : decode cX6_four 7 = .ok (.aload_n 0, 1) := by decide +kernel
theorem dX6_four_8 : decode cX6_four 8 = .ok (.getfield 26, 3) := by decide +kernel
theorem dX6_four_11 : decode cX6_four 11 = .ok (.aload_n 0, 1) := by decide +kernel
theorem dX6_four_12 : decode cX6_four 12 = .ok (.getfield 73, 3) := by decide +kernel
theorem dX6_four_15 : decode cX6_four 15 = .ok (.iload_n 1, 1) := by decide +kernel
theorem dX6_four_16 : decode cX6_four 16 = .ok (.iload_n 2, 1) := by decide +kernel
theorem dX6_four_17 : decode cX6_four 17 = .ok (.ishr, 1) := by decide +kernel
theorem dX6_four_18 : decode cX6_four 18 = .ok (.sipush 255, 3) := by decide +kernel
theorem dX6_four_21 : decode cX6_four 21 = .ok (.iand, 1) := by decide +kernel
theorem dX6_four_22 : decode cX6_four 22 = .ok (.iastore, 1) := by decide +kernel
theorem dX6_four_23 : decode cX6_four 23 = .ok (.aload_n 0, 1) := by decide +kernel
theorem dX6_four_24 : decode cX6_four 24 = .ok (.dup, 1) := by decide +kernel
theorem dX6_four_25 : decode cX6_four 25 = .ok (.getfield 73, 3) := by decide +kernel
theorem dX6_four_28 : decode cX6_four 28 = .ok (.iconst 1, 1) := by decide +kernel
theorem dX6_four_29 : decode cX6_four 29 = .ok (.iadd, 1) := by decide +kernel
theorem dX6_four_30 : decode cX6_four 30 = .ok (.putfield 73, 3) := by decide +kernel
theorem dX6_four_33 : decode cX6_four 33 = .ok (.iinc 2 (-8), 3) := by decide +kernel
theorem dX6_four_36 : decode cX6_four 36 = .ok (.goto (-33), 3) := by decide +kernel
theorem dX6_four_39 : decode cX6_four 39 = .ok (.return_, 1) := by decide +kernel
set_option maxRecDepth 20000 in
theorem ggX6_play_X6_one : GoodIn wsX6_play wsX6_one := goodIn_r _ [9, 3, 10, 11, 12, 13, 8, 14, 15, 16, 17, 18, 19, 20, 21, 22, 23, 24, 25, 26, 27, 28, 29, 30, 31, 32, 33, 34, 35, 36, 37, 38, 39, 40, 41, 42, 43, 44, 45, 46, 47, 48, 49, 50] (by decide +kernel) (by decide +kernel)
set_option maxRecDepth 20000 in
theorem gX6_play_X6_one : GoodIn wsX6_play (wsV RX6 70 RX6 yX6_one wsX6_one) := goodIn_app (goodIn_of _ (by decide +kernel)) ggX6_play_X6_one
theorem dX6_play_0 : decode cX6_play 0 = .ok (.iload_n 1, 1) := by decide +kernel
theorem dX6_play_1 : decode cX6_play 1 = .ok (.ifCond .lt 11, 3) := by decide +kernel
theorem dX6_play_4 : decode cX6_play 4 = .ok (.iload_n 1, 1) := by decide +kernel
theorem dX6_play_5 : decode cX6_play 5 = .ok (.aload_n 0, 1) := by decide +kernel
theorem dX6_play_6 : decode cX6_play 6 = .ok (.getfield 73, 3) := by decide +kernel
theorem dX6_play_9 : decode cX6_play 9 = .ok (.if_icmp .le 5, 3) := by decide +kernel
theorem dX6_play_12 : decode cX6_play 12 = .ok (.iconst (-1), 1) := by decide +kernel
theorem dX6_play_13 : decode cX6_play 13 = .ok (.ireturn, 1) := by decide +kernel
theorem dX6_play_14 : decode cX6_play 14 = .ok (.aload_n 0, 1) := by decide +kernel
theorem dX6_play_15 : decode cX6_play 15 = .ok (.iconst 0, 1) := by decide +kernel
theorem dX6_play_16 : decode cX6_play 16 = .ok (.putfield 73, 3) := by decide +kernel
theorem dX6_play_19 : decode cX6_play 19 = .ok (.iconst 0, 1) := by decide +kernel
theorem dX6_play_20 : decode cX6_play 20 = .ok (.istore_n 2, 1) := by decide +kernel
theorem dX6_play_21 : decode cX6_play 21 = .ok (.iload_n 2, 1) := by decide +kernel
theorem dX6_play_22 : decode cX6_play 22 = .ok (.iload_n 1, 1) := by decide +kernel
theorem dX6_play_23 : decode cX6_play 23 = .ok (.if_icmp .ge 53, 3) := by decide +kernel
theorem dX6_play_26 : decode cX6_play 26 = .ok (.aload_n 0, 1) := by decide +kernel
theorem dX6_play_27 : decode cX6_play 27 = .ok (.getfield 26, 3) := by decide +kernel
theorem dX6_play_30 : decode cX6_play 30 = .ok (.iload_n 2, 1) := by decide +kernel
theorem dX6_play_31 : decode cX6_play 31 = .ok (.iaload, 1) := by decide +kernel
theorem dX6_play_32 : decode cX6_play 32 = .ok (.bipush 64, 2) := by decide +kernel
theorem dX6_play_34 : decode cX6_play 34 = .ok (.if_icmp .ge 42, 3) := by decide +kernel
theorem dX6_play_37 : decode cX6_play 37 = .ok (.aload_n 0, 1) := by decide +kernel
theorem dX6_play_38 : decode cX6_play 38 = .ok (.getfield 37, 3) := by decide +kernel
theorem dX6_play_41 : decode cX6_play 41 = .ok (.ldc 69, 2) := by decide +kernel
theorem dX6_play_43 : decode cX6_play 43 = .ok (.if_icmp .ge 33, 3) := by decide +kernel
theorem dX6_play_46 : decode cX6_play 46 = .ok (.aload_n 0, 1) := by decide +kernel
theorem dX6_play_47 : decode cX6_play 47 = .ok (.aload_n 0, 1) := by decide +kernel
theorem dX6_play_48 : decode cX6_play 48 = .ok (.getfield 26, 3) := by decide +kernel
theorem dX6_play_51 : decode cX6_play 51 = .ok (.iload_n 2, 1) := by decide +kernel
theorem dX6_play_52 : decode cX6_play 52 = .ok (.iaload, 1) := by decide +kernel
theorem dX6_play_53 : decode cX6_play 53 = .ok (.bipush 7, 2) := by decide +kernel
theorem dX6_play_55 : decode cX6_play 55 = .ok (.iand, 1) := by decide +kernel
theorem dX6_play_56 : decode cX6_play 56 = .ok (.aload_n 0, 1) := by decide +kernel
theorem dX6_play_57 : decode cX6_play 57 = .ok (.getfield 26, 3) := by decide +kernel
theorem dX6_play_60 : decode cX6_play 60 = .ok (.iload_n 2, 1) := by decide +kernel
theorem dX6_play_61 : decode cX6_play 61 = .ok (.iaload, 1) := by decide +kernel
theorem dX6_play_62 : decode cX6_play 62 = .ok (.iconst 3, 1) := by decide +kernel
theorem dX6_play_63 : decode cX6_play 63 = .ok (.ishr, 1) := by decide +kernel
theorem dX6_play_64 : decode cX6_play 64 = .ok (.bipush 7, 2) := by decide +kernel
theorem dX6_play_66 : decode cX6_play 66 = .ok (.iand, 1) := by decide +kernel
theorem dX6_play_67 : decode cX6_play 67 = .ok (.invokevirtual 70, 3) := by decide +kernel
theorem dX6_play_70 : decode cX6_play 70 = .ok (.iinc 2 1, 3) := by decide +kernel
theorem dX6_play_73 : decode cX6_play 73 = .ok (.goto (-52), 3) := by decide +kernel
theorem dX6_play_76 : decode cX6_play 76 = .ok (.iload_n 2, 1) := by decide +kernel
theorem dX6_play_77 : decode cX6_play 77 = .ok (.ireturn, 1) := by decide +kernel
set_option maxRecDepth 20000 in
theorem ggX6_of_X6_isReader : GoodIn wsX6_of wsX6_isReader := goodIn_r _ [6] (by decide +kernel) (by decide +kernel)
set_option maxRecDepth 20000 in
theorem gX6_of_X6_isReader : GoodIn wsX6_of (va_wsS RX6 29 yX6_isReader wsX6_isReader) := goodIn_app (goodIn_of _ (by decide +kernel)) ggX6_of_X6_isReader
set_option maxRecDepth 20000 in
theorem ggX6_of_X6_phaseOf : GoodIn wsX6_of wsX6_phaseOf := goodIn_r _ [9] (by decide +kernel) (by decide +kernel)
set_option maxRecDepth 20000 in
theorem gX6_of_X6_phaseOf : GoodIn wsX6_of (va_wsS RX6 51 yX6_phaseOf wsX6_phaseOf) := goodIn_app (goodIn_of _ (by decide +kernel)) ggX6_of_X6_phaseOf
theorem dX6_of_0 : decode cX6_of 0 = .ok (.iload_n 1, 1) := by decide +kernel
theorem dX6_of_1 : decode cX6_of 1 = .ok (.invokestatic 29, 3) := by decide +kernel
theorem dX6_of_4 : decode cX6_of 4 = .ok (.ifCond .ne 6, 3) := by decide +kernel
theorem dX6_of_7 : decode cX6_of 7 = .ok (.ldc 79, 2) := by decide +kernel
theorem dX6_of_9 : decode cX6_of 9 = .ok (.ireturn, 1) := by decide +kernel
theorem dX6_of_10 : decode cX6_of 10 = .ok (.sipush 1510, 3) := by decide +kernel
theorem dX6_of_13 : decode cX6_of 13 = .ok (.iload_n 1, 1) := by decide +kernel
theorem dX6_of_14 : decode cX6_of 14 = .ok (.imul, 1) := by decide +kernel
theorem dX6_of_15 : decode cX6_of 15 = .ok (.istore_n 3, 1) := by decide +kernel
theorem dX6_of_16 : decode cX6_of 16 = .ok (.iload_n 2, 1) := by decide +kernel
theorem dX6_of_17 : decode cX6_of 17 = .ok (.tableswitch 182 0 11 #[63, 73, 83, 93, 105, 114, 123, 132, 142, 152, 162, 172], 63) := by decide +kernel
theorem dX6_of_80 : decode cX6_of 80 = .ok (.aload_n 0, 1) := by decide +kernel
theorem dX6_of_81 : decode cX6_of 81 = .ok (.getfield 7, 3) := by decide +kernel
theorem dX6_of_84 : decode cX6_of 84 = .ok (.iload_n 3, 1) := by decide +kernel
theorem dX6_of_85 : decode cX6_of 85 = .ok (.bipush 6, 2) := by decide +kernel
theorem dX6_of_87 : decode cX6_of 87 = .ok (.iadd, 1) := by decide +kernel
theorem dX6_of_88 : decode cX6_of 88 = .ok (.iaload, 1) := by decide +kernel
theorem dX6_of_89 : decode cX6_of 89 = .ok (.ireturn, 1) := by decide +kernel
theorem dX6_of_90 : decode cX6_of 90 = .ok (.aload_n 0, 1) := by decide +kernel
theorem dX6_of_91 : decode cX6_of 91 = .ok (.getfield 7, 3) := by decide +kernel
theorem dX6_of_94 : decode cX6_of 94 = .ok (.iload_n 3, 1) := by decide +kernel
theorem dX6_of_95 : decode cX6_of 95 = .ok (.bipush 7, 2) := by decide +kernel
theorem dX6_of_97 : decode cX6_of 97 = .ok (.iadd, 1) := by decide +kernel
theorem dX6_of_98 : decode cX6_of 98 = .ok (.iaload, 1) := by decide +kernel
theorem dX6_of_99 : decode cX6_of 99 = .ok (.ireturn, 1) := by decide +kernel
theorem dX6_of_100 : decode cX6_of 100 = .ok (.aload_n 0, 1) := by decide +kernel
theorem dX6_of_101 : decode cX6_of 101 = .ok (.getfield 7, 3) := by decide +kernel
theorem dX6_of_104 : decode cX6_of 104 = .ok (.iload_n 3, 1) := by decide +kernel
theorem dX6_of_105 : decode cX6_of 105 = .ok (.bipush 8, 2) := by decide +kernel
theorem dX6_of_107 : decode cX6_of 107 = .ok (.iadd, 1) := by decide +kernel
theorem dX6_of_108 : decode cX6_of 108 = .ok (.iaload, 1) := by decide +kernel
theorem dX6_of_109 : decode cX6_of 109 = .ok (.ireturn, 1) := by decide +kernel
theorem dX6_of_110 : decode cX6_of 110 = .ok (.aload_n 0, 1) := by decide +kernel
theorem dX6_of_111 : decode cX6_of 111 = .ok (.getfield 7, 3) := by decide +kernel
theorem dX6_of_114 : decode cX6_of 114 = .ok (.iload_n 3, 1) := by decide +kernel
theorem dX6_of_115 : decode cX6_of 115 = .ok (.iconst 2, 1) := by decide +kernel
theorem dX6_of_116 : decode cX6_of 116 = .ok (.iadd, 1) := by decide +kernel
theorem dX6_of_117 : decode cX6_of 117 = .ok (.iaload, 1) := by decide +kernel
theorem dX6_of_118 : decode cX6_of 118 = .ok (.invokestatic 51, 3) := by decide +kernel
theorem dX6_of_121 : decode cX6_of 121 = .ok (.ireturn, 1) := by decide +kernel
theorem dX6_of_122 : decode cX6_of 122 = .ok (.aload_n 0, 1) := by decide +kernel
theorem dX6_of_123 : decode cX6_of 123 = .ok (.getfield 7, 3) := by decide +kernel
theorem dX6_of_126 : decode cX6_of 126 = .ok (.iload_n 3, 1) := by decide +kernel
theorem dX6_of_127 : decode cX6_of 127 = .ok (.iconst 2, 1) := by decide +kernel
theorem dX6_of_128 : decode cX6_of 128 = .ok (.iadd, 1) := by decide +kernel
theorem dX6_of_129 : decode cX6_of 129 = .ok (.iaload, 1) := by decide +kernel
theorem dX6_of_130 : decode cX6_of 130 = .ok (.ireturn, 1) := by decide +kernel
theorem dX6_of_131 : decode cX6_of 131 = .ok (.aload_n 0, 1) := by decide +kernel
theorem dX6_of_132 : decode cX6_of 132 = .ok (.getfield 7, 3) := by decide +kernel
theorem dX6_of_135 : decode cX6_of 135 = .ok (.iload_n 3, 1) := by decide +kernel
theorem dX6_of_136 : decode cX6_of 136 = .ok (.iconst 0, 1) := by decide +kernel
theorem dX6_of_137 : decode cX6_of 137 = .ok (.iadd, 1) := by decide +kernel
theorem dX6_of_138 : decode cX6_of 138 = .ok (.iaload, 1) := by decide +kernel
theorem dX6_of_139 : decode cX6_of 139 = .ok (.ireturn, 1) := by decide +kernel
theorem dX6_of_140 : decode cX6_of 140 = .ok (.aload_n 0, 1) := by decide +kernel
theorem dX6_of_141 : decode cX6_of 141 = .ok (.getfield 7, 3) := by decide +kernel
theorem dX6_of_144 : decode cX6_of 144 = .ok (.iload_n 3, 1) := by decide +kernel
theorem dX6_of_145 : decode cX6_of 145 = .ok (.iconst 1, 1) := by decide +kernel
theorem dX6_of_146 : decode cX6_of 146 = .ok (.iadd, 1) := by decide +kernel
theorem dX6_of_147 : decode cX6_of 147 = .ok (.iaload, 1) := by decide +kernel
theorem dX6_of_148 : decode cX6_of 148 = .ok (.ireturn, 1) := by decide +kernel
theorem dX6_of_149 : decode cX6_of 149 = .ok (.aload_n 0, 1) := by decide +kernel
theorem dX6_of_150 : decode cX6_of 150 = .ok (.getfield 7, 3) := by decide +kernel
theorem dX6_of_153 : decode cX6_of 153 = .ok (.iload_n 3, 1) := by decide +kernel
theorem dX6_of_154 : decode cX6_of 154 = .ok (.bipush 9, 2) := by decide +kernel
theorem dX6_of_156 : decode cX6_of 156 = .ok (.iadd, 1) := by decide +kernel
theorem dX6_of_157 : decode cX6_of 157 = .ok (.iaload, 1) := by decide +kernel
theorem dX6_of_158 : decode cX6_of 158 = .ok (.ireturn, 1) := by decide +kernel
theorem dX6_of_159 : decode cX6_of 159 = .ok (.aload_n 0, 1) := by decide +kernel
theorem dX6_of_160 : decode cX6_of 160 = .ok (.getfield 7, 3) := by decide +kernel
theorem dX6_of_163 : decode cX6_of 163 = .ok (.iload_n 3, 1) := by decide +kernel
theorem dX6_of_164 : decode cX6_of 164 = .ok (.bipush 10, 2) := by decide +kernel
theorem dX6_of_166 : decode cX6_of 166 = .ok (.iadd, 1) := by decide +kernel
theorem dX6_of_167 : decode cX6_of 167 = .ok (.iaload, 1) := by decide +kernel
theorem dX6_of_168 : decode cX6_of 168 = .ok (.ireturn, 1) := by decide +kernel
theorem dX6_of_169 : decode cX6_of 169 = .ok (.aload_n 0, 1) := by decide +kernel
theorem dX6_of_170 : decode cX6_of 170 = .ok (.getfield 7, 3) := by decide +kernel
theorem dX6_of_173 : decode cX6_of 173 = .ok (.iload_n 3, 1) := by decide +kernel
theorem dX6_of_174 : decode cX6_of 174 = .ok (.bipush 11, 2) := by decide +kernel
theorem dX6_of_176 : decode cX6_of 176 = .ok (.iadd, 1) := by decide +kernel
theorem dX6_of_177 : decode cX6_of 177 = .ok (.iaload, 1) := by decide +kernel
theorem dX6_of_178 : decode cX6_of 178 = .ok (.ireturn, 1) := by decide +kernel
theorem dX6_of_179 : decode cX6_of 179 = .ok (.aload_n 0, 1) := by decide +kernel
theorem dX6_of_180 : decode cX6_of 180 = .ok (.getfield 7, 3) := by decide +kernel
theorem dX6_of_183 : decode cX6_of 183 = .ok (.iload_n 3, 1) := by decide +kernel
theorem dX6_of_184 : decode cX6_of 184 = .ok (.bipush 12, 2) := by decide +kernel
theorem dX6_of_186 : decode cX6_of 186 = .ok (.iadd, 1) := by decide +kernel
theorem dX6_of_187 : decode cX6_of 187 = .ok (.iaload, 1) := by decide +kernel
theorem dX6_of_188 : decode cX6_of 188 = .ok (.ireturn, 1) := by decide +kernel
theorem dX6_of_189 : decode cX6_of 189 = .ok (.aload_n 0, 1) := by decide +kernel
theorem dX6_of_190 : decode cX6_of 190 = .ok (.getfield 7, 3) := by decide +kernel
theorem dX6_of_193 : decode cX6_of 193 = .ok (.iload_n 3, 1) := by decide +kernel
theorem dX6_of_194 : decode cX6_of 194 = .ok (.bipush 13, 2) := by decide +kernel
theorem dX6_of_196 : decode cX6_of 196 = .ok (.iadd, 1) := by decide +kernel
theorem dX6_of_197 : decode cX6_of 197 = .ok (.iaload, 1) := by decide +kernel
theorem dX6_of_198 : decode cX6_of 198 = .ok (.ireturn, 1) := by decide +kernel
theorem dX6_of_199 : decode cX6_of 199 = .ok (.ldc 79, 2) := by decide +kernel
theorem dX6_of_201 : decode cX6_of 201 = .ok (.ireturn, 1) := by decide +kernel
set_option maxRecDepth 20000 in
theorem ggX6_origin_X6_isReader : GoodIn wsX6_origin wsX6_isReader := goodIn_r _ [6] (by decide +kernel) (by decide +kernel)
set_option maxRecDepth 20000 in
theorem gX6_origin_X6_isReader : GoodIn wsX6_origin (va_wsS RX6 29 yX6_isReader wsX6_isReader) := goodIn_app (goodIn_of _ (by decide +kernel)) ggX6_origin_X6_isReader
theorem dX6_origin_0 : decode cX6_origin 0 = .ok (.iload_n 1, 1) := by decide +kernel
theorem dX6_origin_1 : decode cX6_origin 1 = .ok (.invokestatic 29, 3) := by decide +kernel
theorem dX6_origin_4 : decode cX6_origin 4 = .ok (.ifCond .eq 36, 3) := by decide +kernel
theorem dX6_origin_7 : decode cX6_origin 7 = .ok (.aload_n 0, 1) := by decide +kernel
theorem dX6_origin_8 : decode cX6_origin 8 = .ok (.getfield 7, 3) := by decide +kernel
theorem dX6_origin_11 : decode cX6_origin 11 = .ok (.sipush 1510, 3) := by decide +kernel
theorem dX6_origin_14 : decode cX6_origin 14 = .ok (.iload_n 1, 1) := by decide +kernel
theorem dX6_origin_15 : decode cX6_origin 15 = .ok (.imul, 1) := by decide +kernel
theorem dX6_origin_16 : decode cX6_origin 16 = .ok (.bipush 13, 2) := by decide +kernel
theorem dX6_origin_18 : decode cX6_origin 18 = .ok (.iadd, 1) := by decide +kernel
theorem dX6_origin_19 : decode cX6_origin 19 = .ok (.iaload, 1) := by decide +kernel
theorem dX6_origin_20 : decode cX6_origin 20 = .ok (.iconst 1, 1) := by decide +kernel
theorem dX6_origin_21 : decode cX6_origin 21 = .ok (.if_icmp .ne 19, 3) := by decide +kernel
theorem dX6_origin_24 : decode cX6_origin 24 = .ok (.aload_n 0, 1) := by decide +kernel
theorem dX6_origin_25 : decode cX6_origin 25 = .ok (.getfield 7, 3) := by decide +kernel
theorem dX6_origin_28 : decode cX6_origin 28 = .ok (.sipush 1510, 3) := by decide +kernel
theorem dX6_origin_31 : decode cX6_origin 31 = .ok (.iload_n 1, 1) := by decide +kernel
theorem dX6_origin_32 : decode cX6_origin 32 = .ok (.imul, 1) := by decide +kernel
theorem dX6_origin_33 : decode cX6_origin 33 = .ok (.bipush 14, 2) := by decide +kernel
theorem dX6_origin_35 : decode cX6_origin 35 = .ok (.iadd, 1) := by decide +kernel
theorem dX6_origin_36 : decode cX6_origin 36 = .ok (.iaload, 1) := by decide +kernel
theorem dX6_origin_37 : decode cX6_origin 37 = .ok (.goto 5, 3) := by decide +kernel
theorem dX6_origin_40 : decode cX6_origin 40 = .ok (.ldc 79, 2) := by decide +kernel
theorem dX6_origin_42 : decode cX6_origin 42 = .ok (.ireturn, 1) := by decide +kernel
set_option maxRecDepth 20000 in
theorem ggX6_event__X6_isReader : GoodIn wsX6_event_ wsX6_isReader := goodIn_r _ [6] (by decide +kernel) (by decide +kernel)
set_option maxRecDepth 20000 in
theorem gX6_event__X6_isReader : GoodIn wsX6_event_ (va_wsS RX6 29 yX6_isReader wsX6_isReader) := goodIn_app (goodIn_of _ (by decide +kernel)) ggX6_event__X6_isReader
set_option maxRecDepth 20000 in
theorem ggX6_event__X6_latest : GoodIn wsX6_event_ wsX6_latest := goodIn_r _ [10, 2, 11, 12, 13, 14, 15, 16, 17, 18, 19] (by decide +kernel) (by decide +kernel)
set_option maxRecDepth 20000 in
theorem gX6_event__X6_latest : GoodIn wsX6_event_ (wsV RX6 48 RX6 yX6_latest wsX6_latest) := goodIn_app (goodIn_of _ (by decide +kernel)) ggX6_event__X6_latest
theorem dX6_event__0 : decode cX6_event_ 0 = .ok (.iload_n 1, 1) := by decide +kernel
theorem dX6_event__1 : decode cX6_event_ 1 = .ok (.invokestatic 29, 3) := by decide +kernel
theorem dX6_event__4 : decode cX6_event_ 4 = .ok (.ifCond .ne 6, 3) := by decide +kernel
theorem dX6_event__7 : decode cX6_event_ 7 = .ok (.ldc 79, 2) := by decide +kernel
theorem dX6_event__9 : decode cX6_event_ 9 = .ok (.ireturn, 1) := by decide +kernel
theorem dX6_event__10 : decode cX6_event_ 10 = .ok (.sipush 1510, 3) := by decide +kernel
theorem dX6_event__13 : decode cX6_event_ 13 = .ok (.iload_n 1, 1) := by decide +kernel
theorem dX6_event__14 : decode cX6_event_ 14 = .ok (.imul, 1) := by decide +kernel
theorem dX6_event__15 : decode cX6_event_ 15 = .ok (.istore 4, 2) := by decide +kernel
theorem dX6_event__17 : decode cX6_event_ 17 = .ok (.aload_n 0, 1) := by decide +kernel
theorem dX6_event__18 : decode cX6_event_ 18 = .ok (.iload 4, 2) := by decide +kernel
theorem dX6_event__20 : decode cX6_event_ 20 = .ok (.iload_n 2, 1) := by decide +kernel
theorem dX6_event__21 : decode cX6_event_ 21 = .ok (.invokevirtual 48, 3) := by decide +kernel
theorem dX6_event__24 : decode cX6_event_ 24 = .ok (.istore 5, 2) := by decide +kernel
theorem dX6_event__26 : decode cX6_event_ 26 = .ok (.iload 5, 2) := by decide +kernel
theorem dX6_event__28 : decode cX6_event_ 28 = .ok (.ifCond .ge 6, 3) := by decide +kernel
theorem dX6_event__31 : decode cX6_event_ 31 = .ok (.ldc 79, 2) := by decide +kernel
theorem dX6_event__33 : decode cX6_event_ 33 = .ok (.ireturn, 1) := by decide +kernel
theorem dX6_event__34 : decode cX6_event_ 34 = .ok (.iload_n 3, 1) := by decide +kernel
theorem dX6_event__35 : decode cX6_event_ 35 = .ok (.ifCond .ne 19, 3) := by decide +kernel
theorem dX6_event__38 : decode cX6_event_ 38 = .ok (.aload_n 0, 1) := by decide +kernel
theorem dX6_event__39 : decode cX6_event_ 39 = .ok (.getfield 7, 3) := by decide +kernel
theorem dX6_event__42 : decode cX6_event_ 42 = .ok (.iload 4, 2) := by decide +kernel
theorem dX6_event__44 : decode cX6_event_ 44 = .ok (.bipush 20, 2) := by decide +kernel
theorem dX6_event__46 : decode cX6_event_ 46 = .ok (.iadd, 1) := by decide +kernel
theorem dX6_event__47 : decode cX6_event_ 47 = .ok (.iload 5, 2) := by decide +kernel
theorem dX6_event__49 : decode cX6_event_ 49 = .ok (.iadd, 1) := by decide +kernel
theorem dX6_event__50 : decode cX6_event_ 50 = .ok (.iaload, 1) := by decide +kernel
theorem dX6_event__51 : decode cX6_event_ 51 = .ok (.goto 49, 3) := by decide +kernel
theorem dX6_event__54 : decode cX6_event_ 54 = .ok (.iload_n 3, 1) := by decide +kernel
theorem dX6_event__55 : decode cX6_event_ 55 = .ok (.iconst 1, 1) := by decide +kernel
theorem dX6_event__56 : decode cX6_event_ 56 = .ok (.if_icmp .ne 20, 3) := by decide +kernel
theorem dX6_event__59 : decode cX6_event_ 59 = .ok (.aload_n 0, 1) := by decide +kernel
theorem dX6_event__60 : decode cX6_event_ 60 = .ok (.getfield 7, 3) := by decide +kernel
theorem dX6_event__63 : decode cX6_event_ 63 = .ok (.iload 4, 2) := by decide +kernel
theorem dX6_event__65 : decode cX6_event_ 65 = .ok (.sipush 320, 3) := by decide +kernel
theorem dX6_event__68 : decode cX6_event_ 68 = .ok (.iadd, 1) := by decide +kernel
theorem dX6_event__69 : decode cX6_event_ 69 = .ok (.iload 5, 2) := by decide +kernel
theorem dX6_event__71 : decode cX6_event_ 71 = .ok (.iadd, 1) := by decide +kernel
theorem dX6_event__72 : decode cX6_event_ 72 = .ok (.iaload, 1) := by decide +kernel
theorem dX6_event__73 : decode cX6_event_ 73 = .ok (.goto 27, 3) := by decide +kernel
theorem dX6_event__76 : decode cX6_event_ 76 = .ok (.iload_n 3, 1) := by decide +kernel
theorem dX6_event__77 : decode cX6_event_ 77 = .ok (.iconst 2, 1) := by decide +kernel
theorem dX6_event__78 : decode cX6_event_ 78 = .ok (.if_icmp .ne 20, 3) := by decide +kernel
theorem dX6_event__81 : decode cX6_event_ 81 = .ok (.aload_n 0, 1) := by decide +kernel
theorem dX6_event__82 : decode cX6_event_ 82 = .ok (.getfield 7, 3) := by decide +kernel
theorem dX6_event__85 : decode cX6_event_ 85 = .ok (.iload 4, 2) := by decide +kernel
theorem dX6_event__87 : decode cX6_event_ 87 = .ok (.sipush 620, 3) := by decide +kernel
theorem dX6_event__90 : decode cX6_event_ 90 = .ok (.iadd, 1) := by decide +kernel
theorem dX6_event__91 : decode cX6_event_ 91 = .ok (.iload 5, 2) := by decide +kernel
theorem dX6_event__93 : decode cX6_event_ 93 = .ok (.iadd, 1) := by decide +kernel
theorem dX6_event__94 : decode cX6_event_ 94 = .ok (.iaload, 1) := by decide +kernel
theorem dX6_event__95 : decode cX6_event_ 95 = .ok (.goto 5, 3) := by decide +kernel
theorem dX6_event__98 : decode cX6_event_ 98 = .ok (.ldc 79, 2) := by decide +kernel
theorem dX6_event__100 : decode cX6_event_ 100 = .ok (.ireturn, 1) := by decide +kernel
set_option maxRecDepth 20000 in
theorem ggX6_row_X6_isReader : GoodIn wsX6_row wsX6_isReader := goodIn_r _ [5] (by decide +kernel) (by decide +kernel)
set_option maxRecDepth 20000 in
theorem gX6_row_X6_isReader : GoodIn wsX6_row (va_wsS RX6 29 yX6_isReader wsX6_isReader) := goodIn_app (goodIn_of _ (by decide +kernel)) ggX6_row_X6_isReader
set_option maxRecDepth 20000 in
theorem ggX6_row_X6_latest : GoodIn wsX6_row wsX6_latest := goodIn_r _ [9, 1, 10, 11, 12, 13, 14, 15, 16, 17, 18] (by decide +kernel) (by decide +kernel)
set_option maxRecDepth 20000 in
theorem gX6_row_X6_latest : GoodIn wsX6_row (wsV RX6 48 RX6 yX6_latest wsX6_latest) := goodIn_app (goodIn_of _ (by decide +kernel)) ggX6_row_X6_latest
theorem dX6_row_0 : decode cX6_row 0 = .ok (.iload_n 1, 1) := by decide +kernel
theorem dX6_row_1 : decode cX6_row 1 = .ok (.invokestatic 29, 3) := by decide +kernel
theorem dX6_row_4 : decode cX6_row 4 = .ok (.ifCond .ne 5, 3) := by decide +kernel
theorem dX6_row_7 : decode cX6_row 7 = .ok (.iconst 0, 1) := by decide +kernel
theorem dX6_row_8 : decode cX6_row 8 = .ok (.ireturn, 1) := by decide +kernel
theorem dX6_row_9 : decode cX6_row 9 = .ok (.sipush 1510, 3) := by decide +kernel
theorem dX6_row_12 : decode cX6_row 12 = .ok (.iload_n 1, 1) := by decide +kernel
theorem dX6_row_13 : decode cX6_row 13 = .ok (.imul, 1) := by decide +kernel
theorem dX6_row_14 : decode cX6_row 14 = .ok (.istore_n 2, 1) := by decide +kernel
theorem dX6_row_15 : decode cX6_row 15 = .ok (.aload_n 0, 1) := by decide +kernel
theorem dX6_row_16 : decode cX6_row 16 = .ok (.iload_n 2, 1) := by decide +kernel
theorem dX6_row_17 : decode cX6_row 17 = .ok (.iconst 0, 1) := by decide +kernel
theorem dX6_row_18 : decode cX6_row 18 = .ok (.invokevirtual 48, 3) := by decide +kernel
theorem dX6_row_21 : decode cX6_row 21 = .ok (.istore_n 3, 1) := by decide +kernel
theorem dX6_row_22 : decode cX6_row 22 = .ok (.iload_n 3, 1) := by decide +kernel
theorem dX6_row_23 : decode cX6_row 23 = .ok (.ifCond .lt 17, 3) := by decide +kernel
theorem dX6_row_26 : decode cX6_row 26 = .ok (.aload_n 0, 1) := by decide +kernel
theorem dX6_row_27 : decode cX6_row 27 = .ok (.getfield 7, 3) := by decide +kernel
theorem dX6_row_30 : decode cX6_row 30 = .ok (.iload_n 2, 1) := by decide +kernel
theorem dX6_row_31 : decode cX6_row 31 = .ok (.bipush 20, 2) := by decide +kernel
theorem dX6_row_33 : decode cX6_row 33 = .ok (.iadd, 1) := by decide +kernel
theorem dX6_row_34 : decode cX6_row 34 = .ok (.iload_n 3, 1) := by decide +kernel
theorem dX6_row_35 : decode cX6_row 35 = .ok (.iadd, 1) := by decide +kernel
theorem dX6_row_36 : decode cX6_row 36 = .ok (.iaload, 1) := by decide +kernel
theorem dX6_row_37 : decode cX6_row 37 = .ok (.ifCond .ne 5, 3) := by decide +kernel
theorem dX6_row_40 : decode cX6_row 40 = .ok (.iconst 0, 1) := by decide +kernel
theorem dX6_row_41 : decode cX6_row 41 = .ok (.ireturn, 1) := by decide +kernel
theorem dX6_row_42 : decode cX6_row 42 = .ok (.iconst 1, 1) := by decide +kernel
theorem dX6_row_43 : decode cX6_row 43 = .ok (.istore 4, 2) := by decide +kernel
theorem dX6_row_45 : decode cX6_row 45 = .ok (.aload_n 0, 1) := by decide +kernel
theorem dX6_row_46 : decode cX6_row 46 = .ok (.iload_n 2, 1) := by decide +kernel
theorem dX6_row_47 : decode cX6_row 47 = .ok (.iload 4, 2) := by decide +kernel
theorem dX6_row_49 : decode cX6_row 49 = .ok (.invokevirtual 48, 3) := by decide +kernel
theorem dX6_row_52 : decode cX6_row 52 = .ok (.ifCond .lt 40, 3) := by decide +kernel
theorem dX6_row_55 : decode cX6_row 55 = .ok (.aload_n 0, 1) := by decide +kernel
theorem dX6_row_56 : decode cX6_row 56 = .ok (.getfield 7, 3) := by decide +kernel
theorem dX6_row_59 : decode cX6_row 59 = .ok (.iload_n 2, 1) := by decide +kernel
theorem dX6_row_60 : decode cX6_row 60 = .ok (.bipush 20, 2) := by decide +kernel
theorem dX6_row_62 : decode cX6_row 62 = .ok (.iadd, 1) := by decide +kernel
theorem dX6_row_63 : decode cX6_row 63 = .ok (.aload_n 0, 1) := by decide +kernel
theorem dX6_row_64 : decode cX6_row 64 = .ok (.iload_n 2, 1) := by decide +kernel
theorem dX6_row_65 : decode cX6_row 65 = .ok (.iload 4, 2) := by decide +kernel
theorem dX6_row_67 : decode cX6_row 67 = .ok (.invokevirtual 48, 3) := by decide +kernel
theorem dX6_row_70 : decode cX6_row 70 = .ok (.iadd, 1) := by decide +kernel
theorem dX6_row_71 : decode cX6_row 71 = .ok (.iaload, 1) := by decide +kernel
theorem dX6_row_72 : decode cX6_row 72 = .ok (.aload_n 0, 1) := by decide +kernel
theorem dX6_row_73 : decode cX6_row 73 = .ok (.getfield 7, 3) := by decide +kernel
theorem dX6_row_76 : decode cX6_row 76 = .ok (.iload_n 2, 1) := by decide +kernel
theorem dX6_row_77 : decode cX6_row 77 = .ok (.bipush 20, 2) := by decide +kernel
theorem dX6_row_79 : decode cX6_row 79 = .ok (.iadd, 1) := by decide +kernel
theorem dX6_row_80 : decode cX6_row 80 = .ok (.iload_n 3, 1) := by decide +kernel
theorem dX6_row_81 : decode cX6_row 81 = .ok (.iadd, 1) := by decide +kernel
theorem dX6_row_82 : decode cX6_row 82 = .ok (.iaload, 1) := by decide +kernel
theorem dX6_row_83 : decode cX6_row 83 = .ok (.if_icmp .ne 9, 3) := by decide +kernel
theorem dX6_row_86 : decode cX6_row 86 = .ok (.iinc 4 1, 3) := by decide +kernel
theorem dX6_row_89 : decode cX6_row 89 = .ok (.goto (-44), 3) := by decide +kernel
theorem dX6_row_92 : decode cX6_row 92 = .ok (.iload 4, 2) := by decide +kernel
theorem dX6_row_94 : decode cX6_row 94 = .ok (.ireturn, 1) := by decide +kernel
theorem dX6_common_0 : decode cX6_common 0 = .ok (.iload_n 0, 1) := by decide +kernel
theorem dX6_common_1 : decode cX6_common 1 = .ok (.istore_n 2, 1) := by decide +kernel
theorem dX6_common_2 : decode cX6_common 2 = .ok (.iload_n 1, 1) := by decide +kernel
theorem dX6_common_3 : decode cX6_common 3 = .ok (.istore_n 3, 1) := by decide +kernel
theorem dX6_common_4 : decode cX6_common 4 = .ok (.iload_n 3, 1) := by decide +kernel
theorem dX6_common_5 : decode cX6_common 5 = .ok (.ifCond .le 16, 3) := by decide +kernel
theorem dX6_common_8 : decode cX6_common 8 = .ok (.iload_n 2, 1) := by decide +kernel
theorem dX6_common_9 : decode cX6_common 9 = .ok (.iload_n 3, 1) := by decide +kernel
theorem dX6_common_10 : decode cX6_common 10 = .ok (.irem, 1) := by decide +kernel
theorem dX6_common_11 : decode cX6_common 11 = .ok (.istore 4, 2) := by decide +kernel
theorem dX6_common_13 : decode cX6_common 13 = .ok (.iload_n 3, 1) := by decide +kernel
theorem dX6_common_14 : decode cX6_common 14 = .ok (.istore_n 2, 1) := by decide +kernel
theorem dX6_common_15 : decode cX6_common 15 = .ok (.iload 4, 2) := by decide +kernel
theorem dX6_common_17 : decode cX6_common 17 = .ok (.istore_n 3, 1) := by decide +kernel
theorem dX6_common_18 : decode cX6_common 18 = .ok (.goto (-14), 3) := by decide +kernel
theorem dX6_common_21 : decode cX6_common 21 = .ok (.iload_n 2, 1) := by decide +kernel
theorem dX6_common_22 : decode cX6_common 22 = .ok (.ireturn, 1) := by decide +kernel
theorem dX6_isLess_0 : decode cX6_isLess 0 = .ok (.iload_n 0, 1) := by decide +kernel
theorem dX6_isLess_1 : decode cX6_isLess 1 = .ok (.i2l, 1) := by decide +kernel
theorem dX6_isLess_2 : decode cX6_isLess 2 = .ok (.iload_n 3, 1) := by decide +kernel
theorem dX6_isLess_3 : decode cX6_isLess 3 = .ok (.i2l, 1) := by decide +kernel
theorem dX6_isLess_4 : decode cX6_isLess 4 = .ok (.lmul, 1) := by decide +kernel
theorem dX6_isLess_5 : decode cX6_isLess 5 = .ok (.iload_n 2, 1) := by decide +kernel
theorem dX6_isLess_6 : decode cX6_isLess 6 = .ok (.i2l, 1) := by decide +kernel
theorem dX6_isLess_7 : decode cX6_isLess 7 = .ok (.iload_n 1, 1) := by decide +kernel
theorem dX6_isLess_8 : decode cX6_isLess 8 = .ok (.i2l, 1) := by decide +kernel
theorem dX6_isLess_9 : decode cX6_isLess 9 = .ok (.lmul, 1) := by decide +kernel
theorem dX6_isLess_10 : decode cX6_isLess 10 = .ok (.lcmp, 1) := by decide +kernel
theorem dX6_isLess_11 : decode cX6_isLess 11 = .ok (.ifCond .ge 7, 3) := by decide +kernel
theorem dX6_isLess_14 : decode cX6_isLess 14 = .ok (.iconst 1, 1) := by decide +kernel
theorem dX6_isLess_15 : decode cX6_isLess 15 = .ok (.goto 4, 3) := by decide +kernel
theorem dX6_isLess_18 : decode cX6_isLess 18 = .ok (.iconst 0, 1) := by decide +kernel
theorem dX6_isLess_19 : decode cX6_isLess 19 = .ok (.ireturn, 1) := by decide +kernel
set_option maxRecDepth 20000 in
theorem ggX6_period_X6_isReader : GoodIn wsX6_period wsX6_isReader := goodIn_r _ [7] (by decide +kernel) (by decide +kernel)
set_option maxRecDepth 20000 in
theorem gX6_period_X6_isReader : GoodIn wsX6_period (va_wsS RX6 29 yX6_isReader wsX6_isReader) := goodIn_app (goodIn_of _ (by decide +kernel)) ggX6_period_X6_isReader
set_option maxRecDepth 20000 in
theorem ggX6_period_X6_row : GoodIn wsX6_period wsX6_row := goodIn_r _ [11, 2, 4, 5, 6, 7, 12, 13, 14, 15, 22, 23, 24, 25, 26, 27, 28, 29, 30] (by decide +kernel) (by decide +kernel)
set_option maxRecDepth 20000 in
theorem gX6_period_X6_row : GoodIn wsX6_period (wsV RX6 80 RX6 yX6_row wsX6_row) := goodIn_app (goodIn_of _ (by decide +kernel)) ggX6_period_X6_row
set_option maxRecDepth 20000 in
theorem ggX6_period_X6_latest : GoodIn wsX6_period wsX6_latest := goodIn_r _ [15, 2, 22, 23, 24, 25, 26, 27, 28, 29, 30] (by decide +kernel) (by decide +kernel)
set_option maxRecDepth 20000 in
theorem gX6_period_X6_latest : GoodIn wsX6_period (wsV RX6 48 RX6 yX6_latest wsX6_latest) := goodIn_app (goodIn_of _ (by decide +kernel)) ggX6_period_X6_latest
set_option maxRecDepth 20000 in
theorem ggX6_period_X6_isLess : GoodIn wsX6_period wsX6_isLess := goodIn_r _ [18] (by decide +kernel) (by decide +kernel)
set_option maxRecDepth 20000 in
theorem gX6_period_X6_isLess : GoodIn wsX6_period (va_wsS RX6 83 yX6_isLess wsX6_isLess) := goodIn_app (goodIn_of _ (by decide +kernel)) ggX6_period_X6_isLess
set_option maxRecDepth 20000 in
theorem ggX6_period_X6_common : GoodIn wsX6_period wsX6_common := goodIn_r _ [21] (by decide +kernel) (by decide +kernel)
set_option maxRecDepth 20000 in
theorem gX6_period_X6_common : GoodIn wsX6_period (va_wsS RX6 87 yX6_common wsX6_common) := goodIn_app (goodIn_of _ (by decide +kernel)) ggX6_period_X6_common
theorem dX6_period_0 : decode cX6_period 0 = .ok (.iload_n 1, 1) := by decide +kernel
theorem dX6_period_1 : decode cX6_period 1 = .ok (.invokestatic 29, 3) := by decide +kernel
theorem dX6_period_4 : decode cX6_period 4 = .ok (.ifCond .eq 32, 3) := by decide +kernel
theorem dX6_period_7 : decode cX6_period 7 = .ok (.iload_n 2, 1) := by decide +kernel
theorem dX6_period_8 : decode cX6_period 8 = .ok (.iconst 2, 1) := by decide +kernel
theorem dX6_period_9 : decode cX6_period 9 = .ok (.if_icmp .lt 27, 3) := by decide +kernel
theorem dX6_period_12 : decode cX6_period 12 = .ok (.iload_n 2, 1) := by decide +kernel
theorem dX6_period_13 : decode cX6_period 13 = .ok (.bipush 30, 2) := by decide +kernel
theorem dX6_period_15 : decode cX6_period 15 = .ok (.if_icmp .gt 21, 3) := by decide +kernel
theorem dX6_period_18 : decode cX6_period 18 = .ok (.iload_n 3, 1) := by decide +kernel
theorem dX6_period_19 : decode cX6_period 19 = .ok (.ifCond .lt 17, 3) := by decide +kernel
theorem dX6_period_22 : decode cX6_period 22 = .ok (.iload_n 3, 1) := by decide +kernel
theorem dX6_period_23 : decode cX6_period 23 = .ok (.iconst 3, 1) := by decide +kernel
theorem dX6_period_24 : decode cX6_period 24 = .ok (.if_icmp .gt 12, 3) := by decide +kernel
theorem dX6_period_27 : decode cX6_period 27 = .ok (.aload_n 0, 1) := by decide +kernel
theorem dX6_period_28 : decode cX6_period 28 = .ok (.iload_n 1, 1) := by decide +kernel
theorem dX6_period_29 : decode cX6_period 29 = .ok (.invokevirtual 80, 3) := by decide +kernel
theorem dX6_period_32 : decode cX6_period 32 = .ok (.iload_n 2, 1) := by decide +kernel
theorem dX6_period_33 : decode cX6_period 33 = .ok (.if_icmp .ge 5, 3) := by decide +kernel
theorem dX6_period_36 : decode cX6_period 36 = .ok (.iconst (-1), 1) := by decide +kernel
theorem dX6_period_37 : decode cX6_period 37 = .ok (.ireturn, 1) := by decide +kernel
theorem dX6_period_38 : decode cX6_period 38 = .ok (.sipush 1510, 3) := by decide +kernel
theorem dX6_period_41 : decode cX6_period 41 = .ok (.iload_n 1, 1) := by decide +kernel
theorem dX6_period_42 : decode cX6_period 42 = .ok (.imul, 1) := by decide +kernel
theorem dX6_period_43 : decode cX6_period 43 = .ok (.istore 4, 2) := by decide +kernel
theorem dX6_period_45 : decode cX6_period 45 = .ok (.iconst 0, 1) := by decide +kernel
theorem dX6_period_46 : decode cX6_period 46 = .ok (.istore 5, 2) := by decide +kernel
theorem dX6_period_48 : decode cX6_period 48 = .ok (.iconst 1, 1) := by decide +kernel
theorem dX6_period_49 : decode cX6_period 49 = .ok (.istore 6, 2) := by decide +kernel
theorem dX6_period_51 : decode cX6_period 51 = .ok (.ldc 69, 2) := by decide +kernel
theorem dX6_period_53 : decode cX6_period 53 = .ok (.istore 7, 2) := by decide +kernel
theorem dX6_period_55 : decode cX6_period 55 = .ok (.iconst 1, 1) := by decide +kernel
theorem dX6_period_56 : decode cX6_period 56 = .ok (.istore 8, 2) := by decide +kernel
theorem dX6_period_58 : decode cX6_period 58 = .ok (.iconst 0, 1) := by decide +kernel
theorem dX6_period_59 : decode cX6_period 59 = .ok (.istore 9, 2) := by decide +kernel
theorem dX6_period_61 : decode cX6_period 61 = .ok (.iload 9, 2) := by decide +kernel
theorem dX6_period_63 : decode cX6_period 63 = .ok (.iload_n 2, 1) := by decide +kernel
theorem dX6_period_64 : decode cX6_period 64 = .ok (.if_icmp .ge 191, 3) := by decide +kernel
theorem dX6_period_67 : decode cX6_period 67 = .ok (.aload_n 0, 1) := by decide +kernel
theorem dX6_period_68 : decode cX6_period 68 = .ok (.getfield 7, 3) := by decide +kernel
theorem dX6_period_71 : decode cX6_period 71 = .ok (.iload 4, 2) := by decide +kernel
theorem dX6_period_73 : decode cX6_period 73 = .ok (.sipush 320, 3) := by decide +kernel
theorem dX6_period_76 : decode cX6_period 76 = .ok (.iadd, 1) := by decide +kernel
theorem dX6_period_77 : decode cX6_period 77 = .ok (.aload_n 0, 1) := by decide +kernel
theorem dX6_period_78 : decode cX6_period 78 = .ok (.iload 4, 2) := by decide +kernel
theorem dX6_period_80 : decode cX6_period 80 = .ok (.iload_n 2, 1) := by decide +kernel
theorem dX6_period_81 : decode cX6_period 81 = .ok (.iconst 1, 1) := by decide +kernel
theorem dX6_period_82 : decode cX6_period 82 = .ok (.isub, 1) := by decide +kernel
theorem dX6_period_83 : decode cX6_period 83 = .ok (.iload 9, 2) := by decide +kernel
theorem dX6_period_85 : decode cX6_period 85 = .ok (.isub, 1) := by decide +kernel
theorem dX6_period_86 : decode cX6_period 86 = .ok (.invokevirtual 48, 3) := by decide +kernel
theorem dX6_period_89 : decode cX6_period 89 = .ok (.iadd, 1) := by decide +kernel
theorem dX6_period_90 : decode cX6_period 90 = .ok (.iaload, 1) := by decide +kernel
theorem dX6_period_91 : decode cX6_period 91 = .ok (.istore 10, 2) := by decide +kernel
theorem dX6_period_93 : decode cX6_period 93 = .ok (.iload 5, 2) := by decide +kernel
theorem dX6_period_95 : decode cX6_period 95 = .ok (.iload 6, 2) := by decide +kernel
theorem dX6_period_97 : decode cX6_period 97 = .ok (.aload_n 0, 1) := by decide +kernel
theorem dX6_period_98 : decode cX6_period 98 = .ok (.getfield 37, 3) := by decide +kernel
theorem dX6_period_101 : decode cX6_period 101 = .ok (.iload 10, 2) := by decide +kernel
theorem dX6_period_103 : decode cX6_period 103 = .ok (.isub, 1) := by decide +kernel
theorem dX6_period_104 : decode cX6_period 104 = .ok (.iload_n 2, 1) := by decide +kernel
theorem dX6_period_105 : decode cX6_period 105 = .ok (.iload 9, 2) := by decide +kernel
theorem dX6_period_107 : decode cX6_period 107 = .ok (.isub, 1) := by decide +kernel
theorem dX6_period_108 : decode cX6_period 108 = .ok (.invokestatic 83, 3) := by decide +kernel
theorem dX6_period_111 : decode cX6_period 111 = .ok (.ifCond .eq 18, 3) := by decide +kernel
theorem dX6_period_114 : decode cX6_period 114 = .ok (.aload_n 0, 1) := by decide +kernel
theorem dX6_period_115 : decode cX6_period 115 = .ok (.getfield 37, 3) := by decide +kernel
theorem dX6_period_118 : decode cX6_period 118 = .ok (.iload 10, 2) := by decide +kernel
theorem dX6_period_120 : decode cX6_period 120 = .ok (.isub, 1) := by decide +kernel
theorem dX6_period_121 : decode cX6_period 121 = .ok (.istore 5, 2) := by decide +kernel
theorem dX6_period_123 : decode cX6_period 123 = .ok (.iload_n 2, 1) := by decide +kernel
theorem dX6_period_124 : decode cX6_period 124 = .ok (.iload 9, 2) := by decide +kernel
theorem dX6_period_126 : decode cX6_period 126 = .ok (.isub, 1) := by decide +kernel
theorem dX6_period_127 : decode cX6_period 127 = .ok (.istore 6, 2) := by decide +kernel
theorem dX6_period_129 : decode cX6_period 129 = .ok (.iload 9, 2) := by decide +kernel
theorem dX6_period_131 : decode cX6_period 131 = .ok (.iconst 1, 1) := by decide +kernel
theorem dX6_period_132 : decode cX6_period 132 = .ok (.iadd, 1) := by decide +kernel
theorem dX6_period_133 : decode cX6_period 133 = .ok (.istore 11, 2) := by decide +kernel
theorem dX6_period_135 : decode cX6_period 135 = .ok (.iload 11, 2) := by decide +kernel
theorem dX6_period_137 : decode cX6_period 137 = .ok (.iload_n 2, 1) := by decide +kernel
theorem dX6_period_138 : decode cX6_period 138 = .ok (.if_icmp .ge 111, 3) := by decide +kernel
theorem dX6_period_141 : decode cX6_period 141 = .ok (.aload_n 0, 1) := by decide +kernel
theorem dX6_period_142 : decode cX6_period 142 = .ok (.getfield 7, 3) := by decide +kernel
theorem dX6_period_145 : decode cX6_period 145 = .ok (.iload 4, 2) := by decide +kernel
theorem dX6_period_147 : decode cX6_period 147 = .ok (.sipush 320, 3) := by decide +kernel
theorem dX6_period_150 : decode cX6_period 150 = .ok (.iadd, 1) := by decide +kernel
theorem dX6_period_151 : decode cX6_period 151 = .ok (.aload_n 0, 1) := by decide +kernel
theorem dX6_period_152 : decode cX6_period 152 = .ok (.iload 4, 2) := by decide +kernel
theorem dX6_period_154 : decode cX6_period 154 = .ok (.iload_n 2, 1) := by decide +kernel
theorem dX6_period_155 : decode cX6_period 155 = .ok (.iconst 1, 1) := by decide +kernel
theorem dX6_period_156 : decode cX6_period 156 = .ok (.isub, 1) := by decide +kernel
theorem dX6_period_157 : decode cX6_period 157 = .ok (.iload 11, 2) := by decide +kernel
theorem dX6_period_159 : decode cX6_period 159 = .ok (.isub, 1) := by decide +kernel
theorem dX6_period_160 : decode cX6_period 160 = .ok (.invokevirtual 48, 3) := by decide +kernel
theorem dX6_period_163 : decode cX6_period 163 = .ok (.iadd, 1) := by decide +kernel
theorem dX6_period_164 : decode cX6_period 164 = .ok (.iaload, 1) := by decide +kernel
theorem dX6_period_165 : decode cX6_period 165 = .ok (.istore 12, 2) := by decide +kernel
theorem dX6_period_167 : decode cX6_period 167 = .ok (.iload 5, 2) := by decide +kernel
theorem dX6_period_169 : decode cX6_period 169 = .ok (.iload 6, 2) := by decide +kernel
theorem dX6_period_171 : decode cX6_period 171 = .ok (.iload 12, 2) := by decide +kernel
theorem dX6_period_173 : decode cX6_period 173 = .ok (.iload 10, 2) := by decide +kernel
theorem dX6_period_175 : decode cX6_period 175 = .ok (.isub, 1) := by decide +kernel
theorem dX6_period_176 : decode cX6_period 176 = .ok (.iconst 1, 1) := by decide +kernel
theorem dX6_period_177 : decode cX6_period 177 = .ok (.isub, 1) := by decide +kernel
theorem dX6_period_178 : decode cX6_period 178 = .ok (.iload 11, 2) := by decide +kernel
theorem dX6_period_180 : decode cX6_period 180 = .ok (.iload 9, 2) := by decide +kernel
theorem dX6_period_182 : decode cX6_period 182 = .ok (.isub, 1) := by decide +kernel
theorem dX6_period_183 : decode cX6_period 183 = .ok (.invokestatic 83, 3) := by decide +kernel
theorem dX6_period_186 : decode cX6_period 186 = .ok (.ifCond .eq 19, 3) := by decide +kernel
theorem dX6_period_189 : decode cX6_period 189 = .ok (.iload 12, 2) := by decide +kernel
theorem dX6_period_191 : decode cX6_period 191 = .ok (.iload 10, 2) := by decide +kernel
theorem dX6_period_193 : decode cX6_period 193 = .ok (.isub, 1) := by decide +kernel
theorem dX6_period_194 : decode cX6_period 194 = .ok (.iconst 1, 1) := by decide +kernel
theorem dX6_period_195 : decode cX6_period 195 = .ok (.isub, 1) := by decide +kernel
theorem dX6_period_196 : decode cX6_period 196 = .ok (.istore 5, 2) := by decide +kernel
theorem dX6_period_198 : decode cX6_period 198 = .ok (.iload 11, 2) := by decide +kernel
theorem dX6_period_200 : decode cX6_period 200 = .ok (.iload 9, 2) := by decide +kernel
theorem dX6_period_202 : decode cX6_period 202 = .ok (.isub, 1) := by decide +kernel
theorem dX6_period_203 : decode cX6_period 203 = .ok (.istore 6, 2) := by decide +kernel
theorem dX6_period_205 : decode cX6_period 205 = .ok (.iload 12, 2) := by decide +kernel
theorem dX6_period_207 : decode cX6_period 207 = .ok (.iload 10, 2) := by decide +kernel
theorem dX6_period_209 : decode cX6_period 209 = .ok (.isub, 1) := by decide +kernel
theorem dX6_period_210 : decode cX6_period 210 = .ok (.iconst 1, 1) := by decide +kernel
theorem dX6_period_211 : decode cX6_period 211 = .ok (.iadd, 1) := by decide +kernel
theorem dX6_period_212 : decode cX6_period 212 = .ok (.iload 11, 2) := by decide +kernel
theorem dX6_period_214 : decode cX6_period 214 = .ok (.iload 9, 2) := by decide +kernel
theorem dX6_period_216 : decode cX6_period 216 = .ok (.isub, 1) := by decide +kernel
theorem dX6_period_217 : decode cX6_period 217 = .ok (.iload 7, 2) := by decide +kernel
theorem dX6_period_219 : decode cX6_period 219 = .ok (.iload 8, 2) := by decide +kernel
theorem dX6_period_221 : decode cX6_period 221 = .ok (.invokestatic 83, 3) := by decide +kernel
theorem dX6_period_224 : decode cX6_period 224 = .ok (.ifCond .eq 19, 3) := by decide +kernel
theorem dX6_period_227 : decode cX6_period 227 = .ok (.iload 12, 2) := by decide +kernel
theorem dX6_period_229 : decode cX6_period 229 = .ok (.iload 10, 2) := by decide +kernel
theorem dX6_period_231 : decode cX6_period 231 = .ok (.isub, 1) := by decide +kernel
theorem dX6_period_232 : decode cX6_period 232 = .ok (.iconst 1, 1) := by decide +kernel
theorem dX6_period_233 : decode cX6_period 233 = .ok (.iadd, 1) := by decide +kernel
theorem dX6_period_234 : decode cX6_period 234 = .ok (.istore 7, 2) := by decide +kernel
theorem dX6_period_236 : decode cX6_period 236 = .ok (.iload 11, 2) := by decide +kernel
theorem dX6_period_238 : decode cX6_period 238 = .ok (.iload 9, 2) := by decide +kernel
theorem dX6_period_240 : decode cX6_period 240 = .ok (.isub, 1) := by decide +kernel
theorem dX6_period_241 : decode cX6_period 241 = .ok (.istore 8, 2) := by decide +kernel
theorem dX6_period_243 : decode cX6_period 243 = .ok (.iinc 11 1, 3) := by decide +kernel
theorem dX6_period_246 : decode cX6_period 246 = .ok (.goto (-111), 3) := by decide +kernel
theorem dX6_period_249 : decode cX6_period 249 = .ok (.iinc 9 1, 3) := by decide +kernel
theorem dX6_period_252 : decode cX6_period 252 = .ok (.goto (-191), 3) := by decide +kernel
theorem dX6_period_255 : decode cX6_period 255 = .ok (.iload 5, 2) := by decide +kernel
theorem dX6_period_257 : decode cX6_period 257 = .ok (.iload 6, 2) := by decide +kernel
theorem dX6_period_259 : decode cX6_period 259 = .ok (.iload 7, 2) := by decide +kernel
theorem dX6_period_261 : decode cX6_period 261 = .ok (.iload 8, 2) := by decide +kernel
theorem dX6_period_263 : decode cX6_period 263 = .ok (.invokestatic 83, 3) := by decide +kernel
theorem dX6_period_266 : decode cX6_period 266 = .ok (.ifCond .ne 5, 3) := by decide +kernel
theorem dX6_period_269 : decode cX6_period 269 = .ok (.iconst (-1), 1) := by decide +kernel
theorem dX6_period_270 : decode cX6_period 270 = .ok (.ireturn, 1) := by decide +kernel
theorem dX6_period_271 : decode cX6_period 271 = .ok (.iload 5, 2) := by decide +kernel
theorem dX6_period_273 : decode cX6_period 273 = .ok (.iload 6, 2) := by decide +kernel
theorem dX6_period_275 : decode cX6_period 275 = .ok (.invokestatic 87, 3) := by decide +kernel
theorem dX6_period_278 : decode cX6_period 278 = .ok (.istore 9, 2) := by decide +kernel
theorem dX6_period_280 : decode cX6_period 280 = .ok (.iload 7, 2) := by decide +kernel
theorem dX6_period_282 : decode cX6_period 282 = .ok (.iload 8, 2) := by decide +kernel
theorem dX6_period_284 : decode cX6_period 284 = .ok (.invokestatic 87, 3) := by decide +kernel
theorem dX6_period_287 : decode cX6_period 287 = .ok (.istore 10, 2) := by decide +kernel
theorem dX6_period_289 : decode cX6_period 289 = .ok (.iload_n 3, 1) := by decide +kernel
theorem dX6_period_290 : decode cX6_period 290 = .ok (.ifCond .ne 11, 3) := by decide +kernel
theorem dX6_period_293 : decode cX6_period 293 = .ok (.iload 5, 2) := by decide +kernel
theorem dX6_period_295 : decode cX6_period 295 = .ok (.iload 9, 2) := by decide +kernel
theorem dX6_period_297 : decode cX6_period 297 = .ok (.idiv, 1) := by decide +kernel
theorem dX6_period_298 : decode cX6_period 298 = .ok (.goto 34, 3) := by decide +kernel
theorem dX6_period_301 : decode cX6_period 301 = .ok (.iload_n 3, 1) := by decide +kernel
theorem dX6_period_302 : decode cX6_period 302 = .ok (.iconst 1, 1) := by decide +kernel
theorem dX6_period_303 : decode cX6_period 303 = .ok (.if_icmp .ne 11, 3) := by decide +kernel
theorem dX6_period_306 : decode cX6_period 306 = .ok (.iload 6, 2) := by decide +kernel
theorem dX6_period_308 : decode cX6_period 308 = .ok (.iload 9, 2) := by decide +kernel
theorem dX6_period_310 : decode cX6_period 310 = .ok (.idiv, 1) := by decide +kernel
theorem dX6_period_311 : decode cX6_period 311 = .ok (.goto 21, 3) := by decide +kernel
theorem dX6_period_314 : decode cX6_period 314 = .ok (.iload_n 3, 1) := by decide +kernel
theorem dX6_period_315 : decode cX6_period 315 = .ok (.iconst 2, 1) := by decide +kernel
theorem dX6_period_316 : decode cX6_period 316 = .ok (.if_icmp .ne 11, 3) := by decide +kernel
theorem dX6_period_319 : decode cX6_period 319 = .ok (.iload 7, 2) := by decide +kernel
theorem dX6_period_321 : decode cX6_period 321 = .ok (.iload 10, 2) := by decide +kernel
theorem dX6_period_323 : decode cX6_period 323 = .ok (.idiv, 1) := by decide +kernel
theorem dX6_period_324 : decode cX6_period 324 = .ok (.goto 8, 3) := by decide +kernel
theorem dX6_period_327 : decode cX6_period 327 = .ok (.iload 8, 2) := by decide +kernel
theorem dX6_period_329 : decode cX6_period 329 = .ok (.iload 10, 2) := by decide +kernel
theorem dX6_period_331 : decode cX6_period 331 = .ok (.idiv, 1) := by decide +kernel
theorem dX6_period_332 : decode cX6_period 332 = .ok (.ireturn, 1) := by decide +kernel
set_option maxRecDepth 20000 in
theorem ggX6_moved_X6_isReader : GoodIn wsX6_moved wsX6_isReader := goodIn_r _ [6] (by decide +kernel) (by decide +kernel)
set_option maxRecDepth 20000 in
theorem gX6_moved_X6_isReader : GoodIn wsX6_moved (va_wsS RX6 29 yX6_isReader wsX6_isReader) := goodIn_app (goodIn_of _ (by decide +kernel)) ggX6_moved_X6_isReader
theorem dX6_moved_0 : decode cX6_moved 0 = .ok (.iload_n 1, 1) := by decide +kernel
theorem dX6_moved_1 : decode cX6_moved 1 = .ok (.invokestatic 29, 3) := by decide +kernel
theorem dX6_moved_4 : decode cX6_moved 4 = .ok (.ifCond .eq 32, 3) := by decide +kernel
theorem dX6_moved_7 : decode cX6_moved 7 = .ok (.iload_n 2, 1) := by decide +kernel
theorem dX6_moved_8 : decode cX6_moved 8 = .ok (.iconst 1, 1) := by decide +kernel
theorem dX6_moved_9 : decode cX6_moved 9 = .ok (.if_icmp .lt 27, 3) := by decide +kernel
theorem dX6_moved_12 : decode cX6_moved 12 = .ok (.iload_n 2, 1) := by decide +kernel
theorem dX6_moved_13 : decode cX6_moved 13 = .ok (.sipush 500, 3) := by decide +kernel
theorem dX6_moved_16 : decode cX6_moved 16 = .ok (.if_icmp .gt 20, 3) := by decide +kernel
theorem dX6_moved_19 : decode cX6_moved 19 = .ok (.iload_n 2, 1) := by decide +kernel
theorem dX6_moved_20 : decode cX6_moved 20 = .ok (.aload_n 0, 1) := by decide +kernel
theorem dX6_moved_21 : decode cX6_moved 21 = .ok (.getfield 7, 3) := by decide +kernel
theorem dX6_moved_24 : decode cX6_moved 24 = .ok (.sipush 1510, 3) := by decide +kernel
theorem dX6_moved_27 : decode cX6_moved 27 = .ok (.iload_n 1, 1) := by decide +kernel
theorem dX6_moved_28 : decode cX6_moved 28 = .ok (.imul, 1) := by decide +kernel
theorem dX6_moved_29 : decode cX6_moved 29 = .ok (.bipush 15, 2) := by decide +kernel
theorem dX6_moved_31 : decode cX6_moved 31 = .ok (.iadd, 1) := by decide +kernel
theorem dX6_moved_32 : decode cX6_moved 32 = .ok (.iaload, 1) := by decide +kernel
theorem dX6_moved_33 : decode cX6_moved 33 = .ok (.if_icmp .le 6, 3) := by decide +kernel
theorem dX6_moved_36 : decode cX6_moved 36 = .ok (.ldc 79, 2) := by decide +kernel
theorem dX6_moved_38 : decode cX6_moved 38 = .ok (.ireturn, 1) := by decide +kernel
theorem dX6_moved_39 : decode cX6_moved 39 = .ok (.sipush 1510, 3) := by decide +kernel
theorem dX6_moved_42 : decode cX6_moved 42 = .ok (.iload_n 1, 1) := by decide +kernel
theorem dX6_moved_43 : decode cX6_moved 43 = .ok (.imul, 1) := by decide +kernel
theorem dX6_moved_44 : decode cX6_moved 44 = .ok (.istore_n 3, 1) := by decide +kernel
theorem dX6_moved_45 : decode cX6_moved 45 = .ok (.aload_n 0, 1) := by decide +kernel
theorem dX6_moved_46 : decode cX6_moved 46 = .ok (.getfield 7, 3) := by decide +kernel
theorem dX6_moved_49 : decode cX6_moved 49 = .ok (.iload_n 3, 1) := by decide +kernel
theorem dX6_moved_50 : decode cX6_moved 50 = .ok (.bipush 15, 2) := by decide +kernel
theorem dX6_moved_52 : decode cX6_moved 52 = .ok (.iadd, 1) := by decide +kernel
theorem dX6_moved_53 : decode cX6_moved 53 = .ok (.iaload, 1) := by decide +kernel
theorem dX6_moved_54 : decode cX6_moved 54 = .ok (.iload_n 2, 1) := by decide +kernel
theorem dX6_moved_55 : decode cX6_moved 55 = .ok (.isub, 1) := by decide +kernel
theorem dX6_moved_56 : decode cX6_moved 56 = .ok (.istore 4, 2) := by decide +kernel
theorem dX6_moved_58 : decode cX6_moved 58 = .ok (.aload_n 0, 1) := by decide +kernel
theorem dX6_moved_59 : decode cX6_moved 59 = .ok (.getfield 7, 3) := by decide +kernel
theorem dX6_moved_62 : decode cX6_moved 62 = .ok (.iload_n 3, 1) := by decide +kernel
theorem dX6_moved_63 : decode cX6_moved 63 = .ok (.bipush 6, 2) := by decide +kernel
theorem dX6_moved_65 : decode cX6_moved 65 = .ok (.iadd, 1) := by decide +kernel
theorem dX6_moved_66 : decode cX6_moved 66 = .ok (.iaload, 1) := by decide +kernel
theorem dX6_moved_67 : decode cX6_moved 67 = .ok (.iload 4, 2) := by decide +kernel
theorem dX6_moved_69 : decode cX6_moved 69 = .ok (.ifCond .ne 7, 3) := by decide +kernel
theorem dX6_moved_72 : decode cX6_moved 72 = .ok (.iconst 0, 1) := by decide +kernel
theorem dX6_moved_73 : decode cX6_moved 73 = .ok (.goto 20, 3) := by decide +kernel
theorem dX6_moved_76 : decode cX6_moved 76 = .ok (.aload_n 0, 1) := by decide +kernel
theorem dX6_moved_77 : decode cX6_moved 77 = .ok (.getfield 7, 3) := by decide +kernel
theorem dX6_moved_80 : decode cX6_moved 80 = .ok (.iload_n 3, 1) := by decide +kernel
theorem dX6_moved_81 : decode cX6_moved 81 = .ok (.sipush 920, 3) := by decide +kernel
theorem dX6_moved_84 : decode cX6_moved 84 = .ok (.iadd, 1) := by decide +kernel
theorem dX6_moved_85 : decode cX6_moved 85 = .ok (.iload 4, 2) := by decide +kernel
theorem dX6_moved_87 : decode cX6_moved 87 = .ok (.sipush 512, 3) := by decide +kernel
theorem dX6_moved_90 : decode cX6_moved 90 = .ok (.irem, 1) := by decide +kernel
theorem dX6_moved_91 : decode cX6_moved 91 = .ok (.iadd, 1) := by decide +kernel
theorem dX6_moved_92 : decode cX6_moved 92 = .ok (.iaload, 1) := by decide +kernel
theorem dX6_moved_93 : decode cX6_moved 93 = .ok (.isub, 1) := by decide +kernel
theorem dX6_moved_94 : decode cX6_moved 94 = .ok (.ireturn, 1) := by decide +kernel
set_option maxRecDepth 20000 in
theorem ggX6_tooth_X6_isReader : GoodIn wsX6_tooth wsX6_isReader := goodIn_r _ [5] (by decide +kernel) (by decide +kernel)
set_option maxRecDepth 20000 in
theorem gX6_tooth_X6_isReader : GoodIn wsX6_tooth (va_wsS RX6 29 yX6_isReader wsX6_isReader) := goodIn_app (goodIn_of _ (by decide +kernel)) ggX6_tooth_X6_isReader
theorem dX6_tooth_0 : decode cX6_tooth 0 = .ok (.iload_n 1, 1) := by decide +kernel
theorem dX6_tooth_1 : decode cX6_tooth 1 = .ok (.invokestatic 29, 3) := by decide +kernel
theorem dX6_tooth_4 : decode cX6_tooth 4 = .ok (.ifCond .eq 42, 3) := by decide +kernel
theorem dX6_tooth_7 : decode cX6_tooth 7 = .ok (.iload_n 2, 1) := by decide +kernel
theorem dX6_tooth_8 : decode cX6_tooth 8 = .ok (.ifCond .lt 38, 3) := by decide +kernel
theorem dX6_tooth_11 : decode cX6_tooth 11 = .ok (.iload_n 2, 1) := by decide +kernel
theorem dX6_tooth_12 : decode cX6_tooth 12 = .ok (.aload_n 0, 1) := by decide +kernel
theorem dX6_tooth_13 : decode cX6_tooth 13 = .ok (.getfield 7, 3) := by decide +kernel
theorem dX6_tooth_16 : decode cX6_tooth 16 = .ok (.sipush 1510, 3) := by decide +kernel
theorem dX6_tooth_19 : decode cX6_tooth 19 = .ok (.iload_n 1, 1) := by decide +kernel
theorem dX6_tooth_20 : decode cX6_tooth 20 = .ok (.imul, 1) := by decide +kernel
theorem dX6_tooth_21 : decode cX6_tooth 21 = .ok (.iconst 1, 1) := by decide +kernel
theorem dX6_tooth_22 : decode cX6_tooth 22 = .ok (.iadd, 1) := by decide +kernel
theorem dX6_tooth_23 : decode cX6_tooth 23 = .ok (.iaload, 1) := by decide +kernel
theorem dX6_tooth_24 : decode cX6_tooth 24 = .ok (.if_icmp .ge 22, 3) := by decide +kernel
theorem dX6_tooth_27 : decode cX6_tooth 27 = .ok (.aload_n 0, 1) := by decide +kernel
theorem dX6_tooth_28 : decode cX6_tooth 28 = .ok (.getfield 7, 3) := by decide +kernel
theorem dX6_tooth_31 : decode cX6_tooth 31 = .ok (.sipush 1510, 3) := by decide +kernel
theorem dX6_tooth_34 : decode cX6_tooth 34 = .ok (.iload_n 1, 1) := by decide +kernel
theorem dX6_tooth_35 : decode cX6_tooth 35 = .ok (.imul, 1) := by decide +kernel
theorem dX6_tooth_36 : decode cX6_tooth 36 = .ok (.sipush 1440, 3) := by decide +kernel
theorem dX6_tooth_39 : decode cX6_tooth 39 = .ok (.iadd, 1) := by decide +kernel
theorem dX6_tooth_40 : decode cX6_tooth 40 = .ok (.iload_n 2, 1) := by decide +kernel
theorem dX6_tooth_41 : decode cX6_tooth 41 = .ok (.iadd, 1) := by decide +kernel
theorem dX6_tooth_42 : decode cX6_tooth 42 = .ok (.iaload, 1) := by decide +kernel
theorem dX6_tooth_43 : decode cX6_tooth 43 = .ok (.goto 4, 3) := by decide +kernel
theorem dX6_tooth_46 : decode cX6_tooth 46 = .ok (.iconst (-1), 1) := by decide +kernel
theorem dX6_tooth_47 : decode cX6_tooth 47 = .ok (.ireturn, 1) := by decide +kernel
set_option maxRecDepth 20000 in
theorem ggX6_wholes_X6_isReader : GoodIn wsX6_wholes wsX6_isReader := goodIn_r _ [5] (by decide +kernel) (by decide +kernel)
set_option maxRecDepth 20000 in
theorem gX6_wholes_X6_isReader : GoodIn wsX6_wholes (va_wsS RX6 29 yX6_isReader wsX6_isReader) := goodIn_app (goodIn_of _ (by decide +kernel)) ggX6_wholes_X6_isReader
theorem dX6_wholes_0 : decode cX6_wholes 0 = .ok (.iload_n 1, 1) := by decide +kernel
theorem dX6_wholes_1 : decode cX6_wholes 1 = .ok (.invokestatic 29, 3) := by decide +kernel
theorem dX6_wholes_4 : decode cX6_wholes 4 = .ok (.ifCond .eq 19, 3) := by decide +kernel
theorem dX6_wholes_7 : decode cX6_wholes 7 = .ok (.aload_n 0, 1) := by decide +kernel
theorem dX6_wholes_8 : decode cX6_wholes 8 = .ok (.getfield 7, 3) := by decide +kernel
theorem dX6_wholes_11 : decode cX6_wholes 11 = .ok (.sipush 1510, 3) := by decide +kernel
theorem dX6_wholes_14 : decode cX6_wholes 14 = .ok (.iload_n 1, 1) := by decide +kernel
theorem dX6_wholes_15 : decode cX6_wholes 15 = .ok (.imul, 1) := by decide +kernel
theorem dX6_wholes_16 : decode cX6_wholes 16 = .ok (.bipush 17, 2) := by decide +kernel
theorem dX6_wholes_18 : decode cX6_wholes 18 = .ok (.iadd, 1) := by decide +kernel
theorem dX6_wholes_19 : decode cX6_wholes 19 = .ok (.iaload, 1) := by decide +kernel
theorem dX6_wholes_20 : decode cX6_wholes 20 = .ok (.goto 4, 3) := by decide +kernel
theorem dX6_wholes_23 : decode cX6_wholes 23 = .ok (.iconst (-1), 1) := by decide +kernel
theorem dX6_wholes_24 : decode cX6_wholes 24 = .ok (.ireturn, 1) := by decide +kernel
set_option maxRecDepth 20000 in
theorem ggX6_widest_X6_isReader : GoodIn wsX6_widest wsX6_isReader := goodIn_r _ [5] (by decide +kernel) (by decide +kernel)
set_option maxRecDepth 20000 in
theorem gX6_widest_X6_isReader : GoodIn wsX6_widest (va_wsS RX6 29 yX6_isReader wsX6_isReader) := goodIn_app (goodIn_of _ (by decide +kernel)) ggX6_widest_X6_isReader
theorem dX6_widest_0 : decode cX6_widest 0 = .ok (.iload_n 1, 1) := by decide +kernel
theorem dX6_widest_1 : decode cX6_widest 1 = .ok (.invokestatic 29, 3) := by decide +kernel
theorem dX6_widest_4 : decode cX6_widest 4 = .ok (.ifCond .eq 19, 3) := by decide +kernel
theorem dX6_widest_7 : decode cX6_widest 7 = .ok (.aload_n 0, 1) := by decide +kernel
theorem dX6_widest_8 : decode cX6_widest 8 = .ok (.getfield 7, 3) := by decide +kernel
theorem dX6_widest_11 : decode cX6_widest 11 = .ok (.sipush 1510, 3) := by decide +kernel
theorem dX6_widest_14 : decode cX6_widest 14 = .ok (.iload_n 1, 1) := by decide +kernel
theorem dX6_widest_15 : decode cX6_widest 15 = .ok (.imul, 1) := by decide +kernel
theorem dX6_widest_16 : decode cX6_widest 16 = .ok (.bipush 17, 2) := by decide +kernel
theorem dX6_widest_18 : decode cX6_widest 18 = .ok (.iadd, 1) := by decide +kernel
theorem dX6_widest_19 : decode cX6_widest 19 = .ok (.iaload, 1) := by decide +kernel
theorem dX6_widest_20 : decode cX6_widest 20 = .ok (.ifCond .ne 5, 3) := by decide +kernel
theorem dX6_widest_23 : decode cX6_widest 23 = .ok (.iconst (-1), 1) := by decide +kernel
theorem dX6_widest_24 : decode cX6_widest 24 = .ok (.ireturn, 1) := by decide +kernel
theorem dX6_widest_25 : decode cX6_widest 25 = .ok (.sipush 1510, 3) := by decide +kernel
theorem dX6_widest_28 : decode cX6_widest 28 = .ok (.iload_n 1, 1) := by decide +kernel
theorem dX6_widest_29 : decode cX6_widest 29 = .ok (.imul, 1) := by decide +kernel
theorem dX6_widest_30 : decode cX6_widest 30 = .ok (.istore_n 2, 1) := by decide +kernel
theorem dX6_widest_31 : decode cX6_widest 31 = .ok (.iconst 0, 1) := by decide +kernel
theorem dX6_widest_32 : decode cX6_widest 32 = .ok (.istore_n 3, 1) := by decide +kernel
theorem dX6_widest_33 : decode cX6_widest 33 = .ok (.iconst 1, 1) := by decide +kernel
theorem dX6_widest_34 : decode cX6_widest 34 = .ok (.istore 4, 2) := by decide +kernel
theorem dX6_widest_36 : decode cX6_widest 36 = .ok (.iload 4, 2) := by decide +kernel
theorem dX6_widest_38 : decode cX6_widest 38 = .ok (.aload_n 0, 1) := by decide +kernel
theorem dX6_widest_39 : decode cX6_widest 39 = .ok (.getfield 7, 3) := by decide +kernel
theorem dX6_widest_42 : decode cX6_widest 42 = .ok (.iload_n 2, 1) := by decide +kernel
theorem dX6_widest_43 : decode cX6_widest 43 = .ok (.iconst 1, 1) := by decide +kernel
theorem dX6_widest_44 : decode cX6_widest 44 = .ok (.iadd, 1) := by decide +kernel
theorem dX6_widest_45 : decode cX6_widest 45 = .ok (.iaload, 1) := by decide +kernel
theorem dX6_widest_46 : decode cX6_widest 46 = .ok (.if_icmp .ge 44, 3) := by decide +kernel
theorem dX6_widest_49 : decode cX6_widest 49 = .ok (.aload_n 0, 1) := by decide +kernel
theorem dX6_widest_50 : decode cX6_widest 50 = .ok (.getfield 7, 3) := by decide +kernel
theorem dX6_widest_53 : decode cX6_widest 53 = .ok (.iload_n 2, 1) := by decide +kernel
theorem dX6_widest_54 : decode cX6_widest 54 = .ok (.sipush 1440, 3) := by decide +kernel
theorem dX6_widest_57 : decode cX6_widest 57 = .ok (.iadd, 1) := by decide +kernel
theorem dX6_widest_58 : decode cX6_widest 58 = .ok (.iload 4, 2) := by decide +kernel
theorem dX6_widest_60 : decode cX6_widest 60 = .ok (.iadd, 1) := by decide +kernel
theorem dX6_widest_61 : decode cX6_widest 61 = .ok (.iaload, 1) := by decide +kernel
theorem dX6_widest_62 : decode cX6_widest 62 = .ok (.aload_n 0, 1) := by decide +kernel
theorem dX6_widest_63 : decode cX6_widest 63 = .ok (.getfield 7, 3) := by decide +kernel
theorem dX6_widest_66 : decode cX6_widest 66 = .ok (.iload_n 2, 1) := by decide +kernel
theorem dX6_widest_67 : decode cX6_widest 67 = .ok (.sipush 1440, 3) := by decide +kernel
theorem dX6_widest_70 : decode cX6_widest 70 = .ok (.iadd, 1) := by decide +kernel
theorem dX6_widest_71 : decode cX6_widest 71 = .ok (.iload_n 3, 1) := by decide +kernel
theorem dX6_widest_72 : decode cX6_widest 72 = .ok (.iadd, 1) := by decide +kernel
theorem dX6_widest_73 : decode cX6_widest 73 = .ok (.iaload, 1) := by decide +kernel
theorem dX6_widest_74 : decode cX6_widest 74 = .ok (.if_icmp .le 8, 3) := by decide +kernel
theorem dX6_widest_77 : decode cX6_widest 77 = .ok (.iload 4, 2) := by decide +kernel
theorem dX6_widest_79 : decode cX6_widest 79 = .ok (.goto 4, 3) := by decide +kernel
theorem dX6_widest_82 : decode cX6_widest 82 = .ok (.iload_n 3, 1) := by decide +kernel
theorem dX6_widest_83 : decode cX6_widest 83 = .ok (.istore_n 3, 1) := by decide +kernel
theorem dX6_widest_84 : decode cX6_widest 84 = .ok (.iinc 4 1, 3) := by decide +kernel
theorem dX6_widest_87 : decode cX6_widest 87 = .ok (.goto (-51), 3) := by decide +kernel
theorem dX6_widest_90 : decode cX6_widest 90 = .ok (.iload_n 3, 1) := by decide +kernel
theorem dX6_widest_91 : decode cX6_widest 91 = .ok (.ireturn, 1) := by decide +kernel
theorem dX6_apart_0 : decode cX6_apart 0 = .ok (.aload_n 0, 1) := by decide +kernel
theorem dX6_apart_1 : decode cX6_apart 1 = .ok (.getfield 22, 3) := by decide +kernel
theorem dX6_apart_4 : decode cX6_apart 4 = .ok (.ireturn, 1) := by decide +kernel
theorem dX6_keep_0 : decode cX6_keep 0 = .ok (.iload_n 1, 1) := by decide +kernel
theorem dX6_keep_1 : decode cX6_keep 1 = .ok (.ifCond .lt 8, 3) := by decide +kernel
theorem dX6_keep_4 : decode cX6_keep 4 = .ok (.iload_n 1, 1) := by decide +kernel
theorem dX6_keep_5 : decode cX6_keep 5 = .ok (.iconst 4, 1) := by decide +kernel
theorem dX6_keep_6 : decode cX6_keep 6 = .ok (.if_icmp .lt 5, 3) := by decide +kernel
theorem dX6_keep_9 : decode cX6_keep 9 = .ok (.iconst 0, 1) := by decide +kernel
theorem dX6_keep_10 : decode cX6_keep 10 = .ok (.ireturn, 1) := by decide +kernel
theorem dX6_keep_11 : decode cX6_keep 11 = .ok (.iconst 0, 1) := by decide +kernel
theorem dX6_keep_12 : decode cX6_keep 12 = .ok (.istore_n 2, 1) := by decide +kernel
theorem dX6_keep_13 : decode cX6_keep 13 = .ok (.iload_n 2, 1) := by decide +kernel
theorem dX6_keep_14 : decode cX6_keep 14 = .ok (.sipush 3020, 3) := by decide +kernel
theorem dX6_keep_17 : decode cX6_keep 17 = .ok (.if_icmp .ge 27, 3) := by decide +kernel
theorem dX6_keep_20 : decode cX6_keep 20 = .ok (.aload_n 0, 1) := by decide +kernel
theorem dX6_keep_21 : decode cX6_keep 21 = .ok (.getfield 13, 3) := by decide +kernel
theorem dX6_keep_24 : decode cX6_keep 24 = .ok (.sipush 3020, 3) := by decide +kernel
theorem dX6_keep_27 : decode cX6_keep 27 = .ok (.iload_n 1, 1) := by decide +kernel
theorem dX6_keep_28 : decode cX6_keep 28 = .ok (.imul, 1) := by decide +kernel
theorem dX6_keep_29 : decode cX6_keep 29 = .ok (.iload_n 2, 1) := by decide +kernel
theorem dX6_keep_30 : decode cX6_keep 30 = .ok (.iadd, 1) := by decide +kernel
theorem dX6_keep_31 : decode cX6_keep 31 = .ok (.aload_n 0, 1) := by decide +kernel
theorem dX6_keep_32 : decode cX6_keep 32 = .ok (.getfield 7, 3) := by decide +kernel
theorem dX6_keep_35 : decode cX6_keep 35 = .ok (.iload_n 2, 1) := by decide +kernel
theorem dX6_keep_36 : decode cX6_keep 36 = .ok (.iaload, 1) := by decide +kernel
theorem dX6_keep_37 : decode cX6_keep 37 = .ok (.iastore, 1) := by decide +kernel
theorem dX6_keep_38 : decode cX6_keep 38 = .ok (.iinc 2 1, 3) := by decide +kernel
theorem dX6_keep_41 : decode cX6_keep 41 = .ok (.goto (-28), 3) := by decide +kernel
theorem dX6_keep_44 : decode cX6_keep 44 = .ok (.aload_n 0, 1) := by decide +kernel
theorem dX6_keep_45 : decode cX6_keep 45 = .ok (.getfield 16, 3) := by decide +kernel
theorem dX6_keep_48 : decode cX6_keep 48 = .ok (.iload_n 1, 1) := by decide +kernel
theorem dX6_keep_49 : decode cX6_keep 49 = .ok (.aload_n 0, 1) := by decide +kernel
theorem dX6_keep_50 : decode cX6_keep 50 = .ok (.getfield 37, 3) := by decide +kernel
theorem dX6_keep_53 : decode cX6_keep 53 = .ok (.iastore, 1) := by decide +kernel
theorem dX6_keep_54 : decode cX6_keep 54 = .ok (.aload_n 0, 1) := by decide +kernel
theorem dX6_keep_55 : decode cX6_keep 55 = .ok (.getfield 19, 3) := by decide +kernel
theorem dX6_keep_58 : decode cX6_keep 58 = .ok (.iload_n 1, 1) := by decide +kernel
theorem dX6_keep_59 : decode cX6_keep 59 = .ok (.aload_n 0, 1) := by decide +kernel
theorem dX6_keep_60 : decode cX6_keep 60 = .ok (.getfield 22, 3) := by decide +kernel
theorem dX6_keep_63 : decode cX6_keep 63 = .ok (.iastore, 1) := by decide +kernel
theorem dX6_keep_64 : decode cX6_keep 64 = .ok (.aload_n 0, 1) := by decide +kernel
theorem dX6_keep_65 : decode cX6_keep 65 = .ok (.dup, 1) := by decide +kernel
theorem dX6_keep_66 : decode cX6_keep 66 = .ok (.getfield 90, 3) := by decide +kernel
theorem dX6_keep_69 : decode cX6_keep 69 = .ok (.iconst 1, 1) := by decide +kernel
theorem dX6_keep_70 : decode cX6_keep 70 = .ok (.iload_n 1, 1) := by decide +kernel
theorem dX6_keep_71 : decode cX6_keep 71 = .ok (.ishl, 1) := by decide +kernel
theorem dX6_keep_72 : decode cX6_keep 72 = .ok (.ior, 1) := by decide +kernel
theorem dX6_keep_73 : decode cX6_keep 73 = .ok (.putfield 90, 3) := by decide +kernel
theorem dX6_keep_76 : decode cX6_keep 76 = .ok (.iconst 1, 1) := by decide +kernel
theorem dX6_keep_77 : decode cX6_keep 77 = .ok (.ireturn, 1) := by decide +kernel
theorem dX6_back_0 : decode cX6_back 0 = .ok (.iload_n 1, 1) := by decide +kernel
theorem dX6_back_1 : decode cX6_back 1 = .ok (.ifCond .lt 19, 3) := by decide +kernel
theorem dX6_back_4 : decode cX6_back 4 = .ok (.iload_n 1, 1) := by decide +kernel
theorem dX6_back_5 : decode cX6_back 5 = .ok (.iconst 4, 1) := by decide +kernel
theorem dX6_back_6 : decode cX6_back 6 = .ok (.if_icmp .ge 14, 3) := by decide +kernel
theorem dX6_back_9 : decode cX6_back 9 = .ok (.aload_n 0, 1) := by decide +kernel
theorem dX6_back_10 : decode cX6_back 10 = .ok (.getfield 90, 3) := by decide +kernel
theorem dX6_back_13 : decode cX6_back 13 = .ok (.iload_n 1, 1) := by decide +kernel
theorem dX6_back_14 : decode cX6_back 14 = .ok (.ishr, 1) := by decide +kernel
theorem dX6_back_15 : decode cX6_back 15 = .ok (.iconst 1, 1) := by decide +kernel
theorem dX6_back_16 : decode cX6_back 16 = .ok (.iand, 1) := by decide +kernel
theorem dX6_back_17 : decode cX6_back 17 = .ok (.ifCond .ne 5, 3) := by decide +kernel
theorem dX6_back_20 : decode cX6_back 20 = .ok (.iconst 0, 1) := by decide +kernel
theorem dX6_back_21 : decode cX6_back 21 = .ok (.ireturn, 1) := by decide +kernel
theorem dX6_back_22 : decode cX6_back 22 = .ok (.iconst 0, 1) := by decide +kernel
theorem dX6_back_23 : decode cX6_back 23 = .ok (.istore_n 2, 1) := by decide +kernel
theorem dX6_back_24 : decode cX6_back 24 = .ok (.iload_n 2, 1) := by decide +kernel
theorem dX6_back_25 : decode cX6_back 25 = .ok (.sipush 3020, 3) := by decide +kernel
theorem dX6_back_28 : decode cX6_back 28 = .ok (.if_icmp .ge 27, 3) := by decide +kernel
theorem dX6_back_31 : decode cX6_back 31 = .ok (.aload_n 0, 1) := by decide +kernel
theorem dX6_back_32 : decode cX6_back 32 = .ok (.getfield 7, 3) := by decide +kernel
theorem dX6_back_35 : decode cX6_back 35 = .ok (.iload_n 2, 1) := by decide +kernel
theorem dX6_back_36 : decode cX6_back 36 = .ok (.aload_n 0, 1) := by decide +kernel
theorem dX6_back_37 : decode cX6_back 37 = .ok (.getfield 13, 3) := by decide +kernel
theorem dX6_back_40 : decode cX6_back 40 = .ok (.sipush 3020, 3) := by decide +kernel
theorem dX6_back_43 : decode cX6_back 43 = .ok (.iload_n 1, 1) := by decide +kernel
theorem dX6_back_44 : decode cX6_back 44 = .ok (.imul, 1) := by decide +kernel
theorem dX6_back_45 : decode cX6_back 45 = .ok (.iload_n 2, 1) := by decide +kernel
theorem dX6_back_46 : decode cX6_back 46 = .ok (.iadd, 1) := by decide +kernel
theorem dX6_back_47 : decode cX6_back 47 = .ok (.iaload, 1) := by decide +kernel
theorem dX6_back_48 : decode cX6_back 48 = .ok (.iastore, 1) := by decide +kernel
theorem dX6_back_49 : decode cX6_back 49 = .ok (.iinc 2 1, 3) := by decide +kernel
theorem dX6_back_52 : decode cX6_back 52 = .ok (.goto (-28), 3) := by decide +kernel
theorem dX6_back_55 : decode cX6_back 55 = .ok (.aload_n 0, 1) := by decide +kernel
theorem dX6_back_56 : decode cX6_back 56 = .ok (.aload_n 0, 1) := by decide +kernel
theorem dX6_back_57 : decode cX6_back 57 = .ok (.getfield 16, 3) := by decide +kernel
theorem dX6_back_60 : decode cX6_back 60 = .ok (.iload_n 1, 1) := by decide +kernel
theorem dX6_back_61 : decode cX6_back 61 = .ok (.iaload, 1) := by decide +kernel
theorem dX6_back_62 : decode cX6_back 62 = .ok (.putfield 37, 3) := by decide +kernel
theorem dX6_back_65 : decode cX6_back 65 = .ok (.aload_n 0, 1) := by decide +kernel
theorem dX6_back_66 : decode cX6_back 66 = .ok (.aload_n 0, 1) := by decide +kernel
theorem dX6_back_67 : decode cX6_back 67 = .ok (.getfield 19, 3) := by decide +kernel
theorem dX6_back_70 : decode cX6_back 70 = .ok (.iload_n 1, 1) := by decide +kernel
theorem dX6_back_71 : decode cX6_back 71 = .ok (.iaload, 1) := by decide +kernel
theorem dX6_back_72 : decode cX6_back 72 = .ok (.putfield 22, 3) := by decide +kernel
theorem dX6_back_75 : decode cX6_back 75 = .ok (.iconst 1, 1) := by decide +kernel
theorem dX6_back_76 : decode cX6_back 76 = .ok (.ireturn, 1) := by decide +kernel
theorem dX6_about_0 : decode cX6_about 0 = .ok (.iload_n 1, 1) := by decide +kernel
theorem dX6_about_1 : decode cX6_about 1 = .ok (.ifCond .ne 10, 3) := by decide +kernel
theorem dX6_about_4 : decode cX6_about 4 = .ok (.aload_n 0, 1) := by decide +kernel
theorem dX6_about_5 : decode cX6_about 5 = .ok (.getfield 37, 3) := by decide +kernel
theorem dX6_about_8 : decode cX6_about 8 = .ok (.goto 28, 3) := by decide +kernel
theorem dX6_about_11 : decode cX6_about 11 = .ok (.iload_n 1, 1) := by decide +kernel
theorem dX6_about_12 : decode cX6_about 12 = .ok (.iconst 1, 1) := by decide +kernel
theorem dX6_about_13 : decode cX6_about 13 = .ok (.if_icmp .ne 10, 3) := by decide +kernel
theorem dX6_about_16 : decode cX6_about 16 = .ok (.aload_n 0, 1) := by decide +kernel
theorem dX6_about_17 : decode cX6_about 17 = .ok (.getfield 73, 3) := by decide +kernel
theorem dX6_about_20 : decode cX6_about 20 = .ok (.goto 16, 3) := by decide +kernel
theorem dX6_about_23 : decode cX6_about 23 = .ok (.iload_n 1, 1) := by decide +kernel
theorem dX6_about_24 : decode cX6_about 24 = .ok (.iconst 2, 1) := by decide +kernel
theorem dX6_about_25 : decode cX6_about 25 = .ok (.if_icmp .ne 10, 3) := by decide +kernel
theorem dX6_about_28 : decode cX6_about 28 = .ok (.aload_n 0, 1) := by decide +kernel
theorem dX6_about_29 : decode cX6_about 29 = .ok (.getfield 90, 3) := by decide +kernel
theorem dX6_about_32 : decode cX6_about 32 = .ok (.goto 4, 3) := by decide +kernel
theorem dX6_about_35 : decode cX6_about 35 = .ok (.iconst (-1), 1) := by decide +kernel
theorem dX6_about_36 : decode cX6_about 36 = .ok (.ireturn, 1) := by decide +kernel
