set_option maxRecDepth 20000 in
theorem ggX5_init_X0_init : GoodIn wsX5_init wsX0_init := goodIn_r _ [12, 13, 2, 3, 14, 15, 16, 17, 18, 19, 20, 21, 22, 9, 23, 24, 25, 26, 27, 28, 29, 30, 31, 32, 33, 34, 35, 36, 37, 38, 39, 40, 41, 42, 43, 44, 53, 54, 55, 56, 57, 58, 59, 60, 61, 62, 63, 64, 65, 66, 67, 68, 45, 46, 47, 48, 69, 70, 71, 72, 73, 74, 75, 76] (by decide +kernel) (by decide +kernel)
set_option maxRecDepth 20000 in
theorem gX5_init_X0_init_n9 : GoodIn wsX5_init (wsX0_init) := ggX5_init_X0_init
theorem dX5_init_0 : decode cX5_init 0 = .ok (.aload_n 0, 1) := by decide +kernel
theorem dX5_init_1 : decode cX5_init 1 = .ok (.invokespecial 1, 3) := by decide +kernel
theorem dX5_init_4 : decode cX5_init 4 = .ok (.aload_n 0, 1) := by decide +kernel
theorem dX5_init_5 : decode cX5_init 5 = .ok (.new 7, 3) := by decide +kernel
theorem dX5_init_8 : decode cX5_init 8 = .ok (.dup, 1) := by decide +kernel
theorem dX5_init_9 : decode cX5_init 9 = .ok (.invokespecial 9, 3) := by decide +kernel
theorem dX5_init_12 : decode cX5_init 12 = .ok (.putfield 10, 3) := by decide +kernel
theorem dX5_init_15 : decode cX5_init 15 = .ok (.aload_n 0, 1) := by decide +kernel
theorem dX5_init_16 : decode cX5_init 16 = .ok (.iconst 4, 1) := by decide +kernel
theorem dX5_init_17 : decode cX5_init 17 = .ok (.anewarray 7, 3) := by decide +kernel
theorem dX5_init_20 : decode cX5_init 20 = .ok (.putfield 16, 3) := by decide +kernel
theorem dX5_init_23 : decode cX5_init 23 = .ok (.aload_n 0, 1) := by decide +kernel
theorem dX5_init_24 : decode cX5_init 24 = .ok (.sipush 500, 3) := by decide +kernel
theorem dX5_init_27 : decode cX5_init 27 = .ok (.newarray .int, 2) := by decide +kernel
theorem dX5_init_29 : decode cX5_init 29 = .ok (.putfield 20, 3) := by decide +kernel
theorem dX5_init_32 : decode cX5_init 32 = .ok (.return_, 1) := by decide +kernel
set_option maxRecDepth 20000 in
theorem ggX5_hold_X0_readerAt : GoodIn wsX5_hold wsX0_readerAt := goodIn_r _ [5, 6, 7, 72, 73, 74, 75] (by decide +kernel) (by decide +kernel)
set_option maxRecDepth 20000 in
theorem gX5_hold_X0_readerAt_n24 : GoodIn wsX5_hold (wsX0_readerAt) := ggX5_hold_X0_readerAt
set_option maxRecDepth 20000 in
theorem ggX5_hold_X2_beginAnew : GoodIn wsX5_hold wsX2_beginAnew := goodIn_r _ [11, 12, 13, 14, 15, 16, 17, 18, 19, 20, 21, 22, 23, 24, 25, 26, 27, 28, 29, 30, 31, 32, 33, 34, 35, 36, 37, 38, 39, 40, 41, 42, 43, 44, 45, 9, 46, 47, 48, 49, 50, 51, 56, 57, 58, 59, 60, 61, 62, 63, 64, 65, 66, 67, 68, 69, 70, 71, 76, 77, 78, 79, 80, 81, 82, 83] (by decide +kernel) (by decide +kernel)
set_option maxRecDepth 20000 in
theorem gX5_hold_X2_beginAnew_n37 : GoodIn wsX5_hold (wsX2_beginAnew) := ggX5_hold_X2_beginAnew
theorem dX5_hold_0 : decode cX5_hold 0 = .ok (.aload_n 0, 1) := by decide +kernel
theorem dX5_hold_1 : decode cX5_hold 1 = .ok (.getfield 10, 3) := by decide +kernel
theorem dX5_hold_4 : decode cX5_hold 4 = .ok (.iload_n 1, 1) := by decide +kernel
theorem dX5_hold_5 : decode cX5_hold 5 = .ok (.invokevirtual 24, 3) := by decide +kernel
theorem dX5_hold_8 : decode cX5_hold 8 = .ok (.astore_n 3, 1) := by decide +kernel
theorem dX5_hold_9 : decode cX5_hold 9 = .ok (.aload_n 3, 1) := by decide +kernel
theorem dX5_hold_10 : decode cX5_hold 10 = .ok (.ifnull 14, 3) := by decide +kernel
theorem dX5_hold_13 : decode cX5_hold 13 = .ok (.iload_n 2, 1) := by decide +kernel
theorem dX5_hold_14 : decode cX5_hold 14 = .ok (.iconst 1, 1) := by decide +kernel
theorem dX5_hold_15 : decode cX5_hold 15 = .ok (.if_icmp .lt 9, 3) := by decide +kernel
theorem dX5_hold_18 : decode cX5_hold 18 = .ok (.iload_n 2, 1) := by decide +kernel
theorem dX5_hold_19 : decode cX5_hold 19 = .ok (.bipush 16, 2) := by decide +kernel
theorem dX5_hold_21 : decode cX5_hold 21 = .ok (.if_icmp .le 5, 3) := by decide +kernel
theorem dX5_hold_24 : decode cX5_hold 24 = .ok (.iconst 0, 1) := by decide +kernel
theorem dX5_hold_25 : decode cX5_hold 25 = .ok (.ireturn, 1) := by decide +kernel
theorem dX5_hold_26 : decode cX5_hold 26 = .ok (.aload_n 3, 1) := by decide +kernel
theorem dX5_hold_27 : decode cX5_hold 27 = .ok (.iload_n 2, 1) := by decide +kernel
theorem dX5_hold_28 : decode cX5_hold 28 = .ok (.putfield 28, 3) := by decide +kernel
theorem dX5_hold_31 : decode cX5_hold 31 = .ok (.aload_n 3, 1) := by decide +kernel
theorem dX5_hold_32 : decode cX5_hold 32 = .ok (.aload_n 0, 1) := by decide +kernel
theorem dX5_hold_33 : decode cX5_hold 33 = .ok (.getfield 10, 3) := by decide +kernel
theorem dX5_hold_36 : decode cX5_hold 36 = .ok (.getfield 34, 3) := by decide +kernel
theorem dX5_hold_39 : decode cX5_hold 39 = .ok (.invokevirtual 37, 3) := by decide +kernel
theorem dX5_hold_42 : decode cX5_hold 42 = .ok (.iconst 1, 1) := by decide +kernel
theorem dX5_hold_43 : decode cX5_hold 43 = .ok (.ireturn, 1) := by decide +kernel
set_option maxRecDepth 20000 in
theorem ggX5_turn_X0_readerAt : GoodIn wsX5_turn wsX0_readerAt := goodIn_r _ [5, 6, 7, 72, 73, 74, 75] (by decide +kernel) (by decide +kernel)
set_option maxRecDepth 20000 in
theorem gX5_turn_X0_readerAt_n24 : GoodIn wsX5_turn (wsX0_readerAt) := ggX5_turn_X0_readerAt
set_option maxRecDepth 20000 in
theorem ggX5_turn_X2_beginAnew : GoodIn wsX5_turn wsX2_beginAnew := goodIn_r _ [11, 12, 13, 14, 15, 16, 17, 18, 19, 20, 21, 22, 23, 24, 25, 26, 27, 28, 29, 30, 31, 32, 33, 34, 35, 36, 37, 38, 39, 40, 41, 42, 43, 44, 45, 9, 46, 47, 48, 49, 50, 51, 56, 57, 58, 59, 60, 61, 62, 63, 64, 65, 66, 67, 68, 69, 70, 71, 76, 77, 78, 79, 80, 81, 82, 83] (by decide +kernel) (by decide +kernel)
set_option maxRecDepth 20000 in
theorem gX5_turn_X2_beginAnew_n37 : GoodIn wsX5_turn (wsX2_beginAnew) := ggX5_turn_X2_beginAnew
theorem dX5_turn_0 : decode cX5_turn 0 = .ok (.aload_n 0, 1) := by decide +kernel
theorem dX5_turn_1 : decode cX5_turn 1 = .ok (.getfield 10, 3) := by decide +kernel
theorem dX5_turn_4 : decode cX5_turn 4 = .ok (.iload_n 1, 1) := by decide +kernel
theorem dX5_turn_5 : decode cX5_turn 5 = .ok (.invokevirtual 24, 3) := by decide +kernel
theorem dX5_turn_8 : decode cX5_turn 8 = .ok (.astore_n 3, 1) := by decide +kernel
theorem dX5_turn_9 : decode cX5_turn 9 = .ok (.aload_n 3, 1) := by decide +kernel
theorem dX5_turn_10 : decode cX5_turn 10 = .ok (.ifnull 14, 3) := by decide +kernel
theorem dX5_turn_13 : decode cX5_turn 13 = .ok (.iload_n 2, 1) := by decide +kernel
theorem dX5_turn_14 : decode cX5_turn 14 = .ok (.iconst 4, 1) := by decide +kernel
theorem dX5_turn_15 : decode cX5_turn 15 = .ok (.if_icmp .lt 9, 3) := by decide +kernel
theorem dX5_turn_18 : decode cX5_turn 18 = .ok (.iload_n 2, 1) := by decide +kernel
theorem dX5_turn_19 : decode cX5_turn 19 = .ok (.bipush 64, 2) := by decide +kernel
theorem dX5_turn_21 : decode cX5_turn 21 = .ok (.if_icmp .le 5, 3) := by decide +kernel
theorem dX5_turn_24 : decode cX5_turn 24 = .ok (.iconst 0, 1) := by decide +kernel
theorem dX5_turn_25 : decode cX5_turn 25 = .ok (.ireturn, 1) := by decide +kernel
theorem dX5_turn_26 : decode cX5_turn 26 = .ok (.aload_n 3, 1) := by decide +kernel
theorem dX5_turn_27 : decode cX5_turn 27 = .ok (.iload_n 2, 1) := by decide +kernel
theorem dX5_turn_28 : decode cX5_turn 28 = .ok (.putfield 41, 3) := by decide +kernel
theorem dX5_turn_31 : decode cX5_turn 31 = .ok (.aload_n 3, 1) := by decide +kernel
theorem dX5_turn_32 : decode cX5_turn 32 = .ok (.aload_n 0, 1) := by decide +kernel
theorem dX5_turn_33 : decode cX5_turn 33 = .ok (.getfield 10, 3) := by decide +kernel
theorem dX5_turn_36 : decode cX5_turn 36 = .ok (.getfield 34, 3) := by decide +kernel
theorem dX5_turn_39 : decode cX5_turn 39 = .ok (.invokevirtual 37, 3) := by decide +kernel
theorem dX5_turn_42 : decode cX5_turn 42 = .ok (.iconst 1, 1) := by decide +kernel
theorem dX5_turn_43 : decode cX5_turn 43 = .ok (.ireturn, 1) := by decide +kernel
set_option maxRecDepth 20000 in
theorem ggX5_tick_X5_areLineBits : GoodIn wsX5_tick wsX5_areLineBits := goodIn_r _ [6] (by decide +kernel) (by decide +kernel)
set_option maxRecDepth 20000 in
theorem gX5_tick_X5_areLineBits : GoodIn wsX5_tick (va_wsS RX5 45 yX5_areLineBits wsX5_areLineBits) := goodIn_app (goodIn_of _ (by decide +kernel)) ggX5_tick_X5_areLineBits
set_option maxRecDepth 20000 in
theorem ggX5_tick_X0_step : GoodIn wsX5_tick wsX0_step := goodIn_r _ [10, 11, 12, 13, 14, 15, 16, 17, 18, 19, 20, 21, 22, 23, 24, 25, 26, 27, 28, 29, 30, 31, 32, 33, 34, 35, 36, 37, 38, 39, 40, 41, 42, 43, 44, 45, 46, 47, 48, 49, 50, 51, 52, 53, 54, 55, 56, 57, 58, 59, 60, 61, 62, 63, 64, 65, 66, 67, 68, 69, 70, 71, 72, 73, 74, 75, 76, 77, 78, 79, 80, 81, 82, 83, 84, 85, 86, 87, 88, 89, 90, 91, 92, 93, 94, 95, 8, 96, 97, 98, 99, 100, 105, 106, 107, 108, 109, 110, 111, 112, 113, 114, 115, 116, 117, 118, 119, 120, 121, 122, 123, 124, 125, 126, 127, 128, 129, 130, 131, 132] (by decide +kernel) (by decide +kernel)
set_option maxRecDepth 20000 in
theorem gX5_tick_X0_step_n49 : GoodIn wsX5_tick (wsX0_step) := ggX5_tick_X0_step
theorem dX5_tick_0 : decode cX5_tick 0 = .ok (.iload_n 1, 1) := by decide +kernel
theorem dX5_tick_1 : decode cX5_tick 1 = .ok (.ifCond .lt 24, 3) := by decide +kernel
theorem dX5_tick_4 : decode cX5_tick 4 = .ok (.iload_n 1, 1) := by decide +kernel
theorem dX5_tick_5 : decode cX5_tick 5 = .ok (.sipush 2000, 3) := by decide +kernel
theorem dX5_tick_8 : decode cX5_tick 8 = .ok (.if_icmp .gt 17, 3) := by decide +kernel
theorem dX5_tick_11 : decode cX5_tick 11 = .ok (.iload_n 1, 1) := by decide +kernel
theorem dX5_tick_12 : decode cX5_tick 12 = .ok (.ldc 44, 2) := by decide +kernel
theorem dX5_tick_14 : decode cX5_tick 14 = .ok (.aload_n 0, 1) := by decide +kernel
theorem dX5_tick_15 : decode cX5_tick 15 = .ok (.getfield 10, 3) := by decide +kernel
theorem dX5_tick_18 : decode cX5_tick 18 = .ok (.getfield 34, 3) := by decide +kernel
theorem dX5_tick_21 : decode cX5_tick 21 = .ok (.isub, 1) := by decide +kernel
theorem dX5_tick_22 : decode cX5_tick 22 = .ok (.if_icmp .le 5, 3) := by decide +kernel
theorem dX5_tick_25 : decode cX5_tick 25 = .ok (.iconst (-1), 1) := by decide +kernel
theorem dX5_tick_26 : decode cX5_tick 26 = .ok (.ireturn, 1) := by decide +kernel
theorem dX5_tick_27 : decode cX5_tick 27 = .ok (.iload_n 2, 1) := by decide +kernel
theorem dX5_tick_28 : decode cX5_tick 28 = .ok (.invokestatic 45, 3) := by decide +kernel
theorem dX5_tick_31 : decode cX5_tick 31 = .ok (.ifCond .eq 10, 3) := by decide +kernel
theorem dX5_tick_34 : decode cX5_tick 34 = .ok (.iload_n 3, 1) := by decide +kernel
theorem dX5_tick_35 : decode cX5_tick 35 = .ok (.invokestatic 45, 3) := by decide +kernel
theorem dX5_tick_38 : decode cX5_tick 38 = .ok (.ifCond .ne 5, 3) := by decide +kernel
theorem dX5_tick_41 : decode cX5_tick 41 = .ok (.iconst (-1), 1) := by decide +kernel
theorem dX5_tick_42 : decode cX5_tick 42 = .ok (.ireturn, 1) := by decide +kernel
theorem dX5_tick_43 : decode cX5_tick 43 = .ok (.iconst 0, 1) := by decide +kernel
theorem dX5_tick_44 : decode cX5_tick 44 = .ok (.istore 4, 2) := by decide +kernel
theorem dX5_tick_46 : decode cX5_tick 46 = .ok (.iload 4, 2) := by decide +kernel
theorem dX5_tick_48 : decode cX5_tick 48 = .ok (.iload_n 1, 1) := by decide +kernel
theorem dX5_tick_49 : decode cX5_tick 49 = .ok (.if_icmp .ge 18, 3) := by decide +kernel
theorem dX5_tick_52 : decode cX5_tick 52 = .ok (.aload_n 0, 1) := by decide +kernel
theorem dX5_tick_53 : decode cX5_tick 53 = .ok (.getfield 10, 3) := by decide +kernel
theorem dX5_tick_56 : decode cX5_tick 56 = .ok (.iload_n 2, 1) := by decide +kernel
theorem dX5_tick_57 : decode cX5_tick 57 = .ok (.iload_n 3, 1) := by decide +kernel
theorem dX5_tick_58 : decode cX5_tick 58 = .ok (.invokevirtual 49, 3) := by decide +kernel
theorem dX5_tick_61 : decode cX5_tick 61 = .ok (.iinc 4 1, 3) := by decide +kernel
theorem dX5_tick_64 : decode cX5_tick 64 = .ok (.goto (-18), 3) := by decide +kernel
theorem dX5_tick_67 : decode cX5_tick 67 = .ok (.iload_n 1, 1) := by decide +kernel
theorem dX5_tick_68 : decode cX5_tick 68 = .ok (.ireturn, 1) := by decide +kernel
set_option maxRecDepth 20000 in
theorem ggX5_feed_X5_putWord : GoodIn wsX5_feed wsX5_putWord := goodIn_r _ [7, 1, 2, 12, 13, 14, 15] (by decide +kernel) (by decide +kernel)
set_option maxRecDepth 20000 in
theorem gX5_feed_X5_putWord : GoodIn wsX5_feed (wsV RX5 56 RX5 yX5_putWord wsX5_putWord) := goodIn_app (goodIn_of _ (by decide +kernel)) ggX5_feed_X5_putWord
set_option maxRecDepth 20000 in
theorem ggX5_feed_X5_tapeBytes : GoodIn wsX5_feed wsX5_tapeBytes := goodIn_r _ [11, 1, 12, 13, 14, 15] (by decide +kernel) (by decide +kernel)
set_option maxRecDepth 20000 in
theorem gX5_feed_X5_tapeBytes : GoodIn wsX5_feed (wsV RX5 59 RX5 yX5_tapeBytes wsX5_tapeBytes) := goodIn_app (goodIn_of _ (by decide +kernel)) ggX5_feed_X5_tapeBytes
theorem dX5_feed_0 : decode cX5_feed 0 = .ok (.aload_n 0, 1) := by decide +kernel
theorem dX5_feed_1 : decode cX5_feed 1 = .ok (.getfield 53, 3) := by decide +kernel
theorem dX5_feed_4 : decode cX5_feed 4 = .ok (.aload_n 0, 1) := by decide +kernel
theorem dX5_feed_5 : decode cX5_feed 5 = .ok (.getfield 20, 3) := by decide +kernel
theorem dX5_feed_8 : decode cX5_feed 8 = .ok (.arraylength, 1) := by decide +kernel
theorem dX5_feed_9 : decode cX5_feed 9 = .ok (.iconst 5, 1) := by decide +kernel
theorem dX5_feed_10 : decode cX5_feed 10 = .ok (.isub, 1) := by decide +kernel
theorem dX5_feed_11 : decode cX5_feed 11 = .ok (.if_icmp .le 5, 3) := by decide +kernel
theorem dX5_feed_14 : decode cX5_feed 14 = .ok (.iconst (-1), 1) := by decide +kernel
theorem dX5_feed_15 : decode cX5_feed 15 = .ok (.ireturn, 1) := by decide +kernel
theorem dX5_feed_16 : decode cX5_feed 16 = .ok (.aload_n 0, 1) := by decide +kernel
theorem dX5_feed_17 : decode cX5_feed 17 = .ok (.iload_n 1, 1) := by decide +kernel
theorem dX5_feed_18 : decode cX5_feed 18 = .ok (.invokevirtual 56, 3) := by decide +kernel
theorem dX5_feed_21 : decode cX5_feed 21 = .ok (.aload_n 0, 1) := by decide +kernel
theorem dX5_feed_22 : decode cX5_feed 22 = .ok (.iload_n 2, 1) := by decide +kernel
theorem dX5_feed_23 : decode cX5_feed 23 = .ok (.invokevirtual 56, 3) := by decide +kernel
theorem dX5_feed_26 : decode cX5_feed 26 = .ok (.aload_n 0, 1) := by decide +kernel
theorem dX5_feed_27 : decode cX5_feed 27 = .ok (.iload_n 3, 1) := by decide +kernel
theorem dX5_feed_28 : decode cX5_feed 28 = .ok (.invokevirtual 56, 3) := by decide +kernel
theorem dX5_feed_31 : decode cX5_feed 31 = .ok (.aload_n 0, 1) := by decide +kernel
theorem dX5_feed_32 : decode cX5_feed 32 = .ok (.iload 4, 2) := by decide +kernel
theorem dX5_feed_34 : decode cX5_feed 34 = .ok (.invokevirtual 56, 3) := by decide +kernel
theorem dX5_feed_37 : decode cX5_feed 37 = .ok (.aload_n 0, 1) := by decide +kernel
theorem dX5_feed_38 : decode cX5_feed 38 = .ok (.iload 5, 2) := by decide +kernel
theorem dX5_feed_40 : decode cX5_feed 40 = .ok (.invokevirtual 56, 3) := by decide +kernel
theorem dX5_feed_43 : decode cX5_feed 43 = .ok (.aload_n 0, 1) := by decide +kernel
theorem dX5_feed_44 : decode cX5_feed 44 = .ok (.invokevirtual 59, 3) := by decide +kernel
theorem dX5_feed_47 : decode cX5_feed 47 = .ok (.ireturn, 1) := by decide +kernel
set_option maxRecDepth 20000 in
theorem ggX5_play_X5_tapeBytes : GoodIn wsX5_play wsX5_tapeBytes := goodIn_r _ [8, 3, 108, 109, 110, 111] (by decide +kernel) (by decide +kernel)
set_option maxRecDepth 20000 in
theorem gX5_play_X5_tapeBytes : GoodIn wsX5_play (wsV RX5 59 RX5 yX5_tapeBytes wsX5_tapeBytes) := goodIn_app (goodIn_of _ (by decide +kernel)) ggX5_play_X5_tapeBytes
set_option maxRecDepth 20000 in
theorem ggX5_play_X5_tapeByte : GoodIn wsX5_play wsX5_tapeByte := goodIn_r _ [12, 3, 13, 108, 109, 110, 111] (by decide +kernel) (by decide +kernel)
set_option maxRecDepth 20000 in
theorem gX5_play_X5_tapeByte : GoodIn wsX5_play (wsV RX5 63 RX5 yX5_tapeByte wsX5_tapeByte) := goodIn_app (goodIn_of _ (by decide +kernel)) ggX5_play_X5_tapeByte
set_option maxRecDepth 20000 in
theorem ggX5_play_X0_step : GoodIn wsX5_play wsX0_step := goodIn_r _ [17, 18, 19, 20, 21, 22, 23, 24, 25, 26, 27, 28, 29, 30, 31, 32, 33, 34, 35, 36, 37, 38, 39, 40, 41, 42, 43, 44, 45, 46, 47, 48, 49, 50, 51, 52, 53, 54, 55, 56, 57, 58, 59, 60, 61, 62, 63, 64, 65, 66, 67, 68, 69, 70, 71, 72, 73, 74, 75, 76, 77, 78, 79, 80, 81, 82, 83, 84, 85, 86, 87, 88, 89, 90, 91, 92, 93, 94, 95, 96, 97, 98, 99, 100, 101, 102, 15, 103, 104, 105, 106, 107, 112, 113, 114, 115, 116, 117, 118, 119, 120, 121, 122, 123, 124, 125, 126, 127, 128, 129, 130, 131, 132, 133, 134, 135, 136, 137, 138, 139] (by decide +kernel) (by decide +kernel)
set_option maxRecDepth 20000 in
theorem gX5_play_X0_step_n49 : GoodIn wsX5_play (wsX0_step) := ggX5_play_X0_step
theorem dX5_play_0 : decode cX5_play 0 = .ok (.iload_n 1, 1) := by decide +kernel
theorem dX5_play_1 : decode cX5_play 1 = .ok (.ifCond .lt 11, 3) := by decide +kernel
theorem dX5_play_4 : decode cX5_play 4 = .ok (.iload_n 1, 1) := by decide +kernel
theorem dX5_play_5 : decode cX5_play 5 = .ok (.aload_n 0, 1) := by decide +kernel
theorem dX5_play_6 : decode cX5_play 6 = .ok (.invokevirtual 59, 3) := by decide +kernel
theorem dX5_play_9 : decode cX5_play 9 = .ok (.if_icmp .le 5, 3) := by decide +kernel
theorem dX5_play_12 : decode cX5_play 12 = .ok (.iconst (-1), 1) := by decide +kernel
theorem dX5_play_13 : decode cX5_play 13 = .ok (.ireturn, 1) := by decide +kernel
theorem dX5_play_14 : decode cX5_play 14 = .ok (.iconst 0, 1) := by decide +kernel
theorem dX5_play_15 : decode cX5_play 15 = .ok (.istore_n 2, 1) := by decide +kernel
theorem dX5_play_16 : decode cX5_play 16 = .ok (.iload_n 2, 1) := by decide +kernel
theorem dX5_play_17 : decode cX5_play 17 = .ok (.iload_n 1, 1) := by decide +kernel
theorem dX5_play_18 : decode cX5_play 18 = .ok (.if_icmp .ge 55, 3) := by decide +kernel
theorem dX5_play_21 : decode cX5_play 21 = .ok (.aload_n 0, 1) := by decide +kernel
theorem dX5_play_22 : decode cX5_play 22 = .ok (.getfield 10, 3) := by decide +kernel
theorem dX5_play_25 : decode cX5_play 25 = .ok (.getfield 34, 3) := by decide +kernel
theorem dX5_play_28 : decode cX5_play 28 = .ok (.ldc 44, 2) := by decide +kernel
theorem dX5_play_30 : decode cX5_play 30 = .ok (.if_icmp .ge 43, 3) := by decide +kernel
theorem dX5_play_33 : decode cX5_play 33 = .ok (.aload_n 0, 1) := by decide +kernel
theorem dX5_play_34 : decode cX5_play 34 = .ok (.iload_n 2, 1) := by decide +kernel
theorem dX5_play_35 : decode cX5_play 35 = .ok (.invokevirtual 63, 3) := by decide +kernel
theorem dX5_play_38 : decode cX5_play 38 = .ok (.istore_n 3, 1) := by decide +kernel
theorem dX5_play_39 : decode cX5_play 39 = .ok (.iload_n 3, 1) := by decide +kernel
theorem dX5_play_40 : decode cX5_play 40 = .ok (.sipush 192, 3) := by decide +kernel
theorem dX5_play_43 : decode cX5_play 43 = .ok (.iand, 1) := by decide +kernel
theorem dX5_play_44 : decode cX5_play 44 = .ok (.ifCond .eq 6, 3) := by decide +kernel
theorem dX5_play_47 : decode cX5_play 47 = .ok (.goto 26, 3) := by decide +kernel
theorem dX5_play_50 : decode cX5_play 50 = .ok (.aload_n 0, 1) := by decide +kernel
theorem dX5_play_51 : decode cX5_play 51 = .ok (.getfield 10, 3) := by decide +kernel
theorem dX5_play_54 : decode cX5_play 54 = .ok (.iload_n 3, 1) := by decide +kernel
theorem dX5_play_55 : decode cX5_play 55 = .ok (.bipush 7, 2) := by decide +kernel
theorem dX5_play_57 : decode cX5_play 57 = .ok (.iand, 1) := by decide +kernel
theorem dX5_play_58 : decode cX5_play 58 = .ok (.iload_n 3, 1) := by decide +kernel
theorem dX5_play_59 : decode cX5_play 59 = .ok (.iconst 3, 1) := by decide +kernel
theorem dX5_play_60 : decode cX5_play 60 = .ok (.ishr, 1) := by decide +kernel
theorem dX5_play_61 : decode cX5_play 61 = .ok (.bipush 7, 2) := by decide +kernel
theorem dX5_play_63 : decode cX5_play 63 = .ok (.iand, 1) := by decide +kernel
theorem dX5_play_64 : decode cX5_play 64 = .ok (.invokevirtual 49, 3) := by decide +kernel
theorem dX5_play_67 : decode cX5_play 67 = .ok (.iinc 2 1, 3) := by decide +kernel
theorem dX5_play_70 : decode cX5_play 70 = .ok (.goto (-54), 3) := by decide +kernel
theorem dX5_play_73 : decode cX5_play 73 = .ok (.aload_n 0, 1) := by decide +kernel
theorem dX5_play_74 : decode cX5_play 74 = .ok (.iconst 0, 1) := by decide +kernel
theorem dX5_play_75 : decode cX5_play 75 = .ok (.putfield 53, 3) := by decide +kernel
theorem dX5_play_78 : decode cX5_play 78 = .ok (.iload_n 2, 1) := by decide +kernel
theorem dX5_play_79 : decode cX5_play 79 = .ok (.ireturn, 1) := by decide +kernel
set_option maxRecDepth 20000 in
theorem ggX5_of_X0_readerAt : GoodIn wsX5_of wsX0_readerAt := goodIn_r _ [6, 7, 8, 39, 40, 41, 42] (by decide +kernel) (by decide +kernel)
set_option maxRecDepth 20000 in
theorem gX5_of_X0_readerAt_n24 : GoodIn wsX5_of (wsX0_readerAt) := ggX5_of_X0_readerAt
set_option maxRecDepth 20000 in
theorem ggX5_of_X2_phase : GoodIn wsX5_of wsX2_phase := goodIn_r _ [12, 13, 18, 19, 20, 21, 22, 23, 24, 25, 26, 27, 28, 29, 30, 31, 32, 33] (by decide +kernel) (by decide +kernel)
set_option maxRecDepth 20000 in
theorem gX5_of_X2_phase_n77 : GoodIn wsX5_of (wsX2_phase) := ggX5_of_X2_phase
theorem dX5_of_0 : decode cX5_of 0 = .ok (.aload_n 0, 1) := by decide +kernel
theorem dX5_of_1 : decode cX5_of 1 = .ok (.getfield 10, 3) := by decide +kernel
theorem dX5_of_4 : decode cX5_of 4 = .ok (.iload_n 1, 1) := by decide +kernel
theorem dX5_of_5 : decode cX5_of 5 = .ok (.invokevirtual 24, 3) := by decide +kernel
theorem dX5_of_8 : decode cX5_of 8 = .ok (.astore_n 3, 1) := by decide +kernel
theorem dX5_of_9 : decode cX5_of 9 = .ok (.aload_n 3, 1) := by decide +kernel
theorem dX5_of_10 : decode cX5_of 10 = .ok (.ifnonnull 6, 3) := by decide +kernel
theorem dX5_of_13 : decode cX5_of 13 = .ok (.ldc 67, 2) := by decide +kernel
theorem dX5_of_15 : decode cX5_of 15 = .ok (.ireturn, 1) := by decide +kernel
theorem dX5_of_16 : decode cX5_of 16 = .ok (.iload_n 2, 1) := by decide +kernel
theorem dX5_of_17 : decode cX5_of 17 = .ok (.tableswitch 134 0 11 #[63, 68, 73, 78, 83, 88, 93, 98, 106, 111, 116, 121], 63) := by decide +kernel
theorem dX5_of_80 : decode cX5_of 80 = .ok (.aload_n 3, 1) := by decide +kernel
theorem dX5_of_81 : decode cX5_of 81 = .ok (.getfield 68, 3) := by decide +kernel
theorem dX5_of_84 : decode cX5_of 84 = .ok (.ireturn, 1) := by decide +kernel
theorem dX5_of_85 : decode cX5_of 85 = .ok (.aload_n 3, 1) := by decide +kernel
theorem dX5_of_86 : decode cX5_of 86 = .ok (.getfield 71, 3) := by decide +kernel
theorem dX5_of_89 : decode cX5_of 89 = .ok (.ireturn, 1) := by decide +kernel
theorem dX5_of_90 : decode cX5_of 90 = .ok (.aload_n 3, 1) := by decide +kernel
theorem dX5_of_91 : decode cX5_of 91 = .ok (.getfield 74, 3) := by decide +kernel
theorem dX5_of_94 : decode cX5_of 94 = .ok (.ireturn, 1) := by decide +kernel
theorem dX5_of_95 : decode cX5_of 95 = .ok (.aload_n 3, 1) := by decide +kernel
theorem dX5_of_96 : decode cX5_of 96 = .ok (.invokevirtual 77, 3) := by decide +kernel
theorem dX5_of_99 : decode cX5_of 99 = .ok (.ireturn, 1) := by decide +kernel
theorem dX5_of_100 : decode cX5_of 100 = .ok (.aload_n 3, 1) := by decide +kernel
theorem dX5_of_101 : decode cX5_of 101 = .ok (.getfield 80, 3) := by decide +kernel
theorem dX5_of_104 : decode cX5_of 104 = .ok (.ireturn, 1) := by decide +kernel
theorem dX5_of_105 : decode cX5_of 105 = .ok (.aload_n 3, 1) := by decide +kernel
theorem dX5_of_106 : decode cX5_of 106 = .ok (.getfield 28, 3) := by decide +kernel
theorem dX5_of_109 : decode cX5_of 109 = .ok (.ireturn, 1) := by decide +kernel
theorem dX5_of_110 : decode cX5_of 110 = .ok (.aload_n 3, 1) := by decide +kernel
theorem dX5_of_111 : decode cX5_of 111 = .ok (.getfield 41, 3) := by decide +kernel
theorem dX5_of_114 : decode cX5_of 114 = .ok (.ireturn, 1) := by decide +kernel
theorem dX5_of_115 : decode cX5_of 115 = .ok (.aload_n 3, 1) := by decide +kernel
theorem dX5_of_116 : decode cX5_of 116 = .ok (.getfield 83, 3) := by decide +kernel
theorem dX5_of_119 : decode cX5_of 119 = .ok (.getfield 87, 3) := by decide +kernel
theorem dX5_of_122 : decode cX5_of 122 = .ok (.ireturn, 1) := by decide +kernel
theorem dX5_of_123 : decode cX5_of 123 = .ok (.aload_n 3, 1) := by decide +kernel
theorem dX5_of_124 : decode cX5_of 124 = .ok (.getfield 92, 3) := by decide +kernel
theorem dX5_of_127 : decode cX5_of 127 = .ok (.ireturn, 1) := by decide +kernel
theorem dX5_of_128 : decode cX5_of 128 = .ok (.aload_n 3, 1) := by decide +kernel
theorem dX5_of_129 : decode cX5_of 129 = .ok (.getfield 95, 3) := by decide +kernel
theorem dX5_of_132 : decode cX5_of 132 = .ok (.ireturn, 1) := by decide +kernel
theorem dX5_of_133 : decode cX5_of 133 = .ok (.aload_n 3, 1) := by decide +kernel
theorem dX5_of_134 : decode cX5_of 134 = .ok (.getfield 98, 3) := by decide +kernel
theorem dX5_of_137 : decode cX5_of 137 = .ok (.ireturn, 1) := by decide +kernel
theorem dX5_of_138 : decode cX5_of 138 = .ok (.aload_n 3, 1) := by decide +kernel
theorem dX5_of_139 : decode cX5_of 139 = .ok (.getfield 101, 3) := by decide +kernel
theorem dX5_of_142 : decode cX5_of 142 = .ok (.ifCond .eq 7, 3) := by decide +kernel
theorem dX5_of_145 : decode cX5_of 145 = .ok (.iconst 1, 1) := by decide +kernel
theorem dX5_of_146 : decode cX5_of 146 = .ok (.goto 4, 3) := by decide +kernel
theorem dX5_of_149 : decode cX5_of 149 = .ok (.iconst 0, 1) := by decide +kernel
theorem dX5_of_150 : decode cX5_of 150 = .ok (.ireturn, 1) := by decide +kernel
theorem dX5_of_151 : decode cX5_of 151 = .ok (.ldc 67, 2) := by decide +kernel
theorem dX5_of_153 : decode cX5_of 153 = .ok (.ireturn, 1) := by decide +kernel
set_option maxRecDepth 20000 in
theorem ggX5_origin_X0_readerAt : GoodIn wsX5_origin wsX0_readerAt := goodIn_r _ [6, 7, 8, 29, 30, 31, 32] (by decide +kernel) (by decide +kernel)
set_option maxRecDepth 20000 in
theorem gX5_origin_X0_readerAt_n24 : GoodIn wsX5_origin (wsX0_readerAt) := ggX5_origin_X0_readerAt
theorem dX5_origin_0 : decode cX5_origin 0 = .ok (.aload_n 0, 1) := by decide +kernel
theorem dX5_origin_1 : decode cX5_origin 1 = .ok (.getfield 10, 3) := by decide +kernel
theorem dX5_origin_4 : decode cX5_origin 4 = .ok (.iload_n 1, 1) := by decide +kernel
theorem dX5_origin_5 : decode cX5_origin 5 = .ok (.invokevirtual 24, 3) := by decide +kernel
theorem dX5_origin_8 : decode cX5_origin 8 = .ok (.astore_n 2, 1) := by decide +kernel
theorem dX5_origin_9 : decode cX5_origin 9 = .ok (.aload_n 2, 1) := by decide +kernel
theorem dX5_origin_10 : decode cX5_origin 10 = .ok (.ifnull 17, 3) := by decide +kernel
theorem dX5_origin_13 : decode cX5_origin 13 = .ok (.aload_n 2, 1) := by decide +kernel
theorem dX5_origin_14 : decode cX5_origin 14 = .ok (.getfield 101, 3) := by decide +kernel
theorem dX5_origin_17 : decode cX5_origin 17 = .ok (.ifCond .eq 10, 3) := by decide +kernel
theorem dX5_origin_20 : decode cX5_origin 20 = .ok (.aload_n 2, 1) := by decide +kernel
theorem dX5_origin_21 : decode cX5_origin 21 = .ok (.getfield 105, 3) := by decide +kernel
theorem dX5_origin_24 : decode cX5_origin 24 = .ok (.goto 5, 3) := by decide +kernel
theorem dX5_origin_27 : decode cX5_origin 27 = .ok (.ldc 67, 2) := by decide +kernel
theorem dX5_origin_29 : decode cX5_origin 29 = .ok (.ireturn, 1) := by decide +kernel
set_option maxRecDepth 20000 in
theorem ggX5_event_X0_readerAt : GoodIn wsX5_event wsX0_readerAt := goodIn_r _ [6, 7, 8, 54, 55, 56, 57] (by decide +kernel) (by decide +kernel)
set_option maxRecDepth 20000 in
theorem gX5_event_X0_readerAt_n24 : GoodIn wsX5_event (wsX0_readerAt) := ggX5_event_X0_readerAt
set_option maxRecDepth 20000 in
theorem ggX5_event_X1_kept : GoodIn wsX5_event wsX1_kept := goodIn_r _ [12, 13, 14, 15, 16, 17, 58, 59, 60, 61, 62] (by decide +kernel) (by decide +kernel)
set_option maxRecDepth 20000 in
theorem gX5_event_X1_kept_n108 : GoodIn wsX5_event (wsX1_kept) := ggX5_event_X1_kept
set_option maxRecDepth 20000 in
theorem ggX5_event_X1_sortAt : GoodIn wsX5_event wsX1_sortAt := goodIn_r _ [20, 21, 22, 23, 24, 10, 25, 13, 58, 59, 60, 61, 62] (by decide +kernel) (by decide +kernel)
set_option maxRecDepth 20000 in
theorem gX5_event_X1_sortAt_n111 : GoodIn wsX5_event (wsX1_sortAt) := ggX5_event_X1_sortAt
set_option maxRecDepth 20000 in
theorem ggX5_event_X1_tickAt : GoodIn wsX5_event wsX1_tickAt := goodIn_r _ [28, 29, 22, 23, 24, 10, 25, 13, 58, 59, 60, 61, 62] (by decide +kernel) (by decide +kernel)
set_option maxRecDepth 20000 in
theorem gX5_event_X1_tickAt_n114 : GoodIn wsX5_event (wsX1_tickAt) := ggX5_event_X1_tickAt
set_option maxRecDepth 20000 in
theorem ggX5_event_X1_placeAt : GoodIn wsX5_event wsX1_placeAt := goodIn_r _ [32, 33, 22, 23, 24, 10, 25, 13, 58, 59, 60, 61, 62] (by decide +kernel) (by decide +kernel)
set_option maxRecDepth 20000 in
theorem gX5_event_X1_placeAt_n117 : GoodIn wsX5_event (wsX1_placeAt) := ggX5_event_X1_placeAt
theorem dX5_event_0 : decode cX5_event 0 = .ok (.aload_n 0, 1) := by decide +kernel
theorem dX5_event_1 : decode cX5_event 1 = .ok (.getfield 10, 3) := by decide +kernel
theorem dX5_event_4 : decode cX5_event 4 = .ok (.iload_n 1, 1) := by decide +kernel
theorem dX5_event_5 : decode cX5_event 5 = .ok (.invokevirtual 24, 3) := by decide +kernel
theorem dX5_event_8 : decode cX5_event 8 = .ok (.astore 4, 2) := by decide +kernel
theorem dX5_event_10 : decode cX5_event 10 = .ok (.aload 4, 2) := by decide +kernel
theorem dX5_event_12 : decode cX5_event 12 = .ok (.ifnull 19, 3) := by decide +kernel
theorem dX5_event_15 : decode cX5_event 15 = .ok (.iload_n 2, 1) := by decide +kernel
theorem dX5_event_16 : decode cX5_event 16 = .ok (.ifCond .lt 15, 3) := by decide +kernel
theorem dX5_event_19 : decode cX5_event 19 = .ok (.iload_n 2, 1) := by decide +kernel
theorem dX5_event_20 : decode cX5_event 20 = .ok (.aload 4, 2) := by decide +kernel
theorem dX5_event_22 : decode cX5_event 22 = .ok (.getfield 83, 3) := by decide +kernel
theorem dX5_event_25 : decode cX5_event 25 = .ok (.invokevirtual 108, 3) := by decide +kernel
theorem dX5_event_28 : decode cX5_event 28 = .ok (.if_icmp .lt 6, 3) := by decide +kernel
theorem dX5_event_31 : decode cX5_event 31 = .ok (.ldc 67, 2) := by decide +kernel
theorem dX5_event_33 : decode cX5_event 33 = .ok (.ireturn, 1) := by decide +kernel
theorem dX5_event_34 : decode cX5_event 34 = .ok (.iload_n 3, 1) := by decide +kernel
theorem dX5_event_35 : decode cX5_event 35 = .ok (.tableswitch 55 0 2 #[25, 35, 45], 25) := by decide +kernel
theorem dX5_event_60 : decode cX5_event 60 = .ok (.aload 4, 2) := by decide +kernel
theorem dX5_event_62 : decode cX5_event 62 = .ok (.getfield 83, 3) := by decide +kernel
theorem dX5_event_65 : decode cX5_event 65 = .ok (.iload_n 2, 1) := by decide +kernel
theorem dX5_event_66 : decode cX5_event 66 = .ok (.invokevirtual 111, 3) := by decide +kernel
theorem dX5_event_69 : decode cX5_event 69 = .ok (.ireturn, 1) := by decide +kernel
theorem dX5_event_70 : decode cX5_event 70 = .ok (.aload 4, 2) := by decide +kernel
theorem dX5_event_72 : decode cX5_event 72 = .ok (.getfield 83, 3) := by decide +kernel
theorem dX5_event_75 : decode cX5_event 75 = .ok (.iload_n 2, 1) := by decide +kernel
theorem dX5_event_76 : decode cX5_event 76 = .ok (.invokevirtual 114, 3) := by decide +kernel
theorem dX5_event_79 : decode cX5_event 79 = .ok (.ireturn, 1) := by decide +kernel
theorem dX5_event_80 : decode cX5_event 80 = .ok (.aload 4, 2) := by decide +kernel
theorem dX5_event_82 : decode cX5_event 82 = .ok (.getfield 83, 3) := by decide +kernel
theorem dX5_event_85 : decode cX5_event 85 = .ok (.iload_n 2, 1) := by decide +kernel
theorem dX5_event_86 : decode cX5_event 86 = .ok (.invokevirtual 117, 3) := by decide +kernel
theorem dX5_event_89 : decode cX5_event 89 = .ok (.ireturn, 1) := by decide +kernel
theorem dX5_event_90 : decode cX5_event 90 = .ok (.ldc 67, 2) := by decide +kernel
theorem dX5_event_92 : decode cX5_event 92 = .ok (.ireturn, 1) := by decide +kernel
set_option maxRecDepth 20000 in
theorem ggX5_row_X0_readerAt : GoodIn wsX5_row wsX0_readerAt := goodIn_r _ [5, 6, 7, 40, 41, 42, 43] (by decide +kernel) (by decide +kernel)
set_option maxRecDepth 20000 in
theorem gX5_row_X0_readerAt_n24 : GoodIn wsX5_row (wsX0_readerAt) := ggX5_row_X0_readerAt
set_option maxRecDepth 20000 in
theorem ggX5_row_X1_keptOfOneSort : GoodIn wsX5_row wsX1_keptOfOneSort := goodIn_r _ [11, 12, 13, 14, 15, 16, 17, 18, 19, 44, 45, 46, 47, 48] (by decide +kernel) (by decide +kernel)
set_option maxRecDepth 20000 in
theorem gX5_row_X1_keptOfOneSort_n120 : GoodIn wsX5_row (wsX1_keptOfOneSort) := ggX5_row_X1_keptOfOneSort
theorem dX5_row_0 : decode cX5_row 0 = .ok (.aload_n 0, 1) := by decide +kernel
theorem dX5_row_1 : decode cX5_row 1 = .ok (.getfield 10, 3) := by decide +kernel
theorem dX5_row_4 : decode cX5_row 4 = .ok (.iload_n 1, 1) := by decide +kernel
theorem dX5_row_5 : decode cX5_row 5 = .ok (.invokevirtual 24, 3) := by decide +kernel
theorem dX5_row_8 : decode cX5_row 8 = .ok (.astore_n 2, 1) := by decide +kernel
theorem dX5_row_9 : decode cX5_row 9 = .ok (.aload_n 2, 1) := by decide +kernel
theorem dX5_row_10 : decode cX5_row 10 = .ok (.ifnonnull 7, 3) := by decide +kernel
theorem dX5_row_13 : decode cX5_row 13 = .ok (.iconst 0, 1) := by decide +kernel
theorem dX5_row_14 : decode cX5_row 14 = .ok (.goto 10, 3) := by decide +kernel
theorem dX5_row_17 : decode cX5_row 17 = .ok (.aload_n 2, 1) := by decide +kernel
theorem dX5_row_18 : decode cX5_row 18 = .ok (.getfield 83, 3) := by decide +kernel
theorem dX5_row_21 : decode cX5_row 21 = .ok (.invokevirtual 120, 3) := by decide +kernel
theorem dX5_row_24 : decode cX5_row 24 = .ok (.ireturn, 1) := by decide +kernel
set_option maxRecDepth 20000 in
theorem ggX5_period_X0_readerAt : GoodIn wsX5_period wsX0_readerAt := goodIn_r _ [5, 6, 7, 86, 87, 88, 89] (by decide +kernel) (by decide +kernel)
set_option maxRecDepth 20000 in
theorem gX5_period_X0_readerAt_n24 : GoodIn wsX5_period (wsX0_readerAt) := ggX5_period_X0_readerAt
set_option maxRecDepth 20000 in
theorem ggX5_period_X1_keptOfOneSort : GoodIn wsX5_period wsX1_keptOfOneSort := goodIn_r _ [11, 12, 13, 14, 15, 16, 17, 18, 19, 90, 91, 92, 93, 94] (by decide +kernel) (by decide +kernel)
set_option maxRecDepth 20000 in
theorem gX5_period_X1_keptOfOneSort_n120 : GoodIn wsX5_period (wsX1_keptOfOneSort) := ggX5_period_X1_keptOfOneSort
set_option maxRecDepth 20000 in
theorem ggX5_period_X5_spanOf : GoodIn wsX5_period wsX5_spanOf := goodIn_r _ [23, 24, 25, 26, 27, 28, 29, 30, 31, 32, 33, 34, 35, 36, 9, 37, 38, 39, 40, 41, 42, 43, 44, 45, 46, 47, 48, 49, 50, 51, 52, 53, 95, 96, 97, 98, 90, 91, 92, 93, 94] (by decide +kernel) (by decide +kernel)
set_option maxRecDepth 20000 in
theorem gX5_period_X5_spanOf : GoodIn wsX5_period (va_wsS RX5 123 yX5_spanOf wsX5_spanOf) := goodIn_app (goodIn_of _ (by decide +kernel)) ggX5_period_X5_spanOf
set_option maxRecDepth 20000 in
theorem ggX5_period_X3_hasMotion : GoodIn wsX5_period wsX3_hasMotion := goodIn_r _ [56, 32, 33, 34, 35, 48, 49, 26, 50, 95, 96, 97, 98] (by decide +kernel) (by decide +kernel)
set_option maxRecDepth 20000 in
theorem gX5_period_X3_hasMotion_n127 : GoodIn wsX5_period (wsX3_hasMotion) := ggX5_period_X3_hasMotion
set_option maxRecDepth 20000 in
theorem ggX5_period_X3_part : GoodIn wsX5_period wsX3_part := goodIn_r _ [59, 32, 33, 34, 35, 60, 61, 26, 62, 63, 64, 65, 95, 96, 97, 98] (by decide +kernel) (by decide +kernel)
set_option maxRecDepth 20000 in
theorem gX5_period_X3_part_n133 : GoodIn wsX5_period (wsX3_part) := ggX5_period_X3_part
theorem dX5_period_0 : decode cX5_period 0 = .ok (.aload_n 0, 1) := by decide +kernel
theorem dX5_period_1 : decode cX5_period 1 = .ok (.getfield 10, 3) := by decide +kernel
theorem dX5_period_4 : decode cX5_period 4 = .ok (.iload_n 1, 1) := by decide +kernel
theorem dX5_period_5 : decode cX5_period 5 = .ok (.invokevirtual 24, 3) := by decide +kernel
theorem dX5_period_8 : decode cX5_period 8 = .ok (.astore 4, 2) := by decide +kernel
theorem dX5_period_10 : decode cX5_period 10 = .ok (.aload 4, 2) := by decide +kernel
theorem dX5_period_12 : decode cX5_period 12 = .ok (.ifnull 12, 3) := by decide +kernel
theorem dX5_period_15 : decode cX5_period 15 = .ok (.iload_n 3, 1) := by decide +kernel
theorem dX5_period_16 : decode cX5_period 16 = .ok (.ifCond .lt 8, 3) := by decide +kernel
theorem dX5_period_19 : decode cX5_period 19 = .ok (.iload_n 3, 1) := by decide +kernel
theorem dX5_period_20 : decode cX5_period 20 = .ok (.iconst 4, 1) := by decide +kernel
theorem dX5_period_21 : decode cX5_period 21 = .ok (.if_icmp .lt 5, 3) := by decide +kernel
theorem dX5_period_24 : decode cX5_period 24 = .ok (.iconst (-1), 1) := by decide +kernel
theorem dX5_period_25 : decode cX5_period 25 = .ok (.ireturn, 1) := by decide +kernel
theorem dX5_period_26 : decode cX5_period 26 = .ok (.iload_n 2, 1) := by decide +kernel
theorem dX5_period_27 : decode cX5_period 27 = .ok (.iconst 2, 1) := by decide +kernel
theorem dX5_period_28 : decode cX5_period 28 = .ok (.if_icmp .lt 21, 3) := by decide +kernel
theorem dX5_period_31 : decode cX5_period 31 = .ok (.iload_n 2, 1) := by decide +kernel
theorem dX5_period_32 : decode cX5_period 32 = .ok (.bipush 30, 2) := by decide +kernel
theorem dX5_period_34 : decode cX5_period 34 = .ok (.if_icmp .gt 15, 3) := by decide +kernel
theorem dX5_period_37 : decode cX5_period 37 = .ok (.aload 4, 2) := by decide +kernel
theorem dX5_period_39 : decode cX5_period 39 = .ok (.getfield 83, 3) := by decide +kernel
theorem dX5_period_42 : decode cX5_period 42 = .ok (.invokevirtual 120, 3) := by decide +kernel
theorem dX5_period_45 : decode cX5_period 45 = .ok (.iload_n 2, 1) := by decide +kernel
theorem dX5_period_46 : decode cX5_period 46 = .ok (.if_icmp .ge 5, 3) := by decide +kernel
theorem dX5_period_49 : decode cX5_period 49 = .ok (.iconst (-1), 1) := by decide +kernel
theorem dX5_period_50 : decode cX5_period 50 = .ok (.ireturn, 1) := by decide +kernel
theorem dX5_period_51 : decode cX5_period 51 = .ok (.aload 4, 2) := by decide +kernel
theorem dX5_period_53 : decode cX5_period 53 = .ok (.getfield 83, 3) := by decide +kernel
theorem dX5_period_56 : decode cX5_period 56 = .ok (.iload_n 2, 1) := by decide +kernel
theorem dX5_period_57 : decode cX5_period 57 = .ok (.aload_n 0, 1) := by decide +kernel
theorem dX5_period_58 : decode cX5_period 58 = .ok (.getfield 10, 3) := by decide +kernel
theorem dX5_period_61 : decode cX5_period 61 = .ok (.getfield 34, 3) := by decide +kernel
theorem dX5_period_64 : decode cX5_period 64 = .ok (.invokestatic 123, 3) := by decide +kernel
theorem dX5_period_67 : decode cX5_period 67 = .ok (.astore 5, 2) := by decide +kernel
theorem dX5_period_69 : decode cX5_period 69 = .ok (.aload 5, 2) := by decide +kernel
theorem dX5_period_71 : decode cX5_period 71 = .ok (.invokevirtual 127, 3) := by decide +kernel
theorem dX5_period_74 : decode cX5_period 74 = .ok (.ifCond .eq 12, 3) := by decide +kernel
theorem dX5_period_77 : decode cX5_period 77 = .ok (.aload 5, 2) := by decide +kernel
theorem dX5_period_79 : decode cX5_period 79 = .ok (.iload_n 3, 1) := by decide +kernel
theorem dX5_period_80 : decode cX5_period 80 = .ok (.invokevirtual 133, 3) := by decide +kernel
theorem dX5_period_83 : decode cX5_period 83 = .ok (.goto 4, 3) := by decide +kernel
theorem dX5_period_86 : decode cX5_period 86 = .ok (.iconst (-1), 1) := by decide +kernel
theorem dX5_period_87 : decode cX5_period 87 = .ok (.ireturn, 1) := by decide +kernel
set_option maxRecDepth 20000 in
theorem ggX5_moved_X0_readerAt : GoodIn wsX5_moved wsX0_readerAt := goodIn_r _ [6, 7, 8, 22, 23, 24, 25] (by decide +kernel) (by decide +kernel)
set_option maxRecDepth 20000 in
theorem gX5_moved_X0_readerAt_n24 : GoodIn wsX5_moved (wsX0_readerAt) := ggX5_moved_X0_readerAt
set_option maxRecDepth 20000 in
theorem ggX5_moved_X2_placeAfter : GoodIn wsX5_moved wsX2_placeAfter := goodIn_r _ [12, 13, 14, 15, 16, 17, 26, 27, 28, 29, 30, 31, 32, 33, 34, 35, 36, 37, 38, 39, 40, 41] (by decide +kernel) (by decide +kernel)
set_option maxRecDepth 20000 in
theorem gX5_moved_X2_placeAfter_n139 : GoodIn wsX5_moved (wsX2_placeAfter) := ggX5_moved_X2_placeAfter
theorem dX5_moved_0 : decode cX5_moved 0 = .ok (.aload_n 0, 1) := by decide +kernel
theorem dX5_moved_1 : decode cX5_moved 1 = .ok (.getfield 10, 3) := by decide +kernel
theorem dX5_moved_4 : decode cX5_moved 4 = .ok (.iload_n 1, 1) := by decide +kernel
theorem dX5_moved_5 : decode cX5_moved 5 = .ok (.invokevirtual 24, 3) := by decide +kernel
theorem dX5_moved_8 : decode cX5_moved 8 = .ok (.astore_n 3, 1) := by decide +kernel
theorem dX5_moved_9 : decode cX5_moved 9 = .ok (.aload_n 3, 1) := by decide +kernel
theorem dX5_moved_10 : decode cX5_moved 10 = .ok (.ifnull 31, 3) := by decide +kernel
theorem dX5_moved_13 : decode cX5_moved 13 = .ok (.iload_n 2, 1) := by decide +kernel
theorem dX5_moved_14 : decode cX5_moved 14 = .ok (.iconst 1, 1) := by decide +kernel
theorem dX5_moved_15 : decode cX5_moved 15 = .ok (.if_icmp .lt 26, 3) := by decide +kernel
theorem dX5_moved_18 : decode cX5_moved 18 = .ok (.iload_n 2, 1) := by decide +kernel
theorem dX5_moved_19 : decode cX5_moved 19 = .ok (.sipush 500, 3) := by decide +kernel
theorem dX5_moved_22 : decode cX5_moved 22 = .ok (.if_icmp .gt 19, 3) := by decide +kernel
theorem dX5_moved_25 : decode cX5_moved 25 = .ok (.iload_n 2, 1) := by decide +kernel
theorem dX5_moved_26 : decode cX5_moved 26 = .ok (.aload_n 0, 1) := by decide +kernel
theorem dX5_moved_27 : decode cX5_moved 27 = .ok (.getfield 10, 3) := by decide +kernel
theorem dX5_moved_30 : decode cX5_moved 30 = .ok (.getfield 34, 3) := by decide +kernel
theorem dX5_moved_33 : decode cX5_moved 33 = .ok (.aload_n 3, 1) := by decide +kernel
theorem dX5_moved_34 : decode cX5_moved 34 = .ok (.getfield 136, 3) := by decide +kernel
theorem dX5_moved_37 : decode cX5_moved 37 = .ok (.isub, 1) := by decide +kernel
theorem dX5_moved_38 : decode cX5_moved 38 = .ok (.if_icmp .le 6, 3) := by decide +kernel
theorem dX5_moved_41 : decode cX5_moved 41 = .ok (.ldc 67, 2) := by decide +kernel
theorem dX5_moved_43 : decode cX5_moved 43 = .ok (.ireturn, 1) := by decide +kernel
theorem dX5_moved_44 : decode cX5_moved 44 = .ok (.aload_n 3, 1) := by decide +kernel
theorem dX5_moved_45 : decode cX5_moved 45 = .ok (.getfield 68, 3) := by decide +kernel
theorem dX5_moved_48 : decode cX5_moved 48 = .ok (.aload_n 3, 1) := by decide +kernel
theorem dX5_moved_49 : decode cX5_moved 49 = .ok (.aload_n 0, 1) := by decide +kernel
theorem dX5_moved_50 : decode cX5_moved 50 = .ok (.getfield 10, 3) := by decide +kernel
theorem dX5_moved_53 : decode cX5_moved 53 = .ok (.getfield 34, 3) := by decide +kernel
theorem dX5_moved_56 : decode cX5_moved 56 = .ok (.iload_n 2, 1) := by decide +kernel
theorem dX5_moved_57 : decode cX5_moved 57 = .ok (.isub, 1) := by decide +kernel
theorem dX5_moved_58 : decode cX5_moved 58 = .ok (.invokevirtual 139, 3) := by decide +kernel
theorem dX5_moved_61 : decode cX5_moved 61 = .ok (.isub, 1) := by decide +kernel
theorem dX5_moved_62 : decode cX5_moved 62 = .ok (.ireturn, 1) := by decide +kernel
set_option maxRecDepth 20000 in
theorem ggX5_tooth_X0_readerAt : GoodIn wsX5_tooth wsX0_readerAt := goodIn_r _ [5, 6, 7, 33, 34, 35, 36] (by decide +kernel) (by decide +kernel)
set_option maxRecDepth 20000 in
theorem gX5_tooth_X0_readerAt_n24 : GoodIn wsX5_tooth (wsX0_readerAt) := ggX5_tooth_X0_readerAt
set_option maxRecDepth 20000 in
theorem ggX5_tooth_X4_sumAt : GoodIn wsX5_tooth wsX4_sumAt := goodIn_r _ [11, 12, 37, 38, 39] (by decide +kernel) (by decide +kernel)
set_option maxRecDepth 20000 in
theorem gX5_tooth_X4_sumAt_n146 : GoodIn wsX5_tooth (wsX4_sumAt) := ggX5_tooth_X4_sumAt
theorem dX5_tooth_0 : decode cX5_tooth 0 = .ok (.aload_n 0, 1) := by decide +kernel
theorem dX5_tooth_1 : decode cX5_tooth 1 = .ok (.getfield 10, 3) := by decide +kernel
theorem dX5_tooth_4 : decode cX5_tooth 4 = .ok (.iload_n 1, 1) := by decide +kernel
theorem dX5_tooth_5 : decode cX5_tooth 5 = .ok (.invokevirtual 24, 3) := by decide +kernel
theorem dX5_tooth_8 : decode cX5_tooth 8 = .ok (.astore_n 3, 1) := by decide +kernel
theorem dX5_tooth_9 : decode cX5_tooth 9 = .ok (.aload_n 3, 1) := by decide +kernel
theorem dX5_tooth_10 : decode cX5_tooth 10 = .ok (.ifnull 15, 3) := by decide +kernel
theorem dX5_tooth_13 : decode cX5_tooth 13 = .ok (.iload_n 2, 1) := by decide +kernel
theorem dX5_tooth_14 : decode cX5_tooth 14 = .ok (.ifCond .lt 11, 3) := by decide +kernel
theorem dX5_tooth_17 : decode cX5_tooth 17 = .ok (.iload_n 2, 1) := by decide +kernel
theorem dX5_tooth_18 : decode cX5_tooth 18 = .ok (.aload_n 3, 1) := by decide +kernel
theorem dX5_tooth_19 : decode cX5_tooth 19 = .ok (.getfield 41, 3) := by decide +kernel
theorem dX5_tooth_22 : decode cX5_tooth 22 = .ok (.if_icmp .lt 5, 3) := by decide +kernel
theorem dX5_tooth_25 : decode cX5_tooth 25 = .ok (.iconst (-1), 1) := by decide +kernel
theorem dX5_tooth_26 : decode cX5_tooth 26 = .ok (.ireturn, 1) := by decide +kernel
theorem dX5_tooth_27 : decode cX5_tooth 27 = .ok (.aload_n 3, 1) := by decide +kernel
theorem dX5_tooth_28 : decode cX5_tooth 28 = .ok (.getfield 142, 3) := by decide +kernel
theorem dX5_tooth_31 : decode cX5_tooth 31 = .ok (.iload_n 2, 1) := by decide +kernel
theorem dX5_tooth_32 : decode cX5_tooth 32 = .ok (.invokevirtual 146, 3) := by decide +kernel
theorem dX5_tooth_35 : decode cX5_tooth 35 = .ok (.ireturn, 1) := by decide +kernel
set_option maxRecDepth 20000 in
theorem ggX5_wholes_X0_readerAt : GoodIn wsX5_wholes wsX0_readerAt := goodIn_r _ [5, 6, 7, 31, 32, 33, 34] (by decide +kernel) (by decide +kernel)
set_option maxRecDepth 20000 in
theorem gX5_wholes_X0_readerAt_n24 : GoodIn wsX5_wholes (wsX0_readerAt) := ggX5_wholes_X0_readerAt
theorem dX5_wholes_0 : decode cX5_wholes 0 = .ok (.aload_n 0, 1) := by decide +kernel
theorem dX5_wholes_1 : decode cX5_wholes 1 = .ok (.getfield 10, 3) := by decide +kernel
theorem dX5_wholes_4 : decode cX5_wholes 4 = .ok (.iload_n 1, 1) := by decide +kernel
theorem dX5_wholes_5 : decode cX5_wholes 5 = .ok (.invokevirtual 24, 3) := by decide +kernel
theorem dX5_wholes_8 : decode cX5_wholes 8 = .ok (.astore_n 2, 1) := by decide +kernel
theorem dX5_wholes_9 : decode cX5_wholes 9 = .ok (.aload_n 2, 1) := by decide +kernel
theorem dX5_wholes_10 : decode cX5_wholes 10 = .ok (.ifnonnull 7, 3) := by decide +kernel
theorem dX5_wholes_13 : decode cX5_wholes 13 = .ok (.iconst (-1), 1) := by decide +kernel
theorem dX5_wholes_14 : decode cX5_wholes 14 = .ok (.goto 10, 3) := by decide +kernel
theorem dX5_wholes_17 : decode cX5_wholes 17 = .ok (.aload_n 2, 1) := by decide +kernel
theorem dX5_wholes_18 : decode cX5_wholes 18 = .ok (.getfield 142, 3) := by decide +kernel
theorem dX5_wholes_21 : decode cX5_wholes 21 = .ok (.getfield 151, 3) := by decide +kernel
theorem dX5_wholes_24 : decode cX5_wholes 24 = .ok (.ireturn, 1) := by decide +kernel
set_option maxRecDepth 20000 in
theorem ggX5_widest_X0_readerAt : GoodIn wsX5_widest wsX0_readerAt := goodIn_r _ [5, 6, 7, 36, 37, 38, 39] (by decide +kernel) (by decide +kernel)
set_option maxRecDepth 20000 in
theorem gX5_widest_X0_readerAt_n24 : GoodIn wsX5_widest (wsX0_readerAt) := ggX5_widest_X0_readerAt
set_option maxRecDepth 20000 in
theorem ggX5_widest_X4_firstGreatest : GoodIn wsX5_widest wsX4_firstGreatest := goodIn_r _ [11, 12, 33, 34, 35] (by decide +kernel) (by decide +kernel)
set_option maxRecDepth 20000 in
theorem gX5_widest_X4_firstGreatest_n154 : GoodIn wsX5_widest (wsX4_firstGreatest) := ggX5_widest_X4_firstGreatest
theorem dX5_widest_0 : decode cX5_widest 0 = .ok (.aload_n 0, 1) := by decide +kernel
theorem dX5_widest_1 : decode cX5_widest 1 = .ok (.getfield 10, 3) := by decide +kernel
theorem dX5_widest_4 : decode cX5_widest 4 = .ok (.iload_n 1, 1) := by decide +kernel
theorem dX5_widest_5 : decode cX5_widest 5 = .ok (.invokevirtual 24, 3) := by decide +kernel
theorem dX5_widest_8 : decode cX5_widest 8 = .ok (.astore_n 2, 1) := by decide +kernel
theorem dX5_widest_9 : decode cX5_widest 9 = .ok (.aload_n 2, 1) := by decide +kernel
theorem dX5_widest_10 : decode cX5_widest 10 = .ok (.ifnull 13, 3) := by decide +kernel
theorem dX5_widest_13 : decode cX5_widest 13 = .ok (.aload_n 2, 1) := by decide +kernel
theorem dX5_widest_14 : decode cX5_widest 14 = .ok (.getfield 142, 3) := by decide +kernel
theorem dX5_widest_17 : decode cX5_widest 17 = .ok (.getfield 151, 3) := by decide +kernel
theorem dX5_widest_20 : decode cX5_widest 20 = .ok (.ifCond .ne 5, 3) := by decide +kernel
theorem dX5_widest_23 : decode cX5_widest 23 = .ok (.iconst (-1), 1) := by decide +kernel
theorem dX5_widest_24 : decode cX5_widest 24 = .ok (.ireturn, 1) := by decide +kernel
theorem dX5_widest_25 : decode cX5_widest 25 = .ok (.aload_n 2, 1) := by decide +kernel
theorem dX5_widest_26 : decode cX5_widest 26 = .ok (.getfield 142, 3) := by decide +kernel
theorem dX5_widest_29 : decode cX5_widest 29 = .ok (.aload_n 2, 1) := by decide +kernel
theorem dX5_widest_30 : decode cX5_widest 30 = .ok (.getfield 41, 3) := by decide +kernel
theorem dX5_widest_33 : decode cX5_widest 33 = .ok (.invokevirtual 154, 3) := by decide +kernel
theorem dX5_widest_36 : decode cX5_widest 36 = .ok (.ireturn, 1) := by decide +kernel
theorem dX5_apart_0 : decode cX5_apart 0 = .ok (.aload_n 0, 1) := by decide +kernel
theorem dX5_apart_1 : decode cX5_apart 1 = .ok (.getfield 10, 3) := by decide +kernel
theorem dX5_apart_4 : decode cX5_apart 4 = .ok (.getfield 157, 3) := by decide +kernel
theorem dX5_apart_7 : decode cX5_apart 7 = .ok (.ireturn, 1) := by decide +kernel
set_option maxRecDepth 20000 in
theorem ggX5_keep_X0_init : GoodIn wsX5_keep wsX0_init := goodIn_r _ [7, 8, 9, 10, 11, 12, 13, 14, 15, 16, 17, 18, 19, 20, 21, 22, 23, 24, 25, 26, 27, 28, 29, 30, 31, 32, 33, 34, 35, 36, 37, 38, 39, 40, 41, 42, 84, 85, 86, 87, 88, 89, 90, 91, 92, 93, 94, 95, 96, 97, 98, 99, 80, 81, 82, 83, 100, 101, 102, 103, 104, 105, 106, 107] (by decide +kernel) (by decide +kernel)
set_option maxRecDepth 20000 in
theorem gX5_keep_X0_init_n9 : GoodIn wsX5_keep (wsX0_init) := ggX5_keep_X0_init
set_option maxRecDepth 20000 in
theorem ggX5_keep_X0_copyFrom : GoodIn wsX5_keep wsX0_copyFrom := goodIn_r _ [45, 14, 15, 46, 16, 47, 13, 48, 49, 21, 50, 51, 52, 53, 22, 26, 30, 31, 32, 54, 55, 56, 57, 58, 59, 60, 61, 62, 63, 64, 25, 65, 66, 36, 67, 37, 38, 68, 69, 70, 29, 71, 72, 42, 73, 74, 75, 80, 81, 82, 83, 84, 85, 86, 87, 88, 89, 90, 91, 92, 93, 94, 95, 96, 97, 98, 99, 100, 101, 102, 103, 104, 105, 106, 107] (by decide +kernel) (by decide +kernel)
set_option maxRecDepth 20000 in
theorem gX5_keep_X0_copyFrom_n160 : GoodIn wsX5_keep (wsX0_copyFrom) := ggX5_keep_X0_copyFrom
theorem dX5_keep_0 : decode cX5_keep 0 = .ok (.iload_n 1, 1) := by decide +kernel
theorem dX5_keep_1 : decode cX5_keep 1 = .ok (.ifCond .lt 12, 3) := by decide +kernel
theorem dX5_keep_4 : decode cX5_keep 4 = .ok (.iload_n 1, 1) := by decide +kernel
theorem dX5_keep_5 : decode cX5_keep 5 = .ok (.aload_n 0, 1) := by decide +kernel
theorem dX5_keep_6 : decode cX5_keep 6 = .ok (.getfield 16, 3) := by decide +kernel
theorem dX5_keep_9 : decode cX5_keep 9 = .ok (.arraylength, 1) := by decide +kernel
theorem dX5_keep_10 : decode cX5_keep 10 = .ok (.if_icmp .lt 5, 3) := by decide +kernel
theorem dX5_keep_13 : decode cX5_keep 13 = .ok (.iconst 0, 1) := by decide +kernel
theorem dX5_keep_14 : decode cX5_keep 14 = .ok (.ireturn, 1) := by decide +kernel
theorem dX5_keep_15 : decode cX5_keep 15 = .ok (.aload_n 0, 1) := by decide +kernel
theorem dX5_keep_16 : decode cX5_keep 16 = .ok (.getfield 16, 3) := by decide +kernel
theorem dX5_keep_19 : decode cX5_keep 19 = .ok (.iload_n 1, 1) := by decide +kernel
theorem dX5_keep_20 : decode cX5_keep 20 = .ok (.aaload, 1) := by decide +kernel
theorem dX5_keep_21 : decode cX5_keep 21 = .ok (.ifnonnull 16, 3) := by decide +kernel
theorem dX5_keep_24 : decode cX5_keep 24 = .ok (.aload_n 0, 1) := by decide +kernel
theorem dX5_keep_25 : decode cX5_keep 25 = .ok (.getfield 16, 3) := by decide +kernel
theorem dX5_keep_28 : decode cX5_keep 28 = .ok (.iload_n 1, 1) := by decide +kernel
theorem dX5_keep_29 : decode cX5_keep 29 = .ok (.new 7, 3) := by decide +kernel
theorem dX5_keep_32 : decode cX5_keep 32 = .ok (.dup, 1) := by decide +kernel
theorem dX5_keep_33 : decode cX5_keep 33 = .ok (.invokespecial 9, 3) := by decide +kernel
theorem dX5_keep_36 : decode cX5_keep 36 = .ok (.aastore, 1) := by decide +kernel
theorem dX5_keep_37 : decode cX5_keep 37 = .ok (.aload_n 0, 1) := by decide +kernel
theorem dX5_keep_38 : decode cX5_keep 38 = .ok (.getfield 16, 3) := by decide +kernel
theorem dX5_keep_41 : decode cX5_keep 41 = .ok (.iload_n 1, 1) := by decide +kernel
theorem dX5_keep_42 : decode cX5_keep 42 = .ok (.aaload, 1) := by decide +kernel
theorem dX5_keep_43 : decode cX5_keep 43 = .ok (.aload_n 0, 1) := by decide +kernel
theorem dX5_keep_44 : decode cX5_keep 44 = .ok (.getfield 10, 3) := by decide +kernel
theorem dX5_keep_47 : decode cX5_keep 47 = .ok (.invokevirtual 160, 3) := by decide +kernel
theorem dX5_keep_50 : decode cX5_keep 50 = .ok (.iconst 1, 1) := by decide +kernel
theorem dX5_keep_51 : decode cX5_keep 51 = .ok (.ireturn, 1) := by decide +kernel
set_option maxRecDepth 20000 in
theorem ggX5_back_X0_copyFrom : GoodIn wsX5_back wsX0_copyFrom := goodIn_r _ [6, 7, 8, 9, 10, 11, 12, 13, 14, 15, 16, 17, 18, 19, 20, 21, 22, 23, 24, 25, 26, 27, 28, 29, 30, 31, 32, 33, 34, 35, 36, 37, 38, 39, 40, 41, 42, 43, 44, 45, 46, 47, 48, 49, 50, 51, 52, 57, 58, 59, 60, 61, 62, 63, 64, 65, 66, 67, 68, 69, 70, 71, 72, 73, 74, 75, 76, 77, 78, 79, 80, 81, 82, 83, 84] (by decide +kernel) (by decide +kernel)
set_option maxRecDepth 20000 in
theorem gX5_back_X0_copyFrom_n160 : GoodIn wsX5_back (wsX0_copyFrom) := ggX5_back_X0_copyFrom
theorem dX5_back_0 : decode cX5_back 0 = .ok (.iload_n 1, 1) := by decide +kernel
theorem dX5_back_1 : decode cX5_back 1 = .ok (.ifCond .lt 21, 3) := by decide +kernel
theorem dX5_back_4 : decode cX5_back 4 = .ok (.iload_n 1, 1) := by decide +kernel
theorem dX5_back_5 : decode cX5_back 5 = .ok (.aload_n 0, 1) := by decide +kernel
theorem dX5_back_6 : decode cX5_back 6 = .ok (.getfield 16, 3) := by decide +kernel
theorem dX5_back_9 : decode cX5_back 9 = .ok (.arraylength, 1) := by decide +kernel
theorem dX5_back_10 : decode cX5_back 10 = .ok (.if_icmp .ge 12, 3) := by decide +kernel
theorem dX5_back_13 : decode cX5_back 13 = .ok (.aload_n 0, 1) := by decide +kernel
theorem dX5_back_14 : decode cX5_back 14 = .ok (.getfield 16, 3) := by decide +kernel
theorem dX5_back_17 : decode cX5_back 17 = .ok (.iload_n 1, 1) := by decide +kernel
theorem dX5_back_18 : decode cX5_back 18 = .ok (.aaload, 1) := by decide +kernel
theorem dX5_back_19 : decode cX5_back 19 = .ok (.ifnonnull 5, 3) := by decide +kernel
theorem dX5_back_22 : decode cX5_back 22 = .ok (.iconst 0, 1) := by decide +kernel
theorem dX5_back_23 : decode cX5_back 23 = .ok (.ireturn, 1) := by decide +kernel
theorem dX5_back_24 : decode cX5_back 24 = .ok (.aload_n 0, 1) := by decide +kernel
theorem dX5_back_25 : decode cX5_back 25 = .ok (.getfield 10, 3) := by decide +kernel
theorem dX5_back_28 : decode cX5_back 28 = .ok (.aload_n 0, 1) := by decide +kernel
theorem dX5_back_29 : decode cX5_back 29 = .ok (.getfield 16, 3) := by decide +kernel
theorem dX5_back_32 : decode cX5_back 32 = .ok (.iload_n 1, 1) := by decide +kernel
theorem dX5_back_33 : decode cX5_back 33 = .ok (.aaload, 1) := by decide +kernel
theorem dX5_back_34 : decode cX5_back 34 = .ok (.invokevirtual 160, 3) := by decide +kernel
theorem dX5_back_37 : decode cX5_back 37 = .ok (.iconst 1, 1) := by decide +kernel
theorem dX5_back_38 : decode cX5_back 38 = .ok (.ireturn, 1) := by decide +kernel
set_option maxRecDepth 20000 in
theorem ggX5_about_X5_tapeBytes : GoodIn wsX5_about wsX5_tapeBytes := goodIn_r _ [6, 7, 13, 14, 15, 16] (by decide +kernel) (by decide +kernel)
set_option maxRecDepth 20000 in
theorem gX5_about_X5_tapeBytes : GoodIn wsX5_about (wsV RX5 59 RX5 yX5_tapeBytes wsX5_tapeBytes) := goodIn_app (goodIn_of _ (by decide +kernel)) ggX5_about_X5_tapeBytes
set_option maxRecDepth 20000 in
theorem ggX5_about_X5_imageBits : GoodIn wsX5_about wsX5_imageBits := goodIn_r _ [11, 12, 13, 14, 15, 16] (by decide +kernel) (by decide +kernel)
set_option maxRecDepth 20000 in
theorem gX5_about_X5_imageBits : GoodIn wsX5_about (wsV RX5 164 RX5 yX5_imageBits wsX5_imageBits) := goodIn_app (goodIn_of _ (by decide +kernel)) ggX5_about_X5_imageBits
theorem dX5_about_0 : decode cX5_about 0 = .ok (.iload_n 1, 1) := by decide +kernel
theorem dX5_about_1 : decode cX5_about 1 = .ok (.tableswitch 45 0 2 #[27, 35, 40], 27) := by decide +kernel
theorem dX5_about_28 : decode cX5_about 28 = .ok (.aload_n 0, 1) := by decide +kernel
theorem dX5_about_29 : decode cX5_about 29 = .ok (.getfield 10, 3) := by decide +kernel
theorem dX5_about_32 : decode cX5_about 32 = .ok (.getfield 34, 3) := by decide +kernel
theorem dX5_about_35 : decode cX5_about 35 = .ok (.ireturn, 1) := by decide +kernel
theorem dX5_about_36 : decode cX5_about 36 = .ok (.aload_n 0, 1) := by decide +kernel
theorem dX5_about_37 : decode cX5_about 37 = .ok (.invokevirtual 59, 3) := by decide +kernel
theorem dX5_about_40 : decode cX5_about 40 = .ok (.ireturn, 1) := by decide +kernel
theorem dX5_about_41 : decode cX5_about 41 = .ok (.aload_n 0, 1) := by decide +kernel
theorem dX5_about_42 : decode cX5_about 42 = .ok (.invokevirtual 164, 3) := by decide +kernel
theorem dX5_about_45 : decode cX5_about 45 = .ok (.ireturn, 1) := by decide +kernel
theorem dX5_about_46 : decode cX5_about 46 = .ok (.iconst (-1), 1) := by decide +kernel
theorem dX5_about_47 : decode cX5_about 47 = .ok (.ireturn, 1) := by decide +kernel
theorem dX5_areLineBits_0 : decode cX5_areLineBits 0 = .ok (.iload_n 0, 1) := by decide +kernel
theorem dX5_areLineBits_1 : decode cX5_areLineBits 1 = .ok (.ifCond .lt 13, 3) := by decide +kernel
theorem dX5_areLineBits_4 : decode cX5_areLineBits 4 = .ok (.iload_n 0, 1) := by decide +kernel
theorem dX5_areLineBits_5 : decode cX5_areLineBits 5 = .ok (.bipush 7, 2) := by decide +kernel
theorem dX5_areLineBits_7 : decode cX5_areLineBits 7 = .ok (.if_icmp .gt 7, 3) := by decide +kernel
theorem dX5_areLineBits_10 : decode cX5_areLineBits 10 = .ok (.iconst 1, 1) := by decide +kernel
theorem dX5_areLineBits_11 : decode cX5_areLineBits 11 = .ok (.goto 4, 3) := by decide +kernel
theorem dX5_areLineBits_14 : decode cX5_areLineBits 14 = .ok (.iconst 0, 1) := by decide +kernel
theorem dX5_areLineBits_15 : decode cX5_areLineBits 15 = .ok (.ireturn, 1) := by decide +kernel
theorem dX5_putWord_0 : decode cX5_putWord 0 = .ok (.aload_n 0, 1) := by decide +kernel
theorem dX5_putWord_1 : decode cX5_putWord 1 = .ok (.getfield 53, 3) := by decide +kernel
theorem dX5_putWord_4 : decode cX5_putWord 4 = .ok (.aload_n 0, 1) := by decide +kernel
theorem dX5_putWord_5 : decode cX5_putWord 5 = .ok (.getfield 20, 3) := by decide +kernel
theorem dX5_putWord_8 : decode cX5_putWord 8 = .ok (.arraylength, 1) := by decide +kernel
theorem dX5_putWord_9 : decode cX5_putWord 9 = .ok (.if_icmp .ge 23, 3) := by decide +kernel
theorem dX5_putWord_12 : decode cX5_putWord 12 = .ok (.aload_n 0, 1) := by decide +kernel
theorem dX5_putWord_13 : decode cX5_putWord 13 = .ok (.getfield 20, 3) := by decide +kernel
theorem dX5_putWord_16 : decode cX5_putWord 16 = .ok (.aload_n 0, 1) := by decide +kernel
theorem dX5_putWord_17 : decode cX5_putWord 17 = .ok (.getfield 53, 3) := by decide +kernel
theorem dX5_putWord_20 : decode cX5_putWord 20 = .ok (.iload_n 1, 1) := by decide +kernel
theorem dX5_putWord_21 : decode cX5_putWord 21 = .ok (.iastore, 1) := by decide +kernel
theorem dX5_putWord_22 : decode cX5_putWord 22 = .ok (.aload_n 0, 1) := by decide +kernel
theorem dX5_putWord_23 : decode cX5_putWord 23 = .ok (.dup, 1) := by decide +kernel
theorem dX5_putWord_24 : decode cX5_putWord 24 = .ok (.getfield 53, 3) := by decide +kernel
theorem dX5_putWord_27 : decode cX5_putWord 27 = .ok (.iconst 1, 1) := by decide +kernel
theorem dX5_putWord_28 : decode cX5_putWord 28 = .ok (.iadd, 1) := by decide +kernel
theorem dX5_putWord_29 : decode cX5_putWord 29 = .ok (.putfield 53, 3) := by decide +kernel
theorem dX5_putWord_32 : decode cX5_putWord 32 = .ok (.return_, 1) := by decide +kernel
theorem dX5_tapeBytes_0 : decode cX5_tapeBytes 0 = .ok (.aload_n 0, 1) := by decide +kernel
theorem dX5_tapeBytes_1 : decode cX5_tapeBytes 1 = .ok (.getfield 53, 3) := by decide +kernel
theorem dX5_tapeBytes_4 : decode cX5_tapeBytes 4 = .ok (.iconst 4, 1) := by decide +kernel
theorem dX5_tapeBytes_5 : decode cX5_tapeBytes 5 = .ok (.imul, 1) := by decide +kernel
theorem dX5_tapeBytes_6 : decode cX5_tapeBytes 6 = .ok (.ireturn, 1) := by decide +kernel
theorem dX5_tapeByte_0 : decode cX5_tapeByte 0 = .ok (.iload_n 1, 1) := by decide +kernel
theorem dX5_tapeByte_1 : decode cX5_tapeByte 1 = .ok (.iconst 4, 1) := by decide +kernel
theorem dX5_tapeByte_2 : decode cX5_tapeByte 2 = .ok (.idiv, 1) := by decide +kernel
theorem dX5_tapeByte_3 : decode cX5_tapeByte 3 = .ok (.istore_n 2, 1) := by decide +kernel
theorem dX5_tapeByte_4 : decode cX5_tapeByte 4 = .ok (.iload_n 1, 1) := by decide +kernel
theorem dX5_tapeByte_5 : decode cX5_tapeByte 5 = .ok (.ifCond .lt 11, 3) := by decide +kernel
theorem dX5_tapeByte_8 : decode cX5_tapeByte 8 = .ok (.iload_n 2, 1) := by decide +kernel
theorem dX5_tapeByte_9 : decode cX5_tapeByte 9 = .ok (.aload_n 0, 1) := by decide +kernel
theorem dX5_tapeByte_10 : decode cX5_tapeByte 10 = .ok (.getfield 53, 3) := by decide +kernel
theorem dX5_tapeByte_13 : decode cX5_tapeByte 13 = .ok (.if_icmp .lt 7, 3) := by decide +kernel
theorem dX5_tapeByte_16 : decode cX5_tapeByte 16 = .ok (.sipush 192, 3) := by decide +kernel
theorem dX5_tapeByte_19 : decode cX5_tapeByte 19 = .ok (.ireturn, 1) := by decide +kernel
theorem dX5_tapeByte_20 : decode cX5_tapeByte 20 = .ok (.iconst 3, 1) := by decide +kernel
theorem dX5_tapeByte_21 : decode cX5_tapeByte 21 = .ok (.iload_n 1, 1) := by decide +kernel
theorem dX5_tapeByte_22 : decode cX5_tapeByte 22 = .ok (.iconst 4, 1) := by decide +kernel
theorem dX5_tapeByte_23 : decode cX5_tapeByte 23 = .ok (.irem, 1) := by decide +kernel
theorem dX5_tapeByte_24 : decode cX5_tapeByte 24 = .ok (.isub, 1) := by decide +kernel
theorem dX5_tapeByte_25 : decode cX5_tapeByte 25 = .ok (.istore_n 3, 1) := by decide +kernel
theorem dX5_tapeByte_26 : decode cX5_tapeByte 26 = .ok (.aload_n 0, 1) := by decide +kernel
theorem dX5_tapeByte_27 : decode cX5_tapeByte 27 = .ok (.getfield 20, 3) := by decide +kernel
theorem dX5_tapeByte_30 : decode cX5_tapeByte 30 = .ok (.iload_n 2, 1) := by decide +kernel
theorem dX5_tapeByte_31 : decode cX5_tapeByte 31 = .ok (.iaload, 1) := by decide +kernel
theorem dX5_tapeByte_32 : decode cX5_tapeByte 32 = .ok (.bipush 8, 2) := by decide +kernel
theorem dX5_tapeByte_34 : decode cX5_tapeByte 34 = .ok (.iload_n 3, 1) := by decide +kernel
theorem dX5_tapeByte_35 : decode cX5_tapeByte 35 = .ok (.imul, 1) := by decide +kernel
theorem dX5_tapeByte_36 : decode cX5_tapeByte 36 = .ok (.iushr, 1) := by decide +kernel
theorem dX5_tapeByte_37 : decode cX5_tapeByte 37 = .ok (.sipush 255, 3) := by decide +kernel
theorem dX5_tapeByte_40 : decode cX5_tapeByte 40 = .ok (.iand, 1) := by decide +kernel
theorem dX5_tapeByte_41 : decode cX5_tapeByte 41 = .ok (.ireturn, 1) := by decide +kernel
theorem dX5_imageBits_0 : decode cX5_imageBits 0 = .ok (.iconst 0, 1) := by decide +kernel
theorem dX5_imageBits_1 : decode cX5_imageBits 1 = .ok (.istore_n 1, 1) := by decide +kernel
theorem dX5_imageBits_2 : decode cX5_imageBits 2 = .ok (.iconst 0, 1) := by decide +kernel
theorem dX5_imageBits_3 : decode cX5_imageBits 3 = .ok (.istore_n 2, 1) := by decide +kernel
theorem dX5_imageBits_4 : decode cX5_imageBits 4 = .ok (.iload_n 2, 1) := by decide +kernel
theorem dX5_imageBits_5 : decode cX5_imageBits 5 = .ok (.aload_n 0, 1) := by decide +kernel
theorem dX5_imageBits_6 : decode cX5_imageBits 6 = .ok (.getfield 16, 3) := by decide +kernel
theorem dX5_imageBits_9 : decode cX5_imageBits 9 = .ok (.arraylength, 1) := by decide +kernel
theorem dX5_imageBits_10 : decode cX5_imageBits 10 = .ok (.if_icmp .ge 24, 3) := by decide +kernel
theorem dX5_imageBits_13 : decode cX5_imageBits 13 = .ok (.aload_n 0, 1) := by decide +kernel
theorem dX5_imageBits_14 : decode cX5_imageBits 14 = .ok (.getfield 16, 3) := by decide +kernel
theorem dX5_imageBits_17 : decode cX5_imageBits 17 = .ok (.iload_n 2, 1) := by decide +kernel
theorem dX5_imageBits_18 : decode cX5_imageBits 18 = .ok (.aaload, 1) := by decide +kernel
theorem dX5_imageBits_19 : decode cX5_imageBits 19 = .ok (.ifnull 9, 3) := by decide +kernel
theorem dX5_imageBits_22 : decode cX5_imageBits 22 = .ok (.iload_n 1, 1) := by decide +kernel
theorem dX5_imageBits_23 : decode cX5_imageBits 23 = .ok (.iconst 1, 1) := by decide +kernel
theorem dX5_imageBits_24 : decode cX5_imageBits 24 = .ok (.iload_n 2, 1) := by decide +kernel
theorem dX5_imageBits_25 : decode cX5_imageBits 25 = .ok (.ishl, 1) := by decide +kernel
theorem dX5_imageBits_26 : decode cX5_imageBits 26 = .ok (.ior, 1) := by decide +kernel
theorem dX5_imageBits_27 : decode cX5_imageBits 27 = .ok (.istore_n 1, 1) := by decide +kernel
theorem dX5_imageBits_28 : decode cX5_imageBits 28 = .ok (.iinc 2 1, 3) := by decide +kernel
theorem dX5_imageBits_31 : decode cX5_imageBits 31 = .ok (.goto (-27), 3) := by decide +kernel
theorem dX5_imageBits_34 : decode cX5_imageBits 34 = .ok (.iload_n 1, 1) := by decide +kernel
theorem dX5_imageBits_35 : decode cX5_imageBits 35 = .ok (.ireturn, 1) := by decide +kernel
set_option maxRecDepth 20000 in
theorem ggX5_spanOf_X3_init : GoodIn wsX5_spanOf wsX3_init := goodIn_r _ [5, 6, 7, 8, 9, 10, 11, 12, 32, 33, 34, 35] (by decide +kernel) (by decide +kernel)
set_option maxRecDepth 20000 in
theorem gX5_spanOf_X3_init_n167 : GoodIn wsX5_spanOf (wsX3_init) := ggX5_spanOf_X3_init
set_option maxRecDepth 20000 in
theorem ggX5_spanOf_X1_tickAt : GoodIn wsX5_spanOf wsX1_tickAt := goodIn_r _ [16, 17, 18, 19, 20, 14, 21, 22, 36, 37, 38, 39, 40] (by decide +kernel) (by decide +kernel)
set_option maxRecDepth 20000 in
theorem gX5_spanOf_X1_tickAt_n114 : GoodIn wsX5_spanOf (wsX1_tickAt) := ggX5_spanOf_X1_tickAt
set_option maxRecDepth 20000 in
theorem ggX5_spanOf_X3_raiseLeast : GoodIn wsX5_spanOf wsX3_raiseLeast := goodIn_r _ [25, 9, 10, 26, 27, 3, 28, 32, 33, 34, 35] (by decide +kernel) (by decide +kernel)
set_option maxRecDepth 20000 in
theorem gX5_spanOf_X3_raiseLeast_n168 : GoodIn wsX5_spanOf (wsX3_raiseLeast) := ggX5_spanOf_X3_raiseLeast
set_option maxRecDepth 20000 in
theorem ggX5_spanOf_X3_lowerMost : GoodIn wsX5_spanOf wsX3_lowerMost := goodIn_r _ [31, 11, 12, 26, 27, 3, 28, 32, 33, 34, 35] (by decide +kernel) (by decide +kernel)
set_option maxRecDepth 20000 in
theorem gX5_spanOf_X3_lowerMost_n171 : GoodIn wsX5_spanOf (wsX3_lowerMost) := ggX5_spanOf_X3_lowerMost
theorem dX5_spanOf_0 : decode cX5_spanOf 0 = .ok (.new 128, 3) := by decide +kernel
theorem dX5_spanOf_3 : decode cX5_spanOf 3 = .ok (.dup, 1) := by decide +kernel
theorem dX5_spanOf_4 : decode cX5_spanOf 4 = .ok (.invokespecial 167, 3) := by decide +kernel
theorem dX5_spanOf_7 : decode cX5_spanOf 7 = .ok (.astore_n 3, 1) := by decide +kernel
theorem dX5_spanOf_8 : decode cX5_spanOf 8 = .ok (.iload_n 1, 1) := by decide +kernel
theorem dX5_spanOf_9 : decode cX5_spanOf 9 = .ok (.iconst 1, 1) := by decide +kernel
theorem dX5_spanOf_10 : decode cX5_spanOf 10 = .ok (.isub, 1) := by decide +kernel
theorem dX5_spanOf_11 : decode cX5_spanOf 11 = .ok (.istore 4, 2) := by decide +kernel
theorem dX5_spanOf_13 : decode cX5_spanOf 13 = .ok (.iconst 0, 1) := by decide +kernel
theorem dX5_spanOf_14 : decode cX5_spanOf 14 = .ok (.istore 5, 2) := by decide +kernel
theorem dX5_spanOf_16 : decode cX5_spanOf 16 = .ok (.iload 5, 2) := by decide +kernel
theorem dX5_spanOf_18 : decode cX5_spanOf 18 = .ok (.iload_n 1, 1) := by decide +kernel
theorem dX5_spanOf_19 : decode cX5_spanOf 19 = .ok (.if_icmp .ge 90, 3) := by decide +kernel
theorem dX5_spanOf_22 : decode cX5_spanOf 22 = .ok (.aload_n 0, 1) := by decide +kernel
theorem dX5_spanOf_23 : decode cX5_spanOf 23 = .ok (.iload 4, 2) := by decide +kernel
theorem dX5_spanOf_25 : decode cX5_spanOf 25 = .ok (.iload 5, 2) := by decide +kernel
theorem dX5_spanOf_27 : decode cX5_spanOf 27 = .ok (.isub, 1) := by decide +kernel
theorem dX5_spanOf_28 : decode cX5_spanOf 28 = .ok (.invokevirtual 114, 3) := by decide +kernel
theorem dX5_spanOf_31 : decode cX5_spanOf 31 = .ok (.istore 6, 2) := by decide +kernel
theorem dX5_spanOf_33 : decode cX5_spanOf 33 = .ok (.aload_n 3, 1) := by decide +kernel
theorem dX5_spanOf_34 : decode cX5_spanOf 34 = .ok (.iload_n 2, 1) := by decide +kernel
theorem dX5_spanOf_35 : decode cX5_spanOf 35 = .ok (.iload 6, 2) := by decide +kernel
theorem dX5_spanOf_37 : decode cX5_spanOf 37 = .ok (.isub, 1) := by decide +kernel
theorem dX5_spanOf_38 : decode cX5_spanOf 38 = .ok (.iload_n 1, 1) := by decide +kernel
theorem dX5_spanOf_39 : decode cX5_spanOf 39 = .ok (.iload 5, 2) := by decide +kernel
theorem dX5_spanOf_41 : decode cX5_spanOf 41 = .ok (.isub, 1) := by decide +kernel
theorem dX5_spanOf_42 : decode cX5_spanOf 42 = .ok (.invokevirtual 168, 3) := by decide +kernel
theorem dX5_spanOf_45 : decode cX5_spanOf 45 = .ok (.iload 5, 2) := by decide +kernel
theorem dX5_spanOf_47 : decode cX5_spanOf 47 = .ok (.iconst 1, 1) := by decide +kernel
theorem dX5_spanOf_48 : decode cX5_spanOf 48 = .ok (.iadd, 1) := by decide +kernel
theorem dX5_spanOf_49 : decode cX5_spanOf 49 = .ok (.istore 7, 2) := by decide +kernel
theorem dX5_spanOf_51 : decode cX5_spanOf 51 = .ok (.iload 7, 2) := by decide +kernel
theorem dX5_spanOf_53 : decode cX5_spanOf 53 = .ok (.iload_n 1, 1) := by decide +kernel
theorem dX5_spanOf_54 : decode cX5_spanOf 54 = .ok (.if_icmp .ge 49, 3) := by decide +kernel
theorem dX5_spanOf_57 : decode cX5_spanOf 57 = .ok (.aload_n 0, 1) := by decide +kernel
theorem dX5_spanOf_58 : decode cX5_spanOf 58 = .ok (.iload 4, 2) := by decide +kernel
theorem dX5_spanOf_60 : decode cX5_spanOf 60 = .ok (.iload 7, 2) := by decide +kernel
theorem dX5_spanOf_62 : decode cX5_spanOf 62 = .ok (.isub, 1) := by decide +kernel
theorem dX5_spanOf_63 : decode cX5_spanOf 63 = .ok (.invokevirtual 114, 3) := by decide +kernel
theorem dX5_spanOf_66 : decode cX5_spanOf 66 = .ok (.iload 6, 2) := by decide +kernel
theorem dX5_spanOf_68 : decode cX5_spanOf 68 = .ok (.isub, 1) := by decide +kernel
theorem dX5_spanOf_69 : decode cX5_spanOf 69 = .ok (.istore 8, 2) := by decide +kernel
theorem dX5_spanOf_71 : decode cX5_spanOf 71 = .ok (.aload_n 3, 1) := by decide +kernel
theorem dX5_spanOf_72 : decode cX5_spanOf 72 = .ok (.iload 8, 2) := by decide +kernel
theorem dX5_spanOf_74 : decode cX5_spanOf 74 = .ok (.iconst 1, 1) := by decide +kernel
theorem dX5_spanOf_75 : decode cX5_spanOf 75 = .ok (.isub, 1) := by decide +kernel
theorem dX5_spanOf_76 : decode cX5_spanOf 76 = .ok (.iload 7, 2) := by decide +kernel
theorem dX5_spanOf_78 : decode cX5_spanOf 78 = .ok (.iload 5, 2) := by decide +kernel
theorem dX5_spanOf_80 : decode cX5_spanOf 80 = .ok (.isub, 1) := by decide +kernel
theorem dX5_spanOf_81 : decode cX5_spanOf 81 = .ok (.invokevirtual 168, 3) := by decide +kernel
theorem dX5_spanOf_84 : decode cX5_spanOf 84 = .ok (.aload_n 3, 1) := by decide +kernel
theorem dX5_spanOf_85 : decode cX5_spanOf 85 = .ok (.iload 8, 2) := by decide +kernel
theorem dX5_spanOf_87 : decode cX5_spanOf 87 = .ok (.iconst 1, 1) := by decide +kernel
theorem dX5_spanOf_88 : decode cX5_spanOf 88 = .ok (.iadd, 1) := by decide +kernel
theorem dX5_spanOf_89 : decode cX5_spanOf 89 = .ok (.iload 7, 2) := by decide +kernel
theorem dX5_spanOf_91 : decode cX5_spanOf 91 = .ok (.iload 5, 2) := by decide +kernel
theorem dX5_spanOf_93 : decode cX5_spanOf 93 = .ok (.isub, 1) := by decide +kernel
theorem dX5_spanOf_94 : decode cX5_spanOf 94 = .ok (.invokevirtual 171, 3) := by decide +kernel
theorem dX5_spanOf_97 : decode cX5_spanOf 97 = .ok (.iinc 7 1, 3) := by decide +kernel
theorem dX5_spanOf_100 : decode cX5_spanOf 100 = .ok (.goto (-49), 3) := by decide +kernel
theorem dX5_spanOf_103 : decode cX5_spanOf 103 = .ok (.iinc 5 1, 3) := by decide +kernel
theorem dX5_spanOf_106 : decode cX5_spanOf 106 = .ok (.goto (-90), 3) := by decide +kernel
theorem dX5_spanOf_109 : decode cX5_spanOf 109 = .ok (.aload_n 3, 1) := by decide +kernel
theorem dX5_spanOf_110 : decode cX5_spanOf 110 = .ok (.areturn, 1) := by decide +kernel
