set_option maxRecDepth 20000 in
theorem wsLr_1 : ∀ w ∈ wsL_law_r1, w ∈ lw_tbl := fun w h => (goodIn_p wsL_law_r1 [62, 65, 70] (by decide +kernel) (by decide +kernel) w h).1
set_option maxRecDepth 20000 in
theorem wsLr_2 : ∀ w ∈ wsL_law_r2, w ∈ lw_tbl := fun w h => (goodIn_p wsL_law_r2 [76, 82] (by decide +kernel) (by decide +kernel) w h).1
set_option maxRecDepth 20000 in
theorem wsLr_3 : ∀ w ∈ wsL_law_r3, w ∈ lw_tbl := fun w h => (goodIn_p wsL_law_r3 [108, 504, 220, 224] (by decide +kernel) (by decide +kernel) w h).1
set_option maxRecDepth 20000 in
theorem wsLr_4 : ∀ w ∈ wsL_law_r4, w ∈ lw_tbl := fun w h => (goodIn_p wsL_law_r4 [228, 231, 235, 239] (by decide +kernel) (by decide +kernel) w h).1
set_option maxRecDepth 20000 in
theorem wsLr_5 : ∀ w ∈ wsL_law_r5, w ∈ lw_tbl := fun w h => (goodIn_p wsL_law_r5 [244, 247, 537, 540, 544] (by decide +kernel) (by decide +kernel) w h).1
set_option maxRecDepth 20000 in
theorem wsLr_6 : ∀ w ∈ wsL_law_r6, w ∈ lw_tbl := fun w h => (goodIn_p wsL_law_r6 [251, 548, 255, 259, 263, 267, 271] (by decide +kernel) (by decide +kernel) w h).1
set_option maxRecDepth 20000 in
theorem wsLr_7 : ∀ w ∈ wsL_law_r7, w ∈ lw_tbl := fun w h => (goodIn_p wsL_law_r7 [275, 279, 283, 287, 291, 295] (by decide +kernel) (by decide +kernel) w h).1
set_option maxRecDepth 20000 in
theorem wsLr_8 : ∀ w ∈ wsL_law_r8, w ∈ lw_tbl := fun w h => (goodIn_p wsL_law_r8 [299, 303, 307, 311, 315, 318] (by decide +kernel) (by decide +kernel) w h).1
set_option maxRecDepth 20000 in
theorem wsLr_9 : ∀ w ∈ wsL_law_r9, w ∈ lw_tbl := fun w h => (goodIn_p wsL_law_r9 [552, 557, 561, 564, 568, 572] (by decide +kernel) (by decide +kernel) w h).1
set_option maxRecDepth 20000 in
theorem wsLr_10 : ∀ w ∈ wsL_law_r10, w ∈ lw_tbl := fun w h => (goodIn_p wsL_law_r10 [575, 579, 583, 587, 322, 326] (by decide +kernel) (by decide +kernel) w h).1
set_option maxRecDepth 20000 in
theorem wsLr_11 : ∀ w ∈ wsL_law_r11, w ∈ lw_tbl := fun w h => (goodIn_p wsL_law_r11 [330, 591, 595, 334, 338, 599] (by decide +kernel) (by decide +kernel) w h).1
set_option maxRecDepth 20000 in
theorem wsLr_12 : ∀ w ∈ wsL_law_r12, w ∈ lw_tbl := fun w h => (goodIn_p wsL_law_r12 [342, 603, 348, 608, 352, 356] (by decide +kernel) (by decide +kernel) w h).1
set_option maxRecDepth 20000 in
theorem wsLr_13 : ∀ w ∈ wsL_law_r13, w ∈ lw_tbl := fun w h => (goodIn_p wsL_law_r13 [359, 363, 368, 612, 372, 376, 379] (by decide +kernel) (by decide +kernel) w h).1
set_option maxRecDepth 20000 in
theorem wsLr_14 : ∀ w ∈ wsL_law_r14, w ∈ lw_tbl := fun w h => (goodIn_p wsL_law_r14 [616, 383, 386, 391, 409] (by decide +kernel) (by decide +kernel) w h).1
set_option maxRecDepth 20000 in
theorem wsLr_15 : ∀ w ∈ wsL_law_r15, w ∈ lw_tbl := fun w h => (goodIn_p wsL_law_r15 [412, 416, 420, 424, 427, 430, 620] (by decide +kernel) (by decide +kernel) w h).1
set_option maxRecDepth 20000 in
theorem wsLr_16 : ∀ w ∈ wsL_law_r16, w ∈ lw_tbl := fun w h => (goodIn_p wsL_law_r16 [624, 627, 434, 438, 631, 442, 446] (by decide +kernel) (by decide +kernel) w h).1
set_option maxRecDepth 20000 in
theorem wsLr_17 : ∀ w ∈ wsL_law_r17, w ∈ lw_tbl := fun w h => (goodIn_p wsL_law_r17 [635, 450, 639, 454, 458, 643] (by decide +kernel) (by decide +kernel) w h).1
set_option maxRecDepth 20000 in
theorem wsLr_18 : ∀ w ∈ wsL_law_r18, w ∈ lw_tbl := fun w h => (goodIn_p wsL_law_r18 [462, 647, 466, 470, 474, 481] (by decide +kernel) (by decide +kernel) w h).1
set_option maxRecDepth 20000 in
theorem wsLr_19 : ∀ w ∈ wsL_law_r19, w ∈ lw_tbl := fun w h => (goodIn_p wsL_law_r19 [486, 651, 491, 655, 495, 499] (by decide +kernel) (by decide +kernel) w h).1
set_option maxRecDepth 20000 in
theorem wsLr_20 : ∀ w ∈ wsL_law_r20, w ∈ lw_tbl := fun w h => (goodIn_p wsL_law_r20 [659] (by decide +kernel) (by decide +kernel) w h).1
set_option maxRecDepth 20000 in
theorem wsLx_0 : ∀ w ∈ wsX00, w ∈ lw_tbl := by decide +kernel
set_option maxRecDepth 20000 in
theorem wsLx_1 : ∀ w ∈ wsX10, w ∈ lw_tbl := by decide +kernel
set_option maxRecDepth 20000 in
theorem wsLx_2 : ∀ w ∈ wsX20, w ∈ lw_tbl := by decide +kernel
set_option maxRecDepth 20000 in
theorem wsLx_3 : ∀ w ∈ wsX30, w ∈ lw_tbl := by decide +kernel
set_option maxRecDepth 20000 in
theorem wsLx_4 : ∀ w ∈ wsX40, w ∈ lw_tbl := by decide +kernel
set_option maxRecDepth 20000 in
theorem wsLx_5 : ∀ w ∈ wsX50, w ∈ lw_tbl := by decide +kernel
set_option maxRecDepth 20000 in
theorem wsLx_6 : ∀ w ∈ wsX60, w ∈ lw_tbl := by decide +kernel
theorem mem_app {a b c : List Cond} (h1 : ∀ w ∈ a, w ∈ c) (h2 : ∀ w ∈ b, w ∈ c) : ∀ w ∈ a ++ b, w ∈ c := fun w h => (List.mem_append.mp h).elim (h1 w) (h2 w)
theorem wsL_law_in : ∀ w ∈ wsL_law, w ∈ lw_tbl := mem_app (mem_app (mem_app (mem_app (mem_app (mem_app (mem_app (mem_app (mem_app wsLr_1 (mem_app wsLr_2 (mem_app wsLr_3 (mem_app wsLr_4 (mem_app wsLr_5 (mem_app wsLr_6 (mem_app wsLr_7 (mem_app wsLr_8 (mem_app wsLr_9 (mem_app wsLr_10 (mem_app wsLr_11 (mem_app wsLr_12 (mem_app wsLr_13 (mem_app wsLr_14 (mem_app wsLr_15 (mem_app wsLr_16 (mem_app wsLr_17 (mem_app wsLr_18 (mem_app wsLr_19 wsLr_20))))))))))))))))))) wsLx_5) wsLx_6) wsLx_0) wsLx_2) wsLx_1) wsLx_4) wsLx_3) (fun _ h => absurd h List.not_mem_nil)
set_option maxRecDepth 20000 in
theorem nestIn_0 : ∀ w ∈ ([.methodLinkNest RX5 9 yX0_init "PulseWheel", .methodLinkNest RX0 11 yX2_init "PulseWheel", .methodLinkNest RX2 20 yX1_init "PulseWheel", .fieldLinkNest RX4 28 "PulseWheel$EventLog" "count" "I" "PulseWheel", .fieldLinkNest RX5 87 "PulseWheel$EventLog" "count" "I" "PulseWheel", .fieldLinkNest RX4 33 "PulseWheel$EventLog" "streak" "I" "PulseWheel", .methodLinkNest RX2 27 yX4_init "PulseWheel", .fieldLinkNest RX5 151 "PulseWheel$Teeth" "wholeTurns" "I" "PulseWheel", .fieldLinkNest RX5 83 "PulseWheel$Reader" "log" "LPulseWheel$EventLog;" "PulseWheel", .fieldLinkNest RX5 142 "PulseWheel$Reader" "teeth" "LPulseWheel$Teeth;" "PulseWheel", .fieldLinkNest RX5 28 "PulseWheel$Reader" "holdTicks" "I" "PulseWheel", .fieldLinkNest RX5 41 "PulseWheel$Reader" "turnCounts" "I" "PulseWheel"] : List Cond), w ∈ lw_tbl := by decide +kernel
set_option maxRecDepth 20000 in
theorem nestIn_1 : ∀ w ∈ ([.fieldLinkNest RX0 46 "PulseWheel$Reader" "turnCounts" "I" "PulseWheel", .fieldLinkNest RX5 80 "PulseWheel$Reader" "clean" "I" "PulseWheel", .fieldLinkNest RX0 40 "PulseWheel$Reader" "place" "I" "PulseWheel", .fieldLinkNest RX5 68 "PulseWheel$Reader" "place" "I" "PulseWheel", .fieldLinkNest RX5 71 "PulseWheel$Reader" "low" "I" "PulseWheel", .fieldLinkNest RX5 74 "PulseWheel$Reader" "high" "I" "PulseWheel", .fieldLinkNest RX0 36 "PulseWheel$Reader" "hasOrigin" "Z" "PulseWheel", .fieldLinkNest RX5 101 "PulseWheel$Reader" "hasOrigin" "Z" "PulseWheel", .fieldLinkNest RX0 43 "PulseWheel$Reader" "originPlace" "I" "PulseWheel", .fieldLinkNest RX5 105 "PulseWheel$Reader" "originPlace" "I" "PulseWheel", .fieldLinkNest RX5 92 "PulseWheel$Reader" "faults" "I" "PulseWheel", .fieldLinkNest RX5 95 "PulseWheel$Reader" "slips" "I" "PulseWheel"] : List Cond), w ∈ lw_tbl := by decide +kernel
set_option maxRecDepth 20000 in
theorem nestIn_2 : ∀ w ∈ ([.fieldLinkNest RX5 98 "PulseWheel$Reader" "zeros" "I" "PulseWheel", .fieldLinkNest RX5 136 "PulseWheel$Reader" "beganAt" "I" "PulseWheel", .fieldLinkNest RX5 34 "PulseWheel$Bench" "ticks" "I" "PulseWheel", .fieldLinkNest RX5 157 "PulseWheel$Bench" "apartSince" "I" "PulseWheel", .methodLinkNest RX5 24 yX0_readerAt "PulseWheel", .methodLinkNest RX5 37 yX2_beginAnew "PulseWheel", .methodLinkNest RX2 45 yX1_forget "PulseWheel", .methodLinkNest RX2 48 yX4_forget "PulseWheel", .methodLinkNest RX5 49 yX0_step "PulseWheel", .methodLinkNest RX0 28 yX2_take "PulseWheel", .methodLinkNest RX2 111 yX1_add "PulseWheel", .methodLinkNest RX2 101 yX4_learn "PulseWheel"] : List Cond), w ∈ lw_tbl := by decide +kernel
set_option maxRecDepth 20000 in
theorem nestIn_3 : ∀ w ∈ ([.methodLinkNest RX4 40 yX1_tickAt "PulseWheel", .methodLinkNest RX5 77 yX2_phase "PulseWheel", .methodLinkNest RX5 108 yX1_kept "PulseWheel", .methodLinkNest RX5 111 yX1_sortAt "PulseWheel", .methodLinkNest RX5 114 yX1_tickAt "PulseWheel", .methodLinkNest RX5 117 yX1_placeAt "PulseWheel", .methodLinkNest RX5 120 yX1_keptOfOneSort "PulseWheel", .methodLinkNest RX5 167 yX3_init "PulseWheel", .methodLinkNest RX5 168 yX3_raiseLeast "PulseWheel", .methodLinkNest RX5 171 yX3_lowerMost "PulseWheel", .methodLinkNest RX5 127 yX3_hasMotion "PulseWheel", .methodLinkNest RX5 133 yX3_part "PulseWheel"] : List Cond), w ∈ lw_tbl := by decide +kernel
set_option maxRecDepth 20000 in
theorem nestIn_4 : ∀ w ∈ ([.methodLinkNest RX5 139 yX2_placeAfter "PulseWheel", .methodLinkNest RX5 146 yX4_sumAt "PulseWheel", .methodLinkNest RX5 154 yX4_firstGreatest "PulseWheel", .methodLinkNest RX5 160 yX0_copyFrom "PulseWheel", .methodLinkNest RX0 55 yX2_copyFrom "PulseWheel", .methodLinkNest RX2 124 yX1_copyFrom "PulseWheel", .methodLinkNest RX2 128 yX4_copyFrom "PulseWheel"] : List Cond), w ∈ lw_tbl := by decide +kernel
theorem nestL_in : ∀ w ∈ nestL, w ∈ lw_tbl := (mem_app nestIn_0 (mem_app nestIn_1 (mem_app nestIn_2 (mem_app nestIn_3 nestIn_4))))
set_option maxRecDepth 20000 in
theorem over_in : Cond.arrayOver (.object "PulseWheel$Bench") ∈ lw_tbl := by decide +kernel
