theorem dX6_clearSet_0 : decode cX6_clearSet 0 = .ok (.aload_n 0, 1) := by decide +kernel
theorem dX6_clearSet_1 : decode cX6_clearSet 1 = .ok (.invokevirtual 83, 3) := by decide +kernel
theorem dX6_clearSet_4 : decode cX6_clearSet 4 = .ok (.aload_n 0, 1) := by decide +kernel
theorem dX6_clearSet_5 : decode cX6_clearSet 5 = .ok (.getfield 42, 3) := by decide +kernel
theorem dX6_clearSet_8 : decode cX6_clearSet 8 = .ok (.invokevirtual 152, 3) := by decide +kernel
theorem dX6_clearSet_11 : decode cX6_clearSet 11 = .ok (.ireturn, 1) := by decide +kernel
set_option maxRecDepth 20000 in
theorem ggX6_start_X6_needNotPlayed : GoodIn wsX6_start wsX6_needNotPlayed := goodIn_ca (goodIn_r _ [9, 1, 2, 3, 10, 11, 12, 13, 14, 15, 143, 144, 145, 146, 147, 148, 149, 150, 151, 152, 153, 154, 155, 156, 157, 158, 159, 160] (by decide +kernel) (by decide +kernel)) (goodIn_sub (fun _ h => List.mem_cons_of_mem _ (List.mem_append_right _ h)) (by decide +kernel))
set_option maxRecDepth 20000 in
theorem gX6_start_X6_needNotPlayed : GoodIn wsX6_start (wsV RX6 83 RX6 yX6_needNotPlayed wsX6_needNotPlayed) := goodIn_app (goodIn_of _ (by decide +kernel)) ggX6_start_X6_needNotPlayed
set_option maxRecDepth 20000 in
theorem ggX6_start_X4_canBegin : GoodIn wsX6_start wsX4_canBegin := goodIn_r _ [19, 20, 21, 22, 23, 13, 24, 25, 26, 27, 28, 29, 30, 31, 32, 33, 34, 35, 36, 37, 38, 39, 154, 155, 156, 157, 158, 159, 160, 161, 162, 163, 164, 165, 166, 167, 168, 169, 170, 171, 172] (by decide +kernel) (by decide +kernel)
set_option maxRecDepth 20000 in
theorem gX6_start_X4_canBegin : GoodIn wsX6_start (wsV RX6 156 RX4 yX4_canBegin wsX4_canBegin) := goodIn_app (goodIn_of _ (by decide +kernel)) ggX6_start_X4_canBegin
set_option maxRecDepth 20000 in
theorem ggX6_start_X4_begin : GoodIn wsX6_start wsX4_begin := goodIn_r _ [43, 15, 44, 45, 46, 154, 155, 156, 157, 158, 159, 160] (by decide +kernel) (by decide +kernel)
set_option maxRecDepth 20000 in
theorem gX6_start_X4_begin : GoodIn wsX6_start (wsV RX6 161 RX4 yX4_begin wsX4_begin) := goodIn_app (goodIn_of _ (by decide +kernel)) ggX6_start_X4_begin
set_option maxRecDepth 20000 in
theorem ggX6_start_X1_empty : GoodIn wsX6_start wsX1_empty := goodIn_r _ [51, 52, 53, 54, 55, 56, 57, 30, 58, 32, 59, 60, 61, 62, 173, 174, 175, 176, 177, 178, 161] (by decide +kernel) (by decide +kernel)
set_option maxRecDepth 20000 in
theorem gX6_start_X1_empty : GoodIn wsX6_start (wsV RX6 164 RX1 yX1_empty wsX1_empty) := goodIn_app (goodIn_of _ (by decide +kernel)) ggX6_start_X1_empty
set_option maxRecDepth 20000 in
theorem ggX6_start_X6_enterBar : GoodIn wsX6_start wsX6_enterBar := goodIn_r _ [66, 3, 67, 68, 69, 70, 71, 13, 72, 44, 45, 20, 25, 26, 21, 22, 23, 24, 27, 28, 29, 30, 31, 32, 33, 34, 35, 36, 37, 38, 39, 73, 74, 75, 76, 77, 78, 79, 80, 81, 82, 83, 84, 85, 86, 87, 88, 89, 90, 91, 92, 93, 56, 57, 58, 59, 60, 61, 62, 94, 95, 96, 97, 98, 99, 100, 101, 102, 103, 104, 105, 106, 107, 108, 109, 110, 111, 112, 113, 114, 115, 116, 117, 118, 119, 120, 121, 122, 123, 124, 125, 126, 127, 128, 129, 130, 131, 132, 133, 134, 135, 136, 137, 138, 143, 144, 145, 146, 147, 148, 149, 150, 151, 152, 153, 154, 155, 156, 157, 158, 159, 160, 161, 162, 163, 164, 165, 166, 167, 168, 169, 170, 171, 172, 179, 180, 181, 182, 183, 184, 185, 186, 187] (by decide +kernel) (by decide +kernel)
set_option maxRecDepth 20000 in
theorem gX6_start_X6_enterBar : GoodIn wsX6_start (wsV RX6 167 RX6 yX6_enterBar wsX6_enterBar) := goodIn_app (goodIn_of _ (by decide +kernel)) ggX6_start_X6_enterBar
set_option maxRecDepth 20000 in
theorem ggX6_start_X4_countBars : GoodIn wsX6_start wsX4_countBars := goodIn_r _ [142, 20, 21, 22, 23, 13, 24, 25, 26, 27, 28, 29, 30, 31, 32, 33, 34, 35, 36, 37, 38, 39, 154, 155, 156, 157, 158, 159, 160, 161, 162, 163, 164, 165, 166, 167, 168, 169, 170, 171, 172] (by decide +kernel) (by decide +kernel)
set_option maxRecDepth 20000 in
theorem gX6_start_X4_countBars : GoodIn wsX6_start (wsV RX6 170 RX4 yX4_countBars wsX4_countBars) := goodIn_app (goodIn_of _ (by decide +kernel)) ggX6_start_X4_countBars
theorem dX6_start_0 : decode cX6_start 0 = .ok (.aload_n 0, 1) := by decide +kernel
theorem dX6_start_1 : decode cX6_start 1 = .ok (.invokevirtual 83, 3) := by decide +kernel
theorem dX6_start_4 : decode cX6_start 4 = .ok (.aload_n 0, 1) := by decide +kernel
theorem dX6_start_5 : decode cX6_start 5 = .ok (.getfield 42, 3) := by decide +kernel
theorem dX6_start_8 : decode cX6_start 8 = .ok (.invokevirtual 156, 3) := by decide +kernel
theorem dX6_start_11 : decode cX6_start 11 = .ok (.ifCond .ne 13, 3) := by decide +kernel
theorem dX6_start_14 : decode cX6_start 14 = .ok (.new 118, 3) := by decide +kernel
theorem dX6_start_17 : decode cX6_start 17 = .ok (.dup, 1) := by decide +kernel
theorem dX6_start_18 : decode cX6_start 18 = .ok (.ldc 159, 2) := by decide +kernel
theorem dX6_start_20 : decode cX6_start 20 = .ok (.invokespecial 122, 3) := by decide +kernel
theorem dX6_start_23 : decode cX6_start 23 = .ok (.athrow, 1) := by decide +kernel
theorem dX6_start_24 : decode cX6_start 24 = .ok (.aload_n 0, 1) := by decide +kernel
theorem dX6_start_25 : decode cX6_start 25 = .ok (.getfield 42, 3) := by decide +kernel
theorem dX6_start_28 : decode cX6_start 28 = .ok (.invokevirtual 161, 3) := by decide +kernel
theorem dX6_start_31 : decode cX6_start 31 = .ok (.aload_n 0, 1) := by decide +kernel
theorem dX6_start_32 : decode cX6_start 32 = .ok (.getfield 58, 3) := by decide +kernel
theorem dX6_start_35 : decode cX6_start 35 = .ok (.invokevirtual 164, 3) := by decide +kernel
theorem dX6_start_38 : decode cX6_start 38 = .ok (.aload_n 0, 1) := by decide +kernel
theorem dX6_start_39 : decode cX6_start 39 = .ok (.invokevirtual 167, 3) := by decide +kernel
theorem dX6_start_42 : decode cX6_start 42 = .ok (.aload_n 0, 1) := by decide +kernel
theorem dX6_start_43 : decode cX6_start 43 = .ok (.getfield 42, 3) := by decide +kernel
theorem dX6_start_46 : decode cX6_start 46 = .ok (.invokevirtual 170, 3) := by decide +kernel
theorem dX6_start_49 : decode cX6_start 49 = .ok (.ireturn, 1) := by decide +kernel
set_option maxRecDepth 20000 in
theorem ggX6_tick_X6_needRange : GoodIn wsX6_tick wsX6_needRange := goodIn_ca (goodIn_r _ [6, 7, 8] (by decide +kernel) (by decide +kernel)) (goodIn_sub (fun _ h => List.mem_cons_of_mem _ (List.mem_append_left _ (List.mem_append_right _ h))) (by decide +kernel))
set_option maxRecDepth 20000 in
theorem gX6_tick_X6_needRange : GoodIn wsX6_tick (va_wsS RX6 79 yX6_needRange wsX6_needRange) := goodIn_app (goodIn_of _ (by decide +kernel)) ggX6_tick_X6_needRange
set_option maxRecDepth 20000 in
theorem ggX6_tick_X6_needPlayed : GoodIn wsX6_tick wsX6_needPlayed := goodIn_ca (goodIn_r _ [12, 13, 14, 2, 15, 16, 17, 18, 19, 20, 206, 207, 208, 209, 210, 211, 212, 213, 214, 215, 216, 217, 218, 219, 220, 221, 222, 223] (by decide +kernel) (by decide +kernel)) (goodIn_sub (fun _ h => List.mem_cons_of_mem _ (List.mem_append_right _ h)) (by decide +kernel))
set_option maxRecDepth 20000 in
theorem gX6_tick_X6_needPlayed : GoodIn wsX6_tick (wsV RX6 172 RX6 yX6_needPlayed wsX6_needPlayed) := goodIn_app (goodIn_of _ (by decide +kernel)) ggX6_tick_X6_needPlayed
set_option maxRecDepth 20000 in
theorem ggX6_tick_X4_isPlayed : GoodIn wsX6_tick wsX4_isPlayed := goodIn_r _ [19, 20, 217, 218, 219, 220, 221, 222, 223] (by decide +kernel) (by decide +kernel)
set_option maxRecDepth 20000 in
theorem gX6_tick_X4_isPlayed : GoodIn wsX6_tick (wsV RX6 175 RX4 yX4_isPlayed wsX4_isPlayed) := goodIn_app (goodIn_of _ (by decide +kernel)) ggX6_tick_X4_isPlayed
set_option maxRecDepth 20000 in
theorem ggX6_tick_X6_passTick : GoodIn wsX6_tick wsX6_passTick := goodIn_r _ [24, 2, 25, 26, 27, 28, 29, 30, 18, 31, 32, 33, 34, 35, 36, 37, 38, 39, 40, 41, 42, 43, 44, 45, 46, 47, 48, 49, 50, 51, 5, 52, 53, 54, 55, 56, 57, 58, 59, 60, 61, 62, 63, 64, 65, 66, 67, 68, 69, 1, 70, 71, 72, 73, 74, 75, 76, 77, 78, 79, 80, 81, 82, 83, 84, 85, 86, 87, 88, 89, 90, 91, 92, 93, 94, 95, 96, 97, 98, 99, 100, 101, 102, 103, 104, 105, 106, 107, 108, 109, 110, 111, 112, 113, 114, 115, 116, 117, 118, 119, 120, 121, 122, 123, 124, 125, 126, 127, 128, 129, 130, 131, 132, 133, 134, 135, 136, 137, 138, 139, 140, 141, 142, 143, 144, 145, 146, 147, 148, 149, 150, 20, 15, 16, 17, 19, 151, 152, 153, 154, 155, 156, 157, 158, 159, 160, 161, 162, 163, 164, 165, 166, 167, 168, 169, 170, 171, 172, 173, 174, 175, 176, 177, 178, 179, 180, 181, 182, 183, 184, 185, 186, 187, 188, 189, 190, 191, 192, 193, 194, 195, 196, 197, 198, 199, 200, 201, 202, 203, 204, 205, 206, 207, 208, 209, 210, 211, 212, 213, 214, 215, 216, 217, 218, 219, 220, 221, 222, 223, 224, 225, 226, 227, 228, 229, 230, 231, 232, 233, 234, 235, 236, 237, 238, 239, 240, 241, 242, 243, 244, 245, 246, 247, 248, 249, 250] (by decide +kernel) (by decide +kernel)
set_option maxRecDepth 20000 in
theorem gX6_tick_X6_passTick : GoodIn wsX6_tick (wsV RX6 178 RX6 yX6_passTick wsX6_passTick) := goodIn_app (goodIn_of _ (by decide +kernel)) ggX6_tick_X6_passTick
theorem dX6_tick_0 : decode cX6_tick 0 = .ok (.iload_n 1, 1) := by decide +kernel
theorem dX6_tick_1 : decode cX6_tick 1 = .ok (.iconst 1, 1) := by decide +kernel
theorem dX6_tick_2 : decode cX6_tick 2 = .ok (.sipush 2000, 3) := by decide +kernel
theorem dX6_tick_5 : decode cX6_tick 5 = .ok (.invokestatic 79, 3) := by decide +kernel
theorem dX6_tick_8 : decode cX6_tick 8 = .ok (.aload_n 0, 1) := by decide +kernel
theorem dX6_tick_9 : decode cX6_tick 9 = .ok (.invokevirtual 172, 3) := by decide +kernel
theorem dX6_tick_12 : decode cX6_tick 12 = .ok (.aload_n 0, 1) := by decide +kernel
theorem dX6_tick_13 : decode cX6_tick 13 = .ok (.getfield 66, 3) := by decide +kernel
theorem dX6_tick_16 : decode cX6_tick 16 = .ok (.istore_n 2, 1) := by decide +kernel
theorem dX6_tick_17 : decode cX6_tick 17 = .ok (.iconst 0, 1) := by decide +kernel
theorem dX6_tick_18 : decode cX6_tick 18 = .ok (.istore_n 3, 1) := by decide +kernel
theorem dX6_tick_19 : decode cX6_tick 19 = .ok (.iload_n 3, 1) := by decide +kernel
theorem dX6_tick_20 : decode cX6_tick 20 = .ok (.iload_n 1, 1) := by decide +kernel
theorem dX6_tick_21 : decode cX6_tick 21 = .ok (.if_icmp .ge 23, 3) := by decide +kernel
theorem dX6_tick_24 : decode cX6_tick 24 = .ok (.aload_n 0, 1) := by decide +kernel
theorem dX6_tick_25 : decode cX6_tick 25 = .ok (.getfield 42, 3) := by decide +kernel
theorem dX6_tick_28 : decode cX6_tick 28 = .ok (.invokevirtual 175, 3) := by decide +kernel
theorem dX6_tick_31 : decode cX6_tick 31 = .ok (.ifCond .eq 13, 3) := by decide +kernel
theorem dX6_tick_34 : decode cX6_tick 34 = .ok (.aload_n 0, 1) := by decide +kernel
theorem dX6_tick_35 : decode cX6_tick 35 = .ok (.invokevirtual 178, 3) := by decide +kernel
theorem dX6_tick_38 : decode cX6_tick 38 = .ok (.iinc 3 1, 3) := by decide +kernel
theorem dX6_tick_41 : decode cX6_tick 41 = .ok (.goto (-22), 3) := by decide +kernel
theorem dX6_tick_44 : decode cX6_tick 44 = .ok (.aload_n 0, 1) := by decide +kernel
theorem dX6_tick_45 : decode cX6_tick 45 = .ok (.getfield 66, 3) := by decide +kernel
theorem dX6_tick_48 : decode cX6_tick 48 = .ok (.iload_n 2, 1) := by decide +kernel
theorem dX6_tick_49 : decode cX6_tick 49 = .ok (.isub, 1) := by decide +kernel
theorem dX6_tick_50 : decode cX6_tick 50 = .ok (.ireturn, 1) := by decide +kernel
set_option maxRecDepth 20000 in
theorem ggX6_skip_X6_needPlayed : GoodIn wsX6_skip wsX6_needPlayed := goodIn_ca (goodIn_r _ [6, 7, 8, 1, 9, 10, 11, 12, 13, 14, 129, 130, 131, 132, 133, 134, 135, 136, 137, 138, 139, 140, 141, 142, 143, 144, 145, 146] (by decide +kernel) (by decide +kernel)) (goodIn_sub (fun _ h => List.mem_cons_of_mem _ (List.mem_append_right _ h)) (by decide +kernel))
set_option maxRecDepth 20000 in
theorem gX6_skip_X6_needPlayed : GoodIn wsX6_skip (wsV RX6 172 RX6 yX6_needPlayed wsX6_needPlayed) := goodIn_app (goodIn_of _ (by decide +kernel)) ggX6_skip_X6_needPlayed
set_option maxRecDepth 20000 in
theorem ggX6_skip_X4_goToNextSong : GoodIn wsX6_skip wsX4_goToNextSong := goodIn_r _ [18, 19, 20, 21, 22, 14, 140, 141, 142, 143, 144, 145, 146] (by decide +kernel) (by decide +kernel)
set_option maxRecDepth 20000 in
theorem gX6_skip_X4_goToNextSong : GoodIn wsX6_skip (wsV RX6 181 RX4 yX4_goToNextSong wsX4_goToNextSong) := goodIn_app (goodIn_of _ (by decide +kernel)) ggX6_skip_X4_goToNextSong
set_option maxRecDepth 20000 in
theorem ggX6_skip_X4_isPlayed : GoodIn wsX6_skip wsX4_isPlayed := goodIn_r _ [13, 14, 140, 141, 142, 143, 144, 145, 146] (by decide +kernel) (by decide +kernel)
set_option maxRecDepth 20000 in
theorem gX6_skip_X4_isPlayed : GoodIn wsX6_skip (wsV RX6 175 RX4 yX4_isPlayed wsX4_isPlayed) := goodIn_app (goodIn_of _ (by decide +kernel)) ggX6_skip_X4_isPlayed
set_option maxRecDepth 20000 in
theorem ggX6_skip_X6_enterBar : GoodIn wsX6_skip wsX6_enterBar := goodIn_r _ [26, 1, 27, 28, 29, 30, 31, 12, 32, 19, 20, 22, 33, 34, 35, 36, 37, 38, 39, 40, 41, 42, 43, 44, 45, 46, 47, 48, 49, 50, 51, 52, 53, 54, 55, 56, 57, 58, 59, 60, 61, 62, 63, 64, 65, 66, 67, 68, 69, 70, 71, 72, 73, 74, 75, 76, 77, 78, 79, 80, 81, 82, 83, 84, 85, 86, 87, 88, 89, 90, 91, 92, 93, 94, 95, 96, 97, 98, 99, 100, 101, 102, 103, 104, 105, 106, 107, 108, 109, 110, 111, 112, 113, 114, 115, 116, 117, 118, 119, 120, 121, 122, 123, 124, 129, 130, 131, 132, 133, 134, 135, 136, 137, 138, 139, 140, 141, 142, 143, 144, 145, 146, 147, 148, 149, 150, 151, 152, 153, 154, 155, 156, 157, 158, 159, 160, 161, 162, 163, 164, 165, 166, 167] (by decide +kernel) (by decide +kernel)
set_option maxRecDepth 20000 in
theorem gX6_skip_X6_enterBar : GoodIn wsX6_skip (wsV RX6 167 RX6 yX6_enterBar wsX6_enterBar) := goodIn_app (goodIn_of _ (by decide +kernel)) ggX6_skip_X6_enterBar
set_option maxRecDepth 20000 in
theorem ggX6_skip_X4_duePlace : GoodIn wsX6_skip wsX4_duePlace := goodIn_r _ [128, 19, 140, 141, 142, 143, 144, 145, 146] (by decide +kernel) (by decide +kernel)
set_option maxRecDepth 20000 in
theorem gX6_skip_X4_duePlace : GoodIn wsX6_skip (wsV RX6 184 RX4 yX4_duePlace wsX4_duePlace) := goodIn_app (goodIn_of _ (by decide +kernel)) ggX6_skip_X4_duePlace
theorem dX6_skip_0 : decode cX6_skip 0 = .ok (.aload_n 0, 1) := by decide +kernel
theorem dX6_skip_1 : decode cX6_skip 1 = .ok (.invokevirtual 172, 3) := by decide +kernel
theorem dX6_skip_4 : decode cX6_skip 4 = .ok (.aload_n 0, 1) := by decide +kernel
theorem dX6_skip_5 : decode cX6_skip 5 = .ok (.getfield 42, 3) := by decide +kernel
theorem dX6_skip_8 : decode cX6_skip 8 = .ok (.invokevirtual 181, 3) := by decide +kernel
theorem dX6_skip_11 : decode cX6_skip 11 = .ok (.aload_n 0, 1) := by decide +kernel
theorem dX6_skip_12 : decode cX6_skip 12 = .ok (.getfield 42, 3) := by decide +kernel
theorem dX6_skip_15 : decode cX6_skip 15 = .ok (.invokevirtual 175, 3) := by decide +kernel
theorem dX6_skip_18 : decode cX6_skip 18 = .ok (.ifCond .ne 5, 3) := by decide +kernel
theorem dX6_skip_21 : decode cX6_skip 21 = .ok (.iconst (-1), 1) := by decide +kernel
theorem dX6_skip_22 : decode cX6_skip 22 = .ok (.ireturn, 1) := by decide +kernel
theorem dX6_skip_23 : decode cX6_skip 23 = .ok (.aload_n 0, 1) := by decide +kernel
theorem dX6_skip_24 : decode cX6_skip 24 = .ok (.invokevirtual 167, 3) := by decide +kernel
theorem dX6_skip_27 : decode cX6_skip 27 = .ok (.aload_n 0, 1) := by decide +kernel
theorem dX6_skip_28 : decode cX6_skip 28 = .ok (.getfield 42, 3) := by decide +kernel
theorem dX6_skip_31 : decode cX6_skip 31 = .ok (.invokevirtual 184, 3) := by decide +kernel
theorem dX6_skip_34 : decode cX6_skip 34 = .ok (.ireturn, 1) := by decide +kernel
set_option maxRecDepth 20000 in
theorem ggX6_place_X4_isPlayed : GoodIn wsX6_place wsX4_isPlayed := goodIn_r _ [6, 7, 27, 28, 29, 30, 31, 32, 33] (by decide +kernel) (by decide +kernel)
set_option maxRecDepth 20000 in
theorem gX6_place_X4_isPlayed : GoodIn wsX6_place (wsV RX6 175 RX4 yX4_isPlayed wsX4_isPlayed) := goodIn_app (goodIn_of _ (by decide +kernel)) ggX6_place_X4_isPlayed
set_option maxRecDepth 20000 in
theorem ggX6_place_X4_dueNumber : GoodIn wsX6_place wsX4_dueNumber := goodIn_r _ [11, 12, 13, 14, 15, 27, 28, 29, 30, 31, 32, 33] (by decide +kernel) (by decide +kernel)
set_option maxRecDepth 20000 in
theorem gX6_place_X4_dueNumber : GoodIn wsX6_place (wsV RX6 187 RX4 yX4_dueNumber wsX4_dueNumber) := goodIn_app (goodIn_of _ (by decide +kernel)) ggX6_place_X4_dueNumber
theorem dX6_place_0 : decode cX6_place 0 = .ok (.aload_n 0, 1) := by decide +kernel
theorem dX6_place_1 : decode cX6_place 1 = .ok (.getfield 42, 3) := by decide +kernel
theorem dX6_place_4 : decode cX6_place 4 = .ok (.invokevirtual 175, 3) := by decide +kernel
theorem dX6_place_7 : decode cX6_place 7 = .ok (.ifCond .eq 13, 3) := by decide +kernel
theorem dX6_place_10 : decode cX6_place 10 = .ok (.aload_n 0, 1) := by decide +kernel
theorem dX6_place_11 : decode cX6_place 11 = .ok (.getfield 42, 3) := by decide +kernel
theorem dX6_place_14 : decode cX6_place 14 = .ok (.invokevirtual 187, 3) := by decide +kernel
theorem dX6_place_17 : decode cX6_place 17 = .ok (.goto 4, 3) := by decide +kernel
theorem dX6_place_20 : decode cX6_place 20 = .ok (.iconst (-1), 1) := by decide +kernel
theorem dX6_place_21 : decode cX6_place 21 = .ok (.ireturn, 1) := by decide +kernel
set_option maxRecDepth 20000 in
theorem ggX6_loaded_X6_needSample : GoodIn wsX6_loaded wsX6_needSample := goodIn_ca (goodIn_r _ [5, 6, 7, 4, 8, 9, 10] (by decide +kernel) (by decide +kernel)) (goodIn_sub (fun _ h => List.mem_cons_of_mem _ (List.mem_append_right _ h)) (by decide +kernel))
set_option maxRecDepth 20000 in
theorem gX6_loaded_X6_needSample : GoodIn wsX6_loaded (va_wsS RX6 75 yX6_needSample wsX6_needSample) := goodIn_app (goodIn_of _ (by decide +kernel)) ggX6_loaded_X6_needSample
set_option maxRecDepth 20000 in
theorem ggX6_loaded_X1_countPages : GoodIn wsX6_loaded wsX1_countPages := goodIn_r _ [15, 16, 17, 18, 19, 20, 21, 22, 34, 35, 36, 37, 38, 39, 40] (by decide +kernel) (by decide +kernel)
set_option maxRecDepth 20000 in
theorem gX6_loaded_X1_countPages : GoodIn wsX6_loaded (wsV RX6 190 RX1 yX1_countPages wsX1_countPages) := goodIn_app (goodIn_of _ (by decide +kernel)) ggX6_loaded_X1_countPages
theorem dX6_loaded_0 : decode cX6_loaded 0 = .ok (.iload_n 1, 1) := by decide +kernel
theorem dX6_loaded_1 : decode cX6_loaded 1 = .ok (.invokestatic 75, 3) := by decide +kernel
theorem dX6_loaded_4 : decode cX6_loaded 4 = .ok (.aload_n 0, 1) := by decide +kernel
theorem dX6_loaded_5 : decode cX6_loaded 5 = .ok (.getfield 58, 3) := by decide +kernel
theorem dX6_loaded_8 : decode cX6_loaded 8 = .ok (.iload_n 1, 1) := by decide +kernel
theorem dX6_loaded_9 : decode cX6_loaded 9 = .ok (.invokevirtual 190, 3) := by decide +kernel
theorem dX6_loaded_12 : decode cX6_loaded 12 = .ok (.ireturn, 1) := by decide +kernel
set_option maxRecDepth 20000 in
theorem ggX6_inHand_X1_handNumber : GoodIn wsX6_inHand wsX1_handNumber := goodIn_r _ [6, 7, 8, 20, 21, 22, 23, 24, 25] (by decide +kernel) (by decide +kernel)
set_option maxRecDepth 20000 in
theorem gX6_inHand_X1_handNumber : GoodIn wsX6_inHand (wsV RX6 193 RX1 yX1_handNumber wsX1_handNumber) := goodIn_app (goodIn_of _ (by decide +kernel)) ggX6_inHand_X1_handNumber
theorem dX6_inHand_0 : decode cX6_inHand 0 = .ok (.aload_n 0, 1) := by decide +kernel
theorem dX6_inHand_1 : decode cX6_inHand 1 = .ok (.getfield 58, 3) := by decide +kernel
theorem dX6_inHand_4 : decode cX6_inHand 4 = .ok (.invokevirtual 193, 3) := by decide +kernel
theorem dX6_inHand_7 : decode cX6_inHand 7 = .ok (.ireturn, 1) := by decide +kernel
set_option maxRecDepth 20000 in
theorem ggX6_nextUse_X6_needSample : GoodIn wsX6_nextUse wsX6_needSample := goodIn_ca (goodIn_r _ [6, 7, 8, 5, 9, 10, 11] (by decide +kernel) (by decide +kernel)) (goodIn_sub (fun _ h => List.mem_cons_of_mem _ (List.mem_append_right _ h)) (by decide +kernel))
set_option maxRecDepth 20000 in
theorem gX6_nextUse_X6_needSample : GoodIn wsX6_nextUse (va_wsS RX6 75 yX6_needSample wsX6_needSample) := goodIn_app (goodIn_of _ (by decide +kernel)) ggX6_nextUse_X6_needSample
set_option maxRecDepth 20000 in
theorem ggX6_nextUse_X4_isPlayed : GoodIn wsX6_nextUse wsX4_isPlayed := goodIn_r _ [16, 17, 46, 47, 48, 49, 50, 51, 52] (by decide +kernel) (by decide +kernel)
set_option maxRecDepth 20000 in
theorem gX6_nextUse_X4_isPlayed : GoodIn wsX6_nextUse (wsV RX6 175 RX4 yX4_isPlayed wsX4_isPlayed) := goodIn_app (goodIn_of _ (by decide +kernel)) ggX6_nextUse_X4_isPlayed
set_option maxRecDepth 20000 in
theorem ggX6_nextUse_X4_dueTick : GoodIn wsX6_nextUse wsX4_dueTick := goodIn_r _ [21, 22, 46, 47, 48, 49, 50, 51, 52] (by decide +kernel) (by decide +kernel)
set_option maxRecDepth 20000 in
theorem gX6_nextUse_X4_dueTick : GoodIn wsX6_nextUse (wsV RX6 196 RX4 yX4_dueTick wsX4_dueTick) := goodIn_app (goodIn_of _ (by decide +kernel)) ggX6_nextUse_X4_dueTick
set_option maxRecDepth 20000 in
theorem ggX6_nextUse_X0_useAfter : GoodIn wsX6_nextUse wsX0_useAfter := goodIn_r _ [27, 28, 29, 30, 31, 32, 33, 34, 53, 54, 55, 56] (by decide +kernel) (by decide +kernel)
set_option maxRecDepth 20000 in
theorem gX6_nextUse_X0_useAfter : GoodIn wsX6_nextUse (wsV RX6 199 RX0 yX0_useAfter wsX0_useAfter) := goodIn_app (goodIn_of _ (by decide +kernel)) ggX6_nextUse_X0_useAfter
theorem dX6_nextUse_0 : decode cX6_nextUse 0 = .ok (.iload_n 1, 1) := by decide +kernel
theorem dX6_nextUse_1 : decode cX6_nextUse 1 = .ok (.invokestatic 75, 3) := by decide +kernel
theorem dX6_nextUse_4 : decode cX6_nextUse 4 = .ok (.aload_n 0, 1) := by decide +kernel
theorem dX6_nextUse_5 : decode cX6_nextUse 5 = .ok (.getfield 42, 3) := by decide +kernel
theorem dX6_nextUse_8 : decode cX6_nextUse 8 = .ok (.invokevirtual 175, 3) := by decide +kernel
theorem dX6_nextUse_11 : decode cX6_nextUse 11 = .ok (.ifCond .ne 5, 3) := by decide +kernel
theorem dX6_nextUse_14 : decode cX6_nextUse 14 = .ok (.iconst (-1), 1) := by decide +kernel
theorem dX6_nextUse_15 : decode cX6_nextUse 15 = .ok (.ireturn, 1) := by decide +kernel
theorem dX6_nextUse_16 : decode cX6_nextUse 16 = .ok (.aload_n 0, 1) := by decide +kernel
theorem dX6_nextUse_17 : decode cX6_nextUse 17 = .ok (.getfield 49, 3) := by decide +kernel
theorem dX6_nextUse_20 : decode cX6_nextUse 20 = .ok (.aload_n 0, 1) := by decide +kernel
theorem dX6_nextUse_21 : decode cX6_nextUse 21 = .ok (.getfield 42, 3) := by decide +kernel
theorem dX6_nextUse_24 : decode cX6_nextUse 24 = .ok (.invokevirtual 196, 3) := by decide +kernel
theorem dX6_nextUse_27 : decode cX6_nextUse 27 = .ok (.iload_n 1, 1) := by decide +kernel
theorem dX6_nextUse_28 : decode cX6_nextUse 28 = .ok (.invokevirtual 199, 3) := by decide +kernel
theorem dX6_nextUse_31 : decode cX6_nextUse 31 = .ok (.istore_n 2, 1) := by decide +kernel
theorem dX6_nextUse_32 : decode cX6_nextUse 32 = .ok (.iload_n 2, 1) := by decide +kernel
theorem dX6_nextUse_33 : decode cX6_nextUse 33 = .ok (.sipush 768, 3) := by decide +kernel
theorem dX6_nextUse_36 : decode cX6_nextUse 36 = .ok (.if_icmp .ne 7, 3) := by decide +kernel
theorem dX6_nextUse_39 : decode cX6_nextUse 39 = .ok (.iconst (-1), 1) := by decide +kernel
theorem dX6_nextUse_40 : decode cX6_nextUse 40 = .ok (.goto 4, 3) := by decide +kernel
theorem dX6_nextUse_43 : decode cX6_nextUse 43 = .ok (.iload_n 2, 1) := by decide +kernel
theorem dX6_nextUse_44 : decode cX6_nextUse 44 = .ok (.ireturn, 1) := by decide +kernel
theorem dX6_sounds_0 : decode cX6_sounds 0 = .ok (.aload_n 0, 1) := by decide +kernel
theorem dX6_sounds_1 : decode cX6_sounds 1 = .ok (.getfield 66, 3) := by decide +kernel
theorem dX6_sounds_4 : decode cX6_sounds 4 = .ok (.ireturn, 1) := by decide +kernel
theorem dX6_misses_0 : decode cX6_misses 0 = .ok (.aload_n 0, 1) := by decide +kernel
theorem dX6_misses_1 : decode cX6_misses 1 = .ok (.getfield 69, 3) := by decide +kernel
theorem dX6_misses_4 : decode cX6_misses 4 = .ok (.ireturn, 1) := by decide +kernel
theorem dX6_soundNumber_0 : decode cX6_soundNumber 0 = .ok (.aload_n 0, 1) := by decide +kernel
theorem dX6_soundNumber_1 : decode cX6_soundNumber 1 = .ok (.getfield 72, 3) := by decide +kernel
theorem dX6_soundNumber_4 : decode cX6_soundNumber 4 = .ok (.ireturn, 1) := by decide +kernel
set_option maxRecDepth 20000 in
theorem ggX6_passTick_X4_dueTick : GoodIn wsX6_passTick wsX4_dueTick := goodIn_r _ [9, 10, 202, 203, 204, 205, 206, 207, 208] (by decide +kernel) (by decide +kernel)
set_option maxRecDepth 20000 in
theorem gX6_passTick_X4_dueTick : GoodIn wsX6_passTick (wsV RX6 196 RX4 yX4_dueTick wsX4_dueTick) := goodIn_app (goodIn_of _ (by decide +kernel)) ggX6_passTick_X4_dueTick
set_option maxRecDepth 20000 in
theorem ggX6_passTick_X2_stepAt : GoodIn wsX6_passTick wsX2_stepAt := goodIn_r _ [15, 16, 17, 18, 14, 19, 20, 21, 22, 23, 24, 25, 26, 209, 210, 211, 212, 213, 214, 215] (by decide +kernel) (by decide +kernel)
set_option maxRecDepth 20000 in
theorem gX6_passTick_X2_stepAt : GoodIn wsX6_passTick (wsV RX6 202 RX2 yX2_stepAt wsX2_stepAt) := goodIn_app (goodIn_of _ (by decide +kernel)) ggX6_passTick_X2_stepAt
set_option maxRecDepth 20000 in
theorem ggX6_passTick_X6_playStep : GoodIn wsX6_passTick wsX6_playStep := goodIn_r _ [31, 2, 3, 32, 33, 34, 14, 35, 36, 37, 38, 39, 40, 21, 22, 23, 24, 25, 26, 41, 42, 43, 44, 45, 46, 30, 47, 4, 48, 49, 50, 51, 52, 53, 54, 55, 56, 57, 58, 59, 60, 61, 62, 63, 64, 65, 191, 192, 193, 194, 195, 196, 197, 198, 199, 200, 201, 209, 210, 211, 212, 213, 214, 215, 216, 217, 218, 219, 220, 221] (by decide +kernel) (by decide +kernel)
set_option maxRecDepth 20000 in
theorem gX6_passTick_X6_playStep : GoodIn wsX6_passTick (wsV RX6 205 RX6 yX6_playStep wsX6_playStep) := goodIn_app (goodIn_of _ (by decide +kernel)) ggX6_passTick_X6_playStep
set_option maxRecDepth 20000 in
theorem ggX6_passTick_X1_load : GoodIn wsX6_passTick wsX1_load := goodIn_r _ [69, 70, 71, 72, 73, 55, 74, 75, 76, 77, 78, 79, 80, 81, 82, 83, 84, 85, 86, 87, 88, 22, 23, 24, 25, 26, 89, 53, 54, 56, 57, 58, 59, 90, 91, 92, 93, 94, 95, 96, 97, 98, 99, 100, 101, 102, 103, 104, 105, 216, 217, 218, 219, 220, 221, 222, 223, 224, 215] (by decide +kernel) (by decide +kernel)
set_option maxRecDepth 20000 in
theorem gX6_passTick_X1_load : GoodIn wsX6_passTick (wsV RX6 208 RX1 yX1_load wsX1_load) := goodIn_app (goodIn_of _ (by decide +kernel)) ggX6_passTick_X1_load
set_option maxRecDepth 20000 in
theorem ggX6_passTick_X4_goToNextTick : GoodIn wsX6_passTick wsX4_goToNextTick := goodIn_r _ [109, 10, 110, 111, 112, 113, 114, 8, 115, 116, 117, 118, 22, 23, 24, 25, 26, 119, 120, 121, 122, 123, 124, 125, 126, 127, 128, 129, 130, 131, 202, 203, 204, 205, 206, 207, 208, 215, 225, 226, 227, 228, 229, 230, 231, 232, 233, 234, 235] (by decide +kernel) (by decide +kernel)
set_option maxRecDepth 20000 in
theorem gX6_passTick_X4_goToNextTick : GoodIn wsX6_passTick (wsV RX6 211 RX4 yX4_goToNextTick wsX4_goToNextTick) := goodIn_app (goodIn_of _ (by decide +kernel)) ggX6_passTick_X4_goToNextTick
set_option maxRecDepth 20000 in
theorem ggX6_passTick_X4_isPlayed : GoodIn wsX6_passTick wsX4_isPlayed := goodIn_r _ [135, 131, 202, 203, 204, 205, 206, 207, 208] (by decide +kernel) (by decide +kernel)
set_option maxRecDepth 20000 in
theorem gX6_passTick_X4_isPlayed : GoodIn wsX6_passTick (wsV RX6 175 RX4 yX4_isPlayed wsX4_isPlayed) := goodIn_app (goodIn_of _ (by decide +kernel)) ggX6_passTick_X4_isPlayed
set_option maxRecDepth 20000 in
theorem ggX6_passTick_X6_enterBar : GoodIn wsX6_passTick wsX6_enterBar := goodIn_r _ [139, 1, 3, 140, 141, 142, 143, 8, 144, 111, 110, 130, 116, 117, 112, 113, 114, 115, 118, 22, 23, 24, 25, 26, 119, 120, 121, 122, 123, 124, 125, 145, 146, 147, 148, 149, 150, 151, 152, 153, 154, 14, 155, 156, 21, 157, 158, 159, 85, 160, 161, 162, 163, 164, 165, 166, 167, 168, 169, 170, 171, 172, 173, 174, 175, 17, 18, 19, 20, 176, 177, 178, 179, 180, 33, 34, 35, 36, 37, 38, 39, 40, 41, 42, 43, 181, 99, 100, 101, 182, 183, 184, 185, 186, 187, 188, 189, 87, 88, 190, 12, 13, 15, 16, 191, 192, 193, 194, 195, 196, 197, 198, 199, 200, 201, 202, 203, 204, 205, 206, 207, 208, 215, 225, 226, 227, 228, 229, 230, 231, 232, 233, 234, 235, 209, 210, 211, 212, 213, 214, 222, 223, 224] (by decide +kernel) (by decide +kernel)
set_option maxRecDepth 20000 in
theorem gX6_passTick_X6_enterBar : GoodIn wsX6_passTick (wsV RX6 167 RX6 yX6_enterBar wsX6_enterBar) := goodIn_app (goodIn_of _ (by decide +kernel)) ggX6_passTick_X6_enterBar
theorem dX6_passTick_0 : decode cX6_passTick 0 = .ok (.aload_n 0, 1) := by decide +kernel
theorem dX6_passTick_1 : decode cX6_passTick 1 = .ok (.getfield 42, 3) := by decide +kernel
theorem dX6_passTick_4 : decode cX6_passTick 4 = .ok (.invokevirtual 196, 3) := by decide +kernel
theorem dX6_passTick_7 : decode cX6_passTick 7 = .ok (.istore_n 1, 1) := by decide +kernel
theorem dX6_passTick_8 : decode cX6_passTick 8 = .ok (.aload_n 0, 1) := by decide +kernel
theorem dX6_passTick_9 : decode cX6_passTick 9 = .ok (.getfield 24, 3) := by decide +kernel
theorem dX6_passTick_12 : decode cX6_passTick 12 = .ok (.aload_n 0, 1) := by decide +kernel
theorem dX6_passTick_13 : decode cX6_passTick 13 = .ok (.getfield 62, 3) := by decide +kernel
theorem dX6_passTick_16 : decode cX6_passTick 16 = .ok (.iload_n 1, 1) := by decide +kernel
theorem dX6_passTick_17 : decode cX6_passTick 17 = .ok (.invokevirtual 202, 3) := by decide +kernel
theorem dX6_passTick_20 : decode cX6_passTick 20 = .ok (.istore_n 2, 1) := by decide +kernel
theorem dX6_passTick_21 : decode cX6_passTick 21 = .ok (.iload_n 2, 1) := by decide +kernel
theorem dX6_passTick_22 : decode cX6_passTick 22 = .ok (.iconst (-1), 1) := by decide +kernel
theorem dX6_passTick_23 : decode cX6_passTick 23 = .ok (.if_icmp .eq 8, 3) := by decide +kernel
theorem dX6_passTick_26 : decode cX6_passTick 26 = .ok (.aload_n 0, 1) := by decide +kernel
theorem dX6_passTick_27 : decode cX6_passTick 27 = .ok (.iload_n 2, 1) := by decide +kernel
theorem dX6_passTick_28 : decode cX6_passTick 28 = .ok (.invokevirtual 205, 3) := by decide +kernel
theorem dX6_passTick_31 : decode cX6_passTick 31 = .ok (.aload_n 0, 1) := by decide +kernel
theorem dX6_passTick_32 : decode cX6_passTick 32 = .ok (.getfield 58, 3) := by decide +kernel
theorem dX6_passTick_35 : decode cX6_passTick 35 = .ok (.iload_n 1, 1) := by decide +kernel
theorem dX6_passTick_36 : decode cX6_passTick 36 = .ok (.invokevirtual 208, 3) := by decide +kernel
theorem dX6_passTick_39 : decode cX6_passTick 39 = .ok (.aload_n 0, 1) := by decide +kernel
theorem dX6_passTick_40 : decode cX6_passTick 40 = .ok (.getfield 42, 3) := by decide +kernel
theorem dX6_passTick_43 : decode cX6_passTick 43 = .ok (.invokevirtual 211, 3) := by decide +kernel
theorem dX6_passTick_46 : decode cX6_passTick 46 = .ok (.aload_n 0, 1) := by decide +kernel
theorem dX6_passTick_47 : decode cX6_passTick 47 = .ok (.getfield 42, 3) := by decide +kernel
theorem dX6_passTick_50 : decode cX6_passTick 50 = .ok (.invokevirtual 175, 3) := by decide +kernel
theorem dX6_passTick_53 : decode cX6_passTick 53 = .ok (.ifCond .eq 17, 3) := by decide +kernel
theorem dX6_passTick_56 : decode cX6_passTick 56 = .ok (.aload_n 0, 1) := by decide +kernel
theorem dX6_passTick_57 : decode cX6_passTick 57 = .ok (.getfield 42, 3) := by decide +kernel
theorem dX6_passTick_60 : decode cX6_passTick 60 = .ok (.invokevirtual 196, 3) := by decide +kernel
theorem dX6_passTick_63 : decode cX6_passTick 63 = .ok (.ifCond .ne 7, 3) := by decide +kernel
theorem dX6_passTick_66 : decode cX6_passTick 66 = .ok (.aload_n 0, 1) := by decide +kernel
theorem dX6_passTick_67 : decode cX6_passTick 67 = .ok (.invokevirtual 167, 3) := by decide +kernel
theorem dX6_passTick_70 : decode cX6_passTick 70 = .ok (.return_, 1) := by decide +kernel
set_option maxRecDepth 20000 in
theorem ggX6_playStep_X2_sampleAt : GoodIn wsX6_playStep wsX2_sampleAt := goodIn_r _ [7, 8, 9, 10, 11, 6, 12, 13, 14, 15, 16, 17, 18, 19, 20, 21, 57, 58, 59, 60, 61, 62, 63] (by decide +kernel) (by decide +kernel)
set_option maxRecDepth 20000 in
theorem gX6_playStep_X2_sampleAt : GoodIn wsX6_playStep (wsV RX6 214 RX2 yX2_sampleAt wsX2_sampleAt) := goodIn_app (goodIn_of _ (by decide +kernel)) ggX6_playStep_X2_sampleAt
set_option maxRecDepth 20000 in
theorem ggX6_playStep_X6_playSample : GoodIn wsX6_playStep wsX6_playSample := goodIn_r _ [26, 27, 28, 29, 1, 2, 30, 31, 32, 33, 34, 35, 36, 37, 38, 39, 14, 15, 16, 17, 18, 40, 41, 42, 6, 43, 44, 45, 13, 46, 47, 48, 49, 50, 51, 52, 53, 54, 55, 56, 64, 65, 66, 67, 68, 69, 63, 57, 58, 59, 60, 61, 62] (by decide +kernel) (by decide +kernel)
set_option maxRecDepth 20000 in
theorem gX6_playStep_X6_playSample : GoodIn wsX6_playStep (wsV RX6 217 RX6 yX6_playSample wsX6_playSample) := goodIn_app (goodIn_of _ (by decide +kernel)) ggX6_playStep_X6_playSample
theorem dX6_playStep_0 : decode cX6_playStep 0 = .ok (.iconst 0, 1) := by decide +kernel
theorem dX6_playStep_1 : decode cX6_playStep 1 = .ok (.istore_n 2, 1) := by decide +kernel
theorem dX6_playStep_2 : decode cX6_playStep 2 = .ok (.iload_n 2, 1) := by decide +kernel
theorem dX6_playStep_3 : decode cX6_playStep 3 = .ok (.iconst 4, 1) := by decide +kernel
theorem dX6_playStep_4 : decode cX6_playStep 4 = .ok (.if_icmp .ge 33, 3) := by decide +kernel
theorem dX6_playStep_7 : decode cX6_playStep 7 = .ok (.aload_n 0, 1) := by decide +kernel
theorem dX6_playStep_8 : decode cX6_playStep 8 = .ok (.getfield 24, 3) := by decide +kernel
theorem dX6_playStep_11 : decode cX6_playStep 11 = .ok (.aload_n 0, 1) := by decide +kernel
theorem dX6_playStep_12 : decode cX6_playStep 12 = .ok (.getfield 62, 3) := by decide +kernel
theorem dX6_playStep_15 : decode cX6_playStep 15 = .ok (.iload_n 2, 1) := by decide +kernel
theorem dX6_playStep_16 : decode cX6_playStep 16 = .ok (.iload_n 1, 1) := by decide +kernel
theorem dX6_playStep_17 : decode cX6_playStep 17 = .ok (.invokevirtual 214, 3) := by decide +kernel
theorem dX6_playStep_20 : decode cX6_playStep 20 = .ok (.istore_n 3, 1) := by decide +kernel
theorem dX6_playStep_21 : decode cX6_playStep 21 = .ok (.iload_n 3, 1) := by decide +kernel
theorem dX6_playStep_22 : decode cX6_playStep 22 = .ok (.iconst (-1), 1) := by decide +kernel
theorem dX6_playStep_23 : decode cX6_playStep 23 = .ok (.if_icmp .eq 8, 3) := by decide +kernel
theorem dX6_playStep_26 : decode cX6_playStep 26 = .ok (.aload_n 0, 1) := by decide +kernel
theorem dX6_playStep_27 : decode cX6_playStep 27 = .ok (.iload_n 3, 1) := by decide +kernel
theorem dX6_playStep_28 : decode cX6_playStep 28 = .ok (.invokevirtual 217, 3) := by decide +kernel
theorem dX6_playStep_31 : decode cX6_playStep 31 = .ok (.iinc 2 1, 3) := by decide +kernel
theorem dX6_playStep_34 : decode cX6_playStep 34 = .ok (.goto (-32), 3) := by decide +kernel
theorem dX6_playStep_37 : decode cX6_playStep 37 = .ok (.return_, 1) := by decide +kernel
set_option maxRecDepth 20000 in
theorem ggX6_playSample_X1_hasAllPages : GoodIn wsX6_playSample wsX1_hasAllPages := goodIn_r _ [12, 13, 14, 15, 16, 17, 18, 19, 20, 40, 41, 42, 43, 44, 45, 46] (by decide +kernel) (by decide +kernel)
set_option maxRecDepth 20000 in
theorem gX6_playSample_X1_hasAllPages : GoodIn wsX6_playSample (wsV RX6 220 RX1 yX1_hasAllPages wsX1_hasAllPages) := goodIn_app (goodIn_of _ (by decide +kernel)) ggX6_playSample_X1_hasAllPages
set_option maxRecDepth 20000 in
theorem ggX6_playSample_X2_tuneIn : GoodIn wsX6_playSample wsX2_tuneIn := goodIn_r _ [25, 26, 27, 28, 16, 17, 18, 19, 20, 47, 48, 49, 50, 51, 52, 46] (by decide +kernel) (by decide +kernel)
set_option maxRecDepth 20000 in
theorem gX6_playSample_X2_tuneIn : GoodIn wsX6_playSample (wsV RX6 224 RX2 yX2_tuneIn wsX2_tuneIn) := goodIn_app (goodIn_of _ (by decide +kernel)) ggX6_playSample_X2_tuneIn
theorem dX6_playSample_0 : decode cX6_playSample 0 = .ok (.aload_n 0, 1) := by decide +kernel
theorem dX6_playSample_1 : decode cX6_playSample 1 = .ok (.getfield 58, 3) := by decide +kernel
theorem dX6_playSample_4 : decode cX6_playSample 4 = .ok (.iload_n 1, 1) := by decide +kernel
theorem dX6_playSample_5 : decode cX6_playSample 5 = .ok (.invokevirtual 220, 3) := by decide +kernel
theorem dX6_playSample_8 : decode cX6_playSample 8 = .ok (.ifCond .ne 14, 3) := by decide +kernel
theorem dX6_playSample_11 : decode cX6_playSample 11 = .ok (.aload_n 0, 1) := by decide +kernel
theorem dX6_playSample_12 : decode cX6_playSample 12 = .ok (.dup, 1) := by decide +kernel
theorem dX6_playSample_13 : decode cX6_playSample 13 = .ok (.getfield 69, 3) := by decide +kernel
theorem dX6_playSample_16 : decode cX6_playSample 16 = .ok (.iconst 1, 1) := by decide +kernel
theorem dX6_playSample_17 : decode cX6_playSample 17 = .ok (.iadd, 1) := by decide +kernel
theorem dX6_playSample_18 : decode cX6_playSample 18 = .ok (.putfield 69, 3) := by decide +kernel
theorem dX6_playSample_21 : decode cX6_playSample 21 = .ok (.return_, 1) := by decide +kernel
theorem dX6_playSample_22 : decode cX6_playSample 22 = .ok (.aload_n 0, 1) := by decide +kernel
theorem dX6_playSample_23 : decode cX6_playSample 23 = .ok (.dup, 1) := by decide +kernel
theorem dX6_playSample_24 : decode cX6_playSample 24 = .ok (.getfield 66, 3) := by decide +kernel
theorem dX6_playSample_27 : decode cX6_playSample 27 = .ok (.iconst 1, 1) := by decide +kernel
theorem dX6_playSample_28 : decode cX6_playSample 28 = .ok (.iadd, 1) := by decide +kernel
theorem dX6_playSample_29 : decode cX6_playSample 29 = .ok (.putfield 66, 3) := by decide +kernel
theorem dX6_playSample_32 : decode cX6_playSample 32 = .ok (.aload_n 0, 1) := by decide +kernel
theorem dX6_playSample_33 : decode cX6_playSample 33 = .ok (.getfield 24, 3) := by decide +kernel
theorem dX6_playSample_36 : decode cX6_playSample 36 = .ok (.aload_n 0, 1) := by decide +kernel
theorem dX6_playSample_37 : decode cX6_playSample 37 = .ok (.getfield 62, 3) := by decide +kernel
theorem dX6_playSample_40 : decode cX6_playSample 40 = .ok (.iload_n 1, 1) := by decide +kernel
theorem dX6_playSample_41 : decode cX6_playSample 41 = .ok (.aload_n 0, 1) := by decide +kernel
theorem dX6_playSample_42 : decode cX6_playSample 42 = .ok (.getfield 18, 3) := by decide +kernel
theorem dX6_playSample_45 : decode cX6_playSample 45 = .ok (.invokevirtual 224, 3) := by decide +kernel
theorem dX6_playSample_48 : decode cX6_playSample 48 = .ok (.istore_n 2, 1) := by decide +kernel
theorem dX6_playSample_49 : decode cX6_playSample 49 = .ok (.aload_n 0, 1) := by decide +kernel
theorem dX6_playSample_50 : decode cX6_playSample 50 = .ok (.bipush 31, 2) := by decide +kernel
theorem dX6_playSample_52 : decode cX6_playSample 52 = .ok (.aload_n 0, 1) := by decide +kernel
theorem dX6_playSample_53 : decode cX6_playSample 53 = .ok (.getfield 72, 3) := by decide +kernel
theorem dX6_playSample_56 : decode cX6_playSample 56 = .ok (.imul, 1) := by decide +kernel
theorem dX6_playSample_57 : decode cX6_playSample 57 = .ok (.bipush 100, 2) := by decide +kernel
theorem dX6_playSample_59 : decode cX6_playSample 59 = .ok (.iload_n 1, 1) := by decide +kernel
theorem dX6_playSample_60 : decode cX6_playSample 60 = .ok (.imul, 1) := by decide +kernel
theorem dX6_playSample_61 : decode cX6_playSample 61 = .ok (.iadd, 1) := by decide +kernel
theorem dX6_playSample_62 : decode cX6_playSample 62 = .ok (.iload_n 2, 1) := by decide +kernel
theorem dX6_playSample_63 : decode cX6_playSample 63 = .ok (.iadd, 1) := by decide +kernel
theorem dX6_playSample_64 : decode cX6_playSample 64 = .ok (.bipush 12, 2) := by decide +kernel
theorem dX6_playSample_66 : decode cX6_playSample 66 = .ok (.iadd, 1) := by decide +kernel
theorem dX6_playSample_67 : decode cX6_playSample 67 = .ok (.putfield 72, 3) := by decide +kernel
theorem dX6_playSample_70 : decode cX6_playSample 70 = .ok (.return_, 1) := by decide +kernel
set_option maxRecDepth 20000 in
theorem ggX6_enterBar_X4_codeAhead : GoodIn wsX6_enterBar wsX4_codeAhead := goodIn_r _ [8, 9, 10, 11, 12, 13, 14, 15, 16, 7, 17, 18, 19, 20, 21, 22, 23, 24, 25, 26, 27, 28, 29, 30, 31, 32, 33, 34, 35, 36, 37, 38, 39, 40, 41, 42, 43, 44, 115, 116, 117, 118, 119, 120, 121, 122, 123, 124, 125, 126, 127, 128, 129, 130, 131, 132, 133, 134, 135, 136, 137, 138, 139] (by decide +kernel) (by decide +kernel)
set_option maxRecDepth 20000 in
theorem gX6_enterBar_X4_codeAhead : GoodIn wsX6_enterBar (wsV RX6 228 RX4 yX4_codeAhead wsX4_codeAhead) := goodIn_app (goodIn_of _ (by decide +kernel)) ggX6_enterBar_X4_codeAhead
set_option maxRecDepth 20000 in
theorem ggX6_enterBar_X0_forget : GoodIn wsX6_enterBar wsX0_forget := goodIn_r _ [49, 50, 51, 52, 53, 21, 54, 23, 55, 56, 57, 58, 140, 141, 142, 122] (by decide +kernel) (by decide +kernel)
set_option maxRecDepth 20000 in
theorem gX6_enterBar_X0_forget : GoodIn wsX6_enterBar (wsV RX6 231 RX0 yX0_forget wsX0_forget) := goodIn_app (goodIn_of _ (by decide +kernel)) ggX6_enterBar_X0_forget
set_option maxRecDepth 20000 in
theorem ggX6_enterBar_X0_noteBar : GoodIn wsX6_enterBar wsX0_noteBar := goodIn_r _ [62, 63, 64, 65, 66, 41, 67, 68, 44, 19, 20, 21, 22, 23, 69, 70, 71, 48, 72, 50, 73, 74, 75, 76, 77, 78, 79, 80, 81, 82, 83, 84, 85, 86, 87, 88, 140, 141, 142, 134, 135, 136, 137, 138, 139, 122] (by decide +kernel) (by decide +kernel)
set_option maxRecDepth 20000 in
theorem gX6_enterBar_X0_noteBar : GoodIn wsX6_enterBar (wsV RX6 234 RX0 yX0_noteBar wsX0_noteBar) := goodIn_app (goodIn_of _ (by decide +kernel)) ggX6_enterBar_X0_noteBar
set_option maxRecDepth 20000 in
theorem ggX6_enterBar_X0_noteDueBar : GoodIn wsX6_enterBar wsX0_noteDueBar := goodIn_r _ [92, 63, 93, 94, 95, 48, 96, 50, 97, 98, 19, 20, 21, 22, 23, 85, 86, 87, 88, 99, 100, 101, 41, 102, 103, 65, 66, 67, 68, 44, 69, 70, 71, 72, 73, 74, 75, 76, 77, 78, 79, 80, 81, 82, 83, 84, 140, 141, 142, 122, 134, 135, 136, 137, 138, 139] (by decide +kernel) (by decide +kernel)
set_option maxRecDepth 20000 in
theorem gX6_enterBar_X0_noteDueBar : GoodIn wsX6_enterBar (wsV RX6 237 RX0 yX0_noteDueBar wsX0_noteDueBar) := goodIn_app (goodIn_of _ (by decide +kernel)) ggX6_enterBar_X0_noteDueBar
theorem dX6_enterBar_0 : decode cX6_enterBar 0 = .ok (.aload_n 0, 1) := by decide +kernel
theorem dX6_enterBar_1 : decode cX6_enterBar 1 = .ok (.aload_n 0, 1) := by decide +kernel
theorem dX6_enterBar_2 : decode cX6_enterBar 2 = .ok (.getfield 42, 3) := by decide +kernel
theorem dX6_enterBar_5 : decode cX6_enterBar 5 = .ok (.iconst 0, 1) := by decide +kernel
theorem dX6_enterBar_6 : decode cX6_enterBar 6 = .ok (.invokevirtual 228, 3) := by decide +kernel
theorem dX6_enterBar_9 : decode cX6_enterBar 9 = .ok (.putfield 62, 3) := by decide +kernel
theorem dX6_enterBar_12 : decode cX6_enterBar 12 = .ok (.aload_n 0, 1) := by decide +kernel
theorem dX6_enterBar_13 : decode cX6_enterBar 13 = .ok (.getfield 49, 3) := by decide +kernel
theorem dX6_enterBar_16 : decode cX6_enterBar 16 = .ok (.invokevirtual 231, 3) := by decide +kernel
theorem dX6_enterBar_19 : decode cX6_enterBar 19 = .ok (.iconst 3, 1) := by decide +kernel
theorem dX6_enterBar_20 : decode cX6_enterBar 20 = .ok (.istore_n 1, 1) := by decide +kernel
theorem dX6_enterBar_21 : decode cX6_enterBar 21 = .ok (.iload_n 1, 1) := by decide +kernel
theorem dX6_enterBar_22 : decode cX6_enterBar 22 = .ok (.ifCond .le 36, 3) := by decide +kernel
theorem dX6_enterBar_25 : decode cX6_enterBar 25 = .ok (.aload_n 0, 1) := by decide +kernel
theorem dX6_enterBar_26 : decode cX6_enterBar 26 = .ok (.getfield 42, 3) := by decide +kernel
theorem dX6_enterBar_29 : decode cX6_enterBar 29 = .ok (.iload_n 1, 1) := by decide +kernel
theorem dX6_enterBar_30 : decode cX6_enterBar 30 = .ok (.invokevirtual 228, 3) := by decide +kernel
theorem dX6_enterBar_33 : decode cX6_enterBar 33 = .ok (.istore_n 2, 1) := by decide +kernel
theorem dX6_enterBar_34 : decode cX6_enterBar 34 = .ok (.iload_n 2, 1) := by decide +kernel
theorem dX6_enterBar_35 : decode cX6_enterBar 35 = .ok (.iconst (-1), 1) := by decide +kernel
theorem dX6_enterBar_36 : decode cX6_enterBar 36 = .ok (.if_icmp .eq 16, 3) := by decide +kernel
theorem dX6_enterBar_39 : decode cX6_enterBar 39 = .ok (.aload_n 0, 1) := by decide +kernel
theorem dX6_enterBar_40 : decode cX6_enterBar 40 = .ok (.getfield 49, 3) := by decide +kernel
theorem dX6_enterBar_43 : decode cX6_enterBar 43 = .ok (.iload_n 2, 1) := by decide +kernel
theorem dX6_enterBar_44 : decode cX6_enterBar 44 = .ok (.iload_n 1, 1) := by decide +kernel
theorem dX6_enterBar_45 : decode cX6_enterBar 45 = .ok (.sipush 192, 3) := by decide +kernel
theorem dX6_enterBar_48 : decode cX6_enterBar 48 = .ok (.imul, 1) := by decide +kernel
theorem dX6_enterBar_49 : decode cX6_enterBar 49 = .ok (.invokevirtual 234, 3) := by decide +kernel
theorem dX6_enterBar_52 : decode cX6_enterBar 52 = .ok (.iinc 1 (-1), 3) := by decide +kernel
theorem dX6_enterBar_55 : decode cX6_enterBar 55 = .ok (.goto (-34), 3) := by decide +kernel
theorem dX6_enterBar_58 : decode cX6_enterBar 58 = .ok (.aload_n 0, 1) := by decide +kernel
theorem dX6_enterBar_59 : decode cX6_enterBar 59 = .ok (.getfield 49, 3) := by decide +kernel
theorem dX6_enterBar_62 : decode cX6_enterBar 62 = .ok (.aload_n 0, 1) := by decide +kernel
theorem dX6_enterBar_63 : decode cX6_enterBar 63 = .ok (.getfield 62, 3) := by decide +kernel
theorem dX6_enterBar_66 : decode cX6_enterBar 66 = .ok (.invokevirtual 237, 3) := by decide +kernel
theorem dX6_enterBar_69 : decode cX6_enterBar 69 = .ok (.return_, 1) := by decide +kernel
theorem dX6_needIndex_0 : decode cX6_needIndex 0 = .ok (.iload_n 0, 1) := by decide +kernel
theorem dX6_needIndex_1 : decode cX6_needIndex 1 = .ok (.iload_n 1, 1) := by decide +kernel
theorem dX6_needIndex_2 : decode cX6_needIndex 2 = .ok (.if_icmp .lt 8, 3) := by decide +kernel
theorem dX6_needIndex_5 : decode cX6_needIndex 5 = .ok (.iload_n 0, 1) := by decide +kernel
theorem dX6_needIndex_6 : decode cX6_needIndex 6 = .ok (.iload_n 2, 1) := by decide +kernel
theorem dX6_needIndex_7 : decode cX6_needIndex 7 = .ok (.if_icmp .le 13, 3) := by decide +kernel
theorem dX6_needIndex_10 : decode cX6_needIndex 10 = .ok (.new 240, 3) := by decide +kernel
theorem dX6_needIndex_13 : decode cX6_needIndex 13 = .ok (.dup, 1) := by decide +kernel
theorem dX6_needIndex_14 : decode cX6_needIndex 14 = .ok (.ldc 242, 2) := by decide +kernel
theorem dX6_needIndex_16 : decode cX6_needIndex 16 = .ok (.invokespecial 244, 3) := by decide +kernel
theorem dX6_needIndex_19 : decode cX6_needIndex 19 = .ok (.athrow, 1) := by decide +kernel
theorem dX6_needIndex_20 : decode cX6_needIndex 20 = .ok (.return_, 1) := by decide +kernel
set_option maxRecDepth 20000 in
theorem ggX6_needSample_X6_needIndex : GoodIn wsX6_needSample wsX6_needIndex := goodIn_ca (goodIn_r _ [4, 5, 6] (by decide +kernel) (by decide +kernel)) (goodIn_sub (fun _ h => List.mem_cons_of_mem _ (List.mem_append_right _ h)) (by decide +kernel))
set_option maxRecDepth 20000 in
theorem gX6_needSample_X6_needIndex : GoodIn wsX6_needSample (va_wsS RX6 93 yX6_needIndex wsX6_needIndex) := goodIn_app (goodIn_of _ (by decide +kernel)) ggX6_needSample_X6_needIndex
theorem dX6_needSample_0 : decode cX6_needSample 0 = .ok (.iload_n 0, 1) := by decide +kernel
theorem dX6_needSample_1 : decode cX6_needSample 1 = .ok (.iconst 0, 1) := by decide +kernel
theorem dX6_needSample_2 : decode cX6_needSample 2 = .ok (.bipush 7, 2) := by decide +kernel
theorem dX6_needSample_4 : decode cX6_needSample 4 = .ok (.invokestatic 93, 3) := by decide +kernel
theorem dX6_needSample_7 : decode cX6_needSample 7 = .ok (.return_, 1) := by decide +kernel
set_option maxRecDepth 20000 in
theorem ggX6_needPattern_X6_needIndex : GoodIn wsX6_needPattern wsX6_needIndex := goodIn_ca (goodIn_r _ [4, 5, 6] (by decide +kernel) (by decide +kernel)) (goodIn_sub (fun _ h => List.mem_cons_of_mem _ (List.mem_append_right _ h)) (by decide +kernel))
set_option maxRecDepth 20000 in
theorem gX6_needPattern_X6_needIndex : GoodIn wsX6_needPattern (va_wsS RX6 93 yX6_needIndex wsX6_needIndex) := goodIn_app (goodIn_of _ (by decide +kernel)) ggX6_needPattern_X6_needIndex
theorem dX6_needPattern_0 : decode cX6_needPattern 0 = .ok (.iload_n 0, 1) := by decide +kernel
theorem dX6_needPattern_1 : decode cX6_needPattern 1 = .ok (.iconst 0, 1) := by decide +kernel
theorem dX6_needPattern_2 : decode cX6_needPattern 2 = .ok (.bipush 11, 2) := by decide +kernel
theorem dX6_needPattern_4 : decode cX6_needPattern 4 = .ok (.invokestatic 93, 3) := by decide +kernel
theorem dX6_needPattern_7 : decode cX6_needPattern 7 = .ok (.return_, 1) := by decide +kernel
set_option maxRecDepth 20000 in
theorem ggX6_needSong_X6_needIndex : GoodIn wsX6_needSong wsX6_needIndex := goodIn_ca (goodIn_r _ [4, 5, 6] (by decide +kernel) (by decide +kernel)) (goodIn_sub (fun _ h => List.mem_cons_of_mem _ (List.mem_append_right _ h)) (by decide +kernel))
set_option maxRecDepth 20000 in
theorem gX6_needSong_X6_needIndex : GoodIn wsX6_needSong (va_wsS RX6 93 yX6_needIndex wsX6_needIndex) := goodIn_app (goodIn_of _ (by decide +kernel)) ggX6_needSong_X6_needIndex
theorem dX6_needSong_0 : decode cX6_needSong 0 = .ok (.iload_n 0, 1) := by decide +kernel
theorem dX6_needSong_1 : decode cX6_needSong 1 = .ok (.iconst 0, 1) := by decide +kernel
theorem dX6_needSong_2 : decode cX6_needSong 2 = .ok (.iconst 5, 1) := by decide +kernel
theorem dX6_needSong_3 : decode cX6_needSong 3 = .ok (.invokestatic 93, 3) := by decide +kernel
theorem dX6_needSong_6 : decode cX6_needSong 6 = .ok (.return_, 1) := by decide +kernel
theorem dX6_needRange_0 : decode cX6_needRange 0 = .ok (.iload_n 0, 1) := by decide +kernel
theorem dX6_needRange_1 : decode cX6_needRange 1 = .ok (.iload_n 1, 1) := by decide +kernel
theorem dX6_needRange_2 : decode cX6_needRange 2 = .ok (.if_icmp .lt 8, 3) := by decide +kernel
theorem dX6_needRange_5 : decode cX6_needRange 5 = .ok (.iload_n 0, 1) := by decide +kernel
theorem dX6_needRange_6 : decode cX6_needRange 6 = .ok (.iload_n 2, 1) := by decide +kernel
theorem dX6_needRange_7 : decode cX6_needRange 7 = .ok (.if_icmp .le 13, 3) := by decide +kernel
theorem dX6_needRange_10 : decode cX6_needRange 10 = .ok (.new 245, 3) := by decide +kernel
theorem dX6_needRange_13 : decode cX6_needRange 13 = .ok (.dup, 1) := by decide +kernel
theorem dX6_needRange_14 : decode cX6_needRange 14 = .ok (.ldc 247, 2) := by decide +kernel
theorem dX6_needRange_16 : decode cX6_needRange 16 = .ok (.invokespecial 249, 3) := by decide +kernel
theorem dX6_needRange_19 : decode cX6_needRange 19 = .ok (.athrow, 1) := by decide +kernel
theorem dX6_needRange_20 : decode cX6_needRange 20 = .ok (.return_, 1) := by decide +kernel
set_option maxRecDepth 20000 in
theorem ggX6_needPlayed_X4_isPlayed : GoodIn wsX6_needPlayed wsX4_isPlayed := goodIn_r _ [8, 9, 21, 22, 23, 24, 25, 26, 27] (by decide +kernel) (by decide +kernel)
set_option maxRecDepth 20000 in
theorem gX6_needPlayed_X4_isPlayed : GoodIn wsX6_needPlayed (wsV RX6 175 RX4 yX4_isPlayed wsX4_isPlayed) := goodIn_app (goodIn_of _ (by decide +kernel)) ggX6_needPlayed_X4_isPlayed
theorem dX6_needPlayed_0 : decode cX6_needPlayed 0 = .ok (.aload_n 0, 1) := by decide +kernel
theorem dX6_needPlayed_1 : decode cX6_needPlayed 1 = .ok (.getfield 42, 3) := by decide +kernel
theorem dX6_needPlayed_4 : decode cX6_needPlayed 4 = .ok (.invokevirtual 175, 3) := by decide +kernel
theorem dX6_needPlayed_7 : decode cX6_needPlayed 7 = .ok (.ifCond .ne 13, 3) := by decide +kernel
theorem dX6_needPlayed_10 : decode cX6_needPlayed 10 = .ok (.new 118, 3) := by decide +kernel
theorem dX6_needPlayed_13 : decode cX6_needPlayed 13 = .ok (.dup, 1) := by decide +kernel
theorem dX6_needPlayed_14 : decode cX6_needPlayed 14 = .ok (.ldc 250, 2) := by decide +kernel
theorem dX6_needPlayed_16 : decode cX6_needPlayed 16 = .ok (.invokespecial 122, 3) := by decide +kernel
theorem dX6_needPlayed_19 : decode cX6_needPlayed 19 = .ok (.athrow, 1) := by decide +kernel
theorem dX6_needPlayed_20 : decode cX6_needPlayed 20 = .ok (.return_, 1) := by decide +kernel
set_option maxRecDepth 20000 in
theorem ggX6_needNotPlayed_X4_isPlayed : GoodIn wsX6_needNotPlayed wsX4_isPlayed := goodIn_r _ [8, 9, 21, 22, 23, 24, 25, 26, 27] (by decide +kernel) (by decide +kernel)
set_option maxRecDepth 20000 in
theorem gX6_needNotPlayed_X4_isPlayed : GoodIn wsX6_needNotPlayed (wsV RX6 175 RX4 yX4_isPlayed wsX4_isPlayed) := goodIn_app (goodIn_of _ (by decide +kernel)) ggX6_needNotPlayed_X4_isPlayed
theorem dX6_needNotPlayed_0 : decode cX6_needNotPlayed 0 = .ok (.aload_n 0, 1) := by decide +kernel
theorem dX6_needNotPlayed_1 : decode cX6_needNotPlayed 1 = .ok (.getfield 42, 3) := by decide +kernel
theorem dX6_needNotPlayed_4 : decode cX6_needNotPlayed 4 = .ok (.invokevirtual 175, 3) := by decide +kernel
theorem dX6_needNotPlayed_7 : decode cX6_needNotPlayed 7 = .ok (.ifCond .eq 13, 3) := by decide +kernel
theorem dX6_needNotPlayed_10 : decode cX6_needNotPlayed 10 = .ok (.new 118, 3) := by decide +kernel
theorem dX6_needNotPlayed_13 : decode cX6_needNotPlayed 13 = .ok (.dup, 1) := by decide +kernel
theorem dX6_needNotPlayed_14 : decode cX6_needNotPlayed 14 = .ok (.ldc 252, 2) := by decide +kernel
theorem dX6_needNotPlayed_16 : decode cX6_needNotPlayed 16 = .ok (.invokespecial 122, 3) := by decide +kernel
theorem dX6_needNotPlayed_19 : decode cX6_needNotPlayed 19 = .ok (.athrow, 1) := by decide +kernel
theorem dX6_needNotPlayed_20 : decode cX6_needNotPlayed 20 = .ok (.return_, 1) := by decide +kernel
theorem dJ9_max_7cf53_0 : decode cJ9_max_7cf53 0 = .ok (.iload_n 0, 1) := by decide +kernel
theorem dJ9_max_7cf53_1 : decode cJ9_max_7cf53 1 = .ok (.iload_n 1, 1) := by decide +kernel
theorem dJ9_max_7cf53_2 : decode cJ9_max_7cf53 2 = .ok (.if_icmp .lt 7, 3) := by decide +kernel
theorem dJ9_max_7cf53_5 : decode cJ9_max_7cf53 5 = .ok (.iload_n 0, 1) := by decide +kernel
theorem dJ9_max_7cf53_6 : decode cJ9_max_7cf53 6 = .ok (.goto 4, 3) := by decide +kernel
theorem dJ9_max_7cf53_9 : decode cJ9_max_7cf53 9 = .ok (.iload_n 1, 1) := by decide +kernel
theorem dJ9_max_7cf53_10 : decode cJ9_max_7cf53 10 = .ok (.ireturn, 1) := by decide +kernel
theorem dJ7_fill_53178_0 : decode cJ7_fill_53178 0 = .ok (.iconst 0, 1) := by decide +kernel
theorem dJ7_fill_53178_1 : decode cJ7_fill_53178 1 = .ok (.istore_n 2, 1) := by decide +kernel
theorem dJ7_fill_53178_2 : decode cJ7_fill_53178 2 = .ok (.aload_n 0, 1) := by decide +kernel
theorem dJ7_fill_53178_3 : decode cJ7_fill_53178 3 = .ok (.arraylength, 1) := by decide +kernel
theorem dJ7_fill_53178_4 : decode cJ7_fill_53178 4 = .ok (.istore_n 3, 1) := by decide +kernel
theorem dJ7_fill_53178_5 : decode cJ7_fill_53178 5 = .ok (.iload_n 2, 1) := by decide +kernel
theorem dJ7_fill_53178_6 : decode cJ7_fill_53178 6 = .ok (.iload_n 3, 1) := by decide +kernel
theorem dJ7_fill_53178_7 : decode cJ7_fill_53178 7 = .ok (.if_icmp .ge 13, 3) := by decide +kernel
theorem dJ7_fill_53178_10 : decode cJ7_fill_53178 10 = .ok (.aload_n 0, 1) := by decide +kernel
theorem dJ7_fill_53178_11 : decode cJ7_fill_53178 11 = .ok (.iload_n 2, 1) := by decide +kernel
theorem dJ7_fill_53178_12 : decode cJ7_fill_53178 12 = .ok (.iload_n 1, 1) := by decide +kernel
theorem dJ7_fill_53178_13 : decode cJ7_fill_53178 13 = .ok (.iastore, 1) := by decide +kernel
theorem dJ7_fill_53178_14 : decode cJ7_fill_53178 14 = .ok (.iinc 2 1, 3) := by decide +kernel
theorem dJ7_fill_53178_17 : decode cJ7_fill_53178 17 = .ok (.goto (-12), 3) := by decide +kernel
theorem dJ7_fill_53178_20 : decode cJ7_fill_53178 20 = .ok (.return_, 1) := by decide +kernel
theorem dL_cell_0 : decode cL_cell 0 = .ok (.iload_n 1, 1) := by decide +kernel
theorem dL_cell_1 : decode cL_cell 1 = .ok (.aload_n 0, 1) := by decide +kernel
theorem dL_cell_2 : decode cL_cell 2 = .ok (.arraylength, 1) := by decide +kernel
theorem dL_cell_3 : decode cL_cell 3 = .ok (.if_icmp .ge 9, 3) := by decide +kernel
theorem dL_cell_6 : decode cL_cell 6 = .ok (.aload_n 0, 1) := by decide +kernel
theorem dL_cell_7 : decode cL_cell 7 = .ok (.iload_n 1, 1) := by decide +kernel
theorem dL_cell_8 : decode cL_cell 8 = .ok (.iaload, 1) := by decide +kernel
theorem dL_cell_9 : decode cL_cell 9 = .ok (.goto 13, 3) := by decide +kernel
theorem dL_cell_12 : decode cL_cell 12 = .ok (.ldc 7, 2) := by decide +kernel
theorem dL_cell_14 : decode cL_cell 14 = .ok (.iload_n 1, 1) := by decide +kernel
theorem dL_cell_15 : decode cL_cell 15 = .ok (.bipush 19, 2) := by decide +kernel
theorem dL_cell_17 : decode cL_cell 17 = .ok (.iadd, 1) := by decide +kernel
theorem dL_cell_18 : decode cL_cell 18 = .ok (.imul, 1) := by decide +kernel
theorem dL_cell_19 : decode cL_cell 19 = .ok (.ldc 8, 2) := by decide +kernel
theorem dL_cell_21 : decode cL_cell 21 = .ok (.iadd, 1) := by decide +kernel
theorem dL_cell_22 : decode cL_cell 22 = .ok (.ireturn, 1) := by decide +kernel
theorem dL_low_0 : decode cL_low 0 = .ok (.iload_n 0, 1) := by decide +kernel
theorem dL_low_1 : decode cL_low 1 = .ok (.ldc 9, 2) := by decide +kernel
theorem dL_low_3 : decode cL_low 3 = .ok (.iand, 1) := by decide +kernel
theorem dL_low_4 : decode cL_low 4 = .ok (.iload_n 1, 1) := by decide +kernel
theorem dL_low_5 : decode cL_low 5 = .ok (.irem, 1) := by decide +kernel
theorem dL_low_6 : decode cL_low 6 = .ok (.ireturn, 1) := by decide +kernel
set_option maxRecDepth 20000 in
theorem ggL_calls_X6_setSize : GoodIn wsL_calls wsX6_setSize := goodIn_ca (goodIn_ca (goodIn_ca (goodIn_r _ [6, 7, 8, 9, 5, 10, 11, 12, 13, 14, 15, 16, 17, 18, 19, 20, 21, 22, 23, 24, 25, 26, 27, 28, 29, 30, 31, 32, 33, 34, 35, 36, 37, 38, 39, 354, 355, 356, 357, 358, 359, 360, 361, 362, 363, 364, 365, 366, 367, 368, 369, 370, 371, 372] (by decide +kernel) (by decide +kernel)) (goodIn_sub (fun _ h => List.mem_cons_of_mem _ (List.mem_append_left _ (List.mem_append_left _ (List.mem_append_right _ h)))) (by decide +kernel))) (goodIn_sub (fun _ h => List.mem_cons_of_mem _ (List.mem_append_left _ (List.mem_append_right _ h))) (by decide +kernel))) (goodIn_sub (fun _ h => List.mem_cons_of_mem _ (List.mem_append_right _ h)) (by decide +kernel))
set_option maxRecDepth 20000 in
theorem gL_calls_X6_setSize : GoodIn wsL_calls (wsV RL 10 RX6 yX6_setSize wsX6_setSize) := goodIn_app (goodIn_of _ (by decide +kernel)) ggL_calls_X6_setSize
set_option maxRecDepth 20000 in
theorem ggL_calls_X6_setStep : GoodIn wsL_calls wsX6_setStep := goodIn_ca (goodIn_ca (goodIn_r _ [43, 44, 45, 46, 5, 47, 11, 12, 13, 14, 15, 21, 22, 23, 24, 25, 26, 27, 28, 29, 30, 31, 32, 33, 48, 49, 50, 51, 52, 53, 54, 55, 56, 57, 35, 36, 37, 38, 39, 354, 355, 356, 357, 358, 359, 360, 361, 362, 363, 364, 365, 366, 367, 368, 369, 370, 371, 373, 374, 375, 376, 377, 378, 372] (by decide +kernel) (by decide +kernel)) (goodIn_sub (fun _ h => List.mem_cons_of_mem _ (List.mem_append_left _ (List.mem_append_left _ (List.mem_append_right _ h)))) (by decide +kernel))) (goodIn_sub (fun _ h => List.mem_cons_of_mem _ (List.mem_append_right _ h)) (by decide +kernel))
set_option maxRecDepth 20000 in
theorem gL_calls_X6_setStep : GoodIn wsL_calls (wsV RL 16 RX6 yX6_setStep wsX6_setStep) := goodIn_app (goodIn_of _ (by decide +kernel)) ggL_calls_X6_setStep
set_option maxRecDepth 20000 in
theorem ggL_calls_X6_setFill : GoodIn wsL_calls wsX6_setFill := goodIn_ca (goodIn_ca (goodIn_r _ [61, 44, 45, 46, 5, 47, 11, 12, 13, 14, 15, 21, 22, 23, 24, 25, 26, 27, 28, 29, 30, 31, 32, 33, 62, 63, 64, 51, 65, 66, 67, 68, 69, 57, 35, 36, 37, 38, 39, 354, 355, 356, 357, 358, 359, 360, 361, 362, 363, 364, 365, 366, 367, 368, 369, 370, 371, 373, 374, 375, 376, 377, 378, 372] (by decide +kernel) (by decide +kernel)) (goodIn_sub (fun _ h => List.mem_cons_of_mem _ (List.mem_append_left _ (List.mem_append_left _ (List.mem_append_right _ h)))) (by decide +kernel))) (goodIn_sub (fun _ h => List.mem_cons_of_mem _ (List.mem_append_right _ h)) (by decide +kernel))
set_option maxRecDepth 20000 in
theorem gL_calls_X6_setFill : GoodIn wsL_calls (wsV RL 20 RX6 yX6_setFill wsX6_setFill) := goodIn_app (goodIn_of _ (by decide +kernel)) ggL_calls_X6_setFill
set_option maxRecDepth 20000 in
theorem ggL_calls_X6_setFeel : GoodIn wsL_calls wsX6_setFeel := goodIn_ca (goodIn_ca (goodIn_ca (goodIn_r _ [73, 44, 45, 46, 5, 47, 11, 12, 13, 14, 15, 16, 17, 18, 19, 20, 21, 22, 23, 24, 25, 26, 27, 28, 29, 30, 31, 32, 33, 74, 75, 76, 51, 77, 78, 79, 57, 35, 36, 37, 38, 39, 354, 355, 356, 357, 358, 359, 360, 361, 362, 363, 364, 365, 366, 367, 368, 369, 370, 371, 373, 374, 375, 376, 377, 378, 372] (by decide +kernel) (by decide +kernel)) (goodIn_sub (fun _ h => List.mem_cons_of_mem _ (List.mem_append_left _ (List.mem_append_left _ (List.mem_append_right _ h)))) (by decide +kernel))) (goodIn_sub (fun _ h => List.mem_cons_of_mem _ (List.mem_append_left _ (List.mem_append_right _ h))) (by decide +kernel))) (goodIn_sub (fun _ h => List.mem_cons_of_mem _ (List.mem_append_right _ h)) (by decide +kernel))
set_option maxRecDepth 20000 in
theorem gL_calls_X6_setFeel : GoodIn wsL_calls (wsV RL 23 RX6 yX6_setFeel wsX6_setFeel) := goodIn_app (goodIn_of _ (by decide +kernel)) ggL_calls_X6_setFeel
set_option maxRecDepth 20000 in
theorem ggL_calls_X6_addEntry : GoodIn wsL_calls wsX6_addEntry := goodIn_ca (goodIn_ca (goodIn_ca (goodIn_r _ [83, 25, 26, 84, 85, 86, 5, 87, 11, 12, 13, 14, 15, 45, 46, 47, 16, 17, 18, 19, 20, 21, 22, 23, 24, 27, 28, 29, 30, 31, 32, 33, 88, 89, 90, 91, 92, 93, 94, 95, 96, 37, 97, 39, 98, 99, 100, 101, 102, 103, 104, 35, 36, 38, 105, 106, 107, 108, 109, 110, 111, 112, 113, 114, 115, 116, 117, 118, 119, 120, 121, 122, 123, 124, 125, 126, 127, 128, 129, 130, 131, 354, 355, 356, 357, 358, 359, 360, 361, 362, 363, 364, 365, 366, 367, 368, 369, 370, 371, 379, 380, 381, 382, 383, 384, 385, 386, 387, 388, 389, 372] (by decide +kernel) (by decide +kernel)) (goodIn_sub (fun _ h => List.mem_cons_of_mem _ (List.mem_append_right _ h)) (by decide +kernel))) (goodIn_sub (fun _ h => List.mem_cons_of_mem _ (List.mem_append_left _ (List.mem_append_left _ (List.mem_append_right _ h)))) (by decide +kernel))) (goodIn_sub (fun _ h => List.mem_cons_of_mem _ (List.mem_append_left _ (List.mem_append_right _ h))) (by decide +kernel))
set_option maxRecDepth 20000 in
theorem gL_calls_X6_addEntry : GoodIn wsL_calls (wsV RL 27 RX6 yX6_addEntry wsX6_addEntry) := goodIn_app (goodIn_of _ (by decide +kernel)) ggL_calls_X6_addEntry
set_option maxRecDepth 20000 in
theorem ggL_calls_X6_jump : GoodIn wsL_calls wsX6_jump := goodIn_ca (goodIn_ca (goodIn_ca (goodIn_r _ [135, 84, 85, 86, 5, 87, 11, 12, 13, 14, 15, 88, 89, 90, 91, 92, 93, 94, 95, 96, 37, 97, 39, 16, 17, 18, 19, 20, 21, 22, 23, 24, 25, 26, 27, 28, 29, 30, 31, 32, 33, 136, 137, 138, 139, 131, 130, 104, 35, 36, 38, 105, 106, 107, 108, 109, 110, 103, 111, 112, 113, 114, 115, 116, 117, 118, 119, 120, 121, 122, 123, 102, 124, 125, 126, 127, 128, 129, 140, 141, 142, 143, 354, 355, 356, 357, 358, 359, 360, 361, 362, 363, 364, 379, 380, 381, 382, 383, 384, 385, 386, 387, 388, 389, 372, 365, 366, 367, 368, 369, 370, 371] (by decide +kernel) (by decide +kernel)) (goodIn_sub (fun _ h => List.mem_cons_of_mem _ (List.mem_append_left _ (List.mem_append_left _ (List.mem_append_right _ h)))) (by decide +kernel))) (goodIn_sub (fun _ h => List.mem_cons_of_mem _ (List.mem_append_left _ (List.mem_append_right _ h))) (by decide +kernel))) (goodIn_sub (fun _ h => List.mem_cons_of_mem _ (List.mem_append_right _ h)) (by decide +kernel))
set_option maxRecDepth 20000 in
theorem gL_calls_X6_jump : GoodIn wsL_calls (wsV RL 30 RX6 yX6_jump wsX6_jump) := goodIn_app (goodIn_of _ (by decide +kernel)) ggL_calls_X6_jump
set_option maxRecDepth 20000 in
theorem ggL_calls_X6_addToSet : GoodIn wsL_calls wsX6_addToSet := goodIn_ca (goodIn_ca (goodIn_r _ [147, 25, 26, 27, 85, 86, 5, 87, 11, 12, 13, 14, 15, 21, 22, 23, 24, 28, 29, 30, 31, 32, 33, 148, 149, 150, 151, 152, 153, 154, 155, 156, 157, 158, 35, 36, 37, 38, 39, 354, 355, 356, 357, 358, 359, 360, 361, 362, 363, 364, 365, 366, 367, 368, 369, 370, 371, 372] (by decide +kernel) (by decide +kernel)) (goodIn_sub (fun _ h => List.mem_cons_of_mem _ (List.mem_append_right _ h)) (by decide +kernel))) (goodIn_sub (fun _ h => List.mem_cons_of_mem _ (List.mem_append_left _ (List.mem_append_left _ (List.mem_append_right _ h)))) (by decide +kernel))
set_option maxRecDepth 20000 in
theorem gL_calls_X6_addToSet : GoodIn wsL_calls (wsV RL 33 RX6 yX6_addToSet wsX6_addToSet) := goodIn_app (goodIn_of _ (by decide +kernel)) ggL_calls_X6_addToSet
set_option maxRecDepth 20000 in
theorem ggL_calls_X6_clearSet : GoodIn wsL_calls wsX6_clearSet := goodIn_ca (goodIn_r _ [162, 27, 21, 22, 23, 5, 24, 25, 26, 28, 29, 30, 31, 32, 33, 163, 164, 165, 166, 152, 354, 355, 356, 357, 358, 359, 360, 361, 362, 363, 364, 365, 366, 367, 368, 369, 370, 371] (by decide +kernel) (by decide +kernel)) (goodIn_sub (fun _ h => List.mem_cons_of_mem _ (List.mem_append_right _ h)) (by decide +kernel))
set_option maxRecDepth 20000 in
theorem gL_calls_X6_clearSet : GoodIn wsL_calls (wsV RL 37 RX6 yX6_clearSet wsX6_clearSet) := goodIn_app (goodIn_of _ (by decide +kernel)) ggL_calls_X6_clearSet
set_option maxRecDepth 20000 in
theorem ggL_calls_X6_start : GoodIn wsL_calls wsX6_start := goodIn_ca (goodIn_r _ [170, 25, 26, 27, 171, 21, 22, 23, 5, 24, 28, 29, 30, 31, 32, 33, 172, 173, 174, 175, 152, 176, 177, 178, 179, 180, 157, 181, 95, 96, 37, 97, 39, 182, 141, 142, 91, 143, 111, 94, 183, 184, 185, 186, 187, 188, 189, 190, 191, 192, 193, 194, 195, 196, 197, 198, 113, 114, 115, 116, 117, 118, 119, 199, 200, 201, 202, 203, 204, 205, 206, 207, 208, 209, 210, 211, 212, 213, 124, 125, 214, 215, 216, 51, 217, 78, 218, 219, 220, 221, 222, 223, 224, 225, 226, 227, 228, 229, 230, 231, 232, 233, 234, 79, 235, 236, 237, 238, 239, 240, 241, 242, 66, 53, 67, 68, 69, 54, 55, 56, 243, 35, 36, 38, 244, 245, 246, 247, 248, 249, 250, 251, 252, 253, 254, 255, 256, 257, 258, 259, 260, 261, 262, 354, 355, 356, 357, 358, 359, 360, 361, 362, 363, 364, 365, 366, 367, 368, 369, 370, 371, 372, 379, 380, 381, 382, 383, 384, 385, 386, 387, 388, 389, 390, 391, 392, 393, 394, 395, 373, 374, 375, 376, 377, 378, 396, 397, 398] (by decide +kernel) (by decide +kernel)) (goodIn_sub (fun _ h => List.mem_cons_of_mem _ (List.mem_append_right _ h)) (by decide +kernel))
set_option maxRecDepth 20000 in
theorem gL_calls_X6_start : GoodIn wsL_calls (wsV RL 41 RX6 yX6_start wsX6_start) := goodIn_app (goodIn_of _ (by decide +kernel)) ggL_calls_X6_start
set_option maxRecDepth 20000 in
theorem ggL_calls_X6_tick : GoodIn wsL_calls wsX6_tick := goodIn_ca (goodIn_ca (goodIn_r _ [266, 267, 27, 16, 17, 5, 18, 19, 20, 268, 269, 270, 271, 25, 26, 28, 29, 30, 31, 32, 33, 272, 273, 274, 275, 44, 203, 171, 276, 277, 278, 279, 189, 280, 255, 256, 51, 257, 258, 232, 233, 234, 79, 218, 95, 96, 37, 97, 39, 281, 282, 283, 284, 285, 240, 241, 242, 66, 53, 67, 68, 69, 54, 55, 56, 286, 287, 288, 289, 290, 291, 292, 293, 294, 295, 193, 296, 195, 297, 298, 299, 300, 301, 302, 303, 304, 305, 306, 307, 308, 197, 309, 310, 311, 312, 196, 313, 314, 315, 316, 317, 318, 319, 320, 321, 222, 322, 252, 253, 323, 324, 325, 326, 327, 328, 329, 330, 331, 332, 35, 36, 38, 333, 334, 335, 336, 337, 338, 339, 340, 188, 187, 176, 177, 178, 179, 180, 157, 181, 182, 141, 142, 91, 143, 111, 94, 341, 342, 343, 344, 152, 199, 200, 201, 202, 204, 205, 206, 207, 208, 209, 210, 211, 212, 213, 124, 125, 214, 215, 216, 217, 78, 219, 220, 221, 223, 224, 225, 113, 114, 115, 116, 117, 118, 119, 226, 227, 228, 229, 230, 231, 235, 236, 237, 238, 239, 243, 244, 245, 246, 247, 248, 249, 250, 251, 254, 354, 355, 356, 357, 358, 359, 360, 361, 362, 363, 364, 365, 366, 367, 368, 369, 370, 371, 373, 374, 375, 376, 377, 378, 372, 390, 391, 392, 393, 394, 395, 396, 397, 398, 379, 380, 381, 382, 383, 384, 385, 386, 387, 388, 389] (by decide +kernel) (by decide +kernel)) (goodIn_sub (fun _ h => List.mem_cons_of_mem _ (List.mem_append_left _ (List.mem_append_right _ h))) (by decide +kernel))) (goodIn_sub (fun _ h => List.mem_cons_of_mem _ (List.mem_append_right _ h)) (by decide +kernel))
set_option maxRecDepth 20000 in
theorem gL_calls_X6_tick : GoodIn wsL_calls (wsV RL 44 RX6 yX6_tick wsX6_tick) := goodIn_app (goodIn_of _ (by decide +kernel)) ggL_calls_X6_tick
set_option maxRecDepth 20000 in
theorem ggL_calls_X6_skip : GoodIn wsL_calls wsX6_skip := goodIn_ca (goodIn_r _ [348, 27, 268, 269, 270, 5, 271, 25, 26, 28, 29, 30, 31, 32, 33, 349, 342, 343, 344, 187, 188, 189, 152, 199, 200, 201, 202, 203, 204, 205, 206, 207, 208, 180, 157, 176, 177, 178, 179, 181, 95, 96, 37, 97, 39, 182, 141, 142, 91, 143, 111, 94, 209, 210, 211, 212, 213, 124, 125, 214, 215, 216, 51, 217, 78, 218, 219, 220, 221, 222, 223, 224, 225, 113, 114, 115, 116, 117, 118, 119, 226, 227, 228, 229, 230, 231, 232, 233, 234, 79, 235, 236, 237, 238, 239, 240, 241, 242, 66, 53, 67, 68, 69, 54, 55, 56, 243, 35, 36, 38, 244, 245, 246, 247, 248, 249, 250, 251, 252, 253, 254, 255, 256, 257, 258, 350, 351, 352, 353, 354, 355, 356, 357, 358, 359, 360, 361, 362, 363, 364, 365, 366, 367, 368, 369, 370, 371, 372, 379, 380, 381, 382, 383, 384, 385, 386, 387, 388, 389, 373, 374, 375, 376, 377, 378, 396, 397, 398] (by decide +kernel) (by decide +kernel)) (goodIn_sub (fun _ h => List.mem_cons_of_mem _ (List.mem_append_right _ h)) (by decide +kernel))
set_option maxRecDepth 20000 in
theorem gL_calls_X6_skip : GoodIn wsL_calls (wsV RL 47 RX6 yX6_skip wsX6_skip) := goodIn_app (goodIn_of _ (by decide +kernel)) ggL_calls_X6_skip
theorem dL_calls_0 : decode cL_calls 0 = .ok (.iload_n 1, 1) := by decide +kernel
theorem dL_calls_1 : decode cL_calls 1 = .ok (.ifCond .ne 12, 3) := by decide +kernel
theorem dL_calls_4 : decode cL_calls 4 = .ok (.aload_n 0, 1) := by decide +kernel
theorem dL_calls_5 : decode cL_calls 5 = .ok (.iload_n 2, 1) := by decide +kernel
theorem dL_calls_6 : decode cL_calls 6 = .ok (.iload_n 3, 1) := by decide +kernel
theorem dL_calls_7 : decode cL_calls 7 = .ok (.invokevirtual 10, 3) := by decide +kernel
theorem dL_calls_10 : decode cL_calls 10 = .ok (.goto 147, 3) := by decide +kernel
theorem dL_calls_13 : decode cL_calls 13 = .ok (.iload_n 1, 1) := by decide +kernel
theorem dL_calls_14 : decode cL_calls 14 = .ok (.iconst 1, 1) := by decide +kernel
theorem dL_calls_15 : decode cL_calls 15 = .ok (.if_icmp .ne 16, 3) := by decide +kernel
theorem dL_calls_18 : decode cL_calls 18 = .ok (.aload_n 0, 1) := by decide +kernel
theorem dL_calls_19 : decode cL_calls 19 = .ok (.iload_n 2, 1) := by decide +kernel
theorem dL_calls_20 : decode cL_calls 20 = .ok (.iload_n 3, 1) := by decide +kernel
theorem dL_calls_21 : decode cL_calls 21 = .ok (.iload 4, 2) := by decide +kernel
theorem dL_calls_23 : decode cL_calls 23 = .ok (.iload 5, 2) := by decide +kernel
theorem dL_calls_25 : decode cL_calls 25 = .ok (.invokevirtual 16, 3) := by decide +kernel
theorem dL_calls_28 : decode cL_calls 28 = .ok (.goto 129, 3) := by decide +kernel
theorem dL_calls_31 : decode cL_calls 31 = .ok (.iload_n 1, 1) := by decide +kernel
theorem dL_calls_32 : decode cL_calls 32 = .ok (.iconst 2, 1) := by decide +kernel
theorem dL_calls_33 : decode cL_calls 33 = .ok (.if_icmp .ne 16, 3) := by decide +kernel
theorem dL_calls_36 : decode cL_calls 36 = .ok (.aload_n 0, 1) := by decide +kernel
theorem dL_calls_37 : decode cL_calls 37 = .ok (.iload_n 2, 1) := by decide +kernel
theorem dL_calls_38 : decode cL_calls 38 = .ok (.iload_n 3, 1) := by decide +kernel
theorem dL_calls_39 : decode cL_calls 39 = .ok (.iload 4, 2) := by decide +kernel
theorem dL_calls_41 : decode cL_calls 41 = .ok (.iload 5, 2) := by decide +kernel
theorem dL_calls_43 : decode cL_calls 43 = .ok (.invokevirtual 20, 3) := by decide +kernel
theorem dL_calls_46 : decode cL_calls 46 = .ok (.goto 111, 3) := by decide +kernel
theorem dL_calls_49 : decode cL_calls 49 = .ok (.iload_n 1, 1) := by decide +kernel
theorem dL_calls_50 : decode cL_calls 50 = .ok (.iconst 3, 1) := by decide +kernel
theorem dL_calls_51 : decode cL_calls 51 = .ok (.if_icmp .ne 14, 3) := by decide +kernel
theorem dL_calls_54 : decode cL_calls 54 = .ok (.aload_n 0, 1) := by decide +kernel
theorem dL_calls_55 : decode cL_calls 55 = .ok (.iload_n 2, 1) := by decide +kernel
theorem dL_calls_56 : decode cL_calls 56 = .ok (.iload_n 3, 1) := by decide +kernel
theorem dL_calls_57 : decode cL_calls 57 = .ok (.iload 4, 2) := by decide +kernel
theorem dL_calls_59 : decode cL_calls 59 = .ok (.invokevirtual 23, 3) := by decide +kernel
theorem dL_calls_62 : decode cL_calls 62 = .ok (.goto 95, 3) := by decide +kernel
theorem dL_calls_65 : decode cL_calls 65 = .ok (.iload_n 1, 1) := by decide +kernel
theorem dL_calls_66 : decode cL_calls 66 = .ok (.iconst 4, 1) := by decide +kernel
theorem dL_calls_67 : decode cL_calls 67 = .ok (.if_icmp .ne 14, 3) := by decide +kernel
theorem dL_calls_70 : decode cL_calls 70 = .ok (.aload_n 0, 1) := by decide +kernel
theorem dL_calls_71 : decode cL_calls 71 = .ok (.iload_n 2, 1) := by decide +kernel
theorem dL_calls_72 : decode cL_calls 72 = .ok (.iload_n 3, 1) := by decide +kernel
theorem dL_calls_73 : decode cL_calls 73 = .ok (.iload 4, 2) := by decide +kernel
theorem dL_calls_75 : decode cL_calls 75 = .ok (.invokevirtual 27, 3) := by decide +kernel
theorem dL_calls_78 : decode cL_calls 78 = .ok (.goto 79, 3) := by decide +kernel
theorem dL_calls_81 : decode cL_calls 81 = .ok (.iload_n 1, 1) := by decide +kernel
theorem dL_calls_82 : decode cL_calls 82 = .ok (.iconst 5, 1) := by decide +kernel
theorem dL_calls_83 : decode cL_calls 83 = .ok (.if_icmp .ne 16, 3) := by decide +kernel
theorem dL_calls_86 : decode cL_calls 86 = .ok (.aload_n 0, 1) := by decide +kernel
theorem dL_calls_87 : decode cL_calls 87 = .ok (.iload_n 2, 1) := by decide +kernel
theorem dL_calls_88 : decode cL_calls 88 = .ok (.iload_n 3, 1) := by decide +kernel
theorem dL_calls_89 : decode cL_calls 89 = .ok (.iload 4, 2) := by decide +kernel
theorem dL_calls_91 : decode cL_calls 91 = .ok (.iload 5, 2) := by decide +kernel
theorem dL_calls_93 : decode cL_calls 93 = .ok (.invokevirtual 30, 3) := by decide +kernel
theorem dL_calls_96 : decode cL_calls 96 = .ok (.goto 61, 3) := by decide +kernel
theorem dL_calls_99 : decode cL_calls 99 = .ok (.iload_n 1, 1) := by decide +kernel
theorem dL_calls_100 : decode cL_calls 100 = .ok (.bipush 6, 2) := by decide +kernel
theorem dL_calls_102 : decode cL_calls 102 = .ok (.if_icmp .ne 11, 3) := by decide +kernel
theorem dL_calls_105 : decode cL_calls 105 = .ok (.aload_n 0, 1) := by decide +kernel
theorem dL_calls_106 : decode cL_calls 106 = .ok (.iload_n 2, 1) := by decide +kernel
theorem dL_calls_107 : decode cL_calls 107 = .ok (.invokevirtual 33, 3) := by decide +kernel
theorem dL_calls_110 : decode cL_calls 110 = .ok (.goto 47, 3) := by decide +kernel
theorem dL_calls_113 : decode cL_calls 113 = .ok (.iload_n 1, 1) := by decide +kernel
theorem dL_calls_114 : decode cL_calls 114 = .ok (.bipush 7, 2) := by decide +kernel
theorem dL_calls_116 : decode cL_calls 116 = .ok (.if_icmp .ne 10, 3) := by decide +kernel
theorem dL_calls_119 : decode cL_calls 119 = .ok (.aload_n 0, 1) := by decide +kernel
theorem dL_calls_120 : decode cL_calls 120 = .ok (.invokevirtual 37, 3) := by decide +kernel
theorem dL_calls_123 : decode cL_calls 123 = .ok (.goto 34, 3) := by decide +kernel
theorem dL_calls_126 : decode cL_calls 126 = .ok (.iload_n 1, 1) := by decide +kernel
theorem dL_calls_127 : decode cL_calls 127 = .ok (.bipush 8, 2) := by decide +kernel
theorem dL_calls_129 : decode cL_calls 129 = .ok (.if_icmp .ne 10, 3) := by decide +kernel
theorem dL_calls_132 : decode cL_calls 132 = .ok (.aload_n 0, 1) := by decide +kernel
theorem dL_calls_133 : decode cL_calls 133 = .ok (.invokevirtual 41, 3) := by decide +kernel
theorem dL_calls_136 : decode cL_calls 136 = .ok (.goto 21, 3) := by decide +kernel
theorem dL_calls_139 : decode cL_calls 139 = .ok (.iload_n 1, 1) := by decide +kernel
theorem dL_calls_140 : decode cL_calls 140 = .ok (.bipush 9, 2) := by decide +kernel
theorem dL_calls_142 : decode cL_calls 142 = .ok (.if_icmp .ne 11, 3) := by decide +kernel
theorem dL_calls_145 : decode cL_calls 145 = .ok (.aload_n 0, 1) := by decide +kernel
theorem dL_calls_146 : decode cL_calls 146 = .ok (.iload_n 2, 1) := by decide +kernel
theorem dL_calls_147 : decode cL_calls 147 = .ok (.invokevirtual 44, 3) := by decide +kernel
theorem dL_calls_150 : decode cL_calls 150 = .ok (.goto 7, 3) := by decide +kernel
theorem dL_calls_153 : decode cL_calls 153 = .ok (.aload_n 0, 1) := by decide +kernel
theorem dL_calls_154 : decode cL_calls 154 = .ok (.invokevirtual 47, 3) := by decide +kernel
theorem dL_calls_157 : decode cL_calls 157 = .ok (.ireturn, 1) := by decide +kernel
theorem dL_calls_158 : decode cL_calls 158 = .ok (.astore 6, 2) := by decide +kernel
theorem dL_calls_160 : decode cL_calls 160 = .ok (.bipush (-7), 2) := by decide +kernel
theorem dL_calls_162 : decode cL_calls 162 = .ok (.ireturn, 1) := by decide +kernel
theorem dL_lays_0 : decode cL_lays 0 = .ok (.iconst 0, 1) := by decide +kernel
theorem dL_lays_1 : decode cL_lays 1 = .ok (.istore 6, 2) := by decide +kernel
theorem dL_lays_3 : decode cL_lays 3 = .ok (.iconst 0, 1) := by decide +kernel
theorem dL_lays_4 : decode cL_lays 4 = .ok (.istore 7, 2) := by decide +kernel
theorem dL_lays_6 : decode cL_lays 6 = .ok (.iconst 0, 1) := by decide +kernel
theorem dL_lays_7 : decode cL_lays 7 = .ok (.istore 8, 2) := by decide +kernel
theorem dL_lays_9 : decode cL_lays 9 = .ok (.iconst 0, 1) := by decide +kernel
theorem dL_lays_10 : decode cL_lays 10 = .ok (.istore 9, 2) := by decide +kernel
theorem dL_lays_12 : decode cL_lays 12 = .ok (.iload 7, 2) := by decide +kernel
theorem dL_lays_14 : decode cL_lays 14 = .ok (.aload 4, 2) := by decide +kernel
theorem dL_lays_16 : decode cL_lays 16 = .ok (.iload_n 0, 1) := by decide +kernel
theorem dL_lays_17 : decode cL_lays 17 = .ok (.iaload, 1) := by decide +kernel
theorem dL_lays_18 : decode cL_lays 18 = .ok (.if_icmp .ge 205, 3) := by decide +kernel
theorem dL_lays_21 : decode cL_lays 21 = .ok (.iload 6, 2) := by decide +kernel
theorem dL_lays_23 : decode cL_lays 23 = .ok (.bipush 64, 2) := by decide +kernel
theorem dL_lays_25 : decode cL_lays 25 = .ok (.if_icmp .ge 198, 3) := by decide +kernel
theorem dL_lays_28 : decode cL_lays 28 = .ok (.bipush 16, 2) := by decide +kernel
theorem dL_lays_30 : decode cL_lays 30 = .ok (.iload_n 0, 1) := by decide +kernel
theorem dL_lays_31 : decode cL_lays 31 = .ok (.imul, 1) := by decide +kernel
theorem dL_lays_32 : decode cL_lays 32 = .ok (.iconst 4, 1) := by decide +kernel
theorem dL_lays_33 : decode cL_lays 33 = .ok (.iload 7, 2) := by decide +kernel
theorem dL_lays_35 : decode cL_lays 35 = .ok (.imul, 1) := by decide +kernel
theorem dL_lays_36 : decode cL_lays 36 = .ok (.iadd, 1) := by decide +kernel
theorem dL_lays_37 : decode cL_lays 37 = .ok (.istore 10, 2) := by decide +kernel
theorem dL_lays_39 : decode cL_lays 39 = .ok (.iconst 0, 1) := by decide +kernel
theorem dL_lays_40 : decode cL_lays 40 = .ok (.istore 11, 2) := by decide +kernel
theorem dL_lays_42 : decode cL_lays 42 = .ok (.iload 11, 2) := by decide +kernel
theorem dL_lays_44 : decode cL_lays 44 = .ok (.aload_n 3, 1) := by decide +kernel
theorem dL_lays_45 : decode cL_lays 45 = .ok (.iload 10, 2) := by decide +kernel
theorem dL_lays_47 : decode cL_lays 47 = .ok (.iconst 1, 1) := by decide +kernel
theorem dL_lays_48 : decode cL_lays 48 = .ok (.iadd, 1) := by decide +kernel
theorem dL_lays_49 : decode cL_lays 49 = .ok (.iaload, 1) := by decide +kernel
theorem dL_lays_50 : decode cL_lays 50 = .ok (.if_icmp .ge 105, 3) := by decide +kernel
theorem dL_lays_53 : decode cL_lays 53 = .ok (.iload 6, 2) := by decide +kernel
theorem dL_lays_55 : decode cL_lays 55 = .ok (.bipush 64, 2) := by decide +kernel
theorem dL_lays_57 : decode cL_lays 57 = .ok (.if_icmp .ge 98, 3) := by decide +kernel
theorem dL_lays_60 : decode cL_lays 60 = .ok (.iload 9, 2) := by decide +kernel
theorem dL_lays_62 : decode cL_lays 62 = .ok (.iconst 1, 1) := by decide +kernel
theorem dL_lays_63 : decode cL_lays 63 = .ok (.bipush 8, 2) := by decide +kernel
theorem dL_lays_65 : decode cL_lays 65 = .ok (.aload_n 3, 1) := by decide +kernel
theorem dL_lays_66 : decode cL_lays 66 = .ok (.iload 10, 2) := by decide +kernel
theorem dL_lays_68 : decode cL_lays 68 = .ok (.iaload, 1) := by decide +kernel
theorem dL_lays_69 : decode cL_lays 69 = .ok (.imul, 1) := by decide +kernel
theorem dL_lays_70 : decode cL_lays 70 = .ok (.ishl, 1) := by decide +kernel
theorem dL_lays_71 : decode cL_lays 71 = .ok (.iadd, 1) := by decide +kernel
theorem dL_lays_72 : decode cL_lays 72 = .ok (.istore 9, 2) := by decide +kernel
theorem dL_lays_74 : decode cL_lays 74 = .ok (.aload 5, 2) := by decide +kernel
theorem dL_lays_76 : decode cL_lays 76 = .ok (.iconst 3, 1) := by decide +kernel
theorem dL_lays_77 : decode cL_lays 77 = .ok (.aload_n 3, 1) := by decide +kernel
theorem dL_lays_78 : decode cL_lays 78 = .ok (.iload 10, 2) := by decide +kernel
theorem dL_lays_80 : decode cL_lays 80 = .ok (.iaload, 1) := by decide +kernel
theorem dL_lays_81 : decode cL_lays 81 = .ok (.iadd, 1) := by decide +kernel
theorem dL_lays_82 : decode cL_lays 82 = .ok (.iaload, 1) := by decide +kernel
theorem dL_lays_83 : decode cL_lays 83 = .ok (.istore 12, 2) := by decide +kernel
theorem dL_lays_85 : decode cL_lays 85 = .ok (.iload 12, 2) := by decide +kernel
theorem dL_lays_87 : decode cL_lays 87 = .ok (.ifCond .le 27, 3) := by decide +kernel
theorem dL_lays_90 : decode cL_lays 90 = .ok (.iload 9, 2) := by decide +kernel
theorem dL_lays_92 : decode cL_lays 92 = .ok (.bipush 8, 2) := by decide +kernel
theorem dL_lays_94 : decode cL_lays 94 = .ok (.aload_n 3, 1) := by decide +kernel
theorem dL_lays_95 : decode cL_lays 95 = .ok (.iload 10, 2) := by decide +kernel
theorem dL_lays_97 : decode cL_lays 97 = .ok (.iaload, 1) := by decide +kernel
theorem dL_lays_98 : decode cL_lays 98 = .ok (.imul, 1) := by decide +kernel
theorem dL_lays_99 : decode cL_lays 99 = .ok (.ishr, 1) := by decide +kernel
theorem dL_lays_100 : decode cL_lays 100 = .ok (.sipush 255, 3) := by decide +kernel
theorem dL_lays_103 : decode cL_lays 103 = .ok (.iand, 1) := by decide +kernel
theorem dL_lays_104 : decode cL_lays 104 = .ok (.iload 12, 2) := by decide +kernel
theorem dL_lays_106 : decode cL_lays 106 = .ok (.irem, 1) := by decide +kernel
theorem dL_lays_107 : decode cL_lays 107 = .ok (.ifCond .ne 7, 3) := by decide +kernel
theorem dL_lays_110 : decode cL_lays 110 = .ok (.iconst 1, 1) := by decide +kernel
theorem dL_lays_111 : decode cL_lays 111 = .ok (.goto 4, 3) := by decide +kernel
theorem dL_lays_114 : decode cL_lays 114 = .ok (.iconst 0, 1) := by decide +kernel
theorem dL_lays_115 : decode cL_lays 115 = .ok (.istore 13, 2) := by decide +kernel
theorem dL_lays_117 : decode cL_lays 117 = .ok (.aload_n 2, 1) := by decide +kernel
theorem dL_lays_118 : decode cL_lays 118 = .ok (.iload_n 1, 1) := by decide +kernel
theorem dL_lays_119 : decode cL_lays 119 = .ok (.iload 6, 2) := by decide +kernel
theorem dL_lays_121 : decode cL_lays 121 = .ok (.iadd, 1) := by decide +kernel
theorem dL_lays_122 : decode cL_lays 122 = .ok (.bipush 63, 2) := by decide +kernel
theorem dL_lays_124 : decode cL_lays 124 = .ok (.if_icmp .le 8, 3) := by decide +kernel
theorem dL_lays_127 : decode cL_lays 127 = .ok (.bipush 63, 2) := by decide +kernel
theorem dL_lays_129 : decode cL_lays 129 = .ok (.goto 7, 3) := by decide +kernel
theorem dL_lays_132 : decode cL_lays 132 = .ok (.iload_n 1, 1) := by decide +kernel
theorem dL_lays_133 : decode cL_lays 133 = .ok (.iload 6, 2) := by decide +kernel
theorem dL_lays_135 : decode cL_lays 135 = .ok (.iadd, 1) := by decide +kernel
theorem dL_lays_136 : decode cL_lays 136 = .ok (.iconst 2, 1) := by decide +kernel
theorem dL_lays_137 : decode cL_lays 137 = .ok (.aload_n 3, 1) := by decide +kernel
theorem dL_lays_138 : decode cL_lays 138 = .ok (.iload 10, 2) := by decide +kernel
theorem dL_lays_140 : decode cL_lays 140 = .ok (.iaload, 1) := by decide +kernel
theorem dL_lays_141 : decode cL_lays 141 = .ok (.imul, 1) := by decide +kernel
theorem dL_lays_142 : decode cL_lays 142 = .ok (.iload 13, 2) := by decide +kernel
theorem dL_lays_144 : decode cL_lays 144 = .ok (.iadd, 1) := by decide +kernel
theorem dL_lays_145 : decode cL_lays 145 = .ok (.iastore, 1) := by decide +kernel
theorem dL_lays_146 : decode cL_lays 146 = .ok (.iinc 6 1, 3) := by decide +kernel
theorem dL_lays_149 : decode cL_lays 149 = .ok (.iinc 11 1, 3) := by decide +kernel
theorem dL_lays_152 : decode cL_lays 152 = .ok (.goto (-110), 3) := by decide +kernel
theorem dL_lays_155 : decode cL_lays 155 = .ok (.iload 8, 2) := by decide +kernel
theorem dL_lays_157 : decode cL_lays 157 = .ok (.iconst 2, 1) := by decide +kernel
theorem dL_lays_158 : decode cL_lays 158 = .ok (.iload 7, 2) := by decide +kernel
theorem dL_lays_160 : decode cL_lays 160 = .ok (.imul, 1) := by decide +kernel
theorem dL_lays_161 : decode cL_lays 161 = .ok (.ishr, 1) := by decide +kernel
theorem dL_lays_162 : decode cL_lays 162 = .ok (.iconst 3, 1) := by decide +kernel
theorem dL_lays_163 : decode cL_lays 163 = .ok (.iand, 1) := by decide +kernel
theorem dL_lays_164 : decode cL_lays 164 = .ok (.aload_n 3, 1) := by decide +kernel
theorem dL_lays_165 : decode cL_lays 165 = .ok (.iload 10, 2) := by decide +kernel
theorem dL_lays_167 : decode cL_lays 167 = .ok (.iconst 3, 1) := by decide +kernel
theorem dL_lays_168 : decode cL_lays 168 = .ok (.iadd, 1) := by decide +kernel
theorem dL_lays_169 : decode cL_lays 169 = .ok (.iaload, 1) := by decide +kernel
theorem dL_lays_170 : decode cL_lays 170 = .ok (.if_icmp .ge 7, 3) := by decide +kernel
theorem dL_lays_173 : decode cL_lays 173 = .ok (.iconst 1, 1) := by decide +kernel
theorem dL_lays_174 : decode cL_lays 174 = .ok (.goto 4, 3) := by decide +kernel
theorem dL_lays_177 : decode cL_lays 177 = .ok (.iconst 0, 1) := by decide +kernel
theorem dL_lays_178 : decode cL_lays 178 = .ok (.istore 11, 2) := by decide +kernel
theorem dL_lays_180 : decode cL_lays 180 = .ok (.iload 8, 2) := by decide +kernel
theorem dL_lays_182 : decode cL_lays 182 = .ok (.iload 11, 2) := by decide +kernel
theorem dL_lays_184 : decode cL_lays 184 = .ok (.ifCond .eq 12, 3) := by decide +kernel
theorem dL_lays_187 : decode cL_lays 187 = .ok (.iconst 1, 1) := by decide +kernel
theorem dL_lays_188 : decode cL_lays 188 = .ok (.iconst 2, 1) := by decide +kernel
theorem dL_lays_189 : decode cL_lays 189 = .ok (.iload 7, 2) := by decide +kernel
theorem dL_lays_191 : decode cL_lays 191 = .ok (.imul, 1) := by decide +kernel
theorem dL_lays_192 : decode cL_lays 192 = .ok (.ishl, 1) := by decide +kernel
theorem dL_lays_193 : decode cL_lays 193 = .ok (.goto 4, 3) := by decide +kernel
theorem dL_lays_196 : decode cL_lays 196 = .ok (.iconst 0, 1) := by decide +kernel
theorem dL_lays_197 : decode cL_lays 197 = .ok (.iadd, 1) := by decide +kernel
theorem dL_lays_198 : decode cL_lays 198 = .ok (.istore 8, 2) := by decide +kernel
theorem dL_lays_200 : decode cL_lays 200 = .ok (.iload 11, 2) := by decide +kernel
theorem dL_lays_202 : decode cL_lays 202 = .ok (.ifCond .eq 12, 3) := by decide +kernel
theorem dL_lays_205 : decode cL_lays 205 = .ok (.aload_n 3, 1) := by decide +kernel
theorem dL_lays_206 : decode cL_lays 206 = .ok (.iload 10, 2) := by decide +kernel
theorem dL_lays_208 : decode cL_lays 208 = .ok (.iconst 2, 1) := by decide +kernel
theorem dL_lays_209 : decode cL_lays 209 = .ok (.iadd, 1) := by decide +kernel
theorem dL_lays_210 : decode cL_lays 210 = .ok (.iaload, 1) := by decide +kernel
theorem dL_lays_211 : decode cL_lays 211 = .ok (.goto 7, 3) := by decide +kernel
theorem dL_lays_214 : decode cL_lays 214 = .ok (.iload 7, 2) := by decide +kernel
theorem dL_lays_216 : decode cL_lays 216 = .ok (.iconst 1, 1) := by decide +kernel
theorem dL_lays_217 : decode cL_lays 217 = .ok (.iadd, 1) := by decide +kernel
theorem dL_lays_218 : decode cL_lays 218 = .ok (.istore 7, 2) := by decide +kernel
theorem dL_lays_220 : decode cL_lays 220 = .ok (.goto (-208), 3) := by decide +kernel
theorem dL_lays_223 : decode cL_lays 223 = .ok (.iload 6, 2) := by decide +kernel
theorem dL_lays_225 : decode cL_lays 225 = .ok (.ireturn, 1) := by decide +kernel
theorem dL_has_0 : decode cL_has 0 = .ok (.iload_n 0, 1) := by decide +kernel
theorem dL_has_1 : decode cL_has 1 = .ok (.bipush 8, 2) := by decide +kernel
theorem dL_has_3 : decode cL_has 3 = .ok (.irem, 1) := by decide +kernel
theorem dL_has_4 : decode cL_has 4 = .ok (.iconst 2, 1) := by decide +kernel
theorem dL_has_5 : decode cL_has 5 = .ok (.idiv, 1) := by decide +kernel
theorem dL_has_6 : decode cL_has 6 = .ok (.istore 7, 2) := by decide +kernel
theorem dL_has_8 : decode cL_has 8 = .ok (.bipush 16, 2) := by decide +kernel
theorem dL_has_10 : decode cL_has 10 = .ok (.iload_n 1, 1) := by decide +kernel
theorem dL_has_11 : decode cL_has 11 = .ok (.imul, 1) := by decide +kernel
theorem dL_has_12 : decode cL_has 12 = .ok (.iload_n 2, 1) := by decide +kernel
theorem dL_has_13 : decode cL_has 13 = .ok (.iadd, 1) := by decide +kernel
theorem dL_has_14 : decode cL_has 14 = .ok (.istore 8, 2) := by decide +kernel
theorem dL_has_16 : decode cL_has 16 = .ok (.iload_n 0, 1) := by decide +kernel
theorem dL_has_17 : decode cL_has 17 = .ok (.iconst 2, 1) := by decide +kernel
theorem dL_has_18 : decode cL_has 18 = .ok (.irem, 1) := by decide +kernel
theorem dL_has_19 : decode cL_has 19 = .ok (.iconst 1, 1) := by decide +kernel
theorem dL_has_20 : decode cL_has 20 = .ok (.if_icmp .ne 29, 3) := by decide +kernel
theorem dL_has_23 : decode cL_has 23 = .ok (.iload_n 2, 1) := by decide +kernel
theorem dL_has_24 : decode cL_has 24 = .ok (.bipush 11, 2) := by decide +kernel
theorem dL_has_26 : decode cL_has 26 = .ok (.if_icmp .le 23, 3) := by decide +kernel
theorem dL_has_29 : decode cL_has 29 = .ok (.aload 6, 2) := by decide +kernel
theorem dL_has_31 : decode cL_has 31 = .ok (.bipush 16, 2) := by decide +kernel
theorem dL_has_33 : decode cL_has 33 = .ok (.iload 7, 2) := by decide +kernel
theorem dL_has_35 : decode cL_has 35 = .ok (.imul, 1) := by decide +kernel
theorem dL_has_36 : decode cL_has 36 = .ok (.iconst 4, 1) := by decide +kernel
theorem dL_has_37 : decode cL_has 37 = .ok (.iload_n 1, 1) := by decide +kernel
theorem dL_has_38 : decode cL_has 38 = .ok (.imul, 1) := by decide +kernel
theorem dL_has_39 : decode cL_has 39 = .ok (.iadd, 1) := by decide +kernel
theorem dL_has_40 : decode cL_has 40 = .ok (.iload_n 2, 1) := by decide +kernel
theorem dL_has_41 : decode cL_has 41 = .ok (.iadd, 1) := by decide +kernel
theorem dL_has_42 : decode cL_has 42 = .ok (.bipush 12, 2) := by decide +kernel
theorem dL_has_44 : decode cL_has 44 = .ok (.isub, 1) := by decide +kernel
theorem dL_has_45 : decode cL_has 45 = .ok (.iaload, 1) := by decide +kernel
theorem dL_has_46 : decode cL_has 46 = .ok (.goto 34, 3) := by decide +kernel
theorem dL_has_49 : decode cL_has 49 = .ok (.iload 7, 2) := by decide +kernel
theorem dL_has_51 : decode cL_has 51 = .ok (.ifCond .ne 10, 3) := by decide +kernel
theorem dL_has_54 : decode cL_has 54 = .ok (.aload_n 3, 1) := by decide +kernel
theorem dL_has_55 : decode cL_has 55 = .ok (.iload 8, 2) := by decide +kernel
theorem dL_has_57 : decode cL_has 57 = .ok (.iaload, 1) := by decide +kernel
theorem dL_has_58 : decode cL_has 58 = .ok (.goto 22, 3) := by decide +kernel
theorem dL_has_61 : decode cL_has 61 = .ok (.iload 7, 2) := by decide +kernel
theorem dL_has_63 : decode cL_has 63 = .ok (.iconst 1, 1) := by decide +kernel
theorem dL_has_64 : decode cL_has 64 = .ok (.if_icmp .ne 11, 3) := by decide +kernel
theorem dL_has_67 : decode cL_has 67 = .ok (.aload 4, 2) := by decide +kernel
theorem dL_has_69 : decode cL_has 69 = .ok (.iload 8, 2) := by decide +kernel
theorem dL_has_71 : decode cL_has 71 = .ok (.iaload, 1) := by decide +kernel
theorem dL_has_72 : decode cL_has 72 = .ok (.goto 8, 3) := by decide +kernel
theorem dL_has_75 : decode cL_has 75 = .ok (.aload 5, 2) := by decide +kernel
theorem dL_has_77 : decode cL_has 77 = .ok (.iload 8, 2) := by decide +kernel
theorem dL_has_79 : decode cL_has 79 = .ok (.iaload, 1) := by decide +kernel
theorem dL_has_80 : decode cL_has 80 = .ok (.ireturn, 1) := by decide +kernel
theorem dL_begins_0 : decode cL_begins 0 = .ok (.bipush 12, 2) := by decide +kernel
theorem dL_begins_2 : decode cL_begins 2 = .ok (.iload_n 1, 1) := by decide +kernel
theorem dL_begins_3 : decode cL_begins 3 = .ok (.imul, 1) := by decide +kernel
theorem dL_begins_4 : decode cL_begins 4 = .ok (.iload_n 1, 1) := by decide +kernel
theorem dL_begins_5 : decode cL_begins 5 = .ok (.iconst 1, 1) := by decide +kernel
theorem dL_begins_6 : decode cL_begins 6 = .ok (.iand, 1) := by decide +kernel
theorem dL_begins_7 : decode cL_begins 7 = .ok (.aload_n 2, 1) := by decide +kernel
theorem dL_begins_8 : decode cL_begins 8 = .ok (.iload_n 0, 1) := by decide +kernel
theorem dL_begins_9 : decode cL_begins 9 = .ok (.bipush 8, 2) := by decide +kernel
theorem dL_begins_11 : decode cL_begins 11 = .ok (.irem, 1) := by decide +kernel
theorem dL_begins_12 : decode cL_begins 12 = .ok (.iconst 2, 1) := by decide +kernel
theorem dL_begins_13 : decode cL_begins 13 = .ok (.idiv, 1) := by decide +kernel
theorem dL_begins_14 : decode cL_begins 14 = .ok (.iaload, 1) := by decide +kernel
theorem dL_begins_15 : decode cL_begins 15 = .ok (.imul, 1) := by decide +kernel
theorem dL_begins_16 : decode cL_begins 16 = .ok (.iadd, 1) := by decide +kernel
theorem dL_begins_17 : decode cL_begins 17 = .ok (.ireturn, 1) := by decide +kernel
set_option maxRecDepth 20000 in
theorem ggL_uses_L_begins : GoodIn wsL_uses wsL_begins := goodIn_r _ [5] (by decide +kernel) (by decide +kernel)
set_option maxRecDepth 20000 in
theorem gL_uses_L_begins : GoodIn wsL_uses (va_wsS RL 53 yL_begins wsL_begins) := goodIn_app (goodIn_of _ (by decide +kernel)) ggL_uses_L_begins
set_option maxRecDepth 20000 in
theorem ggL_uses_L_has : GoodIn wsL_uses wsL_has := goodIn_r _ [8] (by decide +kernel) (by decide +kernel)
set_option maxRecDepth 20000 in
theorem gL_uses_L_has : GoodIn wsL_uses (va_wsS RL 59 yL_has wsL_has) := goodIn_app (goodIn_of _ (by decide +kernel)) ggL_uses_L_has
theorem dL_uses_0 : decode cL_uses 0 = .ok (.bipush 8, 2) := by decide +kernel
theorem dL_uses_2 : decode cL_uses 2 = .ok (.istore 8, 2) := by decide +kernel
theorem dL_uses_4 : decode cL_uses 4 = .ok (.iload 8, 2) := by decide +kernel
theorem dL_uses_6 : decode cL_uses 6 = .ok (.bipush 16, 2) := by decide +kernel
theorem dL_uses_8 : decode cL_uses 8 = .ok (.if_icmp .ge 16, 3) := by decide +kernel
theorem dL_uses_11 : decode cL_uses 11 = .ok (.aload 6, 2) := by decide +kernel
theorem dL_uses_13 : decode cL_uses 13 = .ok (.iload 8, 2) := by decide +kernel
theorem dL_uses_15 : decode cL_uses 15 = .ok (.ldc 52, 2) := by decide +kernel
theorem dL_uses_17 : decode cL_uses 17 = .ok (.iastore, 1) := by decide +kernel
theorem dL_uses_18 : decode cL_uses 18 = .ok (.iinc 8 1, 3) := by decide +kernel
theorem dL_uses_21 : decode cL_uses 21 = .ok (.goto (-17), 3) := by decide +kernel
theorem dL_uses_24 : decode cL_uses 24 = .ok (.aload 5, 2) := by decide +kernel
theorem dL_uses_26 : decode cL_uses 26 = .ok (.iconst 2, 1) := by decide +kernel
theorem dL_uses_27 : decode cL_uses 27 = .ok (.iaload, 1) := by decide +kernel
theorem dL_uses_28 : decode cL_uses 28 = .ok (.iconst 3, 1) := by decide +kernel
theorem dL_uses_29 : decode cL_uses 29 = .ok (.iadd, 1) := by decide +kernel
theorem dL_uses_30 : decode cL_uses 30 = .ok (.istore 8, 2) := by decide +kernel
theorem dL_uses_32 : decode cL_uses 32 = .ok (.iload 8, 2) := by decide +kernel
theorem dL_uses_34 : decode cL_uses 34 = .ok (.aload 5, 2) := by decide +kernel
theorem dL_uses_36 : decode cL_uses 36 = .ok (.iconst 2, 1) := by decide +kernel
theorem dL_uses_37 : decode cL_uses 37 = .ok (.iaload, 1) := by decide +kernel
theorem dL_uses_38 : decode cL_uses 38 = .ok (.if_icmp .lt 135, 3) := by decide +kernel
theorem dL_uses_41 : decode cL_uses 41 = .ok (.bipush 15, 2) := by decide +kernel
theorem dL_uses_43 : decode cL_uses 43 = .ok (.istore 9, 2) := by decide +kernel
theorem dL_uses_45 : decode cL_uses 45 = .ok (.iload 9, 2) := by decide +kernel
theorem dL_uses_47 : decode cL_uses 47 = .ok (.ifCond .lt 120, 3) := by decide +kernel
theorem dL_uses_50 : decode cL_uses 50 = .ok (.iload 8, 2) := by decide +kernel
theorem dL_uses_52 : decode cL_uses 52 = .ok (.aload 5, 2) := by decide +kernel
theorem dL_uses_54 : decode cL_uses 54 = .ok (.iconst 1, 1) := by decide +kernel
theorem dL_uses_55 : decode cL_uses 55 = .ok (.iaload, 1) := by decide +kernel
theorem dL_uses_56 : decode cL_uses 56 = .ok (.if_icmp .ge 111, 3) := by decide +kernel
theorem dL_uses_59 : decode cL_uses 59 = .ok (.sipush 192, 3) := by decide +kernel
theorem dL_uses_62 : decode cL_uses 62 = .ok (.iload 8, 2) := by decide +kernel
theorem dL_uses_64 : decode cL_uses 64 = .ok (.aload 5, 2) := by decide +kernel
theorem dL_uses_66 : decode cL_uses 66 = .ok (.iconst 2, 1) := by decide +kernel
theorem dL_uses_67 : decode cL_uses 67 = .ok (.iaload, 1) := by decide +kernel
theorem dL_uses_68 : decode cL_uses 68 = .ok (.isub, 1) := by decide +kernel
theorem dL_uses_69 : decode cL_uses 69 = .ok (.imul, 1) := by decide +kernel
theorem dL_uses_70 : decode cL_uses 70 = .ok (.aload 7, 2) := by decide +kernel
theorem dL_uses_72 : decode cL_uses 72 = .ok (.iload 8, 2) := by decide +kernel
theorem dL_uses_74 : decode cL_uses 74 = .ok (.iaload, 1) := by decide +kernel
theorem dL_uses_75 : decode cL_uses 75 = .ok (.iload 9, 2) := by decide +kernel
theorem dL_uses_77 : decode cL_uses 77 = .ok (.aload 4, 2) := by decide +kernel
theorem dL_uses_79 : decode cL_uses 79 = .ok (.invokestatic 53, 3) := by decide +kernel
theorem dL_uses_82 : decode cL_uses 82 = .ok (.iadd, 1) := by decide +kernel
theorem dL_uses_83 : decode cL_uses 83 = .ok (.aload 5, 2) := by decide +kernel
theorem dL_uses_85 : decode cL_uses 85 = .ok (.iconst 3, 1) := by decide +kernel
theorem dL_uses_86 : decode cL_uses 86 = .ok (.iaload, 1) := by decide +kernel
theorem dL_uses_87 : decode cL_uses 87 = .ok (.isub, 1) := by decide +kernel
theorem dL_uses_88 : decode cL_uses 88 = .ok (.istore 10, 2) := by decide +kernel
theorem dL_uses_90 : decode cL_uses 90 = .ok (.iconst 0, 1) := by decide +kernel
theorem dL_uses_91 : decode cL_uses 91 = .ok (.istore 11, 2) := by decide +kernel
theorem dL_uses_93 : decode cL_uses 93 = .ok (.iload 11, 2) := by decide +kernel
theorem dL_uses_95 : decode cL_uses 95 = .ok (.iconst 4, 1) := by decide +kernel
theorem dL_uses_96 : decode cL_uses 96 = .ok (.if_icmp .ge 65, 3) := by decide +kernel
theorem dL_uses_99 : decode cL_uses 99 = .ok (.iload 10, 2) := by decide +kernel
theorem dL_uses_101 : decode cL_uses 101 = .ok (.ifCond .le 60, 3) := by decide +kernel
theorem dL_uses_104 : decode cL_uses 104 = .ok (.aload 7, 2) := by decide +kernel
theorem dL_uses_106 : decode cL_uses 106 = .ok (.iload 8, 2) := by decide +kernel
theorem dL_uses_108 : decode cL_uses 108 = .ok (.iaload, 1) := by decide +kernel
theorem dL_uses_109 : decode cL_uses 109 = .ok (.iload 11, 2) := by decide +kernel
theorem dL_uses_111 : decode cL_uses 111 = .ok (.iload 9, 2) := by decide +kernel
theorem dL_uses_113 : decode cL_uses 113 = .ok (.aload_n 0, 1) := by decide +kernel
theorem dL_uses_114 : decode cL_uses 114 = .ok (.aload_n 1, 1) := by decide +kernel
theorem dL_uses_115 : decode cL_uses 115 = .ok (.aload_n 2, 1) := by decide +kernel
theorem dL_uses_116 : decode cL_uses 116 = .ok (.aload_n 3, 1) := by decide +kernel
theorem dL_uses_117 : decode cL_uses 117 = .ok (.invokestatic 59, 3) := by decide +kernel
theorem dL_uses_120 : decode cL_uses 120 = .ok (.istore 12, 2) := by decide +kernel
theorem dL_uses_122 : decode cL_uses 122 = .ok (.aload 6, 2) := by decide +kernel
theorem dL_uses_124 : decode cL_uses 124 = .ok (.iload 12, 2) := by decide +kernel
theorem dL_uses_126 : decode cL_uses 126 = .ok (.ifCond .ne 8, 3) := by decide +kernel
theorem dL_uses_129 : decode cL_uses 129 = .ok (.bipush 8, 2) := by decide +kernel
theorem dL_uses_131 : decode cL_uses 131 = .ok (.goto 8, 3) := by decide +kernel
theorem dL_uses_134 : decode cL_uses 134 = .ok (.bipush 7, 2) := by decide +kernel
theorem dL_uses_136 : decode cL_uses 136 = .ok (.iload 12, 2) := by decide +kernel
theorem dL_uses_138 : decode cL_uses 138 = .ok (.iadd, 1) := by decide +kernel
theorem dL_uses_139 : decode cL_uses 139 = .ok (.iload 12, 2) := by decide +kernel
theorem dL_uses_141 : decode cL_uses 141 = .ok (.ifCond .ne 11, 3) := by decide +kernel
theorem dL_uses_144 : decode cL_uses 144 = .ok (.aload 6, 2) := by decide +kernel
theorem dL_uses_146 : decode cL_uses 146 = .ok (.bipush 8, 2) := by decide +kernel
theorem dL_uses_148 : decode cL_uses 148 = .ok (.iaload, 1) := by decide +kernel
theorem dL_uses_149 : decode cL_uses 149 = .ok (.goto 5, 3) := by decide +kernel
theorem dL_uses_152 : decode cL_uses 152 = .ok (.iload 10, 2) := by decide +kernel
theorem dL_uses_154 : decode cL_uses 154 = .ok (.iastore, 1) := by decide +kernel
theorem dL_uses_155 : decode cL_uses 155 = .ok (.iinc 11 1, 3) := by decide +kernel
theorem dL_uses_158 : decode cL_uses 158 = .ok (.goto (-65), 3) := by decide +kernel
theorem dL_uses_161 : decode cL_uses 161 = .ok (.iinc 9 (-1), 3) := by decide +kernel
theorem dL_uses_164 : decode cL_uses 164 = .ok (.goto (-119), 3) := by decide +kernel
theorem dL_uses_167 : decode cL_uses 167 = .ok (.iinc 8 (-1), 3) := by decide +kernel
theorem dL_uses_170 : decode cL_uses 170 = .ok (.goto (-138), 3) := by decide +kernel
theorem dL_uses_173 : decode cL_uses 173 = .ok (.return_, 1) := by decide +kernel
theorem dL_loads_0 : decode cL_loads 0 = .ok (.iconst (-1), 1) := by decide +kernel
theorem dL_loads_1 : decode cL_loads 1 = .ok (.istore_n 3, 1) := by decide +kernel
theorem dL_loads_2 : decode cL_loads 2 = .ok (.bipush 12, 2) := by decide +kernel
theorem dL_loads_4 : decode cL_loads 4 = .ok (.istore 4, 2) := by decide +kernel
theorem dL_loads_6 : decode cL_loads 6 = .ok (.bipush 7, 2) := by decide +kernel
theorem dL_loads_8 : decode cL_loads 8 = .ok (.istore 5, 2) := by decide +kernel
theorem dL_loads_10 : decode cL_loads 10 = .ok (.iload 5, 2) := by decide +kernel
theorem dL_loads_12 : decode cL_loads 12 = .ok (.ifCond .lt 80, 3) := by decide +kernel
theorem dL_loads_15 : decode cL_loads 15 = .ok (.iload 4, 2) := by decide +kernel
theorem dL_loads_17 : decode cL_loads 17 = .ok (.aload_n 2, 1) := by decide +kernel
theorem dL_loads_18 : decode cL_loads 18 = .ok (.iload 5, 2) := by decide +kernel
theorem dL_loads_20 : decode cL_loads 20 = .ok (.iaload, 1) := by decide +kernel
theorem dL_loads_21 : decode cL_loads 21 = .ok (.isub, 1) := by decide +kernel
theorem dL_loads_22 : decode cL_loads 22 = .ok (.istore 4, 2) := by decide +kernel
theorem dL_loads_24 : decode cL_loads 24 = .ok (.aload_n 2, 1) := by decide +kernel
theorem dL_loads_25 : decode cL_loads 25 = .ok (.iload 5, 2) := by decide +kernel
theorem dL_loads_27 : decode cL_loads 27 = .ok (.iaload, 1) := by decide +kernel
theorem dL_loads_28 : decode cL_loads 28 = .ok (.aload_n 0, 1) := by decide +kernel
theorem dL_loads_29 : decode cL_loads 29 = .ok (.iload 5, 2) := by decide +kernel
theorem dL_loads_31 : decode cL_loads 31 = .ok (.iaload, 1) := by decide +kernel
theorem dL_loads_32 : decode cL_loads 32 = .ok (.if_icmp .ge 19, 3) := by decide +kernel
theorem dL_loads_35 : decode cL_loads 35 = .ok (.aload_n 2, 1) := by decide +kernel
theorem dL_loads_36 : decode cL_loads 36 = .ok (.bipush 8, 2) := by decide +kernel
theorem dL_loads_38 : decode cL_loads 38 = .ok (.iload 5, 2) := by decide +kernel
theorem dL_loads_40 : decode cL_loads 40 = .ok (.iadd, 1) := by decide +kernel
theorem dL_loads_41 : decode cL_loads 41 = .ok (.iaload, 1) := by decide +kernel
theorem dL_loads_42 : decode cL_loads 42 = .ok (.ldc 52, 2) := by decide +kernel
theorem dL_loads_44 : decode cL_loads 44 = .ok (.if_icmp .ge 7, 3) := by decide +kernel
theorem dL_loads_47 : decode cL_loads 47 = .ok (.iconst 1, 1) := by decide +kernel
theorem dL_loads_48 : decode cL_loads 48 = .ok (.goto 4, 3) := by decide +kernel
theorem dL_loads_51 : decode cL_loads 51 = .ok (.iconst 0, 1) := by decide +kernel
theorem dL_loads_52 : decode cL_loads 52 = .ok (.istore 6, 2) := by decide +kernel
theorem dL_loads_54 : decode cL_loads 54 = .ok (.iload 6, 2) := by decide +kernel
theorem dL_loads_56 : decode cL_loads 56 = .ok (.ifCond .eq 28, 3) := by decide +kernel
theorem dL_loads_59 : decode cL_loads 59 = .ok (.iload_n 3, 1) := by decide +kernel
theorem dL_loads_60 : decode cL_loads 60 = .ok (.ifCond .lt 19, 3) := by decide +kernel
theorem dL_loads_63 : decode cL_loads 63 = .ok (.aload_n 2, 1) := by decide +kernel
theorem dL_loads_64 : decode cL_loads 64 = .ok (.bipush 8, 2) := by decide +kernel
theorem dL_loads_66 : decode cL_loads 66 = .ok (.iload 5, 2) := by decide +kernel
theorem dL_loads_68 : decode cL_loads 68 = .ok (.iadd, 1) := by decide +kernel
theorem dL_loads_69 : decode cL_loads 69 = .ok (.iaload, 1) := by decide +kernel
theorem dL_loads_70 : decode cL_loads 70 = .ok (.aload_n 2, 1) := by decide +kernel
theorem dL_loads_71 : decode cL_loads 71 = .ok (.bipush 8, 2) := by decide +kernel
theorem dL_loads_73 : decode cL_loads 73 = .ok (.iload_n 3, 1) := by decide +kernel
theorem dL_loads_74 : decode cL_loads 74 = .ok (.iadd, 1) := by decide +kernel
theorem dL_loads_75 : decode cL_loads 75 = .ok (.iaload, 1) := by decide +kernel
theorem dL_loads_76 : decode cL_loads 76 = .ok (.if_icmp .gt 8, 3) := by decide +kernel
theorem dL_loads_79 : decode cL_loads 79 = .ok (.iload 5, 2) := by decide +kernel
theorem dL_loads_81 : decode cL_loads 81 = .ok (.goto 4, 3) := by decide +kernel
theorem dL_loads_84 : decode cL_loads 84 = .ok (.iload_n 3, 1) := by decide +kernel
theorem dL_loads_85 : decode cL_loads 85 = .ok (.istore_n 3, 1) := by decide +kernel
theorem dL_loads_86 : decode cL_loads 86 = .ok (.iinc 5 (-1), 3) := by decide +kernel
theorem dL_loads_89 : decode cL_loads 89 = .ok (.goto (-79), 3) := by decide +kernel
theorem dL_loads_92 : decode cL_loads 92 = .ok (.iconst (-1), 1) := by decide +kernel
theorem dL_loads_93 : decode cL_loads 93 = .ok (.istore 5, 2) := by decide +kernel
theorem dL_loads_95 : decode cL_loads 95 = .ok (.bipush 7, 2) := by decide +kernel
theorem dL_loads_97 : decode cL_loads 97 = .ok (.istore 6, 2) := by decide +kernel
theorem dL_loads_99 : decode cL_loads 99 = .ok (.iload 6, 2) := by decide +kernel
theorem dL_loads_101 : decode cL_loads 101 = .ok (.ifCond .lt 65, 3) := by decide +kernel
theorem dL_loads_104 : decode cL_loads 104 = .ok (.iload 6, 2) := by decide +kernel
theorem dL_loads_106 : decode cL_loads 106 = .ok (.iload_n 3, 1) := by decide +kernel
theorem dL_loads_107 : decode cL_loads 107 = .ok (.if_icmp .eq 14, 3) := by decide +kernel
theorem dL_loads_110 : decode cL_loads 110 = .ok (.aload_n 2, 1) := by decide +kernel
theorem dL_loads_111 : decode cL_loads 111 = .ok (.iload 6, 2) := by decide +kernel
theorem dL_loads_113 : decode cL_loads 113 = .ok (.iaload, 1) := by decide +kernel
theorem dL_loads_114 : decode cL_loads 114 = .ok (.ifCond .le 7, 3) := by decide +kernel
theorem dL_loads_117 : decode cL_loads 117 = .ok (.iconst 1, 1) := by decide +kernel
theorem dL_loads_118 : decode cL_loads 118 = .ok (.goto 4, 3) := by decide +kernel
theorem dL_loads_121 : decode cL_loads 121 = .ok (.iconst 0, 1) := by decide +kernel
theorem dL_loads_122 : decode cL_loads 122 = .ok (.istore 7, 2) := by decide +kernel
theorem dL_loads_124 : decode cL_loads 124 = .ok (.iload 7, 2) := by decide +kernel
theorem dL_loads_126 : decode cL_loads 126 = .ok (.ifCond .eq 30, 3) := by decide +kernel
theorem dL_loads_129 : decode cL_loads 129 = .ok (.iload 5, 2) := by decide +kernel
theorem dL_loads_131 : decode cL_loads 131 = .ok (.ifCond .lt 20, 3) := by decide +kernel
theorem dL_loads_134 : decode cL_loads 134 = .ok (.aload_n 2, 1) := by decide +kernel
theorem dL_loads_135 : decode cL_loads 135 = .ok (.bipush 8, 2) := by decide +kernel
theorem dL_loads_137 : decode cL_loads 137 = .ok (.iload 6, 2) := by decide +kernel
theorem dL_loads_139 : decode cL_loads 139 = .ok (.iadd, 1) := by decide +kernel
theorem dL_loads_140 : decode cL_loads 140 = .ok (.iaload, 1) := by decide +kernel
theorem dL_loads_141 : decode cL_loads 141 = .ok (.aload_n 2, 1) := by decide +kernel
theorem dL_loads_142 : decode cL_loads 142 = .ok (.bipush 8, 2) := by decide +kernel
theorem dL_loads_144 : decode cL_loads 144 = .ok (.iload 5, 2) := by decide +kernel
theorem dL_loads_146 : decode cL_loads 146 = .ok (.iadd, 1) := by decide +kernel
theorem dL_loads_147 : decode cL_loads 147 = .ok (.iaload, 1) := by decide +kernel
theorem dL_loads_148 : decode cL_loads 148 = .ok (.if_icmp .le 8, 3) := by decide +kernel
theorem dL_loads_151 : decode cL_loads 151 = .ok (.iload 6, 2) := by decide +kernel
theorem dL_loads_153 : decode cL_loads 153 = .ok (.goto 5, 3) := by decide +kernel
theorem dL_loads_156 : decode cL_loads 156 = .ok (.iload 5, 2) := by decide +kernel
theorem dL_loads_158 : decode cL_loads 158 = .ok (.istore 5, 2) := by decide +kernel
theorem dL_loads_160 : decode cL_loads 160 = .ok (.iinc 6 (-1), 3) := by decide +kernel
theorem dL_loads_163 : decode cL_loads 163 = .ok (.goto (-64), 3) := by decide +kernel
theorem dL_loads_166 : decode cL_loads 166 = .ok (.iload_n 3, 1) := by decide +kernel
theorem dL_loads_167 : decode cL_loads 167 = .ok (.ifCond .lt 33, 3) := by decide +kernel
theorem dL_loads_170 : decode cL_loads 170 = .ok (.iload 4, 2) := by decide +kernel
theorem dL_loads_172 : decode cL_loads 172 = .ok (.ifCond .ne 28, 3) := by decide +kernel
theorem dL_loads_175 : decode cL_loads 175 = .ok (.iload 5, 2) := by decide +kernel
theorem dL_loads_177 : decode cL_loads 177 = .ok (.ifCond .lt 23, 3) := by decide +kernel
theorem dL_loads_180 : decode cL_loads 180 = .ok (.aload_n 2, 1) := by decide +kernel
theorem dL_loads_181 : decode cL_loads 181 = .ok (.bipush 8, 2) := by decide +kernel
theorem dL_loads_183 : decode cL_loads 183 = .ok (.iload 5, 2) := by decide +kernel
theorem dL_loads_185 : decode cL_loads 185 = .ok (.iadd, 1) := by decide +kernel
theorem dL_loads_186 : decode cL_loads 186 = .ok (.iaload, 1) := by decide +kernel
theorem dL_loads_187 : decode cL_loads 187 = .ok (.aload_n 2, 1) := by decide +kernel
theorem dL_loads_188 : decode cL_loads 188 = .ok (.bipush 8, 2) := by decide +kernel
theorem dL_loads_190 : decode cL_loads 190 = .ok (.iload_n 3, 1) := by decide +kernel
theorem dL_loads_191 : decode cL_loads 191 = .ok (.iadd, 1) := by decide +kernel
theorem dL_loads_192 : decode cL_loads 192 = .ok (.iaload, 1) := by decide +kernel
theorem dL_loads_193 : decode cL_loads 193 = .ok (.if_icmp .le 7, 3) := by decide +kernel
theorem dL_loads_196 : decode cL_loads 196 = .ok (.iconst 1, 1) := by decide +kernel
theorem dL_loads_197 : decode cL_loads 197 = .ok (.goto 4, 3) := by decide +kernel
theorem dL_loads_200 : decode cL_loads 200 = .ok (.iconst 0, 1) := by decide +kernel
theorem dL_loads_201 : decode cL_loads 201 = .ok (.istore 6, 2) := by decide +kernel
theorem dL_loads_203 : decode cL_loads 203 = .ok (.iload 6, 2) := by decide +kernel
theorem dL_loads_205 : decode cL_loads 205 = .ok (.ifCond .eq 11, 3) := by decide +kernel
theorem dL_loads_208 : decode cL_loads 208 = .ok (.aload_n 2, 1) := by decide +kernel
theorem dL_loads_209 : decode cL_loads 209 = .ok (.iload 5, 2) := by decide +kernel
theorem dL_loads_211 : decode cL_loads 211 = .ok (.dup2, 1) := by decide +kernel
theorem dL_loads_212 : decode cL_loads 212 = .ok (.iaload, 1) := by decide +kernel
theorem dL_loads_213 : decode cL_loads 213 = .ok (.iconst 1, 1) := by decide +kernel
theorem dL_loads_214 : decode cL_loads 214 = .ok (.isub, 1) := by decide +kernel
theorem dL_loads_215 : decode cL_loads 215 = .ok (.iastore, 1) := by decide +kernel
theorem dL_loads_216 : decode cL_loads 216 = .ok (.iload_n 3, 1) := by decide +kernel
theorem dL_loads_217 : decode cL_loads 217 = .ok (.ifCond .lt 23, 3) := by decide +kernel
theorem dL_loads_220 : decode cL_loads 220 = .ok (.iload 4, 2) := by decide +kernel
theorem dL_loads_222 : decode cL_loads 222 = .ok (.ifCond .gt 8, 3) := by decide +kernel
theorem dL_loads_225 : decode cL_loads 225 = .ok (.iload 6, 2) := by decide +kernel
theorem dL_loads_227 : decode cL_loads 227 = .ok (.ifCond .eq 13, 3) := by decide +kernel
theorem dL_loads_230 : decode cL_loads 230 = .ok (.aload_n 1, 1) := by decide +kernel
theorem dL_loads_231 : decode cL_loads 231 = .ok (.iconst 4, 1) := by decide +kernel
theorem dL_loads_232 : decode cL_loads 232 = .ok (.iload_n 3, 1) := by decide +kernel
theorem dL_loads_233 : decode cL_loads 233 = .ok (.iconst 1, 1) := by decide +kernel
theorem dL_loads_234 : decode cL_loads 234 = .ok (.iadd, 1) := by decide +kernel
theorem dL_loads_235 : decode cL_loads 235 = .ok (.iastore, 1) := by decide +kernel
theorem dL_loads_236 : decode cL_loads 236 = .ok (.aload_n 1, 1) := by decide +kernel
theorem dL_loads_237 : decode cL_loads 237 = .ok (.iconst 5, 1) := by decide +kernel
theorem dL_loads_238 : decode cL_loads 238 = .ok (.iconst 0, 1) := by decide +kernel
theorem dL_loads_239 : decode cL_loads 239 = .ok (.iastore, 1) := by decide +kernel
theorem dL_loads_240 : decode cL_loads 240 = .ok (.return_, 1) := by decide +kernel
set_option maxRecDepth 20000 in
theorem ggL_tick_L_begins : GoodIn wsL_tick wsL_begins := goodIn_r _ [4] (by decide +kernel) (by decide +kernel)
set_option maxRecDepth 20000 in
theorem gL_tick_L_begins : GoodIn wsL_tick (va_wsS RL 53 yL_begins wsL_begins) := goodIn_app (goodIn_of _ (by decide +kernel)) ggL_tick_L_begins
set_option maxRecDepth 20000 in
theorem ggL_tick_L_has : GoodIn wsL_tick wsL_has := goodIn_r _ [7] (by decide +kernel) (by decide +kernel)
set_option maxRecDepth 20000 in
theorem gL_tick_L_has : GoodIn wsL_tick (va_wsS RL 59 yL_has wsL_has) := goodIn_app (goodIn_of _ (by decide +kernel)) ggL_tick_L_has
set_option maxRecDepth 20000 in
theorem ggL_tick_L_uses : GoodIn wsL_tick wsL_uses := goodIn_r _ [10, 11, 1, 2, 3, 4, 5, 6, 7] (by decide +kernel) (by decide +kernel)
set_option maxRecDepth 20000 in
theorem gL_tick_L_uses : GoodIn wsL_tick (va_wsS RL 63 yL_uses wsL_uses) := goodIn_app (goodIn_of _ (by decide +kernel)) ggL_tick_L_uses
set_option maxRecDepth 20000 in
theorem ggL_tick_L_loads : GoodIn wsL_tick wsL_loads := goodIn_r _ [14, 11] (by decide +kernel) (by decide +kernel)
set_option maxRecDepth 20000 in
theorem gL_tick_L_loads : GoodIn wsL_tick (va_wsS RL 67 yL_loads wsL_loads) := goodIn_app (goodIn_of _ (by decide +kernel)) ggL_tick_L_loads
theorem dL_tick_0 : decode cL_tick 0 = .ok (.aload 6, 2) := by decide +kernel
theorem dL_tick_2 : decode cL_tick 2 = .ok (.bipush 6, 2) := by decide +kernel
theorem dL_tick_4 : decode cL_tick 4 = .ok (.iaload, 1) := by decide +kernel
theorem dL_tick_5 : decode cL_tick 5 = .ok (.istore 9, 2) := by decide +kernel
theorem dL_tick_7 : decode cL_tick 7 = .ok (.aload 8, 2) := by decide +kernel
theorem dL_tick_9 : decode cL_tick 9 = .ok (.aload 6, 2) := by decide +kernel
theorem dL_tick_11 : decode cL_tick 11 = .ok (.iconst 2, 1) := by decide +kernel
theorem dL_tick_12 : decode cL_tick 12 = .ok (.iaload, 1) := by decide +kernel
theorem dL_tick_13 : decode cL_tick 13 = .ok (.iaload, 1) := by decide +kernel
theorem dL_tick_14 : decode cL_tick 14 = .ok (.istore 10, 2) := by decide +kernel
theorem dL_tick_16 : decode cL_tick 16 = .ok (.iload 10, 2) := by decide +kernel
theorem dL_tick_18 : decode cL_tick 18 = .ok (.bipush 8, 2) := by decide +kernel
theorem dL_tick_20 : decode cL_tick 20 = .ok (.irem, 1) := by decide +kernel
theorem dL_tick_21 : decode cL_tick 21 = .ok (.iconst 2, 1) := by decide +kernel
theorem dL_tick_22 : decode cL_tick 22 = .ok (.idiv, 1) := by decide +kernel
theorem dL_tick_23 : decode cL_tick 23 = .ok (.istore 11, 2) := by decide +kernel
theorem dL_tick_25 : decode cL_tick 25 = .ok (.iconst 0, 1) := by decide +kernel
theorem dL_tick_26 : decode cL_tick 26 = .ok (.istore 12, 2) := by decide +kernel
theorem dL_tick_28 : decode cL_tick 28 = .ok (.iload 12, 2) := by decide +kernel
theorem dL_tick_30 : decode cL_tick 30 = .ok (.bipush 64, 2) := by decide +kernel
theorem dL_tick_32 : decode cL_tick 32 = .ok (.if_icmp .ge 164, 3) := by decide +kernel
theorem dL_tick_35 : decode cL_tick 35 = .ok (.iload 12, 2) := by decide +kernel
theorem dL_tick_37 : decode cL_tick 37 = .ok (.iconst 4, 1) := by decide +kernel
theorem dL_tick_38 : decode cL_tick 38 = .ok (.idiv, 1) := by decide +kernel
theorem dL_tick_39 : decode cL_tick 39 = .ok (.istore 13, 2) := by decide +kernel
theorem dL_tick_41 : decode cL_tick 41 = .ok (.iload 10, 2) := by decide +kernel
theorem dL_tick_43 : decode cL_tick 43 = .ok (.iload 13, 2) := by decide +kernel
theorem dL_tick_45 : decode cL_tick 45 = .ok (.aload 4, 2) := by decide +kernel
theorem dL_tick_47 : decode cL_tick 47 = .ok (.invokestatic 53, 3) := by decide +kernel
theorem dL_tick_50 : decode cL_tick 50 = .ok (.aload 6, 2) := by decide +kernel
theorem dL_tick_52 : decode cL_tick 52 = .ok (.iconst 3, 1) := by decide +kernel
theorem dL_tick_53 : decode cL_tick 53 = .ok (.iaload, 1) := by decide +kernel
theorem dL_tick_54 : decode cL_tick 54 = .ok (.if_icmp .ne 23, 3) := by decide +kernel
theorem dL_tick_57 : decode cL_tick 57 = .ok (.iload 10, 2) := by decide +kernel
theorem dL_tick_59 : decode cL_tick 59 = .ok (.iload 12, 2) := by decide +kernel
theorem dL_tick_61 : decode cL_tick 61 = .ok (.iconst 4, 1) := by decide +kernel
theorem dL_tick_62 : decode cL_tick 62 = .ok (.irem, 1) := by decide +kernel
theorem dL_tick_63 : decode cL_tick 63 = .ok (.iload 13, 2) := by decide +kernel
theorem dL_tick_65 : decode cL_tick 65 = .ok (.aload_n 0, 1) := by decide +kernel
theorem dL_tick_66 : decode cL_tick 66 = .ok (.aload_n 1, 1) := by decide +kernel
theorem dL_tick_67 : decode cL_tick 67 = .ok (.aload_n 2, 1) := by decide +kernel
theorem dL_tick_68 : decode cL_tick 68 = .ok (.aload_n 3, 1) := by decide +kernel
theorem dL_tick_69 : decode cL_tick 69 = .ok (.invokestatic 59, 3) := by decide +kernel
theorem dL_tick_72 : decode cL_tick 72 = .ok (.iconst 1, 1) := by decide +kernel
theorem dL_tick_73 : decode cL_tick 73 = .ok (.isub, 1) := by decide +kernel
theorem dL_tick_74 : decode cL_tick 74 = .ok (.goto 4, 3) := by decide +kernel
theorem dL_tick_77 : decode cL_tick 77 = .ok (.iconst (-1), 1) := by decide +kernel
theorem dL_tick_78 : decode cL_tick 78 = .ok (.istore 14, 2) := by decide +kernel
theorem dL_tick_80 : decode cL_tick 80 = .ok (.iload 14, 2) := by decide +kernel
theorem dL_tick_82 : decode cL_tick 82 = .ok (.ifCond .lt 94, 3) := by decide +kernel
theorem dL_tick_85 : decode cL_tick 85 = .ok (.aload 7, 2) := by decide +kernel
theorem dL_tick_87 : decode cL_tick 87 = .ok (.iload 14, 2) := by decide +kernel
theorem dL_tick_89 : decode cL_tick 89 = .ok (.iaload, 1) := by decide +kernel
theorem dL_tick_90 : decode cL_tick 90 = .ok (.aload 5, 2) := by decide +kernel
theorem dL_tick_92 : decode cL_tick 92 = .ok (.iload 14, 2) := by decide +kernel
theorem dL_tick_94 : decode cL_tick 94 = .ok (.iaload, 1) := by decide +kernel
theorem dL_tick_95 : decode cL_tick 95 = .ok (.if_icmp .ne 81, 3) := by decide +kernel
theorem dL_tick_98 : decode cL_tick 98 = .ok (.aload 6, 2) := by decide +kernel
theorem dL_tick_100 : decode cL_tick 100 = .ok (.bipush 9, 2) := by decide +kernel
theorem dL_tick_102 : decode cL_tick 102 = .ok (.iaload, 1) := by decide +kernel
theorem dL_tick_103 : decode cL_tick 103 = .ok (.iload 11, 2) := by decide +kernel
theorem dL_tick_105 : decode cL_tick 105 = .ok (.ishr, 1) := by decide +kernel
theorem dL_tick_106 : decode cL_tick 106 = .ok (.iconst 1, 1) := by decide +kernel
theorem dL_tick_107 : decode cL_tick 107 = .ok (.iand, 1) := by decide +kernel
theorem dL_tick_108 : decode cL_tick 108 = .ok (.iconst 1, 1) := by decide +kernel
theorem dL_tick_109 : decode cL_tick 109 = .ok (.if_icmp .ne 20, 3) := by decide +kernel
theorem dL_tick_112 : decode cL_tick 112 = .ok (.aload 5, 2) := by decide +kernel
theorem dL_tick_114 : decode cL_tick 114 = .ok (.bipush 16, 2) := by decide +kernel
theorem dL_tick_116 : decode cL_tick 116 = .ok (.bipush 8, 2) := by decide +kernel
theorem dL_tick_118 : decode cL_tick 118 = .ok (.iload 11, 2) := by decide +kernel
theorem dL_tick_120 : decode cL_tick 120 = .ok (.imul, 1) := by decide +kernel
theorem dL_tick_121 : decode cL_tick 121 = .ok (.iadd, 1) := by decide +kernel
theorem dL_tick_122 : decode cL_tick 122 = .ok (.iload 14, 2) := by decide +kernel
theorem dL_tick_124 : decode cL_tick 124 = .ok (.iadd, 1) := by decide +kernel
theorem dL_tick_125 : decode cL_tick 125 = .ok (.iaload, 1) := by decide +kernel
theorem dL_tick_126 : decode cL_tick 126 = .ok (.goto 11, 3) := by decide +kernel
theorem dL_tick_129 : decode cL_tick 129 = .ok (.aload 5, 2) := by decide +kernel
theorem dL_tick_131 : decode cL_tick 131 = .ok (.bipush 8, 2) := by decide +kernel
theorem dL_tick_133 : decode cL_tick 133 = .ok (.iload 14, 2) := by decide +kernel
theorem dL_tick_135 : decode cL_tick 135 = .ok (.iadd, 1) := by decide +kernel
theorem dL_tick_136 : decode cL_tick 136 = .ok (.iaload, 1) := by decide +kernel
theorem dL_tick_137 : decode cL_tick 137 = .ok (.istore 15, 2) := by decide +kernel
theorem dL_tick_139 : decode cL_tick 139 = .ok (.aload 6, 2) := by decide +kernel
theorem dL_tick_141 : decode cL_tick 141 = .ok (.bipush 6, 2) := by decide +kernel
theorem dL_tick_143 : decode cL_tick 143 = .ok (.dup2, 1) := by decide +kernel
theorem dL_tick_144 : decode cL_tick 144 = .ok (.iaload, 1) := by decide +kernel
theorem dL_tick_145 : decode cL_tick 145 = .ok (.iconst 1, 1) := by decide +kernel
theorem dL_tick_146 : decode cL_tick 146 = .ok (.iadd, 1) := by decide +kernel
theorem dL_tick_147 : decode cL_tick 147 = .ok (.iastore, 1) := by decide +kernel
theorem dL_tick_148 : decode cL_tick 148 = .ok (.aload 6, 2) := by decide +kernel
theorem dL_tick_150 : decode cL_tick 150 = .ok (.bipush 8, 2) := by decide +kernel
theorem dL_tick_152 : decode cL_tick 152 = .ok (.aload 6, 2) := by decide +kernel
theorem dL_tick_154 : decode cL_tick 154 = .ok (.bipush 8, 2) := by decide +kernel
theorem dL_tick_156 : decode cL_tick 156 = .ok (.iaload, 1) := by decide +kernel
theorem dL_tick_157 : decode cL_tick 157 = .ok (.bipush 31, 2) := by decide +kernel
theorem dL_tick_159 : decode cL_tick 159 = .ok (.imul, 1) := by decide +kernel
theorem dL_tick_160 : decode cL_tick 160 = .ok (.bipush 100, 2) := by decide +kernel
theorem dL_tick_162 : decode cL_tick 162 = .ok (.iload 14, 2) := by decide +kernel
theorem dL_tick_164 : decode cL_tick 164 = .ok (.imul, 1) := by decide +kernel
theorem dL_tick_165 : decode cL_tick 165 = .ok (.iadd, 1) := by decide +kernel
theorem dL_tick_166 : decode cL_tick 166 = .ok (.iload 15, 2) := by decide +kernel
theorem dL_tick_168 : decode cL_tick 168 = .ok (.iadd, 1) := by decide +kernel
theorem dL_tick_169 : decode cL_tick 169 = .ok (.bipush 12, 2) := by decide +kernel
theorem dL_tick_171 : decode cL_tick 171 = .ok (.iadd, 1) := by decide +kernel
theorem dL_tick_172 : decode cL_tick 172 = .ok (.iastore, 1) := by decide +kernel
theorem dL_tick_173 : decode cL_tick 173 = .ok (.goto 17, 3) := by decide +kernel
theorem dL_tick_176 : decode cL_tick 176 = .ok (.iload 14, 2) := by decide +kernel
theorem dL_tick_178 : decode cL_tick 178 = .ok (.ifCond .lt 12, 3) := by decide +kernel
theorem dL_tick_181 : decode cL_tick 181 = .ok (.aload 6, 2) := by decide +kernel
theorem dL_tick_183 : decode cL_tick 183 = .ok (.bipush 7, 2) := by decide +kernel
theorem dL_tick_185 : decode cL_tick 185 = .ok (.dup2, 1) := by decide +kernel
theorem dL_tick_186 : decode cL_tick 186 = .ok (.iaload, 1) := by decide +kernel
theorem dL_tick_187 : decode cL_tick 187 = .ok (.iconst 1, 1) := by decide +kernel
theorem dL_tick_188 : decode cL_tick 188 = .ok (.iadd, 1) := by decide +kernel
theorem dL_tick_189 : decode cL_tick 189 = .ok (.iastore, 1) := by decide +kernel
theorem dL_tick_190 : decode cL_tick 190 = .ok (.iinc 12 1, 3) := by decide +kernel
theorem dL_tick_193 : decode cL_tick 193 = .ok (.goto (-165), 3) := by decide +kernel
theorem dL_tick_196 : decode cL_tick 196 = .ok (.aload 6, 2) := by decide +kernel
theorem dL_tick_198 : decode cL_tick 198 = .ok (.iconst 4, 1) := by decide +kernel
theorem dL_tick_199 : decode cL_tick 199 = .ok (.iaload, 1) := by decide +kernel
theorem dL_tick_200 : decode cL_tick 200 = .ok (.ifCond .ne 27, 3) := by decide +kernel
theorem dL_tick_203 : decode cL_tick 203 = .ok (.aload_n 0, 1) := by decide +kernel
theorem dL_tick_204 : decode cL_tick 204 = .ok (.aload_n 1, 1) := by decide +kernel
theorem dL_tick_205 : decode cL_tick 205 = .ok (.aload_n 2, 1) := by decide +kernel
theorem dL_tick_206 : decode cL_tick 206 = .ok (.aload_n 3, 1) := by decide +kernel
theorem dL_tick_207 : decode cL_tick 207 = .ok (.aload 4, 2) := by decide +kernel
theorem dL_tick_209 : decode cL_tick 209 = .ok (.aload 6, 2) := by decide +kernel
theorem dL_tick_211 : decode cL_tick 211 = .ok (.aload 7, 2) := by decide +kernel
theorem dL_tick_213 : decode cL_tick 213 = .ok (.aload 8, 2) := by decide +kernel
theorem dL_tick_215 : decode cL_tick 215 = .ok (.invokestatic 63, 3) := by decide +kernel
theorem dL_tick_218 : decode cL_tick 218 = .ok (.aload 5, 2) := by decide +kernel
theorem dL_tick_220 : decode cL_tick 220 = .ok (.aload 6, 2) := by decide +kernel
theorem dL_tick_222 : decode cL_tick 222 = .ok (.aload 7, 2) := by decide +kernel
theorem dL_tick_224 : decode cL_tick 224 = .ok (.invokestatic 67, 3) := by decide +kernel
theorem dL_tick_227 : decode cL_tick 227 = .ok (.aload 6, 2) := by decide +kernel
theorem dL_tick_229 : decode cL_tick 229 = .ok (.iconst 5, 1) := by decide +kernel
theorem dL_tick_230 : decode cL_tick 230 = .ok (.dup2, 1) := by decide +kernel
theorem dL_tick_231 : decode cL_tick 231 = .ok (.iaload, 1) := by decide +kernel
theorem dL_tick_232 : decode cL_tick 232 = .ok (.aload 6, 2) := by decide +kernel
theorem dL_tick_234 : decode cL_tick 234 = .ok (.iconst 4, 1) := by decide +kernel
theorem dL_tick_235 : decode cL_tick 235 = .ok (.iaload, 1) := by decide +kernel
theorem dL_tick_236 : decode cL_tick 236 = .ok (.ifCond .le 7, 3) := by decide +kernel
theorem dL_tick_239 : decode cL_tick 239 = .ok (.iconst 1, 1) := by decide +kernel
theorem dL_tick_240 : decode cL_tick 240 = .ok (.goto 4, 3) := by decide +kernel
theorem dL_tick_243 : decode cL_tick 243 = .ok (.iconst 0, 1) := by decide +kernel
theorem dL_tick_244 : decode cL_tick 244 = .ok (.iadd, 1) := by decide +kernel
theorem dL_tick_245 : decode cL_tick 245 = .ok (.iastore, 1) := by decide +kernel
theorem dL_tick_246 : decode cL_tick 246 = .ok (.aload 6, 2) := by decide +kernel
theorem dL_tick_248 : decode cL_tick 248 = .ok (.iconst 5, 1) := by decide +kernel
theorem dL_tick_249 : decode cL_tick 249 = .ok (.iaload, 1) := by decide +kernel
theorem dL_tick_250 : decode cL_tick 250 = .ok (.bipush 8, 2) := by decide +kernel
theorem dL_tick_252 : decode cL_tick 252 = .ok (.if_icmp .ne 26, 3) := by decide +kernel
theorem dL_tick_255 : decode cL_tick 255 = .ok (.aload 7, 2) := by decide +kernel
theorem dL_tick_257 : decode cL_tick 257 = .ok (.aload 6, 2) := by decide +kernel
theorem dL_tick_259 : decode cL_tick 259 = .ok (.iconst 4, 1) := by decide +kernel
theorem dL_tick_260 : decode cL_tick 260 = .ok (.iaload, 1) := by decide +kernel
theorem dL_tick_261 : decode cL_tick 261 = .ok (.iconst 1, 1) := by decide +kernel
theorem dL_tick_262 : decode cL_tick 262 = .ok (.isub, 1) := by decide +kernel
theorem dL_tick_263 : decode cL_tick 263 = .ok (.dup2, 1) := by decide +kernel
theorem dL_tick_264 : decode cL_tick 264 = .ok (.iaload, 1) := by decide +kernel
theorem dL_tick_265 : decode cL_tick 265 = .ok (.iconst 1, 1) := by decide +kernel
theorem dL_tick_266 : decode cL_tick 266 = .ok (.iadd, 1) := by decide +kernel
theorem dL_tick_267 : decode cL_tick 267 = .ok (.iastore, 1) := by decide +kernel
theorem dL_tick_268 : decode cL_tick 268 = .ok (.aload 6, 2) := by decide +kernel
theorem dL_tick_270 : decode cL_tick 270 = .ok (.iconst 4, 1) := by decide +kernel
theorem dL_tick_271 : decode cL_tick 271 = .ok (.iconst 0, 1) := by decide +kernel
theorem dL_tick_272 : decode cL_tick 272 = .ok (.iastore, 1) := by decide +kernel
theorem dL_tick_273 : decode cL_tick 273 = .ok (.aload 6, 2) := by decide +kernel
theorem dL_tick_275 : decode cL_tick 275 = .ok (.iconst 5, 1) := by decide +kernel
theorem dL_tick_276 : decode cL_tick 276 = .ok (.iconst 0, 1) := by decide +kernel
theorem dL_tick_277 : decode cL_tick 277 = .ok (.iastore, 1) := by decide +kernel
theorem dL_tick_278 : decode cL_tick 278 = .ok (.aload 6, 2) := by decide +kernel
theorem dL_tick_280 : decode cL_tick 280 = .ok (.iconst 3, 1) := by decide +kernel
theorem dL_tick_281 : decode cL_tick 281 = .ok (.dup2, 1) := by decide +kernel
theorem dL_tick_282 : decode cL_tick 282 = .ok (.iaload, 1) := by decide +kernel
theorem dL_tick_283 : decode cL_tick 283 = .ok (.iconst 1, 1) := by decide +kernel
theorem dL_tick_284 : decode cL_tick 284 = .ok (.iadd, 1) := by decide +kernel
theorem dL_tick_285 : decode cL_tick 285 = .ok (.iastore, 1) := by decide +kernel
theorem dL_tick_286 : decode cL_tick 286 = .ok (.aload 6, 2) := by decide +kernel
theorem dL_tick_288 : decode cL_tick 288 = .ok (.iconst 3, 1) := by decide +kernel
theorem dL_tick_289 : decode cL_tick 289 = .ok (.iaload, 1) := by decide +kernel
theorem dL_tick_290 : decode cL_tick 290 = .ok (.sipush 192, 3) := by decide +kernel
theorem dL_tick_293 : decode cL_tick 293 = .ok (.if_icmp .ne 39, 3) := by decide +kernel
theorem dL_tick_296 : decode cL_tick 296 = .ok (.aload 6, 2) := by decide +kernel
theorem dL_tick_298 : decode cL_tick 298 = .ok (.iconst 3, 1) := by decide +kernel
theorem dL_tick_299 : decode cL_tick 299 = .ok (.iconst 0, 1) := by decide +kernel
theorem dL_tick_300 : decode cL_tick 300 = .ok (.iastore, 1) := by decide +kernel
theorem dL_tick_301 : decode cL_tick 301 = .ok (.aload 6, 2) := by decide +kernel
theorem dL_tick_303 : decode cL_tick 303 = .ok (.iconst 2, 1) := by decide +kernel
theorem dL_tick_304 : decode cL_tick 304 = .ok (.dup2, 1) := by decide +kernel
theorem dL_tick_305 : decode cL_tick 305 = .ok (.iaload, 1) := by decide +kernel
theorem dL_tick_306 : decode cL_tick 306 = .ok (.iconst 1, 1) := by decide +kernel
theorem dL_tick_307 : decode cL_tick 307 = .ok (.iadd, 1) := by decide +kernel
theorem dL_tick_308 : decode cL_tick 308 = .ok (.iastore, 1) := by decide +kernel
theorem dL_tick_309 : decode cL_tick 309 = .ok (.aload 6, 2) := by decide +kernel
theorem dL_tick_311 : decode cL_tick 311 = .ok (.iconst 1, 1) := by decide +kernel
theorem dL_tick_312 : decode cL_tick 312 = .ok (.aload 6, 2) := by decide +kernel
theorem dL_tick_314 : decode cL_tick 314 = .ok (.iconst 2, 1) := by decide +kernel
theorem dL_tick_315 : decode cL_tick 315 = .ok (.iaload, 1) := by decide +kernel
theorem dL_tick_316 : decode cL_tick 316 = .ok (.aload 6, 2) := by decide +kernel
theorem dL_tick_318 : decode cL_tick 318 = .ok (.iconst 1, 1) := by decide +kernel
theorem dL_tick_319 : decode cL_tick 319 = .ok (.iaload, 1) := by decide +kernel
theorem dL_tick_320 : decode cL_tick 320 = .ok (.if_icmp .ne 7, 3) := by decide +kernel
theorem dL_tick_323 : decode cL_tick 323 = .ok (.iconst 0, 1) := by decide +kernel
theorem dL_tick_324 : decode cL_tick 324 = .ok (.goto 7, 3) := by decide +kernel
theorem dL_tick_327 : decode cL_tick 327 = .ok (.aload 6, 2) := by decide +kernel
theorem dL_tick_329 : decode cL_tick 329 = .ok (.iconst 1, 1) := by decide +kernel
theorem dL_tick_330 : decode cL_tick 330 = .ok (.iaload, 1) := by decide +kernel
theorem dL_tick_331 : decode cL_tick 331 = .ok (.iastore, 1) := by decide +kernel
theorem dL_tick_332 : decode cL_tick 332 = .ok (.aload 6, 2) := by decide +kernel
theorem dL_tick_334 : decode cL_tick 334 = .ok (.bipush 6, 2) := by decide +kernel
theorem dL_tick_336 : decode cL_tick 336 = .ok (.iaload, 1) := by decide +kernel
theorem dL_tick_337 : decode cL_tick 337 = .ok (.iload 9, 2) := by decide +kernel
theorem dL_tick_339 : decode cL_tick 339 = .ok (.isub, 1) := by decide +kernel
theorem dL_tick_340 : decode cL_tick 340 = .ok (.ireturn, 1) := by decide +kernel
set_option maxRecDepth 20000 in
theorem ggL_memory_X6_sounds : GoodIn wsL_memory wsX6_sounds := goodIn_r _ [7, 8, 99, 100, 101, 102, 103, 104, 105, 106, 107, 108, 109] (by decide +kernel) (by decide +kernel)
set_option maxRecDepth 20000 in
theorem gL_memory_X6_sounds : GoodIn wsL_memory (wsV RL 71 RX6 yX6_sounds wsX6_sounds) := goodIn_app (goodIn_of _ (by decide +kernel)) ggL_memory_X6_sounds
set_option maxRecDepth 20000 in
theorem ggL_memory_X6_misses : GoodIn wsL_memory wsX6_misses := goodIn_r _ [12, 13, 99, 100, 101, 102, 103, 104, 105, 106, 107, 108, 109] (by decide +kernel) (by decide +kernel)
set_option maxRecDepth 20000 in
theorem gL_memory_X6_misses : GoodIn wsL_memory (wsV RL 74 RX6 yX6_misses wsX6_misses) := goodIn_app (goodIn_of _ (by decide +kernel)) ggL_memory_X6_misses
set_option maxRecDepth 20000 in
theorem ggL_memory_X6_soundNumber : GoodIn wsL_memory wsX6_soundNumber := goodIn_r _ [17, 18, 99, 100, 101, 102, 103, 104, 105, 106, 107, 108, 109] (by decide +kernel) (by decide +kernel)
set_option maxRecDepth 20000 in
theorem gL_memory_X6_soundNumber : GoodIn wsL_memory (wsV RL 77 RX6 yX6_soundNumber wsX6_soundNumber) := goodIn_app (goodIn_of _ (by decide +kernel)) ggL_memory_X6_soundNumber
set_option maxRecDepth 20000 in
theorem ggL_memory_X6_inHand : GoodIn wsL_memory wsX6_inHand := goodIn_r _ [22, 23, 24, 25, 26, 27, 28, 29, 30, 99, 100, 101, 102, 103, 104, 105, 106, 107, 108, 109, 110, 111, 112, 113, 114, 115] (by decide +kernel) (by decide +kernel)
set_option maxRecDepth 20000 in
theorem gL_memory_X6_inHand : GoodIn wsL_memory (wsV RL 80 RX6 yX6_inHand wsX6_inHand) := goodIn_app (goodIn_of _ (by decide +kernel)) ggL_memory_X6_inHand
set_option maxRecDepth 20000 in
theorem ggL_memory_X6_place : GoodIn wsL_memory wsX6_place := goodIn_r _ [34, 35, 36, 37, 38, 39, 40, 41, 42, 43, 44, 45, 46, 47, 48, 49, 99, 100, 101, 102, 103, 104, 105, 106, 107, 108, 109, 116, 117, 118, 119, 120, 121, 122] (by decide +kernel) (by decide +kernel)
set_option maxRecDepth 20000 in
theorem gL_memory_X6_place : GoodIn wsL_memory (wsV RL 83 RX6 yX6_place wsX6_place) := goodIn_app (goodIn_of _ (by decide +kernel)) ggL_memory_X6_place
set_option maxRecDepth 20000 in
theorem ggL_memory_L_uses : GoodIn wsL_memory wsL_uses := goodIn_r _ [53, 2, 54, 55, 52, 56, 57, 58, 59] (by decide +kernel) (by decide +kernel)
set_option maxRecDepth 20000 in
theorem gL_memory_L_uses : GoodIn wsL_memory (va_wsS RL 63 yL_uses wsL_uses) := goodIn_app (goodIn_of _ (by decide +kernel)) ggL_memory_L_uses
set_option maxRecDepth 20000 in
theorem ggL_memory_X6_loaded : GoodIn wsL_memory wsX6_loaded := goodIn_ca (goodIn_r _ [63, 23, 64, 65, 6, 66, 67, 68, 69, 70, 71, 72, 73, 74, 27, 75, 76, 77, 78, 79, 80, 81, 82, 99, 100, 101, 102, 103, 104, 105, 106, 107, 108, 109, 110, 111, 112, 113, 114, 115, 123] (by decide +kernel) (by decide +kernel)) (goodIn_sub (fun _ h => List.mem_cons_of_mem _ (List.mem_append_right _ h)) (by decide +kernel))
set_option maxRecDepth 20000 in
theorem gL_memory_X6_loaded : GoodIn wsL_memory (wsV RL 87 RX6 yX6_loaded wsX6_loaded) := goodIn_app (goodIn_of _ (by decide +kernel)) ggL_memory_X6_loaded
set_option maxRecDepth 20000 in
theorem ggL_memory_X6_nextUse : GoodIn wsL_memory wsX6_nextUse := goodIn_ca (goodIn_r _ [86, 35, 87, 64, 65, 6, 66, 67, 68, 69, 70, 71, 36, 37, 38, 39, 40, 41, 88, 89, 90, 91, 49, 92, 93, 94, 95, 96, 97, 98, 78, 79, 80, 81, 82, 99, 100, 101, 102, 103, 104, 105, 106, 107, 108, 109, 116, 117, 118, 119, 120, 121, 122, 124, 125, 126, 123] (by decide +kernel) (by decide +kernel)) (goodIn_sub (fun _ h => List.mem_cons_of_mem _ (List.mem_append_right _ h)) (by decide +kernel))
set_option maxRecDepth 20000 in
theorem gL_memory_X6_nextUse : GoodIn wsL_memory (wsV RL 90 RX6 yX6_nextUse wsX6_nextUse) := goodIn_app (goodIn_of _ (by decide +kernel)) ggL_memory_X6_nextUse
theorem dL_memory_0 : decode cL_memory 0 = .ok (.aload 6, 2) := by decide +kernel
theorem dL_memory_2 : decode cL_memory 2 = .ok (.iconst 1, 1) := by decide +kernel
theorem dL_memory_3 : decode cL_memory 3 = .ok (.iaload, 1) := by decide +kernel
theorem dL_memory_4 : decode cL_memory 4 = .ok (.ifCond .le 7, 3) := by decide +kernel
theorem dL_memory_7 : decode cL_memory 7 = .ok (.iconst 1, 1) := by decide +kernel
theorem dL_memory_8 : decode cL_memory 8 = .ok (.goto 4, 3) := by decide +kernel
theorem dL_memory_11 : decode cL_memory 11 = .ok (.iconst 0, 1) := by decide +kernel
theorem dL_memory_12 : decode cL_memory 12 = .ok (.istore 9, 2) := by decide +kernel
theorem dL_memory_14 : decode cL_memory 14 = .ok (.iload 9, 2) := by decide +kernel
theorem dL_memory_16 : decode cL_memory 16 = .ok (.ifCond .eq 16, 3) := by decide +kernel
theorem dL_memory_19 : decode cL_memory 19 = .ok (.aload 8, 2) := by decide +kernel
theorem dL_memory_21 : decode cL_memory 21 = .ok (.aload 6, 2) := by decide +kernel
theorem dL_memory_23 : decode cL_memory 23 = .ok (.iconst 2, 1) := by decide +kernel
theorem dL_memory_24 : decode cL_memory 24 = .ok (.iaload, 1) := by decide +kernel
theorem dL_memory_25 : decode cL_memory 25 = .ok (.iaload, 1) := by decide +kernel
theorem dL_memory_26 : decode cL_memory 26 = .ok (.bipush 8, 2) := by decide +kernel
theorem dL_memory_28 : decode cL_memory 28 = .ok (.idiv, 1) := by decide +kernel
theorem dL_memory_29 : decode cL_memory 29 = .ok (.goto 4, 3) := by decide +kernel
theorem dL_memory_32 : decode cL_memory 32 = .ok (.iconst 0, 1) := by decide +kernel
theorem dL_memory_33 : decode cL_memory 33 = .ok (.istore 10, 2) := by decide +kernel
theorem dL_memory_35 : decode cL_memory 35 = .ok (.aload 6, 2) := by decide +kernel
theorem dL_memory_37 : decode cL_memory 37 = .ok (.iconst 2, 1) := by decide +kernel
theorem dL_memory_38 : decode cL_memory 38 = .ok (.iaload, 1) := by decide +kernel
theorem dL_memory_39 : decode cL_memory 39 = .ok (.istore 11, 2) := by decide +kernel
theorem dL_memory_41 : decode cL_memory 41 = .ok (.iload 9, 2) := by decide +kernel
theorem dL_memory_43 : decode cL_memory 43 = .ok (.ifCond .eq 29, 3) := by decide +kernel
theorem dL_memory_46 : decode cL_memory 46 = .ok (.iload 11, 2) := by decide +kernel
theorem dL_memory_48 : decode cL_memory 48 = .ok (.ifCond .le 24, 3) := by decide +kernel
theorem dL_memory_51 : decode cL_memory 51 = .ok (.aload 8, 2) := by decide +kernel
theorem dL_memory_53 : decode cL_memory 53 = .ok (.iload 11, 2) := by decide +kernel
theorem dL_memory_55 : decode cL_memory 55 = .ok (.iconst 1, 1) := by decide +kernel
theorem dL_memory_56 : decode cL_memory 56 = .ok (.isub, 1) := by decide +kernel
theorem dL_memory_57 : decode cL_memory 57 = .ok (.iaload, 1) := by decide +kernel
theorem dL_memory_58 : decode cL_memory 58 = .ok (.bipush 8, 2) := by decide +kernel
theorem dL_memory_60 : decode cL_memory 60 = .ok (.idiv, 1) := by decide +kernel
theorem dL_memory_61 : decode cL_memory 61 = .ok (.iload 10, 2) := by decide +kernel
theorem dL_memory_63 : decode cL_memory 63 = .ok (.if_icmp .ne 9, 3) := by decide +kernel
theorem dL_memory_66 : decode cL_memory 66 = .ok (.iinc 11 (-1), 3) := by decide +kernel
theorem dL_memory_69 : decode cL_memory 69 = .ok (.goto (-28), 3) := by decide +kernel
theorem dL_memory_72 : decode cL_memory 72 = .ok (.aload_n 0, 1) := by decide +kernel
theorem dL_memory_73 : decode cL_memory 73 = .ok (.invokevirtual 71, 3) := by decide +kernel
theorem dL_memory_76 : decode cL_memory 76 = .ok (.aload 6, 2) := by decide +kernel
theorem dL_memory_78 : decode cL_memory 78 = .ok (.bipush 6, 2) := by decide +kernel
theorem dL_memory_80 : decode cL_memory 80 = .ok (.iaload, 1) := by decide +kernel
theorem dL_memory_81 : decode cL_memory 81 = .ok (.if_icmp .ne 102, 3) := by decide +kernel
theorem dL_memory_84 : decode cL_memory 84 = .ok (.aload_n 0, 1) := by decide +kernel
theorem dL_memory_85 : decode cL_memory 85 = .ok (.invokevirtual 74, 3) := by decide +kernel
theorem dL_memory_88 : decode cL_memory 88 = .ok (.aload 6, 2) := by decide +kernel
theorem dL_memory_90 : decode cL_memory 90 = .ok (.bipush 7, 2) := by decide +kernel
theorem dL_memory_92 : decode cL_memory 92 = .ok (.iaload, 1) := by decide +kernel
theorem dL_memory_93 : decode cL_memory 93 = .ok (.if_icmp .ne 90, 3) := by decide +kernel
theorem dL_memory_96 : decode cL_memory 96 = .ok (.aload_n 0, 1) := by decide +kernel
theorem dL_memory_97 : decode cL_memory 97 = .ok (.invokevirtual 77, 3) := by decide +kernel
theorem dL_memory_100 : decode cL_memory 100 = .ok (.aload 6, 2) := by decide +kernel
theorem dL_memory_102 : decode cL_memory 102 = .ok (.bipush 8, 2) := by decide +kernel
theorem dL_memory_104 : decode cL_memory 104 = .ok (.iaload, 1) := by decide +kernel
theorem dL_memory_105 : decode cL_memory 105 = .ok (.if_icmp .ne 78, 3) := by decide +kernel
theorem dL_memory_108 : decode cL_memory 108 = .ok (.aload_n 0, 1) := by decide +kernel
theorem dL_memory_109 : decode cL_memory 109 = .ok (.invokevirtual 80, 3) := by decide +kernel
theorem dL_memory_112 : decode cL_memory 112 = .ok (.aload 6, 2) := by decide +kernel
theorem dL_memory_114 : decode cL_memory 114 = .ok (.iconst 4, 1) := by decide +kernel
theorem dL_memory_115 : decode cL_memory 115 = .ok (.iaload, 1) := by decide +kernel
theorem dL_memory_116 : decode cL_memory 116 = .ok (.ifCond .ne 7, 3) := by decide +kernel
theorem dL_memory_119 : decode cL_memory 119 = .ok (.iconst (-1), 1) := by decide +kernel
theorem dL_memory_120 : decode cL_memory 120 = .ok (.goto 18, 3) := by decide +kernel
theorem dL_memory_123 : decode cL_memory 123 = .ok (.bipush 10, 2) := by decide +kernel
theorem dL_memory_125 : decode cL_memory 125 = .ok (.aload 6, 2) := by decide +kernel
theorem dL_memory_127 : decode cL_memory 127 = .ok (.iconst 4, 1) := by decide +kernel
theorem dL_memory_128 : decode cL_memory 128 = .ok (.iaload, 1) := by decide +kernel
theorem dL_memory_129 : decode cL_memory 129 = .ok (.imul, 1) := by decide +kernel
theorem dL_memory_130 : decode cL_memory 130 = .ok (.bipush 10, 2) := by decide +kernel
theorem dL_memory_132 : decode cL_memory 132 = .ok (.isub, 1) := by decide +kernel
theorem dL_memory_133 : decode cL_memory 133 = .ok (.aload 6, 2) := by decide +kernel
theorem dL_memory_135 : decode cL_memory 135 = .ok (.iconst 5, 1) := by decide +kernel
theorem dL_memory_136 : decode cL_memory 136 = .ok (.iaload, 1) := by decide +kernel
theorem dL_memory_137 : decode cL_memory 137 = .ok (.iadd, 1) := by decide +kernel
theorem dL_memory_138 : decode cL_memory 138 = .ok (.if_icmp .ne 45, 3) := by decide +kernel
theorem dL_memory_141 : decode cL_memory 141 = .ok (.aload_n 0, 1) := by decide +kernel
theorem dL_memory_142 : decode cL_memory 142 = .ok (.invokevirtual 83, 3) := by decide +kernel
theorem dL_memory_145 : decode cL_memory 145 = .ok (.iload 9, 2) := by decide +kernel
theorem dL_memory_147 : decode cL_memory 147 = .ok (.ifCond .eq 28, 3) := by decide +kernel
theorem dL_memory_150 : decode cL_memory 150 = .ok (.ldc 86, 2) := by decide +kernel
theorem dL_memory_152 : decode cL_memory 152 = .ok (.iload 10, 2) := by decide +kernel
theorem dL_memory_154 : decode cL_memory 154 = .ok (.imul, 1) := by decide +kernel
theorem dL_memory_155 : decode cL_memory 155 = .ok (.sipush 1000, 3) := by decide +kernel
theorem dL_memory_158 : decode cL_memory 158 = .ok (.aload 6, 2) := by decide +kernel
theorem dL_memory_160 : decode cL_memory 160 = .ok (.iconst 2, 1) := by decide +kernel
theorem dL_memory_161 : decode cL_memory 161 = .ok (.iaload, 1) := by decide +kernel
theorem dL_memory_162 : decode cL_memory 162 = .ok (.iload 11, 2) := by decide +kernel
theorem dL_memory_164 : decode cL_memory 164 = .ok (.isub, 1) := by decide +kernel
theorem dL_memory_165 : decode cL_memory 165 = .ok (.imul, 1) := by decide +kernel
theorem dL_memory_166 : decode cL_memory 166 = .ok (.iadd, 1) := by decide +kernel
theorem dL_memory_167 : decode cL_memory 167 = .ok (.aload 6, 2) := by decide +kernel
theorem dL_memory_169 : decode cL_memory 169 = .ok (.iconst 3, 1) := by decide +kernel
theorem dL_memory_170 : decode cL_memory 170 = .ok (.iaload, 1) := by decide +kernel
theorem dL_memory_171 : decode cL_memory 171 = .ok (.iadd, 1) := by decide +kernel
theorem dL_memory_172 : decode cL_memory 172 = .ok (.goto 4, 3) := by decide +kernel
theorem dL_memory_175 : decode cL_memory 175 = .ok (.iconst (-1), 1) := by decide +kernel
theorem dL_memory_176 : decode cL_memory 176 = .ok (.if_icmp .ne 7, 3) := by decide +kernel
theorem dL_memory_179 : decode cL_memory 179 = .ok (.iconst 1, 1) := by decide +kernel
theorem dL_memory_180 : decode cL_memory 180 = .ok (.goto 4, 3) := by decide +kernel
theorem dL_memory_183 : decode cL_memory 183 = .ok (.iconst 0, 1) := by decide +kernel
theorem dL_memory_184 : decode cL_memory 184 = .ok (.istore 12, 2) := by decide +kernel
theorem dL_memory_186 : decode cL_memory 186 = .ok (.iload 9, 2) := by decide +kernel
theorem dL_memory_188 : decode cL_memory 188 = .ok (.ifCond .eq 19, 3) := by decide +kernel
theorem dL_memory_191 : decode cL_memory 191 = .ok (.aload_n 1, 1) := by decide +kernel
theorem dL_memory_192 : decode cL_memory 192 = .ok (.aload_n 2, 1) := by decide +kernel
theorem dL_memory_193 : decode cL_memory 193 = .ok (.aload_n 3, 1) := by decide +kernel
theorem dL_memory_194 : decode cL_memory 194 = .ok (.aload 4, 2) := by decide +kernel
theorem dL_memory_196 : decode cL_memory 196 = .ok (.aload 5, 2) := by decide +kernel
theorem dL_memory_198 : decode cL_memory 198 = .ok (.aload 6, 2) := by decide +kernel
theorem dL_memory_200 : decode cL_memory 200 = .ok (.aload 7, 2) := by decide +kernel
theorem dL_memory_202 : decode cL_memory 202 = .ok (.aload 8, 2) := by decide +kernel
theorem dL_memory_204 : decode cL_memory 204 = .ok (.invokestatic 63, 3) := by decide +kernel
theorem dL_memory_207 : decode cL_memory 207 = .ok (.iconst 0, 1) := by decide +kernel
theorem dL_memory_208 : decode cL_memory 208 = .ok (.istore 13, 2) := by decide +kernel
theorem dL_memory_210 : decode cL_memory 210 = .ok (.iload 13, 2) := by decide +kernel
