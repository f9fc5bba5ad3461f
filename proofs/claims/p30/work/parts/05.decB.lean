set_option maxRecDepth 20000 in
theorem ggX6_init_X4_init : GoodIn wsX6_init wsX4_init := goodIn_r _ [26, 27, 2, 3, 28, 29, 30, 31, 32, 33, 34, 35, 36, 37, 38, 39, 40, 125, 96, 97, 98, 99, 100, 101] (by decide +kernel) (by decide +kernel)
set_option maxRecDepth 20000 in
theorem gX6_init_X4_init_n9 : GoodIn wsX6_init (wsX4_init) := ggX6_init_X4_init
set_option maxRecDepth 20000 in
theorem ggX6_init_X0_init : GoodIn wsX6_init wsX0_init := goodIn_r _ [43, 44, 2, 3, 45, 46, 5, 6, 25, 26, 27, 28, 29, 30, 31, 32, 33, 34, 35, 36, 37, 38, 39, 40, 107, 108, 109, 96, 97, 98, 99, 100, 101, 125] (by decide +kernel) (by decide +kernel)
set_option maxRecDepth 20000 in
theorem gX6_init_X0_init : GoodIn wsX6_init (wsX0_init) := ggX6_init_X0_init
set_option maxRecDepth 20000 in
theorem ggX6_init_X3_init : GoodIn wsX6_init wsX3_init := goodIn_r _ [48, 49, 2, 3, 50, 29, 30, 51, 52, 53, 54, 36, 37, 38, 39, 40, 125, 110, 111, 112, 113, 114, 115, 116, 117, 118, 119] (by decide +kernel) (by decide +kernel)
set_option maxRecDepth 20000 in
theorem gX6_init_X3_init_n25 : GoodIn wsX6_init (wsX3_init) := ggX6_init_X3_init
set_option maxRecDepth 20000 in
theorem ggX6_init_X5_init : GoodIn wsX6_init wsX5_init := goodIn_r _ [56, 57, 2, 3, 58, 29, 30, 59, 60, 36, 37, 38, 39, 40, 125, 120, 121, 122, 123] (by decide +kernel) (by decide +kernel)
set_option maxRecDepth 20000 in
theorem gX6_init_X5_init_n32 : GoodIn wsX6_init (wsX5_init) := ggX6_init_X5_init
set_option maxRecDepth 20000 in
theorem ggX6_init_X1_init : GoodIn wsX6_init wsX1_init := goodIn_r _ [62, 63, 2, 3, 64, 29, 30, 65, 66, 36, 37, 38, 39, 40, 125, 124] (by decide +kernel) (by decide +kernel)
set_option maxRecDepth 20000 in
theorem gX6_init_X1_init_n39 : GoodIn wsX6_init (wsX1_init) := ggX6_init_X1_init
set_option maxRecDepth 20000 in
theorem ggX6_init_X2_put : GoodIn wsX6_init wsX2_put := goodIn_r _ [70, 40, 125] (by decide +kernel) (by decide +kernel)
set_option maxRecDepth 20000 in
theorem gX6_init_X2_put : GoodIn wsX6_init (wsV RX6 48 RX2 yX2_put wsX2_put) := goodIn_app (goodIn_of _ (by decide +kernel)) ggX6_init_X2_put
set_option maxRecDepth 20000 in
theorem ggX6_init_X4_startRing : GoodIn wsX6_init wsX4_startRing := goodIn_r _ [74, 75, 76, 77, 78, 6, 79, 32, 33, 80, 68, 69, 30, 70, 40, 81, 82, 83, 84, 31, 85, 86, 87, 88, 89, 90, 91, 92, 93, 94, 95, 96, 97, 98, 99, 100, 101, 125] (by decide +kernel) (by decide +kernel)
set_option maxRecDepth 20000 in
theorem gX6_init_X4_startRing : GoodIn wsX6_init (wsV RX6 54 RX4 yX4_startRing wsX4_startRing) := goodIn_app (goodIn_of _ (by decide +kernel)) ggX6_init_X4_startRing
theorem dX6_init_0 : decode cX6_init 0 = .ok (.aload_n 0, 1) := by decide +kernel
theorem dX6_init_1 : decode cX6_init 1 = .ok (.invokespecial 1, 3) := by decide +kernel
theorem dX6_init_4 : decode cX6_init 4 = .ok (.aload_n 0, 1) := by decide +kernel
theorem dX6_init_5 : decode cX6_init 5 = .ok (.new 7, 3) := by decide +kernel
theorem dX6_init_8 : decode cX6_init 8 = .ok (.dup, 1) := by decide +kernel
theorem dX6_init_9 : decode cX6_init 9 = .ok (.invokespecial 9, 3) := by decide +kernel
theorem dX6_init_12 : decode cX6_init 12 = .ok (.putfield 10, 3) := by decide +kernel
theorem dX6_init_15 : decode cX6_init 15 = .ok (.aload_n 0, 1) := by decide +kernel
theorem dX6_init_16 : decode cX6_init 16 = .ok (.new 16, 3) := by decide +kernel
theorem dX6_init_19 : decode cX6_init 19 = .ok (.dup, 1) := by decide +kernel
theorem dX6_init_20 : decode cX6_init 20 = .ok (.invokespecial 18, 3) := by decide +kernel
theorem dX6_init_23 : decode cX6_init 23 = .ok (.putfield 19, 3) := by decide +kernel
theorem dX6_init_26 : decode cX6_init 26 = .ok (.aload_n 0, 1) := by decide +kernel
theorem dX6_init_27 : decode cX6_init 27 = .ok (.new 23, 3) := by decide +kernel
theorem dX6_init_30 : decode cX6_init 30 = .ok (.dup, 1) := by decide +kernel
theorem dX6_init_31 : decode cX6_init 31 = .ok (.invokespecial 25, 3) := by decide +kernel
theorem dX6_init_34 : decode cX6_init 34 = .ok (.putfield 26, 3) := by decide +kernel
theorem dX6_init_37 : decode cX6_init 37 = .ok (.aload_n 0, 1) := by decide +kernel
theorem dX6_init_38 : decode cX6_init 38 = .ok (.new 30, 3) := by decide +kernel
theorem dX6_init_41 : decode cX6_init 41 = .ok (.dup, 1) := by decide +kernel
theorem dX6_init_42 : decode cX6_init 42 = .ok (.invokespecial 32, 3) := by decide +kernel
theorem dX6_init_45 : decode cX6_init 45 = .ok (.putfield 33, 3) := by decide +kernel
theorem dX6_init_48 : decode cX6_init 48 = .ok (.aload_n 0, 1) := by decide +kernel
theorem dX6_init_49 : decode cX6_init 49 = .ok (.new 37, 3) := by decide +kernel
theorem dX6_init_52 : decode cX6_init 52 = .ok (.dup, 1) := by decide +kernel
theorem dX6_init_53 : decode cX6_init 53 = .ok (.invokespecial 39, 3) := by decide +kernel
theorem dX6_init_56 : decode cX6_init 56 = .ok (.putfield 40, 3) := by decide +kernel
theorem dX6_init_59 : decode cX6_init 59 = .ok (.aload_n 0, 1) := by decide +kernel
theorem dX6_init_60 : decode cX6_init 60 = .ok (.getfield 10, 3) := by decide +kernel
theorem dX6_init_63 : decode cX6_init 63 = .ok (.getfield 44, 3) := by decide +kernel
theorem dX6_init_66 : decode cX6_init 66 = .ok (.iconst 0, 1) := by decide +kernel
theorem dX6_init_67 : decode cX6_init 67 = .ok (.bipush 10, 2) := by decide +kernel
theorem dX6_init_69 : decode cX6_init 69 = .ok (.invokevirtual 48, 3) := by decide +kernel
theorem dX6_init_72 : decode cX6_init 72 = .ok (.aload_n 0, 1) := by decide +kernel
theorem dX6_init_73 : decode cX6_init 73 = .ok (.getfield 10, 3) := by decide +kernel
theorem dX6_init_76 : decode cX6_init 76 = .ok (.getfield 44, 3) := by decide +kernel
theorem dX6_init_79 : decode cX6_init 79 = .ok (.iconst 1, 1) := by decide +kernel
theorem dX6_init_80 : decode cX6_init 80 = .ok (.bipush 20, 2) := by decide +kernel
theorem dX6_init_82 : decode cX6_init 82 = .ok (.invokevirtual 48, 3) := by decide +kernel
theorem dX6_init_85 : decode cX6_init 85 = .ok (.aload_n 0, 1) := by decide +kernel
theorem dX6_init_86 : decode cX6_init 86 = .ok (.getfield 10, 3) := by decide +kernel
theorem dX6_init_89 : decode cX6_init 89 = .ok (.getfield 44, 3) := by decide +kernel
theorem dX6_init_92 : decode cX6_init 92 = .ok (.iconst 2, 1) := by decide +kernel
theorem dX6_init_93 : decode cX6_init 93 = .ok (.bipush 13, 2) := by decide +kernel
theorem dX6_init_95 : decode cX6_init 95 = .ok (.invokevirtual 48, 3) := by decide +kernel
theorem dX6_init_98 : decode cX6_init 98 = .ok (.aload_n 0, 1) := by decide +kernel
theorem dX6_init_99 : decode cX6_init 99 = .ok (.getfield 10, 3) := by decide +kernel
theorem dX6_init_102 : decode cX6_init 102 = .ok (.bipush 6, 2) := by decide +kernel
theorem dX6_init_104 : decode cX6_init 104 = .ok (.invokevirtual 54, 3) := by decide +kernel
theorem dX6_init_107 : decode cX6_init 107 = .ok (.return_, 1) := by decide +kernel
set_option maxRecDepth 20000 in
theorem ggX6_begin_X6_checkArgument : GoodIn wsX6_begin wsX6_checkArgument := goodIn_ca (goodIn_r _ [7, 8, 9] (by decide +kernel) (by decide +kernel)) (goodIn_sub (fun _ h => List.mem_cons_of_mem _ (List.mem_append_right _ h)) (by decide +kernel))
set_option maxRecDepth 20000 in
theorem gX6_begin_X6_checkArgument : GoodIn wsX6_begin (va_wsS RX6 58 yX6_checkArgument wsX6_checkArgument) := goodIn_app (goodIn_of _ (by decide +kernel)) ggX6_begin_X6_checkArgument
set_option maxRecDepth 20000 in
theorem ggX6_begin_X0_keep : GoodIn wsX6_begin wsX0_keep := goodIn_r _ [14, 15, 16, 17, 18, 19, 20, 21, 22, 23, 13, 24, 25, 26, 27, 28, 29, 30, 31, 32, 33, 34, 35, 36, 37, 38, 39, 40, 41, 42, 43, 44, 45, 46, 47, 48, 49, 50, 51, 82, 83, 84, 76, 77, 78, 79, 80, 81, 85] (by decide +kernel) (by decide +kernel)
set_option maxRecDepth 20000 in
theorem gX6_begin_X0_keep : GoodIn wsX6_begin (wsV RX6 66 RX0 yX0_keep wsX0_keep) := goodIn_app (goodIn_of _ (by decide +kernel)) ggX6_begin_X0_keep
set_option maxRecDepth 20000 in
theorem ggX6_begin_X4_startRing : GoodIn wsX6_begin wsX4_startRing := goodIn_r _ [55, 31, 56, 57, 58, 29, 59, 33, 34, 60, 48, 49, 40, 50, 46, 61, 62, 63, 64, 36, 51, 43, 44, 45, 65, 6, 66, 67, 68, 69, 70, 76, 77, 78, 79, 80, 81, 85] (by decide +kernel) (by decide +kernel)
set_option maxRecDepth 20000 in
theorem gX6_begin_X4_startRing : GoodIn wsX6_begin (wsV RX6 54 RX4 yX4_startRing wsX4_startRing) := goodIn_app (goodIn_of _ (by decide +kernel)) ggX6_begin_X4_startRing
theorem dX6_begin_0 : decode cX6_begin 0 = .ok (.iload_n 1, 1) := by decide +kernel
theorem dX6_begin_1 : decode cX6_begin 1 = .ok (.iconst 3, 1) := by decide +kernel
theorem dX6_begin_2 : decode cX6_begin 2 = .ok (.if_icmp .lt 13, 3) := by decide +kernel
theorem dX6_begin_5 : decode cX6_begin 5 = .ok (.iload_n 1, 1) := by decide +kernel
theorem dX6_begin_6 : decode cX6_begin 6 = .ok (.bipush 12, 2) := by decide +kernel
theorem dX6_begin_8 : decode cX6_begin 8 = .ok (.if_icmp .gt 7, 3) := by decide +kernel
theorem dX6_begin_11 : decode cX6_begin 11 = .ok (.iconst 1, 1) := by decide +kernel
theorem dX6_begin_12 : decode cX6_begin 12 = .ok (.goto 4, 3) := by decide +kernel
theorem dX6_begin_15 : decode cX6_begin 15 = .ok (.iconst 0, 1) := by decide +kernel
theorem dX6_begin_16 : decode cX6_begin 16 = .ok (.invokestatic 58, 3) := by decide +kernel
theorem dX6_begin_19 : decode cX6_begin 19 = .ok (.aload_n 0, 1) := by decide +kernel
theorem dX6_begin_20 : decode cX6_begin 20 = .ok (.getfield 10, 3) := by decide +kernel
theorem dX6_begin_23 : decode cX6_begin 23 = .ok (.getfield 62, 3) := by decide +kernel
theorem dX6_begin_26 : decode cX6_begin 26 = .ok (.istore_n 2, 1) := by decide +kernel
theorem dX6_begin_27 : decode cX6_begin 27 = .ok (.aload_n 0, 1) := by decide +kernel
theorem dX6_begin_28 : decode cX6_begin 28 = .ok (.getfield 19, 3) := by decide +kernel
theorem dX6_begin_31 : decode cX6_begin 31 = .ok (.aload_n 0, 1) := by decide +kernel
theorem dX6_begin_32 : decode cX6_begin 32 = .ok (.getfield 10, 3) := by decide +kernel
theorem dX6_begin_35 : decode cX6_begin 35 = .ok (.invokevirtual 66, 3) := by decide +kernel
theorem dX6_begin_38 : decode cX6_begin 38 = .ok (.aload_n 0, 1) := by decide +kernel
theorem dX6_begin_39 : decode cX6_begin 39 = .ok (.getfield 10, 3) := by decide +kernel
theorem dX6_begin_42 : decode cX6_begin 42 = .ok (.iload_n 1, 1) := by decide +kernel
theorem dX6_begin_43 : decode cX6_begin 43 = .ok (.invokevirtual 54, 3) := by decide +kernel
theorem dX6_begin_46 : decode cX6_begin 46 = .ok (.iload_n 2, 1) := by decide +kernel
theorem dX6_begin_47 : decode cX6_begin 47 = .ok (.ireturn, 1) := by decide +kernel
set_option maxRecDepth 20000 in
theorem ggX6_addRound_X6_isGoal : GoodIn wsX6_addRound wsX6_isGoal := goodIn_r _ [7] (by decide +kernel) (by decide +kernel)
set_option maxRecDepth 20000 in
theorem gX6_addRound_X6_isGoal : GoodIn wsX6_addRound (va_wsS RX6 70 yX6_isGoal wsX6_isGoal) := goodIn_app (goodIn_of _ (by decide +kernel)) ggX6_addRound_X6_isGoal
set_option maxRecDepth 20000 in
theorem ggX6_addRound_X6_checkArgument : GoodIn wsX6_addRound wsX6_checkArgument := goodIn_ca (goodIn_r _ [10, 11, 12] (by decide +kernel) (by decide +kernel)) (goodIn_sub (fun _ h => List.mem_cons_of_mem _ (List.mem_append_left _ (List.mem_append_left _ (List.mem_append_right _ h)))) (by decide +kernel))
set_option maxRecDepth 20000 in
theorem gX6_addRound_X6_checkArgument : GoodIn wsX6_addRound (va_wsS RX6 58 yX6_checkArgument wsX6_checkArgument) := goodIn_app (goodIn_of _ (by decide +kernel)) ggX6_addRound_X6_checkArgument
set_option maxRecDepth 20000 in
theorem ggX6_addRound_X6_checkRoom : GoodIn wsX6_addRound wsX6_checkRoom := goodIn_ca (goodIn_r _ [16, 2, 17, 18, 19, 6, 20, 21, 22, 141, 142, 143, 144, 145, 146, 147, 148, 149, 150, 151] (by decide +kernel) (by decide +kernel)) (goodIn_sub (fun _ h => List.mem_cons_of_mem _ (List.mem_append_left _ (List.mem_append_right _ h))) (by decide +kernel))
set_option maxRecDepth 20000 in
theorem gX6_addRound_X6_checkRoom : GoodIn wsX6_addRound (wsV RX6 74 RX6 yX6_checkRoom wsX6_checkRoom) := goodIn_app (goodIn_of _ (by decide +kernel)) ggX6_addRound_X6_checkRoom
set_option maxRecDepth 20000 in
theorem ggX6_addRound_X4_lastTotal : GoodIn wsX6_addRound wsX4_lastTotal := goodIn_r _ [27, 28, 29, 30, 31, 32, 33, 34, 35, 146, 147, 148, 149, 150, 151, 152] (by decide +kernel) (by decide +kernel)
set_option maxRecDepth 20000 in
theorem gX6_addRound_X4_lastTotal : GoodIn wsX6_addRound (wsV RX6 77 RX4 yX4_lastTotal wsX4_lastTotal) := goodIn_app (goodIn_of _ (by decide +kernel)) ggX6_addRound_X4_lastTotal
set_option maxRecDepth 20000 in
theorem ggX6_addRound_X5_spread : GoodIn wsX6_addRound wsX5_spread := goodIn_r _ [40, 41, 42, 43, 44, 45, 46, 39, 47, 48, 49, 50, 51, 52, 53, 54, 55, 33, 56, 35, 153, 154, 155, 156, 152] (by decide +kernel) (by decide +kernel)
set_option maxRecDepth 20000 in
theorem gX6_addRound_X5_spread : GoodIn wsX6_addRound (wsV RX6 81 RX5 yX5_spread wsX5_spread) := goodIn_app (goodIn_of _ (by decide +kernel)) ggX6_addRound_X5_spread
set_option maxRecDepth 20000 in
theorem ggX6_addRound_X6_checkPossible : GoodIn wsX6_addRound wsX6_checkPossible := goodIn_ca (goodIn_r _ [59, 60, 61] (by decide +kernel) (by decide +kernel)) (goodIn_sub (fun _ h => List.mem_cons_of_mem _ (List.mem_append_right _ h)) (by decide +kernel))
set_option maxRecDepth 20000 in
theorem gX6_addRound_X6_checkPossible : GoodIn wsX6_addRound (va_wsS RX6 85 yX6_checkPossible wsX6_checkPossible) := goodIn_app (goodIn_of _ (by decide +kernel)) ggX6_addRound_X6_checkPossible
set_option maxRecDepth 20000 in
theorem ggX6_addRound_X0_keep : GoodIn wsX6_addRound wsX0_keep := goodIn_r _ [66, 67, 68, 69, 70, 71, 72, 73, 74, 75, 65, 76, 77, 78, 79, 80, 26, 81, 29, 82, 83, 28, 84, 85, 86, 87, 88, 33, 89, 90, 31, 32, 34, 35, 91, 54, 55, 56, 30, 157, 158, 159, 146, 147, 148, 149, 150, 151, 152] (by decide +kernel) (by decide +kernel)
set_option maxRecDepth 20000 in
theorem gX6_addRound_X0_keep : GoodIn wsX6_addRound (wsV RX6 66 RX0 yX0_keep wsX0_keep) := goodIn_app (goodIn_of _ (by decide +kernel)) ggX6_addRound_X0_keep
set_option maxRecDepth 20000 in
theorem ggX6_addRound_X6_addBest : GoodIn wsX6_addRound wsX6_addBest := goodIn_r _ [95, 96, 2, 17, 1, 97, 98, 99, 100, 101, 102, 103, 104, 105, 31, 32, 33, 34, 35, 106, 54, 55, 56, 107, 6, 108, 109, 110, 111, 112, 113, 114, 115, 116, 117, 118, 119, 120, 121, 122, 123, 124, 125, 126, 127, 128, 129, 26, 130, 83, 29, 28, 131, 132, 133, 134, 135, 136, 85, 30, 137, 138, 139, 140, 141, 142, 143, 144, 145, 146, 147, 148, 149, 150, 151, 160, 152, 153, 154, 155, 156] (by decide +kernel) (by decide +kernel)
set_option maxRecDepth 20000 in
theorem gX6_addRound_X6_addBest : GoodIn wsX6_addRound (wsV RX6 88 RX6 yX6_addBest wsX6_addBest) := goodIn_app (goodIn_of _ (by decide +kernel)) ggX6_addRound_X6_addBest
theorem dX6_addRound_0 : decode cX6_addRound 0 = .ok (.iload_n 1, 1) := by decide +kernel
theorem dX6_addRound_1 : decode cX6_addRound 1 = .ok (.invokestatic 70, 3) := by decide +kernel
theorem dX6_addRound_4 : decode cX6_addRound 4 = .ok (.invokestatic 58, 3) := by decide +kernel
theorem dX6_addRound_7 : decode cX6_addRound 7 = .ok (.aload_n 0, 1) := by decide +kernel
theorem dX6_addRound_8 : decode cX6_addRound 8 = .ok (.invokevirtual 74, 3) := by decide +kernel
theorem dX6_addRound_11 : decode cX6_addRound 11 = .ok (.aload_n 0, 1) := by decide +kernel
theorem dX6_addRound_12 : decode cX6_addRound 12 = .ok (.getfield 33, 3) := by decide +kernel
theorem dX6_addRound_15 : decode cX6_addRound 15 = .ok (.aload_n 0, 1) := by decide +kernel
theorem dX6_addRound_16 : decode cX6_addRound 16 = .ok (.getfield 10, 3) := by decide +kernel
theorem dX6_addRound_19 : decode cX6_addRound 19 = .ok (.invokevirtual 77, 3) := by decide +kernel
theorem dX6_addRound_22 : decode cX6_addRound 22 = .ok (.iload_n 1, 1) := by decide +kernel
theorem dX6_addRound_23 : decode cX6_addRound 23 = .ok (.invokevirtual 81, 3) := by decide +kernel
theorem dX6_addRound_26 : decode cX6_addRound 26 = .ok (.invokestatic 85, 3) := by decide +kernel
theorem dX6_addRound_29 : decode cX6_addRound 29 = .ok (.aload_n 0, 1) := by decide +kernel
theorem dX6_addRound_30 : decode cX6_addRound 30 = .ok (.getfield 19, 3) := by decide +kernel
theorem dX6_addRound_33 : decode cX6_addRound 33 = .ok (.aload_n 0, 1) := by decide +kernel
theorem dX6_addRound_34 : decode cX6_addRound 34 = .ok (.getfield 10, 3) := by decide +kernel
theorem dX6_addRound_37 : decode cX6_addRound 37 = .ok (.invokevirtual 66, 3) := by decide +kernel
theorem dX6_addRound_40 : decode cX6_addRound 40 = .ok (.aload_n 0, 1) := by decide +kernel
theorem dX6_addRound_41 : decode cX6_addRound 41 = .ok (.invokevirtual 88, 3) := by decide +kernel
theorem dX6_addRound_44 : decode cX6_addRound 44 = .ok (.ireturn, 1) := by decide +kernel
set_option maxRecDepth 20000 in
theorem ggX6_addShifted_X6_isGoal : GoodIn wsX6_addShifted wsX6_isGoal := goodIn_r _ [7] (by decide +kernel) (by decide +kernel)
set_option maxRecDepth 20000 in
theorem gX6_addShifted_X6_isGoal : GoodIn wsX6_addShifted (va_wsS RX6 70 yX6_isGoal wsX6_isGoal) := goodIn_app (goodIn_of _ (by decide +kernel)) ggX6_addShifted_X6_isGoal
set_option maxRecDepth 20000 in
theorem ggX6_addShifted_X6_isShift : GoodIn wsX6_addShifted wsX6_isShift := goodIn_r _ [10] (by decide +kernel) (by decide +kernel)
set_option maxRecDepth 20000 in
theorem gX6_addShifted_X6_isShift : GoodIn wsX6_addShifted (va_wsS RX6 91 yX6_isShift wsX6_isShift) := goodIn_app (goodIn_of _ (by decide +kernel)) ggX6_addShifted_X6_isShift
set_option maxRecDepth 20000 in
theorem ggX6_addShifted_X6_checkArgument : GoodIn wsX6_addShifted wsX6_checkArgument := goodIn_ca (goodIn_r _ [13, 14, 15] (by decide +kernel) (by decide +kernel)) (goodIn_sub (fun _ h => List.mem_cons_of_mem _ (List.mem_append_left _ (List.mem_append_left _ (List.mem_append_right _ h)))) (by decide +kernel))
set_option maxRecDepth 20000 in
theorem gX6_addShifted_X6_checkArgument : GoodIn wsX6_addShifted (va_wsS RX6 58 yX6_checkArgument wsX6_checkArgument) := goodIn_app (goodIn_of _ (by decide +kernel)) ggX6_addShifted_X6_checkArgument
set_option maxRecDepth 20000 in
theorem ggX6_addShifted_X6_checkRoom : GoodIn wsX6_addShifted wsX6_checkRoom := goodIn_ca (goodIn_r _ [19, 2, 20, 21, 22, 6, 23, 24, 25, 138, 139, 140, 141, 142, 143, 144, 145, 146, 147, 148] (by decide +kernel) (by decide +kernel)) (goodIn_sub (fun _ h => List.mem_cons_of_mem _ (List.mem_append_left _ (List.mem_append_right _ h))) (by decide +kernel))
set_option maxRecDepth 20000 in
theorem gX6_addShifted_X6_checkRoom : GoodIn wsX6_addShifted (wsV RX6 74 RX6 yX6_checkRoom wsX6_checkRoom) := goodIn_app (goodIn_of _ (by decide +kernel)) ggX6_addShifted_X6_checkRoom
set_option maxRecDepth 20000 in
theorem ggX6_addShifted_X4_lastTotal : GoodIn wsX6_addShifted wsX4_lastTotal := goodIn_r _ [30, 31, 32, 33, 34, 35, 36, 37, 38, 143, 144, 145, 146, 147, 148, 149] (by decide +kernel) (by decide +kernel)
set_option maxRecDepth 20000 in
theorem gX6_addShifted_X4_lastTotal : GoodIn wsX6_addShifted (wsV RX6 77 RX4 yX4_lastTotal wsX4_lastTotal) := goodIn_app (goodIn_of _ (by decide +kernel)) ggX6_addShifted_X4_lastTotal
set_option maxRecDepth 20000 in
theorem ggX6_addShifted_X5_spread : GoodIn wsX6_addShifted wsX5_spread := goodIn_r _ [43, 44, 45, 46, 47, 48, 49, 42, 50, 51, 52, 53, 54, 55, 56, 57, 58, 36, 59, 38, 150, 151, 152, 153, 149] (by decide +kernel) (by decide +kernel)
set_option maxRecDepth 20000 in
theorem gX6_addShifted_X5_spread : GoodIn wsX6_addShifted (wsV RX6 81 RX5 yX5_spread wsX5_spread) := goodIn_app (goodIn_of _ (by decide +kernel)) ggX6_addShifted_X5_spread
set_option maxRecDepth 20000 in
theorem ggX6_addShifted_X6_checkPossible : GoodIn wsX6_addShifted wsX6_checkPossible := goodIn_ca (goodIn_r _ [62, 63, 64] (by decide +kernel) (by decide +kernel)) (goodIn_sub (fun _ h => List.mem_cons_of_mem _ (List.mem_append_right _ h)) (by decide +kernel))
set_option maxRecDepth 20000 in
theorem gX6_addShifted_X6_checkPossible : GoodIn wsX6_addShifted (va_wsS RX6 85 yX6_checkPossible wsX6_checkPossible) := goodIn_app (goodIn_of _ (by decide +kernel)) ggX6_addShifted_X6_checkPossible
set_option maxRecDepth 20000 in
theorem ggX6_addShifted_X0_keep : GoodIn wsX6_addShifted wsX0_keep := goodIn_r _ [69, 70, 71, 72, 73, 74, 75, 76, 77, 78, 68, 79, 80, 81, 82, 83, 29, 84, 32, 85, 86, 31, 87, 88, 89, 90, 91, 36, 92, 93, 34, 35, 37, 38, 94, 57, 58, 59, 33, 154, 155, 156, 143, 144, 145, 146, 147, 148, 149] (by decide +kernel) (by decide +kernel)
set_option maxRecDepth 20000 in
theorem gX6_addShifted_X0_keep : GoodIn wsX6_addShifted (wsV RX6 66 RX0 yX0_keep wsX0_keep) := goodIn_app (goodIn_of _ (by decide +kernel)) ggX6_addShifted_X0_keep
set_option maxRecDepth 20000 in
theorem ggX6_addShifted_X6_addPlanned : GoodIn wsX6_addShifted wsX6_addPlanned := goodIn_r _ [98, 99, 2, 20, 1, 100, 101, 102, 103, 104, 105, 106, 107, 108, 109, 110, 34, 35, 36, 37, 38, 111, 57, 58, 59, 112, 6, 113, 114, 115, 116, 117, 118, 119, 120, 121, 122, 123, 124, 125, 126, 29, 127, 86, 32, 31, 128, 129, 130, 131, 132, 133, 88, 33, 134, 135, 136, 137, 138, 139, 140, 141, 142, 143, 144, 145, 146, 147, 148, 150, 151, 152, 153, 157, 149] (by decide +kernel) (by decide +kernel)
set_option maxRecDepth 20000 in
theorem gX6_addShifted_X6_addPlanned : GoodIn wsX6_addShifted (wsV RX6 94 RX6 yX6_addPlanned wsX6_addPlanned) := goodIn_app (goodIn_of _ (by decide +kernel)) ggX6_addShifted_X6_addPlanned
theorem dX6_addShifted_0 : decode cX6_addShifted 0 = .ok (.iload_n 1, 1) := by decide +kernel
theorem dX6_addShifted_1 : decode cX6_addShifted 1 = .ok (.invokestatic 70, 3) := by decide +kernel
theorem dX6_addShifted_4 : decode cX6_addShifted 4 = .ok (.ifCond .eq 14, 3) := by decide +kernel
theorem dX6_addShifted_7 : decode cX6_addShifted 7 = .ok (.iload_n 2, 1) := by decide +kernel
theorem dX6_addShifted_8 : decode cX6_addShifted 8 = .ok (.invokestatic 91, 3) := by decide +kernel
theorem dX6_addShifted_11 : decode cX6_addShifted 11 = .ok (.ifCond .eq 7, 3) := by decide +kernel
theorem dX6_addShifted_14 : decode cX6_addShifted 14 = .ok (.iconst 1, 1) := by decide +kernel
theorem dX6_addShifted_15 : decode cX6_addShifted 15 = .ok (.goto 4, 3) := by decide +kernel
theorem dX6_addShifted_18 : decode cX6_addShifted 18 = .ok (.iconst 0, 1) := by decide +kernel
theorem dX6_addShifted_19 : decode cX6_addShifted 19 = .ok (.invokestatic 58, 3) := by decide +kernel
theorem dX6_addShifted_22 : decode cX6_addShifted 22 = .ok (.aload_n 0, 1) := by decide +kernel
theorem dX6_addShifted_23 : decode cX6_addShifted 23 = .ok (.invokevirtual 74, 3) := by decide +kernel
theorem dX6_addShifted_26 : decode cX6_addShifted 26 = .ok (.aload_n 0, 1) := by decide +kernel
theorem dX6_addShifted_27 : decode cX6_addShifted 27 = .ok (.getfield 33, 3) := by decide +kernel
theorem dX6_addShifted_30 : decode cX6_addShifted 30 = .ok (.aload_n 0, 1) := by decide +kernel
theorem dX6_addShifted_31 : decode cX6_addShifted 31 = .ok (.getfield 10, 3) := by decide +kernel
theorem dX6_addShifted_34 : decode cX6_addShifted 34 = .ok (.invokevirtual 77, 3) := by decide +kernel
theorem dX6_addShifted_37 : decode cX6_addShifted 37 = .ok (.iload_n 1, 1) := by decide +kernel
theorem dX6_addShifted_38 : decode cX6_addShifted 38 = .ok (.invokevirtual 81, 3) := by decide +kernel
theorem dX6_addShifted_41 : decode cX6_addShifted 41 = .ok (.invokestatic 85, 3) := by decide +kernel
theorem dX6_addShifted_44 : decode cX6_addShifted 44 = .ok (.aload_n 0, 1) := by decide +kernel
theorem dX6_addShifted_45 : decode cX6_addShifted 45 = .ok (.getfield 19, 3) := by decide +kernel
theorem dX6_addShifted_48 : decode cX6_addShifted 48 = .ok (.aload_n 0, 1) := by decide +kernel
theorem dX6_addShifted_49 : decode cX6_addShifted 49 = .ok (.getfield 10, 3) := by decide +kernel
theorem dX6_addShifted_52 : decode cX6_addShifted 52 = .ok (.invokevirtual 66, 3) := by decide +kernel
theorem dX6_addShifted_55 : decode cX6_addShifted 55 = .ok (.aload_n 0, 1) := by decide +kernel
theorem dX6_addShifted_56 : decode cX6_addShifted 56 = .ok (.iload_n 2, 1) := by decide +kernel
theorem dX6_addShifted_57 : decode cX6_addShifted 57 = .ok (.invokevirtual 94, 3) := by decide +kernel
theorem dX6_addShifted_60 : decode cX6_addShifted 60 = .ok (.ireturn, 1) := by decide +kernel
set_option maxRecDepth 20000 in
theorem ggX6_addMirrored_X6_isGoal : GoodIn wsX6_addMirrored wsX6_isGoal := goodIn_r _ [7] (by decide +kernel) (by decide +kernel)
set_option maxRecDepth 20000 in
theorem gX6_addMirrored_X6_isGoal : GoodIn wsX6_addMirrored (va_wsS RX6 70 yX6_isGoal wsX6_isGoal) := goodIn_app (goodIn_of _ (by decide +kernel)) ggX6_addMirrored_X6_isGoal
set_option maxRecDepth 20000 in
theorem ggX6_addMirrored_X6_checkArgument : GoodIn wsX6_addMirrored wsX6_checkArgument := goodIn_ca (goodIn_r _ [10, 11, 12] (by decide +kernel) (by decide +kernel)) (goodIn_sub (fun _ h => List.mem_cons_of_mem _ (List.mem_append_left _ (List.mem_append_left _ (List.mem_append_right _ h)))) (by decide +kernel))
set_option maxRecDepth 20000 in
theorem gX6_addMirrored_X6_checkArgument : GoodIn wsX6_addMirrored (va_wsS RX6 58 yX6_checkArgument wsX6_checkArgument) := goodIn_app (goodIn_of _ (by decide +kernel)) ggX6_addMirrored_X6_checkArgument
set_option maxRecDepth 20000 in
theorem ggX6_addMirrored_X6_checkRoom : GoodIn wsX6_addMirrored wsX6_checkRoom := goodIn_ca (goodIn_r _ [16, 2, 17, 18, 19, 6, 20, 21, 22, 135, 136, 137, 138, 139, 140, 141, 142, 143, 144, 145] (by decide +kernel) (by decide +kernel)) (goodIn_sub (fun _ h => List.mem_cons_of_mem _ (List.mem_append_left _ (List.mem_append_right _ h))) (by decide +kernel))
set_option maxRecDepth 20000 in
theorem gX6_addMirrored_X6_checkRoom : GoodIn wsX6_addMirrored (wsV RX6 74 RX6 yX6_checkRoom wsX6_checkRoom) := goodIn_app (goodIn_of _ (by decide +kernel)) ggX6_addMirrored_X6_checkRoom
set_option maxRecDepth 20000 in
theorem ggX6_addMirrored_X4_lastTotal : GoodIn wsX6_addMirrored wsX4_lastTotal := goodIn_r _ [27, 28, 29, 30, 31, 32, 33, 34, 35, 140, 141, 142, 143, 144, 145, 146] (by decide +kernel) (by decide +kernel)
set_option maxRecDepth 20000 in
theorem gX6_addMirrored_X4_lastTotal : GoodIn wsX6_addMirrored (wsV RX6 77 RX4 yX4_lastTotal wsX4_lastTotal) := goodIn_app (goodIn_of _ (by decide +kernel)) ggX6_addMirrored_X4_lastTotal
set_option maxRecDepth 20000 in
theorem ggX6_addMirrored_X5_mirror : GoodIn wsX6_addMirrored wsX5_mirror := goodIn_r _ [40, 41, 42, 43, 44, 45, 46, 47, 39, 48, 49, 50, 51, 52, 53, 54, 55, 33, 56, 35, 147, 148, 149, 150, 146] (by decide +kernel) (by decide +kernel)
set_option maxRecDepth 20000 in
theorem gX6_addMirrored_X5_mirror : GoodIn wsX6_addMirrored (wsV RX6 98 RX5 yX5_mirror wsX5_mirror) := goodIn_app (goodIn_of _ (by decide +kernel)) ggX6_addMirrored_X5_mirror
set_option maxRecDepth 20000 in
theorem ggX6_addMirrored_X6_checkPossible : GoodIn wsX6_addMirrored wsX6_checkPossible := goodIn_ca (goodIn_r _ [59, 60, 61] (by decide +kernel) (by decide +kernel)) (goodIn_sub (fun _ h => List.mem_cons_of_mem _ (List.mem_append_right _ h)) (by decide +kernel))
set_option maxRecDepth 20000 in
theorem gX6_addMirrored_X6_checkPossible : GoodIn wsX6_addMirrored (va_wsS RX6 85 yX6_checkPossible wsX6_checkPossible) := goodIn_app (goodIn_of _ (by decide +kernel)) ggX6_addMirrored_X6_checkPossible
set_option maxRecDepth 20000 in
theorem ggX6_addMirrored_X0_keep : GoodIn wsX6_addMirrored wsX0_keep := goodIn_r _ [66, 67, 68, 69, 70, 71, 72, 73, 74, 75, 65, 76, 77, 78, 79, 80, 26, 81, 29, 82, 83, 28, 84, 85, 86, 87, 88, 33, 89, 90, 31, 32, 34, 35, 91, 54, 55, 56, 30, 151, 152, 153, 140, 141, 142, 143, 144, 145, 146] (by decide +kernel) (by decide +kernel)
set_option maxRecDepth 20000 in
theorem gX6_addMirrored_X0_keep : GoodIn wsX6_addMirrored (wsV RX6 66 RX0 yX0_keep wsX0_keep) := goodIn_app (goodIn_of _ (by decide +kernel)) ggX6_addMirrored_X0_keep
set_option maxRecDepth 20000 in
theorem ggX6_addMirrored_X6_addPlanned : GoodIn wsX6_addMirrored wsX6_addPlanned := goodIn_r _ [95, 96, 2, 17, 1, 97, 98, 99, 100, 101, 102, 103, 104, 105, 106, 107, 31, 32, 33, 34, 35, 108, 54, 55, 56, 109, 6, 110, 111, 112, 113, 114, 115, 116, 117, 118, 119, 120, 121, 122, 123, 26, 124, 83, 29, 28, 125, 126, 127, 128, 129, 130, 85, 30, 131, 132, 133, 134, 135, 136, 137, 138, 139, 140, 141, 142, 143, 144, 145, 147, 148, 149, 150, 154, 146] (by decide +kernel) (by decide +kernel)
set_option maxRecDepth 20000 in
theorem gX6_addMirrored_X6_addPlanned : GoodIn wsX6_addMirrored (wsV RX6 94 RX6 yX6_addPlanned wsX6_addPlanned) := goodIn_app (goodIn_of _ (by decide +kernel)) ggX6_addMirrored_X6_addPlanned
theorem dX6_addMirrored_0 : decode cX6_addMirrored 0 = .ok (.iload_n 1, 1) := by decide +kernel
theorem dX6_addMirrored_1 : decode cX6_addMirrored 1 = .ok (.invokestatic 70, 3) := by decide +kernel
theorem dX6_addMirrored_4 : decode cX6_addMirrored 4 = .ok (.invokestatic 58, 3) := by decide +kernel
theorem dX6_addMirrored_7 : decode cX6_addMirrored 7 = .ok (.aload_n 0, 1) := by decide +kernel
theorem dX6_addMirrored_8 : decode cX6_addMirrored 8 = .ok (.invokevirtual 74, 3) := by decide +kernel
theorem dX6_addMirrored_11 : decode cX6_addMirrored 11 = .ok (.aload_n 0, 1) := by decide +kernel
theorem dX6_addMirrored_12 : decode cX6_addMirrored 12 = .ok (.getfield 33, 3) := by decide +kernel
theorem dX6_addMirrored_15 : decode cX6_addMirrored 15 = .ok (.aload_n 0, 1) := by decide +kernel
theorem dX6_addMirrored_16 : decode cX6_addMirrored 16 = .ok (.getfield 10, 3) := by decide +kernel
theorem dX6_addMirrored_19 : decode cX6_addMirrored 19 = .ok (.invokevirtual 77, 3) := by decide +kernel
theorem dX6_addMirrored_22 : decode cX6_addMirrored 22 = .ok (.iload_n 1, 1) := by decide +kernel
theorem dX6_addMirrored_23 : decode cX6_addMirrored 23 = .ok (.invokevirtual 98, 3) := by decide +kernel
theorem dX6_addMirrored_26 : decode cX6_addMirrored 26 = .ok (.invokestatic 85, 3) := by decide +kernel
theorem dX6_addMirrored_29 : decode cX6_addMirrored 29 = .ok (.aload_n 0, 1) := by decide +kernel
theorem dX6_addMirrored_30 : decode cX6_addMirrored 30 = .ok (.getfield 19, 3) := by decide +kernel
theorem dX6_addMirrored_33 : decode cX6_addMirrored 33 = .ok (.aload_n 0, 1) := by decide +kernel
theorem dX6_addMirrored_34 : decode cX6_addMirrored 34 = .ok (.getfield 10, 3) := by decide +kernel
theorem dX6_addMirrored_37 : decode cX6_addMirrored 37 = .ok (.invokevirtual 66, 3) := by decide +kernel
theorem dX6_addMirrored_40 : decode cX6_addMirrored 40 = .ok (.aload_n 0, 1) := by decide +kernel
theorem dX6_addMirrored_41 : decode cX6_addMirrored 41 = .ok (.iconst 0, 1) := by decide +kernel
theorem dX6_addMirrored_42 : decode cX6_addMirrored 42 = .ok (.invokevirtual 94, 3) := by decide +kernel
theorem dX6_addMirrored_45 : decode cX6_addMirrored 45 = .ok (.ireturn, 1) := by decide +kernel
set_option maxRecDepth 20000 in
theorem ggX6_addShape_X6_isShape : GoodIn wsX6_addShape wsX6_isShape := goodIn_r _ [8] (by decide +kernel) (by decide +kernel)
set_option maxRecDepth 20000 in
theorem gX6_addShape_X6_isShape : GoodIn wsX6_addShape (va_wsS RX6 101 yX6_isShape wsX6_isShape) := goodIn_app (goodIn_of _ (by decide +kernel)) ggX6_addShape_X6_isShape
set_option maxRecDepth 20000 in
theorem ggX6_addShape_X6_isSize : GoodIn wsX6_addShape wsX6_isSize := goodIn_r _ [11] (by decide +kernel) (by decide +kernel)
set_option maxRecDepth 20000 in
theorem gX6_addShape_X6_isSize : GoodIn wsX6_addShape (va_wsS RX6 104 yX6_isSize wsX6_isSize) := goodIn_app (goodIn_of _ (by decide +kernel)) ggX6_addShape_X6_isSize
set_option maxRecDepth 20000 in
theorem ggX6_addShape_X6_checkArgument : GoodIn wsX6_addShape wsX6_checkArgument := goodIn_ca (goodIn_r _ [14, 15, 16] (by decide +kernel) (by decide +kernel)) (goodIn_sub (fun _ h => List.mem_cons_of_mem _ (List.mem_append_right _ h)) (by decide +kernel))
set_option maxRecDepth 20000 in
theorem gX6_addShape_X6_checkArgument : GoodIn wsX6_addShape (va_wsS RX6 58 yX6_checkArgument wsX6_checkArgument) := goodIn_app (goodIn_of _ (by decide +kernel)) ggX6_addShape_X6_checkArgument
set_option maxRecDepth 20000 in
theorem ggX6_addShape_X0_keep : GoodIn wsX6_addShape wsX0_keep := goodIn_r _ [21, 22, 23, 24, 25, 26, 27, 28, 29, 30, 20, 31, 32, 33, 34, 35, 36, 37, 38, 39, 40, 41, 42, 43, 44, 45, 46, 47, 48, 49, 50, 51, 52, 53, 54, 55, 56, 57, 58, 156, 157, 158, 150, 151, 152, 153, 154, 155, 159] (by decide +kernel) (by decide +kernel)
set_option maxRecDepth 20000 in
theorem gX6_addShape_X0_keep : GoodIn wsX6_addShape (wsV RX6 66 RX0 yX0_keep wsX0_keep) := goodIn_app (goodIn_of _ (by decide +kernel)) ggX6_addShape_X0_keep
set_option maxRecDepth 20000 in
theorem ggX6_addShape_X6_shapeGoal : GoodIn wsX6_addShape wsX6_shapeGoal := goodIn_r _ [62, 2, 63, 64, 25, 26, 27, 65, 66, 67, 68, 50, 51, 47, 52, 53, 69, 70, 7, 71, 72, 73, 74, 145, 146, 147, 148, 149, 150, 151, 152, 153, 154, 155, 159] (by decide +kernel) (by decide +kernel)
set_option maxRecDepth 20000 in
theorem gX6_addShape_X6_shapeGoal : GoodIn wsX6_addShape (wsV RX6 107 RX6 yX6_shapeGoal wsX6_shapeGoal) := goodIn_app (goodIn_of _ (by decide +kernel)) ggX6_addShape_X6_shapeGoal
set_option maxRecDepth 20000 in
theorem ggX6_addShape_X4_lastTotal : GoodIn wsX6_addShape wsX4_lastTotal := goodIn_r _ [78, 41, 38, 58, 50, 51, 47, 52, 53, 150, 151, 152, 153, 154, 155, 159] (by decide +kernel) (by decide +kernel)
set_option maxRecDepth 20000 in
theorem gX6_addShape_X4_lastTotal : GoodIn wsX6_addShape (wsV RX6 77 RX4 yX4_lastTotal wsX4_lastTotal) := goodIn_app (goodIn_of _ (by decide +kernel)) ggX6_addShape_X4_lastTotal
set_option maxRecDepth 20000 in
theorem ggX6_addShape_X5_spread : GoodIn wsX6_addShape wsX5_spread := goodIn_r _ [83, 84, 85, 86, 87, 88, 89, 82, 90, 91, 92, 93, 94, 95, 96, 55, 56, 47, 57, 53, 160, 161, 162, 163, 159] (by decide +kernel) (by decide +kernel)
set_option maxRecDepth 20000 in
theorem gX6_addShape_X5_spread : GoodIn wsX6_addShape (wsV RX6 81 RX5 yX5_spread wsX5_spread) := goodIn_app (goodIn_of _ (by decide +kernel)) ggX6_addShape_X5_spread
set_option maxRecDepth 20000 in
theorem ggX6_addShape_X6_addBest : GoodIn wsX6_addShape wsX6_addBest := goodIn_r _ [100, 101, 2, 3, 4, 102, 103, 104, 105, 106, 107, 108, 109, 110, 50, 51, 47, 52, 53, 111, 55, 56, 57, 112, 7, 113, 114, 115, 116, 117, 118, 119, 120, 121, 122, 123, 124, 125, 126, 127, 128, 129, 130, 131, 132, 133, 134, 36, 135, 40, 38, 41, 136, 68, 137, 138, 139, 140, 43, 58, 141, 142, 143, 144, 145, 146, 147, 148, 149, 150, 151, 152, 153, 154, 155, 164, 159, 160, 161, 162, 163] (by decide +kernel) (by decide +kernel)
set_option maxRecDepth 20000 in
theorem gX6_addShape_X6_addBest : GoodIn wsX6_addShape (wsV RX6 88 RX6 yX6_addBest wsX6_addBest) := goodIn_app (goodIn_of _ (by decide +kernel)) ggX6_addShape_X6_addBest
theorem dX6_addShape_0 : decode cX6_addShape 0 = .ok (.iload_n 1, 1) := by decide +kernel
theorem dX6_addShape_1 : decode cX6_addShape 1 = .ok (.invokestatic 101, 3) := by decide +kernel
theorem dX6_addShape_4 : decode cX6_addShape 4 = .ok (.ifCond .eq 14, 3) := by decide +kernel
theorem dX6_addShape_7 : decode cX6_addShape 7 = .ok (.iload_n 2, 1) := by decide +kernel
theorem dX6_addShape_8 : decode cX6_addShape 8 = .ok (.invokestatic 104, 3) := by decide +kernel
theorem dX6_addShape_11 : decode cX6_addShape 11 = .ok (.ifCond .eq 7, 3) := by decide +kernel
theorem dX6_addShape_14 : decode cX6_addShape 14 = .ok (.iconst 1, 1) := by decide +kernel
theorem dX6_addShape_15 : decode cX6_addShape 15 = .ok (.goto 4, 3) := by decide +kernel
theorem dX6_addShape_18 : decode cX6_addShape 18 = .ok (.iconst 0, 1) := by decide +kernel
theorem dX6_addShape_19 : decode cX6_addShape 19 = .ok (.invokestatic 58, 3) := by decide +kernel
theorem dX6_addShape_22 : decode cX6_addShape 22 = .ok (.iload_n 3, 1) := by decide +kernel
theorem dX6_addShape_23 : decode cX6_addShape 23 = .ok (.iconst 1, 1) := by decide +kernel
theorem dX6_addShape_24 : decode cX6_addShape 24 = .ok (.if_icmp .lt 13, 3) := by decide +kernel
theorem dX6_addShape_27 : decode cX6_addShape 27 = .ok (.iload_n 3, 1) := by decide +kernel
theorem dX6_addShape_28 : decode cX6_addShape 28 = .ok (.bipush 40, 2) := by decide +kernel
theorem dX6_addShape_30 : decode cX6_addShape 30 = .ok (.if_icmp .ge 7, 3) := by decide +kernel
theorem dX6_addShape_33 : decode cX6_addShape 33 = .ok (.iconst 1, 1) := by decide +kernel
theorem dX6_addShape_34 : decode cX6_addShape 34 = .ok (.goto 4, 3) := by decide +kernel
theorem dX6_addShape_37 : decode cX6_addShape 37 = .ok (.iconst 0, 1) := by decide +kernel
theorem dX6_addShape_38 : decode cX6_addShape 38 = .ok (.invokestatic 58, 3) := by decide +kernel
theorem dX6_addShape_41 : decode cX6_addShape 41 = .ok (.aload_n 0, 1) := by decide +kernel
theorem dX6_addShape_42 : decode cX6_addShape 42 = .ok (.getfield 19, 3) := by decide +kernel
theorem dX6_addShape_45 : decode cX6_addShape 45 = .ok (.aload_n 0, 1) := by decide +kernel
theorem dX6_addShape_46 : decode cX6_addShape 46 = .ok (.getfield 10, 3) := by decide +kernel
theorem dX6_addShape_49 : decode cX6_addShape 49 = .ok (.invokevirtual 66, 3) := by decide +kernel
theorem dX6_addShape_52 : decode cX6_addShape 52 = .ok (.iconst 0, 1) := by decide +kernel
theorem dX6_addShape_53 : decode cX6_addShape 53 = .ok (.istore 4, 2) := by decide +kernel
theorem dX6_addShape_55 : decode cX6_addShape 55 = .ok (.iload 4, 2) := by decide +kernel
theorem dX6_addShape_57 : decode cX6_addShape 57 = .ok (.iload_n 3, 1) := by decide +kernel
theorem dX6_addShape_58 : decode cX6_addShape 58 = .ok (.if_icmp .ge 63, 3) := by decide +kernel
theorem dX6_addShape_61 : decode cX6_addShape 61 = .ok (.aload_n 0, 1) := by decide +kernel
theorem dX6_addShape_62 : decode cX6_addShape 62 = .ok (.getfield 10, 3) := by decide +kernel
theorem dX6_addShape_65 : decode cX6_addShape 65 = .ok (.getfield 62, 3) := by decide +kernel
theorem dX6_addShape_68 : decode cX6_addShape 68 = .ok (.bipush 40, 2) := by decide +kernel
theorem dX6_addShape_70 : decode cX6_addShape 70 = .ok (.if_icmp .ge 51, 3) := by decide +kernel
theorem dX6_addShape_73 : decode cX6_addShape 73 = .ok (.aload_n 0, 1) := by decide +kernel
theorem dX6_addShape_74 : decode cX6_addShape 74 = .ok (.iload_n 1, 1) := by decide +kernel
theorem dX6_addShape_75 : decode cX6_addShape 75 = .ok (.iload_n 2, 1) := by decide +kernel
theorem dX6_addShape_76 : decode cX6_addShape 76 = .ok (.aload_n 0, 1) := by decide +kernel
theorem dX6_addShape_77 : decode cX6_addShape 77 = .ok (.getfield 10, 3) := by decide +kernel
theorem dX6_addShape_80 : decode cX6_addShape 80 = .ok (.getfield 62, 3) := by decide +kernel
theorem dX6_addShape_83 : decode cX6_addShape 83 = .ok (.invokevirtual 107, 3) := by decide +kernel
theorem dX6_addShape_86 : decode cX6_addShape 86 = .ok (.istore 5, 2) := by decide +kernel
theorem dX6_addShape_88 : decode cX6_addShape 88 = .ok (.aload_n 0, 1) := by decide +kernel
theorem dX6_addShape_89 : decode cX6_addShape 89 = .ok (.getfield 33, 3) := by decide +kernel
theorem dX6_addShape_92 : decode cX6_addShape 92 = .ok (.aload_n 0, 1) := by decide +kernel
theorem dX6_addShape_93 : decode cX6_addShape 93 = .ok (.getfield 10, 3) := by decide +kernel
theorem dX6_addShape_96 : decode cX6_addShape 96 = .ok (.invokevirtual 77, 3) := by decide +kernel
theorem dX6_addShape_99 : decode cX6_addShape 99 = .ok (.iload 5, 2) := by decide +kernel
theorem dX6_addShape_101 : decode cX6_addShape 101 = .ok (.invokevirtual 81, 3) := by decide +kernel
theorem dX6_addShape_104 : decode cX6_addShape 104 = .ok (.ifCond .ne 6, 3) := by decide +kernel
theorem dX6_addShape_107 : decode cX6_addShape 107 = .ok (.iload 4, 2) := by decide +kernel
theorem dX6_addShape_109 : decode cX6_addShape 109 = .ok (.ireturn, 1) := by decide +kernel
theorem dX6_addShape_110 : decode cX6_addShape 110 = .ok (.aload_n 0, 1) := by decide +kernel
theorem dX6_addShape_111 : decode cX6_addShape 111 = .ok (.invokevirtual 88, 3) := by decide +kernel
theorem dX6_addShape_114 : decode cX6_addShape 114 = .ok (.pop, 1) := by decide +kernel
theorem dX6_addShape_115 : decode cX6_addShape 115 = .ok (.iinc 4 1, 3) := by decide +kernel
theorem dX6_addShape_118 : decode cX6_addShape 118 = .ok (.goto (-63), 3) := by decide +kernel
theorem dX6_addShape_121 : decode cX6_addShape 121 = .ok (.iload 4, 2) := by decide +kernel
theorem dX6_addShape_123 : decode cX6_addShape 123 = .ok (.ireturn, 1) := by decide +kernel
set_option maxRecDepth 20000 in
theorem ggX6_rip_X6_checkArgument : GoodIn wsX6_rip wsX6_checkArgument := goodIn_ca (goodIn_r _ [7, 8, 9] (by decide +kernel) (by decide +kernel)) (goodIn_sub (fun _ h => List.mem_cons_of_mem _ (List.mem_append_left _ (List.mem_append_right _ h))) (by decide +kernel))
set_option maxRecDepth 20000 in
theorem gX6_rip_X6_checkArgument : GoodIn wsX6_rip (va_wsS RX6 58 yX6_checkArgument wsX6_checkArgument) := goodIn_app (goodIn_of _ (by decide +kernel)) ggX6_rip_X6_checkArgument
set_option maxRecDepth 20000 in
theorem ggX6_rip_X6_checkState : GoodIn wsX6_rip wsX6_checkState := goodIn_ca (goodIn_r _ [12, 13, 14] (by decide +kernel) (by decide +kernel)) (goodIn_sub (fun _ h => List.mem_cons_of_mem _ (List.mem_append_right _ h)) (by decide +kernel))
set_option maxRecDepth 20000 in
theorem gX6_rip_X6_checkState : GoodIn wsX6_rip (va_wsS RX6 111 yX6_checkState wsX6_checkState) := goodIn_app (goodIn_of _ (by decide +kernel)) ggX6_rip_X6_checkState
set_option maxRecDepth 20000 in
theorem ggX6_rip_X0_keep : GoodIn wsX6_rip wsX0_keep := goodIn_r _ [19, 20, 21, 22, 23, 24, 25, 26, 27, 28, 18, 29, 30, 31, 32, 33, 34, 35, 36, 37, 38, 39, 40, 41, 42, 43, 44, 45, 46, 47, 48, 49, 50, 51, 52, 53, 54, 55, 56, 72, 73, 74, 66, 67, 68, 69, 70, 71, 75] (by decide +kernel) (by decide +kernel)
set_option maxRecDepth 20000 in
theorem gX6_rip_X0_keep : GoodIn wsX6_rip (wsV RX6 66 RX0 yX0_keep wsX0_keep) := goodIn_app (goodIn_of _ (by decide +kernel)) ggX6_rip_X0_keep
set_option maxRecDepth 20000 in
theorem ggX6_rip_X4_lastTotal : GoodIn wsX6_rip wsX4_lastTotal := goodIn_r _ [60, 39, 36, 56, 48, 49, 45, 50, 51, 66, 67, 68, 69, 70, 71, 75] (by decide +kernel) (by decide +kernel)
set_option maxRecDepth 20000 in
theorem gX6_rip_X4_lastTotal : GoodIn wsX6_rip (wsV RX6 77 RX4 yX4_lastTotal wsX4_lastTotal) := goodIn_app (goodIn_of _ (by decide +kernel)) ggX6_rip_X4_lastTotal
theorem dX6_rip_0 : decode cX6_rip 0 = .ok (.iload_n 1, 1) := by decide +kernel
theorem dX6_rip_1 : decode cX6_rip 1 = .ok (.iconst 1, 1) := by decide +kernel
theorem dX6_rip_2 : decode cX6_rip 2 = .ok (.if_icmp .lt 7, 3) := by decide +kernel
theorem dX6_rip_5 : decode cX6_rip 5 = .ok (.iconst 1, 1) := by decide +kernel
theorem dX6_rip_6 : decode cX6_rip 6 = .ok (.goto 4, 3) := by decide +kernel
theorem dX6_rip_9 : decode cX6_rip 9 = .ok (.iconst 0, 1) := by decide +kernel
theorem dX6_rip_10 : decode cX6_rip 10 = .ok (.invokestatic 58, 3) := by decide +kernel
theorem dX6_rip_13 : decode cX6_rip 13 = .ok (.iload_n 1, 1) := by decide +kernel
theorem dX6_rip_14 : decode cX6_rip 14 = .ok (.aload_n 0, 1) := by decide +kernel
theorem dX6_rip_15 : decode cX6_rip 15 = .ok (.getfield 10, 3) := by decide +kernel
theorem dX6_rip_18 : decode cX6_rip 18 = .ok (.getfield 62, 3) := by decide +kernel
theorem dX6_rip_21 : decode cX6_rip 21 = .ok (.if_icmp .ge 7, 3) := by decide +kernel
theorem dX6_rip_24 : decode cX6_rip 24 = .ok (.iconst 1, 1) := by decide +kernel
theorem dX6_rip_25 : decode cX6_rip 25 = .ok (.goto 4, 3) := by decide +kernel
theorem dX6_rip_28 : decode cX6_rip 28 = .ok (.iconst 0, 1) := by decide +kernel
theorem dX6_rip_29 : decode cX6_rip 29 = .ok (.invokestatic 111, 3) := by decide +kernel
theorem dX6_rip_32 : decode cX6_rip 32 = .ok (.aload_n 0, 1) := by decide +kernel
theorem dX6_rip_33 : decode cX6_rip 33 = .ok (.getfield 19, 3) := by decide +kernel
theorem dX6_rip_36 : decode cX6_rip 36 = .ok (.aload_n 0, 1) := by decide +kernel
theorem dX6_rip_37 : decode cX6_rip 37 = .ok (.getfield 10, 3) := by decide +kernel
theorem dX6_rip_40 : decode cX6_rip 40 = .ok (.invokevirtual 66, 3) := by decide +kernel
theorem dX6_rip_43 : decode cX6_rip 43 = .ok (.aload_n 0, 1) := by decide +kernel
theorem dX6_rip_44 : decode cX6_rip 44 = .ok (.getfield 10, 3) := by decide +kernel
theorem dX6_rip_47 : decode cX6_rip 47 = .ok (.dup, 1) := by decide +kernel
theorem dX6_rip_48 : decode cX6_rip 48 = .ok (.getfield 62, 3) := by decide +kernel
theorem dX6_rip_51 : decode cX6_rip 51 = .ok (.iload_n 1, 1) := by decide +kernel
theorem dX6_rip_52 : decode cX6_rip 52 = .ok (.isub, 1) := by decide +kernel
theorem dX6_rip_53 : decode cX6_rip 53 = .ok (.putfield 62, 3) := by decide +kernel
theorem dX6_rip_56 : decode cX6_rip 56 = .ok (.aload_n 0, 1) := by decide +kernel
theorem dX6_rip_57 : decode cX6_rip 57 = .ok (.getfield 10, 3) := by decide +kernel
theorem dX6_rip_60 : decode cX6_rip 60 = .ok (.invokevirtual 77, 3) := by decide +kernel
theorem dX6_rip_63 : decode cX6_rip 63 = .ok (.ireturn, 1) := by decide +kernel
set_option maxRecDepth 20000 in
theorem ggX6_setYarn_X6_checkArgument : GoodIn wsX6_setYarn wsX6_checkArgument := goodIn_ca (goodIn_r _ [7, 8, 9] (by decide +kernel) (by decide +kernel)) (goodIn_sub (fun _ h => List.mem_cons_of_mem _ (List.mem_append_right _ h)) (by decide +kernel))
set_option maxRecDepth 20000 in
theorem gX6_setYarn_X6_checkArgument : GoodIn wsX6_setYarn (va_wsS RX6 58 yX6_checkArgument wsX6_checkArgument) := goodIn_app (goodIn_of _ (by decide +kernel)) ggX6_setYarn_X6_checkArgument
set_option maxRecDepth 20000 in
theorem ggX6_setYarn_X0_keep : GoodIn wsX6_setYarn wsX0_keep := goodIn_r _ [14, 15, 16, 17, 18, 19, 20, 21, 22, 23, 13, 24, 25, 26, 27, 28, 29, 30, 31, 32, 33, 34, 35, 36, 37, 38, 39, 40, 41, 42, 43, 44, 45, 46, 47, 48, 49, 50, 51, 65, 66, 67, 59, 60, 61, 62, 63, 64, 68] (by decide +kernel) (by decide +kernel)
set_option maxRecDepth 20000 in
theorem gX6_setYarn_X0_keep : GoodIn wsX6_setYarn (wsV RX6 66 RX0 yX0_keep wsX0_keep) := goodIn_app (goodIn_of _ (by decide +kernel)) ggX6_setYarn_X0_keep
set_option maxRecDepth 20000 in
theorem ggX6_setYarn_X2_at : GoodIn wsX6_setYarn wsX2_at := goodIn_r _ [45, 46, 68] (by decide +kernel) (by decide +kernel)
set_option maxRecDepth 20000 in
theorem gX6_setYarn_X2_at : GoodIn wsX6_setYarn (wsV RX6 114 RX2 yX2_at wsX2_at) := goodIn_app (goodIn_of _ (by decide +kernel)) ggX6_setYarn_X2_at
set_option maxRecDepth 20000 in
theorem ggX6_setYarn_X2_put : GoodIn wsX6_setYarn wsX2_put := goodIn_r _ [50, 46, 68] (by decide +kernel) (by decide +kernel)
set_option maxRecDepth 20000 in
theorem gX6_setYarn_X2_put : GoodIn wsX6_setYarn (wsV RX6 48 RX2 yX2_put wsX2_put) := goodIn_app (goodIn_of _ (by decide +kernel)) ggX6_setYarn_X2_put
theorem dX6_setYarn_0 : decode cX6_setYarn 0 = .ok (.iload_n 1, 1) := by decide +kernel
theorem dX6_setYarn_1 : decode cX6_setYarn 1 = .ok (.ifCond .lt 23, 3) := by decide +kernel
theorem dX6_setYarn_4 : decode cX6_setYarn 4 = .ok (.iload_n 1, 1) := by decide +kernel
theorem dX6_setYarn_5 : decode cX6_setYarn 5 = .ok (.iconst 3, 1) := by decide +kernel
theorem dX6_setYarn_6 : decode cX6_setYarn 6 = .ok (.if_icmp .ge 18, 3) := by decide +kernel
theorem dX6_setYarn_9 : decode cX6_setYarn 9 = .ok (.iload_n 2, 1) := by decide +kernel
theorem dX6_setYarn_10 : decode cX6_setYarn 10 = .ok (.iconst 1, 1) := by decide +kernel
theorem dX6_setYarn_11 : decode cX6_setYarn 11 = .ok (.if_icmp .lt 13, 3) := by decide +kernel
theorem dX6_setYarn_14 : decode cX6_setYarn 14 = .ok (.iload_n 2, 1) := by decide +kernel
theorem dX6_setYarn_15 : decode cX6_setYarn 15 = .ok (.bipush 60, 2) := by decide +kernel
theorem dX6_setYarn_17 : decode cX6_setYarn 17 = .ok (.if_icmp .gt 7, 3) := by decide +kernel
theorem dX6_setYarn_20 : decode cX6_setYarn 20 = .ok (.iconst 1, 1) := by decide +kernel
theorem dX6_setYarn_21 : decode cX6_setYarn 21 = .ok (.goto 4, 3) := by decide +kernel
theorem dX6_setYarn_24 : decode cX6_setYarn 24 = .ok (.iconst 0, 1) := by decide +kernel
theorem dX6_setYarn_25 : decode cX6_setYarn 25 = .ok (.invokestatic 58, 3) := by decide +kernel
theorem dX6_setYarn_28 : decode cX6_setYarn 28 = .ok (.aload_n 0, 1) := by decide +kernel
theorem dX6_setYarn_29 : decode cX6_setYarn 29 = .ok (.getfield 19, 3) := by decide +kernel
theorem dX6_setYarn_32 : decode cX6_setYarn 32 = .ok (.aload_n 0, 1) := by decide +kernel
theorem dX6_setYarn_33 : decode cX6_setYarn 33 = .ok (.getfield 10, 3) := by decide +kernel
theorem dX6_setYarn_36 : decode cX6_setYarn 36 = .ok (.invokevirtual 66, 3) := by decide +kernel
theorem dX6_setYarn_39 : decode cX6_setYarn 39 = .ok (.aload_n 0, 1) := by decide +kernel
theorem dX6_setYarn_40 : decode cX6_setYarn 40 = .ok (.getfield 10, 3) := by decide +kernel
theorem dX6_setYarn_43 : decode cX6_setYarn 43 = .ok (.getfield 44, 3) := by decide +kernel
theorem dX6_setYarn_46 : decode cX6_setYarn 46 = .ok (.iload_n 1, 1) := by decide +kernel
theorem dX6_setYarn_47 : decode cX6_setYarn 47 = .ok (.invokevirtual 114, 3) := by decide +kernel
theorem dX6_setYarn_50 : decode cX6_setYarn 50 = .ok (.istore_n 3, 1) := by decide +kernel
theorem dX6_setYarn_51 : decode cX6_setYarn 51 = .ok (.aload_n 0, 1) := by decide +kernel
theorem dX6_setYarn_52 : decode cX6_setYarn 52 = .ok (.getfield 10, 3) := by decide +kernel
theorem dX6_setYarn_55 : decode cX6_setYarn 55 = .ok (.getfield 44, 3) := by decide +kernel
theorem dX6_setYarn_58 : decode cX6_setYarn 58 = .ok (.iload_n 1, 1) := by decide +kernel
theorem dX6_setYarn_59 : decode cX6_setYarn 59 = .ok (.iload_n 2, 1) := by decide +kernel
theorem dX6_setYarn_60 : decode cX6_setYarn 60 = .ok (.invokevirtual 48, 3) := by decide +kernel
theorem dX6_setYarn_63 : decode cX6_setYarn 63 = .ok (.iload_n 3, 1) := by decide +kernel
theorem dX6_setYarn_64 : decode cX6_setYarn 64 = .ok (.ireturn, 1) := by decide +kernel
set_option maxRecDepth 20000 in
theorem ggX6_setSpiral_X0_keep : GoodIn wsX6_setSpiral wsX0_keep := goodIn_r _ [8, 9, 10, 11, 12, 13, 14, 15, 16, 17, 7, 18, 19, 20, 21, 22, 23, 24, 25, 26, 27, 28, 29, 30, 31, 32, 33, 34, 35, 36, 37, 38, 39, 40, 41, 42, 43, 44, 45, 57, 58, 59, 51, 52, 53, 54, 55, 56, 60] (by decide +kernel) (by decide +kernel)
set_option maxRecDepth 20000 in
theorem gX6_setSpiral_X0_keep : GoodIn wsX6_setSpiral (wsV RX6 66 RX0 yX0_keep wsX0_keep) := goodIn_app (goodIn_of _ (by decide +kernel)) ggX6_setSpiral_X0_keep
theorem dX6_setSpiral_0 : decode cX6_setSpiral 0 = .ok (.aload_n 0, 1) := by decide +kernel
theorem dX6_setSpiral_1 : decode cX6_setSpiral 1 = .ok (.getfield 19, 3) := by decide +kernel
theorem dX6_setSpiral_4 : decode cX6_setSpiral 4 = .ok (.aload_n 0, 1) := by decide +kernel
theorem dX6_setSpiral_5 : decode cX6_setSpiral 5 = .ok (.getfield 10, 3) := by decide +kernel
theorem dX6_setSpiral_8 : decode cX6_setSpiral 8 = .ok (.invokevirtual 66, 3) := by decide +kernel
theorem dX6_setSpiral_11 : decode cX6_setSpiral 11 = .ok (.aload_n 0, 1) := by decide +kernel
theorem dX6_setSpiral_12 : decode cX6_setSpiral 12 = .ok (.getfield 10, 3) := by decide +kernel
theorem dX6_setSpiral_15 : decode cX6_setSpiral 15 = .ok (.getfield 117, 3) := by decide +kernel
theorem dX6_setSpiral_18 : decode cX6_setSpiral 18 = .ok (.istore_n 2, 1) := by decide +kernel
theorem dX6_setSpiral_19 : decode cX6_setSpiral 19 = .ok (.aload_n 0, 1) := by decide +kernel
theorem dX6_setSpiral_20 : decode cX6_setSpiral 20 = .ok (.getfield 10, 3) := by decide +kernel
theorem dX6_setSpiral_23 : decode cX6_setSpiral 23 = .ok (.iload_n 1, 1) := by decide +kernel
theorem dX6_setSpiral_24 : decode cX6_setSpiral 24 = .ok (.putfield 117, 3) := by decide +kernel
theorem dX6_setSpiral_27 : decode cX6_setSpiral 27 = .ok (.iload_n 2, 1) := by decide +kernel
theorem dX6_setSpiral_28 : decode cX6_setSpiral 28 = .ok (.ireturn, 1) := by decide +kernel
set_option maxRecDepth 20000 in
theorem ggX6_round_X6_checkIndex : GoodIn wsX6_round wsX6_checkIndex := goodIn_ca (goodIn_r _ [6, 7, 8] (by decide +kernel) (by decide +kernel)) (goodIn_sub (fun _ h => List.mem_cons_of_mem _ (List.mem_append_left _ (List.mem_append_right _ h))) (by decide +kernel))
set_option maxRecDepth 20000 in
theorem gX6_round_X6_checkIndex : GoodIn wsX6_round (va_wsS RX6 121 yX6_checkIndex wsX6_checkIndex) := goodIn_app (goodIn_of _ (by decide +kernel)) ggX6_round_X6_checkIndex
set_option maxRecDepth 20000 in
theorem ggX6_round_X6_checkArgument : GoodIn wsX6_round wsX6_checkArgument := goodIn_ca (goodIn_r _ [11, 12, 13] (by decide +kernel) (by decide +kernel)) (goodIn_sub (fun _ h => List.mem_cons_of_mem _ (List.mem_append_right _ h)) (by decide +kernel))
set_option maxRecDepth 20000 in
theorem gX6_round_X6_checkArgument : GoodIn wsX6_round (va_wsS RX6 58 yX6_checkArgument wsX6_checkArgument) := goodIn_app (goodIn_of _ (by decide +kernel)) ggX6_round_X6_checkArgument
set_option maxRecDepth 20000 in
theorem ggX6_round_X6_ofRound : GoodIn wsX6_round wsX6_ofRound := goodIn_r _ [17, 1, 18, 19, 20, 21, 22, 23, 24, 25, 26, 27, 28, 29, 30, 31, 32, 33, 34, 35, 36, 37, 38, 39, 40, 5, 41, 42, 43, 44, 45, 46, 47, 48, 49, 50, 51, 52, 53, 54, 55, 56, 57, 58, 59, 60, 61, 62, 63, 64, 65, 66, 67, 68, 69, 70, 71, 72, 73, 74, 75, 76, 77, 78, 79, 80, 81, 82, 83, 84, 85, 86, 87, 88, 89, 90, 91, 92, 93, 94, 95, 96, 97, 98, 99, 100] (by decide +kernel) (by decide +kernel)
set_option maxRecDepth 20000 in
theorem gX6_round_X6_ofRound : GoodIn wsX6_round (wsV RX6 124 RX6 yX6_ofRound wsX6_ofRound) := goodIn_app (goodIn_of _ (by decide +kernel)) ggX6_round_X6_ofRound
theorem dX6_round_0 : decode cX6_round 0 = .ok (.iload_n 1, 1) := by decide +kernel
theorem dX6_round_1 : decode cX6_round 1 = .ok (.aload_n 0, 1) := by decide +kernel
theorem dX6_round_2 : decode cX6_round 2 = .ok (.getfield 10, 3) := by decide +kernel
theorem dX6_round_5 : decode cX6_round 5 = .ok (.getfield 62, 3) := by decide +kernel
theorem dX6_round_8 : decode cX6_round 8 = .ok (.invokestatic 121, 3) := by decide +kernel
theorem dX6_round_11 : decode cX6_round 11 = .ok (.iload_n 2, 1) := by decide +kernel
theorem dX6_round_12 : decode cX6_round 12 = .ok (.ifCond .lt 13, 3) := by decide +kernel
theorem dX6_round_15 : decode cX6_round 15 = .ok (.iload_n 2, 1) := by decide +kernel
theorem dX6_round_16 : decode cX6_round 16 = .ok (.bipush 10, 2) := by decide +kernel
theorem dX6_round_18 : decode cX6_round 18 = .ok (.if_icmp .gt 7, 3) := by decide +kernel
theorem dX6_round_21 : decode cX6_round 21 = .ok (.iconst 1, 1) := by decide +kernel
theorem dX6_round_22 : decode cX6_round 22 = .ok (.goto 4, 3) := by decide +kernel
theorem dX6_round_25 : decode cX6_round 25 = .ok (.iconst 0, 1) := by decide +kernel
theorem dX6_round_26 : decode cX6_round 26 = .ok (.invokestatic 58, 3) := by decide +kernel
theorem dX6_round_29 : decode cX6_round 29 = .ok (.aload_n 0, 1) := by decide +kernel
theorem dX6_round_30 : decode cX6_round 30 = .ok (.iload_n 1, 1) := by decide +kernel
theorem dX6_round_31 : decode cX6_round 31 = .ok (.iload_n 2, 1) := by decide +kernel
theorem dX6_round_32 : decode cX6_round 32 = .ok (.invokevirtual 124, 3) := by decide +kernel
theorem dX6_round_35 : decode cX6_round 35 = .ok (.ireturn, 1) := by decide +kernel
set_option maxRecDepth 20000 in
theorem ggX6_work_X6_checkIndex : GoodIn wsX6_work wsX6_checkIndex := goodIn_ca (goodIn_r _ [7, 8, 9] (by decide +kernel) (by decide +kernel)) (goodIn_sub (fun _ h => List.mem_cons_of_mem _ (List.mem_append_right _ h)) (by decide +kernel))
set_option maxRecDepth 20000 in
theorem gX6_work_X6_checkIndex : GoodIn wsX6_work (va_wsS RX6 121 yX6_checkIndex wsX6_checkIndex) := goodIn_app (goodIn_of _ (by decide +kernel)) ggX6_work_X6_checkIndex
set_option maxRecDepth 20000 in
theorem ggX6_work_X2_at : GoodIn wsX6_work wsX2_at := goodIn_r _ [14, 15, 34] (by decide +kernel) (by decide +kernel)
set_option maxRecDepth 20000 in
theorem gX6_work_X2_at : GoodIn wsX6_work (wsV RX6 114 RX2 yX2_at wsX2_at) := goodIn_app (goodIn_of _ (by decide +kernel)) ggX6_work_X2_at
set_option maxRecDepth 20000 in
theorem ggX6_work_X4_kindOf : GoodIn wsX6_work wsX4_kindOf := goodIn_r _ [20, 21, 22, 11, 12, 13, 14, 15, 28, 29, 30, 31, 32, 33, 34] (by decide +kernel) (by decide +kernel)
set_option maxRecDepth 20000 in
theorem gX6_work_X4_kindOf : GoodIn wsX6_work (wsV RX6 131 RX4 yX4_kindOf wsX4_kindOf) := goodIn_app (goodIn_of _ (by decide +kernel)) ggX6_work_X4_kindOf
theorem dX6_work_0 : decode cX6_work 0 = .ok (.iload_n 1, 1) := by decide +kernel
theorem dX6_work_1 : decode cX6_work 1 = .ok (.aload_n 0, 1) := by decide +kernel
theorem dX6_work_2 : decode cX6_work 2 = .ok (.getfield 10, 3) := by decide +kernel
theorem dX6_work_5 : decode cX6_work 5 = .ok (.getfield 62, 3) := by decide +kernel
theorem dX6_work_8 : decode cX6_work 8 = .ok (.invokestatic 121, 3) := by decide +kernel
theorem dX6_work_11 : decode cX6_work 11 = .ok (.iload_n 2, 1) := by decide +kernel
theorem dX6_work_12 : decode cX6_work 12 = .ok (.aload_n 0, 1) := by decide +kernel
theorem dX6_work_13 : decode cX6_work 13 = .ok (.getfield 10, 3) := by decide +kernel
theorem dX6_work_16 : decode cX6_work 16 = .ok (.getfield 128, 3) := by decide +kernel
theorem dX6_work_19 : decode cX6_work 19 = .ok (.iload_n 1, 1) := by decide +kernel
theorem dX6_work_20 : decode cX6_work 20 = .ok (.invokevirtual 114, 3) := by decide +kernel
theorem dX6_work_23 : decode cX6_work 23 = .ok (.invokestatic 121, 3) := by decide +kernel
theorem dX6_work_26 : decode cX6_work 26 = .ok (.aload_n 0, 1) := by decide +kernel
theorem dX6_work_27 : decode cX6_work 27 = .ok (.getfield 10, 3) := by decide +kernel
theorem dX6_work_30 : decode cX6_work 30 = .ok (.iload_n 1, 1) := by decide +kernel
theorem dX6_work_31 : decode cX6_work 31 = .ok (.iload_n 2, 1) := by decide +kernel
theorem dX6_work_32 : decode cX6_work 32 = .ok (.invokevirtual 131, 3) := by decide +kernel
theorem dX6_work_35 : decode cX6_work 35 = .ok (.ireturn, 1) := by decide +kernel
set_option maxRecDepth 20000 in
theorem ggX6_value_X6_checkArgument : GoodIn wsX6_value wsX6_checkArgument := goodIn_ca (goodIn_r _ [7, 8, 9] (by decide +kernel) (by decide +kernel)) (goodIn_sub (fun _ h => List.mem_cons_of_mem _ (List.mem_append_right _ h)) (by decide +kernel))
set_option maxRecDepth 20000 in
theorem gX6_value_X6_checkArgument : GoodIn wsX6_value (va_wsS RX6 58 yX6_checkArgument wsX6_checkArgument) := goodIn_app (goodIn_of _ (by decide +kernel)) ggX6_value_X6_checkArgument
set_option maxRecDepth 20000 in
theorem ggX6_value_X4_lastTotal : GoodIn wsX6_value wsX4_lastTotal := goodIn_r _ [14, 15, 16, 17, 18, 19, 20, 21, 22, 103, 104, 105, 106, 107, 108, 109] (by decide +kernel) (by decide +kernel)
set_option maxRecDepth 20000 in
theorem gX6_value_X4_lastTotal : GoodIn wsX6_value (wsV RX6 77 RX4 yX4_lastTotal wsX4_lastTotal) := goodIn_app (goodIn_of _ (by decide +kernel)) ggX6_value_X4_lastTotal
set_option maxRecDepth 20000 in
theorem ggX6_value_X6_sumOverRounds : GoodIn wsX6_value wsX6_sumOverRounds := goodIn_r _ [26, 1, 2, 27, 28, 29, 6, 30, 31, 32, 33, 18, 19, 20, 21, 22, 34, 35, 36, 13, 37, 38, 17, 39, 40, 41, 42, 43, 44, 45, 46, 47, 48, 49, 50, 51, 52, 53, 54, 55, 56, 57, 58, 59, 60, 61, 62, 63, 64, 65, 66, 67, 68, 69, 70, 71, 72, 73, 74, 75, 76, 77, 78, 79, 80, 81, 82, 83, 84, 85, 86, 87, 88, 89, 90, 91, 92, 93, 98, 99, 100, 101, 102, 103, 104, 105, 106, 107, 108, 109, 110] (by decide +kernel) (by decide +kernel)
set_option maxRecDepth 20000 in
theorem gX6_value_X6_sumOverRounds : GoodIn wsX6_value (wsV RX6 149 RX6 yX6_sumOverRounds wsX6_sumOverRounds) := goodIn_app (goodIn_of _ (by decide +kernel)) ggX6_value_X6_sumOverRounds
set_option maxRecDepth 20000 in
theorem ggX6_value_X4_widest : GoodIn wsX6_value wsX4_widest := goodIn_r _ [97, 16, 15, 17, 18, 19, 20, 21, 22, 103, 104, 105, 106, 107, 108, 109] (by decide +kernel) (by decide +kernel)
set_option maxRecDepth 20000 in
theorem gX6_value_X4_widest : GoodIn wsX6_value (wsV RX6 152 RX4 yX4_widest wsX4_widest) := goodIn_app (goodIn_of _ (by decide +kernel)) ggX6_value_X4_widest
theorem dX6_value_0 : decode cX6_value 0 = .ok (.iload_n 1, 1) := by decide +kernel
theorem dX6_value_1 : decode cX6_value 1 = .ok (.ifCond .lt 13, 3) := by decide +kernel
theorem dX6_value_4 : decode cX6_value 4 = .ok (.iload_n 1, 1) := by decide +kernel
theorem dX6_value_5 : decode cX6_value 5 = .ok (.bipush 7, 2) := by decide +kernel
theorem dX6_value_7 : decode cX6_value 7 = .ok (.if_icmp .gt 7, 3) := by decide +kernel
theorem dX6_value_10 : decode cX6_value 10 = .ok (.iconst 1, 1) := by decide +kernel
theorem dX6_value_11 : decode cX6_value 11 = .ok (.goto 4, 3) := by decide +kernel
theorem dX6_value_14 : decode cX6_value 14 = .ok (.iconst 0, 1) := by decide +kernel
theorem dX6_value_15 : decode cX6_value 15 = .ok (.invokestatic 58, 3) := by decide +kernel
theorem dX6_value_18 : decode cX6_value 18 = .ok (.iload_n 1, 1) := by decide +kernel
theorem dX6_value_19 : decode cX6_value 19 = .ok (.tableswitch 91 0 6 #[41, 49, 57, 63, 70, 76, 83], 41) := by decide +kernel
theorem dX6_value_60 : decode cX6_value 60 = .ok (.aload_n 0, 1) := by decide +kernel
theorem dX6_value_61 : decode cX6_value 61 = .ok (.getfield 10, 3) := by decide +kernel
theorem dX6_value_64 : decode cX6_value 64 = .ok (.getfield 62, 3) := by decide +kernel
theorem dX6_value_67 : decode cX6_value 67 = .ok (.ireturn, 1) := by decide +kernel
theorem dX6_value_68 : decode cX6_value 68 = .ok (.aload_n 0, 1) := by decide +kernel
theorem dX6_value_69 : decode cX6_value 69 = .ok (.getfield 10, 3) := by decide +kernel
theorem dX6_value_72 : decode cX6_value 72 = .ok (.invokevirtual 77, 3) := by decide +kernel
theorem dX6_value_75 : decode cX6_value 75 = .ok (.ireturn, 1) := by decide +kernel
theorem dX6_value_76 : decode cX6_value 76 = .ok (.aload_n 0, 1) := by decide +kernel
theorem dX6_value_77 : decode cX6_value 77 = .ok (.iconst 0, 1) := by decide +kernel
theorem dX6_value_78 : decode cX6_value 78 = .ok (.invokevirtual 149, 3) := by decide +kernel
theorem dX6_value_81 : decode cX6_value 81 = .ok (.ireturn, 1) := by decide +kernel
theorem dX6_value_82 : decode cX6_value 82 = .ok (.aload_n 0, 1) := by decide +kernel
theorem dX6_value_83 : decode cX6_value 83 = .ok (.bipush 7, 2) := by decide +kernel
theorem dX6_value_85 : decode cX6_value 85 = .ok (.invokevirtual 149, 3) := by decide +kernel
theorem dX6_value_88 : decode cX6_value 88 = .ok (.ireturn, 1) := by decide +kernel
theorem dX6_value_89 : decode cX6_value 89 = .ok (.aload_n 0, 1) := by decide +kernel
theorem dX6_value_90 : decode cX6_value 90 = .ok (.iconst 5, 1) := by decide +kernel
theorem dX6_value_91 : decode cX6_value 91 = .ok (.invokevirtual 149, 3) := by decide +kernel
theorem dX6_value_94 : decode cX6_value 94 = .ok (.ireturn, 1) := by decide +kernel
theorem dX6_value_95 : decode cX6_value 95 = .ok (.aload_n 0, 1) := by decide +kernel
theorem dX6_value_96 : decode cX6_value 96 = .ok (.bipush 6, 2) := by decide +kernel
theorem dX6_value_98 : decode cX6_value 98 = .ok (.invokevirtual 149, 3) := by decide +kernel
theorem dX6_value_101 : decode cX6_value 101 = .ok (.ireturn, 1) := by decide +kernel
theorem dX6_value_102 : decode cX6_value 102 = .ok (.aload_n 0, 1) := by decide +kernel
theorem dX6_value_103 : decode cX6_value 103 = .ok (.getfield 10, 3) := by decide +kernel
theorem dX6_value_106 : decode cX6_value 106 = .ok (.invokevirtual 152, 3) := by decide +kernel
theorem dX6_value_109 : decode cX6_value 109 = .ok (.ireturn, 1) := by decide +kernel
theorem dX6_value_110 : decode cX6_value 110 = .ok (.aload_n 0, 1) := by decide +kernel
theorem dX6_value_111 : decode cX6_value 111 = .ok (.getfield 10, 3) := by decide +kernel
theorem dX6_value_114 : decode cX6_value 114 = .ok (.getfield 117, 3) := by decide +kernel
theorem dX6_value_117 : decode cX6_value 117 = .ok (.ifCond .eq 7, 3) := by decide +kernel
theorem dX6_value_120 : decode cX6_value 120 = .ok (.iconst 1, 1) := by decide +kernel
theorem dX6_value_121 : decode cX6_value 121 = .ok (.goto 4, 3) := by decide +kernel
theorem dX6_value_124 : decode cX6_value 124 = .ok (.iconst 0, 1) := by decide +kernel
theorem dX6_value_125 : decode cX6_value 125 = .ok (.ireturn, 1) := by decide +kernel
theorem dX6_checkArgument_0 : decode cX6_checkArgument 0 = .ok (.iload_n 0, 1) := by decide +kernel
theorem dX6_checkArgument_1 : decode cX6_checkArgument 1 = .ok (.ifCond .ne 13, 3) := by decide +kernel
theorem dX6_checkArgument_4 : decode cX6_checkArgument 4 = .ok (.new 217, 3) := by decide +kernel
theorem dX6_checkArgument_7 : decode cX6_checkArgument 7 = .ok (.dup, 1) := by decide +kernel
theorem dX6_checkArgument_8 : decode cX6_checkArgument 8 = .ok (.ldc 219, 2) := by decide +kernel
theorem dX6_checkArgument_10 : decode cX6_checkArgument 10 = .ok (.invokespecial 221, 3) := by decide +kernel
theorem dX6_checkArgument_13 : decode cX6_checkArgument 13 = .ok (.athrow, 1) := by decide +kernel
theorem dX6_checkArgument_14 : decode cX6_checkArgument 14 = .ok (.return_, 1) := by decide +kernel
theorem dX6_checkState_0 : decode cX6_checkState 0 = .ok (.iload_n 0, 1) := by decide +kernel
theorem dX6_checkState_1 : decode cX6_checkState 1 = .ok (.ifCond .ne 13, 3) := by decide +kernel
theorem dX6_checkState_4 : decode cX6_checkState 4 = .ok (.new 224, 3) := by decide +kernel
theorem dX6_checkState_7 : decode cX6_checkState 7 = .ok (.dup, 1) := by decide +kernel
theorem dX6_checkState_8 : decode cX6_checkState 8 = .ok (.ldc 226, 2) := by decide +kernel
theorem dX6_checkState_10 : decode cX6_checkState 10 = .ok (.invokespecial 228, 3) := by decide +kernel
theorem dX6_checkState_13 : decode cX6_checkState 13 = .ok (.athrow, 1) := by decide +kernel
theorem dX6_checkState_14 : decode cX6_checkState 14 = .ok (.return_, 1) := by decide +kernel
set_option maxRecDepth 20000 in
theorem ggX6_checkRoom_X6_checkState : GoodIn wsX6_checkRoom wsX6_checkState := goodIn_ca (goodIn_r _ [6, 7, 8] (by decide +kernel) (by decide +kernel)) (goodIn_sub (fun _ h => List.mem_cons_of_mem _ (List.mem_append_right _ h)) (by decide +kernel))
set_option maxRecDepth 20000 in
theorem gX6_checkRoom_X6_checkState : GoodIn wsX6_checkRoom (va_wsS RX6 111 yX6_checkState wsX6_checkState) := goodIn_app (goodIn_of _ (by decide +kernel)) ggX6_checkRoom_X6_checkState
theorem dX6_checkRoom_0 : decode cX6_checkRoom 0 = .ok (.aload_n 0, 1) := by decide +kernel
theorem dX6_checkRoom_1 : decode cX6_checkRoom 1 = .ok (.getfield 10, 3) := by decide +kernel
theorem dX6_checkRoom_4 : decode cX6_checkRoom 4 = .ok (.getfield 62, 3) := by decide +kernel
theorem dX6_checkRoom_7 : decode cX6_checkRoom 7 = .ok (.bipush 40, 2) := by decide +kernel
theorem dX6_checkRoom_9 : decode cX6_checkRoom 9 = .ok (.if_icmp .ge 7, 3) := by decide +kernel
theorem dX6_checkRoom_12 : decode cX6_checkRoom 12 = .ok (.iconst 1, 1) := by decide +kernel
theorem dX6_checkRoom_13 : decode cX6_checkRoom 13 = .ok (.goto 4, 3) := by decide +kernel
theorem dX6_checkRoom_16 : decode cX6_checkRoom 16 = .ok (.iconst 0, 1) := by decide +kernel
theorem dX6_checkRoom_17 : decode cX6_checkRoom 17 = .ok (.invokestatic 111, 3) := by decide +kernel
theorem dX6_checkRoom_20 : decode cX6_checkRoom 20 = .ok (.return_, 1) := by decide +kernel
theorem dX6_checkPossible_0 : decode cX6_checkPossible 0 = .ok (.iload_n 0, 1) := by decide +kernel
theorem dX6_checkPossible_1 : decode cX6_checkPossible 1 = .ok (.ifCond .ne 13, 3) := by decide +kernel
theorem dX6_checkPossible_4 : decode cX6_checkPossible 4 = .ok (.new 229, 3) := by decide +kernel
theorem dX6_checkPossible_7 : decode cX6_checkPossible 7 = .ok (.dup, 1) := by decide +kernel
theorem dX6_checkPossible_8 : decode cX6_checkPossible 8 = .ok (.ldc 231, 2) := by decide +kernel
theorem dX6_checkPossible_10 : decode cX6_checkPossible 10 = .ok (.invokespecial 233, 3) := by decide +kernel
theorem dX6_checkPossible_13 : decode cX6_checkPossible 13 = .ok (.athrow, 1) := by decide +kernel
theorem dX6_checkPossible_14 : decode cX6_checkPossible 14 = .ok (.return_, 1) := by decide +kernel
theorem dX6_checkIndex_0 : decode cX6_checkIndex 0 = .ok (.iload_n 0, 1) := by decide +kernel
theorem dX6_checkIndex_1 : decode cX6_checkIndex 1 = .ok (.ifCond .lt 8, 3) := by decide +kernel
theorem dX6_checkIndex_4 : decode cX6_checkIndex 4 = .ok (.iload_n 0, 1) := by decide +kernel
theorem dX6_checkIndex_5 : decode cX6_checkIndex 5 = .ok (.iload_n 1, 1) := by decide +kernel
theorem dX6_checkIndex_6 : decode cX6_checkIndex 6 = .ok (.if_icmp .lt 13, 3) := by decide +kernel
theorem dX6_checkIndex_9 : decode cX6_checkIndex 9 = .ok (.new 234, 3) := by decide +kernel
theorem dX6_checkIndex_12 : decode cX6_checkIndex 12 = .ok (.dup, 1) := by decide +kernel
theorem dX6_checkIndex_13 : decode cX6_checkIndex 13 = .ok (.ldc 236, 2) := by decide +kernel
theorem dX6_checkIndex_15 : decode cX6_checkIndex 15 = .ok (.invokespecial 238, 3) := by decide +kernel
theorem dX6_checkIndex_18 : decode cX6_checkIndex 18 = .ok (.athrow, 1) := by decide +kernel
theorem dX6_checkIndex_19 : decode cX6_checkIndex 19 = .ok (.return_, 1) := by decide +kernel
theorem dX6_isGoal_0 : decode cX6_isGoal 0 = .ok (.iload_n 0, 1) := by decide +kernel
theorem dX6_isGoal_1 : decode cX6_isGoal 1 = .ok (.iconst 3, 1) := by decide +kernel
theorem dX6_isGoal_2 : decode cX6_isGoal 2 = .ok (.if_icmp .lt 13, 3) := by decide +kernel
theorem dX6_isGoal_5 : decode cX6_isGoal 5 = .ok (.iload_n 0, 1) := by decide +kernel
theorem dX6_isGoal_6 : decode cX6_isGoal 6 = .ok (.bipush 120, 2) := by decide +kernel
theorem dX6_isGoal_8 : decode cX6_isGoal 8 = .ok (.if_icmp .gt 7, 3) := by decide +kernel
theorem dX6_isGoal_11 : decode cX6_isGoal 11 = .ok (.iconst 1, 1) := by decide +kernel
theorem dX6_isGoal_12 : decode cX6_isGoal 12 = .ok (.goto 4, 3) := by decide +kernel
theorem dX6_isGoal_15 : decode cX6_isGoal 15 = .ok (.iconst 0, 1) := by decide +kernel
theorem dX6_isGoal_16 : decode cX6_isGoal 16 = .ok (.ireturn, 1) := by decide +kernel
theorem dX6_isShift_0 : decode cX6_isShift 0 = .ok (.iload_n 0, 1) := by decide +kernel
theorem dX6_isShift_1 : decode cX6_isShift 1 = .ok (.ifCond .lt 13, 3) := by decide +kernel
theorem dX6_isShift_4 : decode cX6_isShift 4 = .ok (.iload_n 0, 1) := by decide +kernel
theorem dX6_isShift_5 : decode cX6_isShift 5 = .ok (.bipush 120, 2) := by decide +kernel
theorem dX6_isShift_7 : decode cX6_isShift 7 = .ok (.if_icmp .ge 7, 3) := by decide +kernel
theorem dX6_isShift_10 : decode cX6_isShift 10 = .ok (.iconst 1, 1) := by decide +kernel
theorem dX6_isShift_11 : decode cX6_isShift 11 = .ok (.goto 4, 3) := by decide +kernel
theorem dX6_isShift_14 : decode cX6_isShift 14 = .ok (.iconst 0, 1) := by decide +kernel
theorem dX6_isShift_15 : decode cX6_isShift 15 = .ok (.ireturn, 1) := by decide +kernel
theorem dX6_isShape_0 : decode cX6_isShape 0 = .ok (.iload_n 0, 1) := by decide +kernel
theorem dX6_isShape_1 : decode cX6_isShape 1 = .ok (.ifCond .lt 12, 3) := by decide +kernel
theorem dX6_isShape_4 : decode cX6_isShape 4 = .ok (.iload_n 0, 1) := by decide +kernel
theorem dX6_isShape_5 : decode cX6_isShape 5 = .ok (.iconst 4, 1) := by decide +kernel
theorem dX6_isShape_6 : decode cX6_isShape 6 = .ok (.if_icmp .gt 7, 3) := by decide +kernel
theorem dX6_isShape_9 : decode cX6_isShape 9 = .ok (.iconst 1, 1) := by decide +kernel
theorem dX6_isShape_10 : decode cX6_isShape 10 = .ok (.goto 4, 3) := by decide +kernel
theorem dX6_isShape_13 : decode cX6_isShape 13 = .ok (.iconst 0, 1) := by decide +kernel
theorem dX6_isShape_14 : decode cX6_isShape 14 = .ok (.ireturn, 1) := by decide +kernel
theorem dX6_isSize_0 : decode cX6_isSize 0 = .ok (.iload_n 0, 1) := by decide +kernel
theorem dX6_isSize_1 : decode cX6_isSize 1 = .ok (.iconst 1, 1) := by decide +kernel
theorem dX6_isSize_2 : decode cX6_isSize 2 = .ok (.if_icmp .lt 13, 3) := by decide +kernel
theorem dX6_isSize_5 : decode cX6_isSize 5 = .ok (.iload_n 0, 1) := by decide +kernel
theorem dX6_isSize_6 : decode cX6_isSize 6 = .ok (.bipush 20, 2) := by decide +kernel
theorem dX6_isSize_8 : decode cX6_isSize 8 = .ok (.if_icmp .gt 7, 3) := by decide +kernel
theorem dX6_isSize_11 : decode cX6_isSize 11 = .ok (.iconst 1, 1) := by decide +kernel
theorem dX6_isSize_12 : decode cX6_isSize 12 = .ok (.goto 4, 3) := by decide +kernel
theorem dX6_isSize_15 : decode cX6_isSize 15 = .ok (.iconst 0, 1) := by decide +kernel
theorem dX6_isSize_16 : decode cX6_isSize 16 = .ok (.ireturn, 1) := by decide +kernel
set_option maxRecDepth 20000 in
theorem ggX6_addBest_X1_load : GoodIn wsX6_addBest wsX1_load := goodIn_r _ [9, 10, 11, 12, 13, 14, 15, 16, 17, 18, 19, 20, 21, 22, 23, 24, 25, 69, 70, 71, 72, 73, 74, 75, 76] (by decide +kernel) (by decide +kernel)
set_option maxRecDepth 20000 in
theorem gX6_addBest_X1_load : GoodIn wsX6_addBest (wsV RX6 155 RX1 yX1_load wsX1_load) := goodIn_app (goodIn_of _ (by decide +kernel)) ggX6_addBest_X1_load
set_option maxRecDepth 20000 in
theorem ggX6_addBest_X1_bestShift : GoodIn wsX6_addBest wsX1_bestShift := goodIn_r _ [29, 30, 31, 32, 33, 34, 8, 35, 12, 13, 14, 15, 16, 17, 18, 36, 24, 37, 77, 78, 79, 80, 75, 76] (by decide +kernel) (by decide +kernel)
set_option maxRecDepth 20000 in
theorem gX6_addBest_X1_bestShift : GoodIn wsX6_addBest (wsV RX6 239 RX1 yX1_bestShift wsX1_bestShift) := goodIn_app (goodIn_of _ (by decide +kernel)) ggX6_addBest_X1_bestShift
set_option maxRecDepth 20000 in
theorem ggX6_addBest_X6_addRow : GoodIn wsX6_addBest wsX6_addRow := goodIn_r _ [41, 4, 42, 2, 43, 44, 45, 46, 47, 48, 49, 50, 51, 52, 20, 21, 16, 22, 18, 53, 14, 15, 17, 54, 55, 56, 57, 58, 59, 23, 24, 25, 60, 61, 62, 63, 64, 65, 66, 67, 68, 77, 78, 79, 80, 69, 70, 71, 72, 73, 74, 76] (by decide +kernel) (by decide +kernel)
set_option maxRecDepth 20000 in
theorem gX6_addBest_X6_addRow : GoodIn wsX6_addBest (wsV RX6 243 RX6 yX6_addRow wsX6_addRow) := goodIn_app (goodIn_of _ (by decide +kernel)) ggX6_addBest_X6_addRow
theorem dX6_addBest_0 : decode cX6_addBest 0 = .ok (.aload_n 0, 1) := by decide +kernel
theorem dX6_addBest_1 : decode cX6_addBest 1 = .ok (.getfield 40, 3) := by decide +kernel
theorem dX6_addBest_4 : decode cX6_addBest 4 = .ok (.aload_n 0, 1) := by decide +kernel
theorem dX6_addBest_5 : decode cX6_addBest 5 = .ok (.getfield 10, 3) := by decide +kernel
theorem dX6_addBest_8 : decode cX6_addBest 8 = .ok (.aload_n 0, 1) := by decide +kernel
theorem dX6_addBest_9 : decode cX6_addBest 9 = .ok (.getfield 10, 3) := by decide +kernel
theorem dX6_addBest_12 : decode cX6_addBest 12 = .ok (.getfield 62, 3) := by decide +kernel
theorem dX6_addBest_15 : decode cX6_addBest 15 = .ok (.iconst 1, 1) := by decide +kernel
theorem dX6_addBest_16 : decode cX6_addBest 16 = .ok (.isub, 1) := by decide +kernel
theorem dX6_addBest_17 : decode cX6_addBest 17 = .ok (.invokevirtual 155, 3) := by decide +kernel
theorem dX6_addBest_20 : decode cX6_addBest 20 = .ok (.aload_n 0, 1) := by decide +kernel
theorem dX6_addBest_21 : decode cX6_addBest 21 = .ok (.getfield 40, 3) := by decide +kernel
theorem dX6_addBest_24 : decode cX6_addBest 24 = .ok (.aload_n 0, 1) := by decide +kernel
theorem dX6_addBest_25 : decode cX6_addBest 25 = .ok (.getfield 33, 3) := by decide +kernel
theorem dX6_addBest_28 : decode cX6_addBest 28 = .ok (.invokevirtual 239, 3) := by decide +kernel
theorem dX6_addBest_31 : decode cX6_addBest 31 = .ok (.istore_n 1, 1) := by decide +kernel
theorem dX6_addBest_32 : decode cX6_addBest 32 = .ok (.aload_n 0, 1) := by decide +kernel
theorem dX6_addBest_33 : decode cX6_addBest 33 = .ok (.iload_n 1, 1) := by decide +kernel
theorem dX6_addBest_34 : decode cX6_addBest 34 = .ok (.invokevirtual 243, 3) := by decide +kernel
theorem dX6_addBest_37 : decode cX6_addBest 37 = .ok (.iload_n 1, 1) := by decide +kernel
theorem dX6_addBest_38 : decode cX6_addBest 38 = .ok (.ireturn, 1) := by decide +kernel
set_option maxRecDepth 20000 in
theorem ggX6_addPlanned_X1_load : GoodIn wsX6_addPlanned wsX1_load := goodIn_r _ [11, 12, 13, 14, 15, 16, 17, 18, 19, 20, 21, 22, 23, 24, 25, 26, 27, 63, 64, 65, 66, 67, 68, 73, 74] (by decide +kernel) (by decide +kernel)
set_option maxRecDepth 20000 in
theorem gX6_addPlanned_X1_load : GoodIn wsX6_addPlanned (wsV RX6 155 RX1 yX1_load wsX1_load) := goodIn_app (goodIn_of _ (by decide +kernel)) ggX6_addPlanned_X1_load
set_option maxRecDepth 20000 in
theorem ggX6_addPlanned_X1_stackedIn : GoodIn wsX6_addPlanned wsX1_stackedIn := goodIn_r _ [31, 14, 15, 16, 17, 18, 19, 20, 32, 26, 33, 73, 74] (by decide +kernel) (by decide +kernel)
set_option maxRecDepth 20000 in
theorem gX6_addPlanned_X1_stackedIn : GoodIn wsX6_addPlanned (wsV RX6 164 RX1 yX1_stackedIn wsX1_stackedIn) := goodIn_app (goodIn_of _ (by decide +kernel)) ggX6_addPlanned_X1_stackedIn
set_option maxRecDepth 20000 in
theorem ggX6_addPlanned_X6_addRow : GoodIn wsX6_addPlanned wsX6_addRow := goodIn_r _ [37, 4, 6, 2, 5, 38, 39, 40, 41, 42, 43, 44, 45, 46, 22, 23, 18, 24, 20, 47, 16, 17, 19, 48, 49, 50, 51, 52, 53, 25, 26, 27, 54, 55, 56, 57, 58, 59, 60, 61, 62, 69, 70, 71, 72, 63, 64, 65, 66, 67, 68, 74] (by decide +kernel) (by decide +kernel)
set_option maxRecDepth 20000 in
theorem gX6_addPlanned_X6_addRow : GoodIn wsX6_addPlanned (wsV RX6 243 RX6 yX6_addRow wsX6_addRow) := goodIn_app (goodIn_of _ (by decide +kernel)) ggX6_addPlanned_X6_addRow
theorem dX6_addPlanned_0 : decode cX6_addPlanned 0 = .ok (.aload_n 0, 1) := by decide +kernel
theorem dX6_addPlanned_1 : decode cX6_addPlanned 1 = .ok (.getfield 40, 3) := by decide +kernel
theorem dX6_addPlanned_4 : decode cX6_addPlanned 4 = .ok (.aload_n 0, 1) := by decide +kernel
theorem dX6_addPlanned_5 : decode cX6_addPlanned 5 = .ok (.getfield 10, 3) := by decide +kernel
theorem dX6_addPlanned_8 : decode cX6_addPlanned 8 = .ok (.aload_n 0, 1) := by decide +kernel
theorem dX6_addPlanned_9 : decode cX6_addPlanned 9 = .ok (.getfield 10, 3) := by decide +kernel
theorem dX6_addPlanned_12 : decode cX6_addPlanned 12 = .ok (.getfield 62, 3) := by decide +kernel
theorem dX6_addPlanned_15 : decode cX6_addPlanned 15 = .ok (.iconst 1, 1) := by decide +kernel
theorem dX6_addPlanned_16 : decode cX6_addPlanned 16 = .ok (.isub, 1) := by decide +kernel
theorem dX6_addPlanned_17 : decode cX6_addPlanned 17 = .ok (.invokevirtual 155, 3) := by decide +kernel
theorem dX6_addPlanned_20 : decode cX6_addPlanned 20 = .ok (.aload_n 0, 1) := by decide +kernel
theorem dX6_addPlanned_21 : decode cX6_addPlanned 21 = .ok (.getfield 40, 3) := by decide +kernel
theorem dX6_addPlanned_24 : decode cX6_addPlanned 24 = .ok (.aload_n 0, 1) := by decide +kernel
theorem dX6_addPlanned_25 : decode cX6_addPlanned 25 = .ok (.getfield 33, 3) := by decide +kernel
theorem dX6_addPlanned_28 : decode cX6_addPlanned 28 = .ok (.getfield 159, 3) := by decide +kernel
theorem dX6_addPlanned_31 : decode cX6_addPlanned 31 = .ok (.iconst 0, 1) := by decide +kernel
theorem dX6_addPlanned_32 : decode cX6_addPlanned 32 = .ok (.aload_n 0, 1) := by decide +kernel
theorem dX6_addPlanned_33 : decode cX6_addPlanned 33 = .ok (.getfield 33, 3) := by decide +kernel
theorem dX6_addPlanned_36 : decode cX6_addPlanned 36 = .ok (.getfield 162, 3) := by decide +kernel
theorem dX6_addPlanned_39 : decode cX6_addPlanned 39 = .ok (.iload_n 1, 1) := by decide +kernel
theorem dX6_addPlanned_40 : decode cX6_addPlanned 40 = .ok (.invokevirtual 164, 3) := by decide +kernel
theorem dX6_addPlanned_43 : decode cX6_addPlanned 43 = .ok (.istore_n 2, 1) := by decide +kernel
theorem dX6_addPlanned_44 : decode cX6_addPlanned 44 = .ok (.aload_n 0, 1) := by decide +kernel
theorem dX6_addPlanned_45 : decode cX6_addPlanned 45 = .ok (.iload_n 1, 1) := by decide +kernel
theorem dX6_addPlanned_46 : decode cX6_addPlanned 46 = .ok (.invokevirtual 243, 3) := by decide +kernel
theorem dX6_addPlanned_49 : decode cX6_addPlanned 49 = .ok (.iload_n 2, 1) := by decide +kernel
theorem dX6_addPlanned_50 : decode cX6_addPlanned 50 = .ok (.ireturn, 1) := by decide +kernel
set_option maxRecDepth 20000 in
theorem ggX6_addRow_X4_openRound : GoodIn wsX6_addRow wsX4_openRound := goodIn_r _ [9, 10, 11, 12, 13, 14, 15, 16, 17, 18, 45, 46, 47, 48, 49, 50, 51] (by decide +kernel) (by decide +kernel)
set_option maxRecDepth 20000 in
theorem gX6_addRow_X4_openRound : GoodIn wsX6_addRow (wsV RX6 246 RX4 yX4_openRound wsX4_openRound) := goodIn_app (goodIn_of _ (by decide +kernel)) ggX6_addRow_X4_openRound
set_option maxRecDepth 20000 in
theorem ggX6_addRow_X2_at : GoodIn wsX6_addRow wsX2_at := goodIn_r _ [22, 18, 51] (by decide +kernel) (by decide +kernel)
set_option maxRecDepth 20000 in
theorem gX6_addRow_X2_at : GoodIn wsX6_addRow (wsV RX6 114 RX2 yX2_at wsX2_at) := goodIn_app (goodIn_of _ (by decide +kernel)) ggX6_addRow_X2_at
set_option maxRecDepth 20000 in
theorem ggX6_addRow_X4_addWork : GoodIn wsX6_addRow wsX4_addWork := goodIn_r _ [26, 10, 11, 27, 12, 28, 20, 21, 16, 22, 18, 13, 14, 15, 17, 29, 30, 31, 45, 46, 47, 48, 49, 50, 51] (by decide +kernel) (by decide +kernel)
set_option maxRecDepth 20000 in
theorem gX6_addRow_X4_addWork : GoodIn wsX6_addRow (wsV RX6 249 RX4 yX4_addWork wsX4_addWork) := goodIn_app (goodIn_of _ (by decide +kernel)) ggX6_addRow_X4_addWork
set_option maxRecDepth 20000 in
theorem ggX6_addRow_X4_closeRound : GoodIn wsX6_addRow wsX4_closeRound := goodIn_r _ [35, 11, 45, 46, 47, 48, 49, 50] (by decide +kernel) (by decide +kernel)
set_option maxRecDepth 20000 in
theorem gX6_addRow_X4_closeRound : GoodIn wsX6_addRow (wsV RX6 252 RX4 yX4_closeRound wsX4_closeRound) := goodIn_app (goodIn_of _ (by decide +kernel)) ggX6_addRow_X4_closeRound
theorem dX6_addRow_0 : decode cX6_addRow 0 = .ok (.aload_n 0, 1) := by decide +kernel
theorem dX6_addRow_1 : decode cX6_addRow 1 = .ok (.getfield 33, 3) := by decide +kernel
theorem dX6_addRow_4 : decode cX6_addRow 4 = .ok (.getfield 162, 3) := by decide +kernel
theorem dX6_addRow_7 : decode cX6_addRow 7 = .ok (.istore_n 2, 1) := by decide +kernel
theorem dX6_addRow_8 : decode cX6_addRow 8 = .ok (.aload_n 0, 1) := by decide +kernel
theorem dX6_addRow_9 : decode cX6_addRow 9 = .ok (.getfield 10, 3) := by decide +kernel
theorem dX6_addRow_12 : decode cX6_addRow 12 = .ok (.invokevirtual 246, 3) := by decide +kernel
theorem dX6_addRow_15 : decode cX6_addRow 15 = .ok (.iconst 0, 1) := by decide +kernel
theorem dX6_addRow_16 : decode cX6_addRow 16 = .ok (.istore_n 3, 1) := by decide +kernel
theorem dX6_addRow_17 : decode cX6_addRow 17 = .ok (.iload_n 3, 1) := by decide +kernel
theorem dX6_addRow_18 : decode cX6_addRow 18 = .ok (.iload_n 2, 1) := by decide +kernel
theorem dX6_addRow_19 : decode cX6_addRow 19 = .ok (.if_icmp .ge 31, 3) := by decide +kernel
theorem dX6_addRow_22 : decode cX6_addRow 22 = .ok (.aload_n 0, 1) := by decide +kernel
theorem dX6_addRow_23 : decode cX6_addRow 23 = .ok (.getfield 10, 3) := by decide +kernel
theorem dX6_addRow_26 : decode cX6_addRow 26 = .ok (.aload_n 0, 1) := by decide +kernel
theorem dX6_addRow_27 : decode cX6_addRow 27 = .ok (.getfield 33, 3) := by decide +kernel
theorem dX6_addRow_30 : decode cX6_addRow 30 = .ok (.getfield 159, 3) := by decide +kernel
theorem dX6_addRow_33 : decode cX6_addRow 33 = .ok (.iload_n 3, 1) := by decide +kernel
theorem dX6_addRow_34 : decode cX6_addRow 34 = .ok (.iload_n 1, 1) := by decide +kernel
theorem dX6_addRow_35 : decode cX6_addRow 35 = .ok (.iadd, 1) := by decide +kernel
theorem dX6_addRow_36 : decode cX6_addRow 36 = .ok (.iload_n 2, 1) := by decide +kernel
theorem dX6_addRow_37 : decode cX6_addRow 37 = .ok (.irem, 1) := by decide +kernel
theorem dX6_addRow_38 : decode cX6_addRow 38 = .ok (.invokevirtual 114, 3) := by decide +kernel
theorem dX6_addRow_41 : decode cX6_addRow 41 = .ok (.invokevirtual 249, 3) := by decide +kernel
theorem dX6_addRow_44 : decode cX6_addRow 44 = .ok (.iinc 3 1, 3) := by decide +kernel
theorem dX6_addRow_47 : decode cX6_addRow 47 = .ok (.goto (-30), 3) := by decide +kernel
theorem dX6_addRow_50 : decode cX6_addRow 50 = .ok (.aload_n 0, 1) := by decide +kernel
theorem dX6_addRow_51 : decode cX6_addRow 51 = .ok (.getfield 10, 3) := by decide +kernel
theorem dX6_addRow_54 : decode cX6_addRow 54 = .ok (.invokevirtual 252, 3) := by decide +kernel
theorem dX6_addRow_57 : decode cX6_addRow 57 = .ok (.return_, 1) := by decide +kernel
set_option maxRecDepth 20000 in
theorem ggX6_ofRound_X2_at : GoodIn wsX6_ofRound wsX2_at := goodIn_r _ [8, 9, 84] (by decide +kernel) (by decide +kernel)
set_option maxRecDepth 20000 in
theorem gX6_ofRound_X2_at : GoodIn wsX6_ofRound (wsV RX6 114 RX2 yX2_at wsX2_at) := goodIn_app (goodIn_of _ (by decide +kernel)) ggX6_ofRound_X2_at
set_option maxRecDepth 20000 in
theorem ggX6_ofRound_X4_countOf : GoodIn wsX6_ofRound wsX4_countOf := goodIn_r _ [14, 15, 16, 5, 6, 7, 8, 9, 17, 18, 19, 13, 20, 21, 78, 79, 80, 81, 82, 83, 84] (by decide +kernel) (by decide +kernel)
set_option maxRecDepth 20000 in
theorem gX6_ofRound_X4_countOf : GoodIn wsX6_ofRound (wsV RX6 267 RX4 yX4_countOf wsX4_countOf) := goodIn_app (goodIn_of _ (by decide +kernel)) ggX6_ofRound_X4_countOf
set_option maxRecDepth 20000 in
theorem ggX6_ofRound_X6_stackedOf : GoodIn wsX6_ofRound wsX6_stackedOf := goodIn_r _ [26, 27, 1, 28, 3, 29, 30, 31, 32, 33, 34, 35, 36, 37, 5, 6, 7, 8, 9, 38, 39, 40, 41, 42, 25, 43, 4, 44, 45, 46, 47, 48, 49, 73, 74, 75, 76, 77, 78, 79, 80, 81, 82, 83, 85, 84] (by decide +kernel) (by decide +kernel)
set_option maxRecDepth 20000 in
theorem gX6_ofRound_X6_stackedOf : GoodIn wsX6_ofRound (wsV RX6 270 RX6 yX6_stackedOf wsX6_stackedOf) := goodIn_app (goodIn_of _ (by decide +kernel)) ggX6_ofRound_X6_stackedOf
set_option maxRecDepth 20000 in
theorem ggX6_ofRound_X4_isMirrored : GoodIn wsX6_ofRound wsX4_isMirrored := goodIn_r _ [53, 15, 16, 5, 6, 7, 8, 9, 17, 18, 19, 13, 20, 21, 78, 79, 80, 81, 82, 83, 84] (by decide +kernel) (by decide +kernel)
set_option maxRecDepth 20000 in
theorem gX6_ofRound_X4_isMirrored : GoodIn wsX6_ofRound (wsV RX6 273 RX4 yX4_isMirrored wsX4_isMirrored) := goodIn_app (goodIn_of _ (by decide +kernel)) ggX6_ofRound_X4_isMirrored
set_option maxRecDepth 20000 in
theorem ggX6_ofRound_X4_yarnOf : GoodIn wsX6_ofRound wsX4_yarnOf := goodIn_r _ [57, 15, 58, 16, 5, 6, 7, 8, 9, 17, 18, 19, 13, 20, 21, 78, 79, 80, 81, 82, 83, 84] (by decide +kernel) (by decide +kernel)
set_option maxRecDepth 20000 in
theorem gX6_ofRound_X4_yarnOf : GoodIn wsX6_ofRound (wsV RX6 276 RX4 yX4_yarnOf wsX4_yarnOf) := goodIn_app (goodIn_of _ (by decide +kernel)) ggX6_ofRound_X4_yarnOf
set_option maxRecDepth 20000 in
theorem ggX6_ofRound_X4_distance : GoodIn wsX6_ofRound wsX4_distance := goodIn_r _ [62, 15, 16, 5, 6, 7, 8, 9, 17, 18, 19, 13, 20, 21, 63, 64, 65, 66, 67, 68, 69, 70, 71, 72, 78, 79, 80, 81, 82, 83, 84] (by decide +kernel) (by decide +kernel)
set_option maxRecDepth 20000 in
theorem gX6_ofRound_X4_distance : GoodIn wsX6_ofRound (wsV RX6 174 RX4 yX4_distance wsX4_distance) := goodIn_app (goodIn_of _ (by decide +kernel)) ggX6_ofRound_X4_distance
theorem dX6_ofRound_0 : decode cX6_ofRound 0 = .ok (.iload_n 2, 1) := by decide +kernel
theorem dX6_ofRound_1 : decode cX6_ofRound 1 = .ok (.tableswitch 161 0 9 #[55, 67, 79, 89, 99, 109, 115, 132, 141, 151], 55) := by decide +kernel
theorem dX6_ofRound_56 : decode cX6_ofRound 56 = .ok (.aload_n 0, 1) := by decide +kernel
theorem dX6_ofRound_57 : decode cX6_ofRound 57 = .ok (.getfield 10, 3) := by decide +kernel
theorem dX6_ofRound_60 : decode cX6_ofRound 60 = .ok (.getfield 146, 3) := by decide +kernel
theorem dX6_ofRound_63 : decode cX6_ofRound 63 = .ok (.iload_n 1, 1) := by decide +kernel
theorem dX6_ofRound_64 : decode cX6_ofRound 64 = .ok (.invokevirtual 114, 3) := by decide +kernel
theorem dX6_ofRound_67 : decode cX6_ofRound 67 = .ok (.ireturn, 1) := by decide +kernel
theorem dX6_ofRound_68 : decode cX6_ofRound 68 = .ok (.aload_n 0, 1) := by decide +kernel
theorem dX6_ofRound_69 : decode cX6_ofRound 69 = .ok (.getfield 10, 3) := by decide +kernel
theorem dX6_ofRound_72 : decode cX6_ofRound 72 = .ok (.getfield 128, 3) := by decide +kernel
theorem dX6_ofRound_75 : decode cX6_ofRound 75 = .ok (.iload_n 1, 1) := by decide +kernel
theorem dX6_ofRound_76 : decode cX6_ofRound 76 = .ok (.invokevirtual 114, 3) := by decide +kernel
theorem dX6_ofRound_79 : decode cX6_ofRound 79 = .ok (.ireturn, 1) := by decide +kernel
theorem dX6_ofRound_80 : decode cX6_ofRound 80 = .ok (.aload_n 0, 1) := by decide +kernel
theorem dX6_ofRound_81 : decode cX6_ofRound 81 = .ok (.getfield 10, 3) := by decide +kernel
theorem dX6_ofRound_84 : decode cX6_ofRound 84 = .ok (.iload_n 1, 1) := by decide +kernel
theorem dX6_ofRound_85 : decode cX6_ofRound 85 = .ok (.iconst 0, 1) := by decide +kernel
theorem dX6_ofRound_86 : decode cX6_ofRound 86 = .ok (.invokevirtual 267, 3) := by decide +kernel
theorem dX6_ofRound_89 : decode cX6_ofRound 89 = .ok (.ireturn, 1) := by decide +kernel
theorem dX6_ofRound_90 : decode cX6_ofRound 90 = .ok (.aload_n 0, 1) := by decide +kernel
theorem dX6_ofRound_91 : decode cX6_ofRound 91 = .ok (.getfield 10, 3) := by decide +kernel
theorem dX6_ofRound_94 : decode cX6_ofRound 94 = .ok (.iload_n 1, 1) := by decide +kernel
theorem dX6_ofRound_95 : decode cX6_ofRound 95 = .ok (.iconst 1, 1) := by decide +kernel
theorem dX6_ofRound_96 : decode cX6_ofRound 96 = .ok (.invokevirtual 267, 3) := by decide +kernel
theorem dX6_ofRound_99 : decode cX6_ofRound 99 = .ok (.ireturn, 1) := by decide +kernel
theorem dX6_ofRound_100 : decode cX6_ofRound 100 = .ok (.aload_n 0, 1) := by decide +kernel
theorem dX6_ofRound_101 : decode cX6_ofRound 101 = .ok (.getfield 10, 3) := by decide +kernel
theorem dX6_ofRound_104 : decode cX6_ofRound 104 = .ok (.iload_n 1, 1) := by decide +kernel
theorem dX6_ofRound_105 : decode cX6_ofRound 105 = .ok (.iconst 2, 1) := by decide +kernel
theorem dX6_ofRound_106 : decode cX6_ofRound 106 = .ok (.invokevirtual 267, 3) := by decide +kernel
theorem dX6_ofRound_109 : decode cX6_ofRound 109 = .ok (.ireturn, 1) := by decide +kernel
theorem dX6_ofRound_110 : decode cX6_ofRound 110 = .ok (.aload_n 0, 1) := by decide +kernel
theorem dX6_ofRound_111 : decode cX6_ofRound 111 = .ok (.iload_n 1, 1) := by decide +kernel
theorem dX6_ofRound_112 : decode cX6_ofRound 112 = .ok (.invokevirtual 270, 3) := by decide +kernel
theorem dX6_ofRound_115 : decode cX6_ofRound 115 = .ok (.ireturn, 1) := by decide +kernel
theorem dX6_ofRound_116 : decode cX6_ofRound 116 = .ok (.aload_n 0, 1) := by decide +kernel
theorem dX6_ofRound_117 : decode cX6_ofRound 117 = .ok (.getfield 10, 3) := by decide +kernel
theorem dX6_ofRound_120 : decode cX6_ofRound 120 = .ok (.iload_n 1, 1) := by decide +kernel
theorem dX6_ofRound_121 : decode cX6_ofRound 121 = .ok (.invokevirtual 273, 3) := by decide +kernel
theorem dX6_ofRound_124 : decode cX6_ofRound 124 = .ok (.ifCond .eq 7, 3) := by decide +kernel
theorem dX6_ofRound_127 : decode cX6_ofRound 127 = .ok (.iconst 1, 1) := by decide +kernel
theorem dX6_ofRound_128 : decode cX6_ofRound 128 = .ok (.goto 4, 3) := by decide +kernel
theorem dX6_ofRound_131 : decode cX6_ofRound 131 = .ok (.iconst 0, 1) := by decide +kernel
theorem dX6_ofRound_132 : decode cX6_ofRound 132 = .ok (.ireturn, 1) := by decide +kernel
theorem dX6_ofRound_133 : decode cX6_ofRound 133 = .ok (.aload_n 0, 1) := by decide +kernel
theorem dX6_ofRound_134 : decode cX6_ofRound 134 = .ok (.getfield 10, 3) := by decide +kernel
theorem dX6_ofRound_137 : decode cX6_ofRound 137 = .ok (.iload_n 1, 1) := by decide +kernel
theorem dX6_ofRound_138 : decode cX6_ofRound 138 = .ok (.invokevirtual 276, 3) := by decide +kernel
theorem dX6_ofRound_141 : decode cX6_ofRound 141 = .ok (.ireturn, 1) := by decide +kernel
theorem dX6_ofRound_142 : decode cX6_ofRound 142 = .ok (.aload_n 0, 1) := by decide +kernel
theorem dX6_ofRound_143 : decode cX6_ofRound 143 = .ok (.getfield 10, 3) := by decide +kernel
theorem dX6_ofRound_146 : decode cX6_ofRound 146 = .ok (.iload_n 1, 1) := by decide +kernel
theorem dX6_ofRound_147 : decode cX6_ofRound 147 = .ok (.iconst 1, 1) := by decide +kernel
theorem dX6_ofRound_148 : decode cX6_ofRound 148 = .ok (.invokevirtual 174, 3) := by decide +kernel
theorem dX6_ofRound_151 : decode cX6_ofRound 151 = .ok (.ireturn, 1) := by decide +kernel
theorem dX6_ofRound_152 : decode cX6_ofRound 152 = .ok (.aload_n 0, 1) := by decide +kernel
theorem dX6_ofRound_153 : decode cX6_ofRound 153 = .ok (.getfield 10, 3) := by decide +kernel
theorem dX6_ofRound_156 : decode cX6_ofRound 156 = .ok (.iload_n 1, 1) := by decide +kernel
theorem dX6_ofRound_157 : decode cX6_ofRound 157 = .ok (.iconst 0, 1) := by decide +kernel
theorem dX6_ofRound_158 : decode cX6_ofRound 158 = .ok (.invokevirtual 174, 3) := by decide +kernel
theorem dX6_ofRound_161 : decode cX6_ofRound 161 = .ok (.ireturn, 1) := by decide +kernel
theorem dX6_ofRound_162 : decode cX6_ofRound 162 = .ok (.aload_n 0, 1) := by decide +kernel
theorem dX6_ofRound_163 : decode cX6_ofRound 163 = .ok (.getfield 10, 3) := by decide +kernel
theorem dX6_ofRound_166 : decode cX6_ofRound 166 = .ok (.getfield 146, 3) := by decide +kernel
theorem dX6_ofRound_169 : decode cX6_ofRound 169 = .ok (.iload_n 1, 1) := by decide +kernel
theorem dX6_ofRound_170 : decode cX6_ofRound 170 = .ok (.invokevirtual 114, 3) := by decide +kernel
theorem dX6_ofRound_173 : decode cX6_ofRound 173 = .ok (.aload_n 0, 1) := by decide +kernel
theorem dX6_ofRound_174 : decode cX6_ofRound 174 = .ok (.getfield 10, 3) := by decide +kernel
theorem dX6_ofRound_177 : decode cX6_ofRound 177 = .ok (.getfield 146, 3) := by decide +kernel
theorem dX6_ofRound_180 : decode cX6_ofRound 180 = .ok (.iconst 0, 1) := by decide +kernel
theorem dX6_ofRound_181 : decode cX6_ofRound 181 = .ok (.invokevirtual 114, 3) := by decide +kernel
theorem dX6_ofRound_184 : decode cX6_ofRound 184 = .ok (.iload_n 1, 1) := by decide +kernel
theorem dX6_ofRound_185 : decode cX6_ofRound 185 = .ok (.iconst 1, 1) := by decide +kernel
theorem dX6_ofRound_186 : decode cX6_ofRound 186 = .ok (.iadd, 1) := by decide +kernel
theorem dX6_ofRound_187 : decode cX6_ofRound 187 = .ok (.imul, 1) := by decide +kernel
theorem dX6_ofRound_188 : decode cX6_ofRound 188 = .ok (.isub, 1) := by decide +kernel
theorem dX6_ofRound_189 : decode cX6_ofRound 189 = .ok (.ireturn, 1) := by decide +kernel
set_option maxRecDepth 20000 in
theorem ggX6_stackedOf_X1_load : GoodIn wsX6_stackedOf wsX1_load := goodIn_r _ [9, 10, 11, 12, 13, 14, 15, 16, 17, 18, 19, 20, 21, 22, 23, 24, 25, 38, 39, 40, 41, 42, 43, 44, 45] (by decide +kernel) (by decide +kernel)
set_option maxRecDepth 20000 in
theorem gX6_stackedOf_X1_load : GoodIn wsX6_stackedOf (wsV RX6 155 RX1 yX1_load wsX1_load) := goodIn_app (goodIn_of _ (by decide +kernel)) ggX6_stackedOf_X1_load
set_option maxRecDepth 20000 in
theorem ggX6_stackedOf_X2_at : GoodIn wsX6_stackedOf wsX2_at := goodIn_r _ [17, 18, 45] (by decide +kernel) (by decide +kernel)
set_option maxRecDepth 20000 in
theorem gX6_stackedOf_X2_at : GoodIn wsX6_stackedOf (wsV RX6 114 RX2 yX2_at wsX2_at) := goodIn_app (goodIn_of _ (by decide +kernel)) ggX6_stackedOf_X2_at
set_option maxRecDepth 20000 in
theorem ggX6_stackedOf_X1_stackedIn : GoodIn wsX6_stackedOf wsX1_stackedIn := goodIn_r _ [30, 12, 13, 14, 15, 16, 17, 18, 31, 24, 32, 44, 45] (by decide +kernel) (by decide +kernel)
set_option maxRecDepth 20000 in
theorem gX6_stackedOf_X1_stackedIn : GoodIn wsX6_stackedOf (wsV RX6 164 RX1 yX1_stackedIn wsX1_stackedIn) := goodIn_app (goodIn_of _ (by decide +kernel)) ggX6_stackedOf_X1_stackedIn
theorem dX6_stackedOf_0 : decode cX6_stackedOf 0 = .ok (.iload_n 1, 1) := by decide +kernel
theorem dX6_stackedOf_1 : decode cX6_stackedOf 1 = .ok (.ifCond .ne 5, 3) := by decide +kernel
theorem dX6_stackedOf_4 : decode cX6_stackedOf 4 = .ok (.iconst 0, 1) := by decide +kernel
theorem dX6_stackedOf_5 : decode cX6_stackedOf 5 = .ok (.ireturn, 1) := by decide +kernel
theorem dX6_stackedOf_6 : decode cX6_stackedOf 6 = .ok (.aload_n 0, 1) := by decide +kernel
theorem dX6_stackedOf_7 : decode cX6_stackedOf 7 = .ok (.getfield 40, 3) := by decide +kernel
theorem dX6_stackedOf_10 : decode cX6_stackedOf 10 = .ok (.aload_n 0, 1) := by decide +kernel
theorem dX6_stackedOf_11 : decode cX6_stackedOf 11 = .ok (.getfield 10, 3) := by decide +kernel
theorem dX6_stackedOf_14 : decode cX6_stackedOf 14 = .ok (.iload_n 1, 1) := by decide +kernel
theorem dX6_stackedOf_15 : decode cX6_stackedOf 15 = .ok (.iconst 1, 1) := by decide +kernel
theorem dX6_stackedOf_16 : decode cX6_stackedOf 16 = .ok (.isub, 1) := by decide +kernel
theorem dX6_stackedOf_17 : decode cX6_stackedOf 17 = .ok (.invokevirtual 155, 3) := by decide +kernel
theorem dX6_stackedOf_20 : decode cX6_stackedOf 20 = .ok (.aload_n 0, 1) := by decide +kernel
theorem dX6_stackedOf_21 : decode cX6_stackedOf 21 = .ok (.getfield 40, 3) := by decide +kernel
theorem dX6_stackedOf_24 : decode cX6_stackedOf 24 = .ok (.aload_n 0, 1) := by decide +kernel
theorem dX6_stackedOf_25 : decode cX6_stackedOf 25 = .ok (.getfield 10, 3) := by decide +kernel
theorem dX6_stackedOf_28 : decode cX6_stackedOf 28 = .ok (.getfield 279, 3) := by decide +kernel
theorem dX6_stackedOf_31 : decode cX6_stackedOf 31 = .ok (.iload_n 1, 1) := by decide +kernel
theorem dX6_stackedOf_32 : decode cX6_stackedOf 32 = .ok (.bipush 120, 2) := by decide +kernel
theorem dX6_stackedOf_34 : decode cX6_stackedOf 34 = .ok (.imul, 1) := by decide +kernel
theorem dX6_stackedOf_35 : decode cX6_stackedOf 35 = .ok (.aload_n 0, 1) := by decide +kernel
theorem dX6_stackedOf_36 : decode cX6_stackedOf 36 = .ok (.getfield 10, 3) := by decide +kernel
theorem dX6_stackedOf_39 : decode cX6_stackedOf 39 = .ok (.getfield 128, 3) := by decide +kernel
theorem dX6_stackedOf_42 : decode cX6_stackedOf 42 = .ok (.iload_n 1, 1) := by decide +kernel
theorem dX6_stackedOf_43 : decode cX6_stackedOf 43 = .ok (.invokevirtual 114, 3) := by decide +kernel
theorem dX6_stackedOf_46 : decode cX6_stackedOf 46 = .ok (.iconst 0, 1) := by decide +kernel
theorem dX6_stackedOf_47 : decode cX6_stackedOf 47 = .ok (.invokevirtual 164, 3) := by decide +kernel
theorem dX6_stackedOf_50 : decode cX6_stackedOf 50 = .ok (.ireturn, 1) := by decide +kernel
set_option maxRecDepth 20000 in
theorem ggX6_sumOverRounds_X6_ofRound : GoodIn wsX6_sumOverRounds wsX6_ofRound := goodIn_r _ [7, 1, 8, 9, 10, 11, 12, 13, 14, 15, 16, 17, 18, 19, 20, 21, 22, 23, 24, 25, 26, 27, 28, 29, 30, 6, 31, 32, 33, 34, 35, 36, 37, 38, 39, 40, 41, 42, 43, 44, 45, 46, 47, 48, 49, 50, 51, 52, 53, 54, 55, 56, 57, 58, 59, 60, 61, 62, 63, 64, 65, 66, 67, 68, 69, 70, 71, 72, 73, 74, 75, 76, 77, 78, 79, 80, 81, 82, 83, 84, 85, 86, 87, 88, 89, 90] (by decide +kernel) (by decide +kernel)
set_option maxRecDepth 20000 in
theorem gX6_sumOverRounds_X6_ofRound : GoodIn wsX6_sumOverRounds (wsV RX6 124 RX6 yX6_ofRound wsX6_ofRound) := goodIn_app (goodIn_of _ (by decide +kernel)) ggX6_sumOverRounds_X6_ofRound
theorem dX6_sumOverRounds_0 : decode cX6_sumOverRounds 0 = .ok (.iconst 0, 1) := by decide +kernel
theorem dX6_sumOverRounds_1 : decode cX6_sumOverRounds 1 = .ok (.istore_n 2, 1) := by decide +kernel
theorem dX6_sumOverRounds_2 : decode cX6_sumOverRounds 2 = .ok (.iconst 0, 1) := by decide +kernel
theorem dX6_sumOverRounds_3 : decode cX6_sumOverRounds 3 = .ok (.istore_n 3, 1) := by decide +kernel
theorem dX6_sumOverRounds_4 : decode cX6_sumOverRounds 4 = .ok (.iload_n 3, 1) := by decide +kernel
theorem dX6_sumOverRounds_5 : decode cX6_sumOverRounds 5 = .ok (.aload_n 0, 1) := by decide +kernel
theorem dX6_sumOverRounds_6 : decode cX6_sumOverRounds 6 = .ok (.getfield 10, 3) := by decide +kernel
theorem dX6_sumOverRounds_9 : decode cX6_sumOverRounds 9 = .ok (.getfield 62, 3) := by decide +kernel
theorem dX6_sumOverRounds_12 : decode cX6_sumOverRounds 12 = .ok (.if_icmp .ge 18, 3) := by decide +kernel
theorem dX6_sumOverRounds_15 : decode cX6_sumOverRounds 15 = .ok (.iload_n 2, 1) := by decide +kernel
theorem dX6_sumOverRounds_16 : decode cX6_sumOverRounds 16 = .ok (.aload_n 0, 1) := by decide +kernel
theorem dX6_sumOverRounds_17 : decode cX6_sumOverRounds 17 = .ok (.iload_n 3, 1) := by decide +kernel
theorem dX6_sumOverRounds_18 : decode cX6_sumOverRounds 18 = .ok (.iload_n 1, 1) := by decide +kernel
theorem dX6_sumOverRounds_19 : decode cX6_sumOverRounds 19 = .ok (.invokevirtual 124, 3) := by decide +kernel
theorem dX6_sumOverRounds_22 : decode cX6_sumOverRounds 22 = .ok (.iadd, 1) := by decide +kernel
theorem dX6_sumOverRounds_23 : decode cX6_sumOverRounds 23 = .ok (.istore_n 2, 1) := by decide +kernel
theorem dX6_sumOverRounds_24 : decode cX6_sumOverRounds 24 = .ok (.iinc 3 1, 3) := by decide +kernel
theorem dX6_sumOverRounds_27 : decode cX6_sumOverRounds 27 = .ok (.goto (-23), 3) := by decide +kernel
theorem dX6_sumOverRounds_30 : decode cX6_sumOverRounds 30 = .ok (.iload_n 2, 1) := by decide +kernel
theorem dX6_sumOverRounds_31 : decode cX6_sumOverRounds 31 = .ok (.ireturn, 1) := by decide +kernel
set_option maxRecDepth 20000 in
theorem ggX6_shapeGoal_X2_at : GoodIn wsX6_shapeGoal wsX2_at := goodIn_r _ [14, 15, 34] (by decide +kernel) (by decide +kernel)
set_option maxRecDepth 20000 in
theorem gX6_shapeGoal_X2_at : GoodIn wsX6_shapeGoal (wsV RX6 114 RX2 yX2_at wsX2_at) := goodIn_app (goodIn_of _ (by decide +kernel)) ggX6_shapeGoal_X2_at
set_option maxRecDepth 20000 in
theorem ggX6_shapeGoal_X6_rawGoal : GoodIn wsX6_shapeGoal wsX6_rawGoal := goodIn_r _ [19, 3, 4, 5, 6, 20, 21, 18, 22] (by decide +kernel) (by decide +kernel)
set_option maxRecDepth 20000 in
theorem gX6_shapeGoal_X6_rawGoal : GoodIn wsX6_shapeGoal (va_wsS RX6 282 yX6_rawGoal wsX6_rawGoal) := goodIn_app (goodIn_of _ (by decide +kernel)) ggX6_shapeGoal_X6_rawGoal
theorem dX6_shapeGoal_0 : decode cX6_shapeGoal 0 = .ok (.aload_n 0, 1) := by decide +kernel
theorem dX6_shapeGoal_1 : decode cX6_shapeGoal 1 = .ok (.getfield 10, 3) := by decide +kernel
theorem dX6_shapeGoal_4 : decode cX6_shapeGoal 4 = .ok (.getfield 146, 3) := by decide +kernel
theorem dX6_shapeGoal_7 : decode cX6_shapeGoal 7 = .ok (.iconst 0, 1) := by decide +kernel
theorem dX6_shapeGoal_8 : decode cX6_shapeGoal 8 = .ok (.invokevirtual 114, 3) := by decide +kernel
theorem dX6_shapeGoal_11 : decode cX6_shapeGoal 11 = .ok (.iload_n 1, 1) := by decide +kernel
theorem dX6_shapeGoal_12 : decode cX6_shapeGoal 12 = .ok (.iload_n 2, 1) := by decide +kernel
theorem dX6_shapeGoal_13 : decode cX6_shapeGoal 13 = .ok (.iload_n 3, 1) := by decide +kernel
theorem dX6_shapeGoal_14 : decode cX6_shapeGoal 14 = .ok (.invokestatic 282, 3) := by decide +kernel
theorem dX6_shapeGoal_17 : decode cX6_shapeGoal 17 = .ok (.istore 4, 2) := by decide +kernel
theorem dX6_shapeGoal_19 : decode cX6_shapeGoal 19 = .ok (.iconst 3, 1) := by decide +kernel
theorem dX6_shapeGoal_20 : decode cX6_shapeGoal 20 = .ok (.bipush 120, 2) := by decide +kernel
theorem dX6_shapeGoal_22 : decode cX6_shapeGoal 22 = .ok (.iload 4, 2) := by decide +kernel
theorem dX6_shapeGoal_24 : decode cX6_shapeGoal 24 = .ok (.invokestatic 286, 3) := by decide +kernel
theorem dX6_shapeGoal_27 : decode cX6_shapeGoal 27 = .ok (.invokestatic 291, 3) := by decide +kernel
theorem dX6_shapeGoal_30 : decode cX6_shapeGoal 30 = .ok (.ireturn, 1) := by decide +kernel
set_option maxRecDepth 20000 in
theorem ggX6_rawGoal_X6_doubled : GoodIn wsX6_rawGoal wsX6_doubled := goodIn_r _ [8] (by decide +kernel) (by decide +kernel)
set_option maxRecDepth 20000 in
theorem gX6_rawGoal_X6_doubled : GoodIn wsX6_rawGoal (va_wsS RX6 294 yX6_doubled wsX6_doubled) := goodIn_app (goodIn_of _ (by decide +kernel)) ggX6_rawGoal_X6_doubled
theorem dX6_rawGoal_0 : decode cX6_rawGoal 0 = .ok (.iload_n 1, 1) := by decide +kernel
theorem dX6_rawGoal_1 : decode cX6_rawGoal 1 = .ok (.tableswitch 67 0 3 #[31, 37, 55, 61], 31) := by decide +kernel
theorem dX6_rawGoal_32 : decode cX6_rawGoal 32 = .ok (.iload_n 0, 1) := by decide +kernel
theorem dX6_rawGoal_33 : decode cX6_rawGoal 33 = .ok (.iload_n 3, 1) := by decide +kernel
theorem dX6_rawGoal_34 : decode cX6_rawGoal 34 = .ok (.iconst 1, 1) := by decide +kernel
theorem dX6_rawGoal_35 : decode cX6_rawGoal 35 = .ok (.iadd, 1) := by decide +kernel
theorem dX6_rawGoal_36 : decode cX6_rawGoal 36 = .ok (.imul, 1) := by decide +kernel
theorem dX6_rawGoal_37 : decode cX6_rawGoal 37 = .ok (.ireturn, 1) := by decide +kernel
theorem dX6_rawGoal_38 : decode cX6_rawGoal 38 = .ok (.iload_n 0, 1) := by decide +kernel
theorem dX6_rawGoal_39 : decode cX6_rawGoal 39 = .ok (.iload_n 3, 1) := by decide +kernel
theorem dX6_rawGoal_40 : decode cX6_rawGoal 40 = .ok (.iconst 1, 1) := by decide +kernel
theorem dX6_rawGoal_41 : decode cX6_rawGoal 41 = .ok (.iadd, 1) := by decide +kernel
theorem dX6_rawGoal_42 : decode cX6_rawGoal 42 = .ok (.iload_n 2, 1) := by decide +kernel
theorem dX6_rawGoal_43 : decode cX6_rawGoal 43 = .ok (.invokestatic 286, 3) := by decide +kernel
theorem dX6_rawGoal_46 : decode cX6_rawGoal 46 = .ok (.iconst 3, 1) := by decide +kernel
theorem dX6_rawGoal_47 : decode cX6_rawGoal 47 = .ok (.iload_n 2, 1) := by decide +kernel
theorem dX6_rawGoal_48 : decode cX6_rawGoal 48 = .ok (.imul, 1) := by decide +kernel
theorem dX6_rawGoal_49 : decode cX6_rawGoal 49 = .ok (.iload_n 3, 1) := by decide +kernel
theorem dX6_rawGoal_50 : decode cX6_rawGoal 50 = .ok (.isub, 1) := by decide +kernel
theorem dX6_rawGoal_51 : decode cX6_rawGoal 51 = .ok (.invokestatic 286, 3) := by decide +kernel
theorem dX6_rawGoal_54 : decode cX6_rawGoal 54 = .ok (.imul, 1) := by decide +kernel
theorem dX6_rawGoal_55 : decode cX6_rawGoal 55 = .ok (.ireturn, 1) := by decide +kernel
theorem dX6_rawGoal_56 : decode cX6_rawGoal 56 = .ok (.iload_n 0, 1) := by decide +kernel
theorem dX6_rawGoal_57 : decode cX6_rawGoal 57 = .ok (.iload_n 3, 1) := by decide +kernel
theorem dX6_rawGoal_58 : decode cX6_rawGoal 58 = .ok (.invokestatic 294, 3) := by decide +kernel
theorem dX6_rawGoal_61 : decode cX6_rawGoal 61 = .ok (.ireturn, 1) := by decide +kernel
theorem dX6_rawGoal_62 : decode cX6_rawGoal 62 = .ok (.iload_n 0, 1) := by decide +kernel
theorem dX6_rawGoal_63 : decode cX6_rawGoal 63 = .ok (.iload_n 3, 1) := by decide +kernel
theorem dX6_rawGoal_64 : decode cX6_rawGoal 64 = .ok (.iload_n 2, 1) := by decide +kernel
theorem dX6_rawGoal_65 : decode cX6_rawGoal 65 = .ok (.imul, 1) := by decide +kernel
theorem dX6_rawGoal_66 : decode cX6_rawGoal 66 = .ok (.iadd, 1) := by decide +kernel
theorem dX6_rawGoal_67 : decode cX6_rawGoal 67 = .ok (.ireturn, 1) := by decide +kernel
theorem dX6_rawGoal_68 : decode cX6_rawGoal 68 = .ok (.iload_n 0, 1) := by decide +kernel
theorem dX6_rawGoal_69 : decode cX6_rawGoal 69 = .ok (.iload_n 3, 1) := by decide +kernel
theorem dX6_rawGoal_70 : decode cX6_rawGoal 70 = .ok (.iconst 1, 1) := by decide +kernel
theorem dX6_rawGoal_71 : decode cX6_rawGoal 71 = .ok (.iadd, 1) := by decide +kernel
theorem dX6_rawGoal_72 : decode cX6_rawGoal 72 = .ok (.iload_n 2, 1) := by decide +kernel
theorem dX6_rawGoal_73 : decode cX6_rawGoal 73 = .ok (.invokestatic 286, 3) := by decide +kernel
theorem dX6_rawGoal_76 : decode cX6_rawGoal 76 = .ok (.imul, 1) := by decide +kernel
theorem dX6_rawGoal_77 : decode cX6_rawGoal 77 = .ok (.ireturn, 1) := by decide +kernel
theorem dX6_doubled_0 : decode cX6_doubled 0 = .ok (.iload_n 0, 1) := by decide +kernel
theorem dX6_doubled_1 : decode cX6_doubled 1 = .ok (.istore_n 2, 1) := by decide +kernel
theorem dX6_doubled_2 : decode cX6_doubled 2 = .ok (.iconst 0, 1) := by decide +kernel
theorem dX6_doubled_3 : decode cX6_doubled 3 = .ok (.istore_n 3, 1) := by decide +kernel
theorem dX6_doubled_4 : decode cX6_doubled 4 = .ok (.iload_n 3, 1) := by decide +kernel
theorem dX6_doubled_5 : decode cX6_doubled 5 = .ok (.iload_n 1, 1) := by decide +kernel
theorem dX6_doubled_6 : decode cX6_doubled 6 = .ok (.if_icmp .ge 19, 3) := by decide +kernel
theorem dX6_doubled_9 : decode cX6_doubled 9 = .ok (.iload_n 2, 1) := by decide +kernel
theorem dX6_doubled_10 : decode cX6_doubled 10 = .ok (.bipush 120, 2) := by decide +kernel
theorem dX6_doubled_12 : decode cX6_doubled 12 = .ok (.if_icmp .gt 13, 3) := by decide +kernel
theorem dX6_doubled_15 : decode cX6_doubled 15 = .ok (.iload_n 2, 1) := by decide +kernel
theorem dX6_doubled_16 : decode cX6_doubled 16 = .ok (.iconst 2, 1) := by decide +kernel
theorem dX6_doubled_17 : decode cX6_doubled 17 = .ok (.imul, 1) := by decide +kernel
theorem dX6_doubled_18 : decode cX6_doubled 18 = .ok (.istore_n 2, 1) := by decide +kernel
theorem dX6_doubled_19 : decode cX6_doubled 19 = .ok (.iinc 3 1, 3) := by decide +kernel
theorem dX6_doubled_22 : decode cX6_doubled 22 = .ok (.goto (-18), 3) := by decide +kernel
theorem dX6_doubled_25 : decode cX6_doubled 25 = .ok (.iload_n 2, 1) := by decide +kernel
theorem dX6_doubled_26 : decode cX6_doubled 26 = .ok (.ireturn, 1) := by decide +kernel
theorem dX6_usedBy_0 : decode cX6_usedBy 0 = .ok (.iload_n 0, 1) := by decide +kernel
theorem dX6_usedBy_1 : decode cX6_usedBy 1 = .ok (.iconst 2, 1) := by decide +kernel
theorem dX6_usedBy_2 : decode cX6_usedBy 2 = .ok (.if_icmp .ne 7, 3) := by decide +kernel
theorem dX6_usedBy_5 : decode cX6_usedBy 5 = .ok (.iconst 2, 1) := by decide +kernel
theorem dX6_usedBy_6 : decode cX6_usedBy 6 = .ok (.goto 4, 3) := by decide +kernel
theorem dX6_usedBy_9 : decode cX6_usedBy 9 = .ok (.iconst 1, 1) := by decide +kernel
theorem dX6_usedBy_10 : decode cX6_usedBy 10 = .ok (.ireturn, 1) := by decide +kernel
theorem dX6_madeBy_0 : decode cX6_madeBy 0 = .ok (.iload_n 0, 1) := by decide +kernel
theorem dX6_madeBy_1 : decode cX6_madeBy 1 = .ok (.iconst 1, 1) := by decide +kernel
theorem dX6_madeBy_2 : decode cX6_madeBy 2 = .ok (.if_icmp .ne 7, 3) := by decide +kernel
theorem dX6_madeBy_5 : decode cX6_madeBy 5 = .ok (.iconst 2, 1) := by decide +kernel
theorem dX6_madeBy_6 : decode cX6_madeBy 6 = .ok (.goto 4, 3) := by decide +kernel
theorem dX6_madeBy_9 : decode cX6_madeBy 9 = .ok (.iconst 1, 1) := by decide +kernel
theorem dX6_madeBy_10 : decode cX6_madeBy 10 = .ok (.ireturn, 1) := by decide +kernel
