set_option maxRecDepth 20000 in
theorem ggX6_init_X4_init : GoodIn wsX6_init wsX4_init := goodIn_r _ [26, 27, 2, 3, 28, 29, 30, 31, 32, 33, 34, 35, 36, 37, 38, 39, 40, 125, 96, 97, 98, 99, 100, 101] (by decide +kernel) (by decide +kernel)
set_option maxRecDepth 20000 in
theorem gX6_init_X4_init_n9 : GoodIn wsX6_init (wsX4_init) := ggX6_init_X4_init
set_option maxRecDepth 20000 in
theorem ggX6_init_X0_init : GoodIn wsX6_init wsX0_init := goodIn_r _ [43, 44, 2, 3, 45, 46, 5, 6, 25, 26, 27, 28, 29, 30, 31, 32, 33, 34, 35, 36, 37, 38, 39, 40, 107, 108, 109, 96, 97, 98, 99, 100, 101, 125] (by decide +kernel) (by decide +kernel)
set_option maxRecDepth 20000 in
theorem gX6_init_X0_init : GoodIn wsX6_init (wsX0_init) := ggX6_init_X0_init
set_option maxRecDepth 20000 in
theorem ggX6_init_X3_init : GoodIn wsX6_init wsX3_init := goodIn_r _ [48, 49, 2, 3, 50, 29, 30, 51, 52, 53, 54, 36, 37, 38, 39, 40, 125, 110, 111, 112, 113, 114, 115, 116, 117, 118, 119] (by decide +kernel) (by decide +kernel)
set_option maxRecDepth 20000 in
theorem gX6_init_X3_init_n25 : GoodIn wsX6_init (wsX3_init) := ggX6_init_X3_init
set_option maxRecDepth 20000 in
theorem ggX6_init_X5_init : GoodIn wsX6_init wsX5_init := goodIn_r _ [56, 57, 2, 3, 58, 29, 30, 59, 60, 36, 37, 38, 39, 40, 125, 120, 121, 122, 123] (by decide +kernel) (by decide +kernel)
set_option maxRecDepth 20000 in
theorem gX6_init_X5_init_n32 : GoodIn wsX6_init (wsX5_init) := ggX6_init_X5_init
set_option maxRecDepth 20000 in
theorem ggX6_init_X1_init : GoodIn wsX6_init wsX1_init := goodIn_r _ [62, 63, 2, 3, 64, 29, 30, 65, 66, 36, 37, 38, 39, 40, 125, 124] (by decide +kernel) (by decide +kernel)
set_option maxRecDepth 20000 in
theorem gX6_init_X1_init_n39 : GoodIn wsX6_init (wsX1_init) := ggX6_init_X1_init
set_option maxRecDepth 20000 in
theorem ggX6_init_X2_put : GoodIn wsX6_init wsX2_put := goodIn_r _ [70, 40, 125] (by decide +kernel) (by decide +kernel)
set_option maxRecDepth 20000 in
theorem gX6_init_X2_put : GoodIn wsX6_init (wsV RX6 48 RX2 yX2_put wsX2_put) := goodIn_app (goodIn_of _ (by decide +kernel)) ggX6_init_X2_put
set_option maxRecDepth 20000 in
theorem ggX6_init_X4_startRing : GoodIn wsX6_init wsX4_startRing := goodIn_r _ [74, 75, 76, 77, 78, 6, 79, 32, 33, 80, 68, 69, 30, 70, 40, 81, 82, 83, 84, 31, 85, 86, 87, 88, 89, 90, 91, 92, 93, 94, 95, 96, 97, 98, 99, 100, 101, 125] (by decide +kernel) (by decide +kernel)
set_option maxRecDepth 20000 in
theorem gX6_init_X4_startRing : GoodIn wsX6_init (wsV RX6 54 RX4 yX4_startRing wsX4_startRing) := goodIn_app (goodIn_of _ (by decide +kernel)) ggX6_init_X4_startRing
theorem dX6_init_0 : decode cX6_init 0 = .ok (.aload_n 0, 1) := by decide +kernel
theorem dX6_init_1 : decode cX6_init 1 = .ok (.invokespecial 1, 3) := by decide +kernel
theorem dX6_init_4 : decode cX6_init 4 = .ok (.aload_n 0, 1) := by decide +kernel
theorem dX6_init_5 : decode cX6_init 5 = .ok (.new 7, 3) := by decide +kernel
theorem dX6_init_8 : decode cX6_init 8 = .ok (.dup, 1) := by decide +kernel
theorem dX6_init_9 : decode cX6_init 9 = .ok (.invokespecial 9, 3) := by decide +kernel
theorem dX6_init_12 : decode cX6_init 12 = .ok (.putfield 10, 3) := by decide +kernel
theorem dX6_init_15 : decode cX6_init 15 = .ok (.aload_n 0, 1) := by decide +kernel
theorem dX6_init_16 : decode cX6_init 16 = .ok (.new 16, 3) := by decide +kernel
theorem dX6_init_19 : decode cX6_init 19 = .ok (.dup, 1) := by decide +kernel
theorem dX6_init_20 : decode cX6_init 20 = .ok (.invokespecial 18, 3) := by decide +kernel
theorem dX6_init_23 : decode cX6_init 23 = .ok (.putfield 19, 3) := by decide +kernel
theorem dX6_init_26 : decode cX6_init 26 = .ok (.aload_n 0, 1) := by decide +kernel
theorem dX6_init_27 : decode cX6_init 27 = .ok (.new 23, 3) := by decide +kernel
theorem dX6_init_30 : decode cX6_init 30 = .ok (.dup, 1) := by decide +kernel
theorem dX6_init_31 : decode cX6_init 31 = .ok (.invokespecial 25, 3) := by decide +kernel
theorem dX6_init_34 : decode cX6_init 34 = .ok (.putfield 26, 3) := by decide +kernel
theorem dX6_init_37 : decode cX6_init 37 = .ok (.aload_n 0, 1) := by decide +kernel
theorem dX6_init_38 : decode cX6_init 38 = .ok (.new 30, 3) := by decide +kernel
theorem dX6_init_41 : decode cX6_init 41 = .ok (.dup, 1) := by decide +kernel
theorem dX6_init_42 : decode cX6_init 42 = .ok (.invokespecial 32, 3) := by decide +kernel
theorem dX6_init_45 : decode cX6_init 45 = .ok (.putfield 33, 3) := by decide +kernel
theorem dX6_init_48 : decode cX6_init 48 = .ok (.aload_n 0, 1) := by decide +kernel
theorem dX6_init_49 : decode cX6_init 49 = .ok (.new 37, 3) := by decide +kernel
theorem dX6_init_52 : decode cX6_init 52 = .ok (.dup, 1) := by decide +kernel
theorem dX6_init_53 : decode cX6_init 53 = .ok (.invokespecial 39, 3) := by decide +kernel
theorem dX6_init_56 : decode cX6_init 56 = .ok (.putfield 40, 3) := by decide +kernel
theorem dX6_init_59 : decode cX6_init 59 = .ok (.aload_n 0, 1) := by decide +kernel
theorem dX6_init_60 : decode cX6_init 60 = .ok (.getfield 10, 3) := by decide +kernel
theorem dX6_init_63 : decode cX6_init 63 = .ok (.getfield 44, 3) := by decide +kernel
theorem dX6_init_66 : decode cX6_init 66 = .ok (.iconst 0, 1) := by decide +kernel
theorem dX6_init_67 : decode cX6_init 67 = .ok (.bipush 10, 2) := by decide +kernel
theorem dX6_init_69 : decode cX6_init 69 = .ok (.invokevirtual 48, 3) := by decide +kernel
theorem dX6_init_72 : decode cX6_init 72 = .ok (.aload_n 0, 1) := by decide +kernel
theorem dX6_init_73 : decode cX6_init 73 = .ok (.getfield 10, 3) := by decide +kernel
theorem dX6_init_76 : decode cX6_init 76 = .ok (.getfield 44, 3) := by decide +kernel
theorem dX6_init_79 : decode cX6_init 79 = .ok (.iconst 1, 1) := by decide +kernel
theorem dX6_init_80 : decode cX6_init 80 = .ok (.bipush 20, 2) := by decide +kernel
theorem dX6_init_82 : decode cX6_init 82 = .ok (.invokevirtual 48, 3) := by decide +kernel
theorem dX6_init_85 : decode cX6_init 85 = .ok (.aload_n 0, 1) := by decide +kernel
theorem dX6_init_86 : decode cX6_init 86 = .ok (.getfield 10, 3) := by decide +kernel
theorem dX6_init_89 : decode cX6_init 89 = .ok (.getfield 44, 3) := by decide +kernel
theorem dX6_init_92 : decode cX6_init 92 = .ok (.iconst 2, 1) := by decide +kernel
theorem dX6_init_93 : decode cX6_init 93 = .ok (.bipush 13, 2) := by decide +kernel
theorem dX6_init_95 : decode cX6_init 95 = .ok (.invokevirtual 48, 3) := by decide +kernel
theorem dX6_init_98 : decode cX6_init 98 = .ok (.aload_n 0, 1) := by decide +kernel
theorem dX6_init_99 : decode cX6_init 99 = .ok (.getfield 10, 3) := by decide +kernel
theorem dX6_init_102 : decode cX6_init 102 = .ok (.bipush 6, 2) := by decide +kernel
theorem dX6_init_104 : decode cX6_init 104 = .ok (.invokevirtual 54, 3) := by decide +kernel
theorem dX6_init_107 : decode cX6_init 107 = .ok (.return_, 1) := by decide +kernel
set_option maxRecDepth 20000 in
theorem ggX6_begin_X6_checkArgument : GoodIn wsX6_begin wsX6_checkArgument := goodIn_ca (goodIn_r _ [7, 8, 9] (by decide +kernel) (by decide +kernel)) (goodIn_sub (fun _ h => List.mem_cons_of_mem _ (List.mem_append_right _ h)) (by decide +kernel))
set_option maxRecDepth 20000 in
theorem gX6_begin_X6_checkArgument : GoodIn wsX6_begin (va_wsS RX6 58 yX6_checkArgument wsX6_checkArgument) := goodIn_app (goodIn_of _ (by decide +kernel)) ggX6_begin_X6_checkArgument
set_option maxRecDepth 20000 in
theorem ggX6_begin_X0_keep : GoodIn wsX6_begin wsX0_keep := goodIn_r _ [14, 15, 16, 17, 18, 19, 20, 21, 22, 23, 13, 24, 25, 26, 27, 28, 29, 30, 31, 32, 33, 34, 35, 36, 37, 38, 39, 40, 41, 42, 43, 44, 45, 46, 47, 48, 49, 50, 51, 82, 83, 84, 76, 77, 78, 79, 80, 81, 85] (by decide +kernel) (by decide +kernel)
set_option maxRecDepth 20000 in
theorem gX6_begin_X0_keep : GoodIn wsX6_begin (wsV RX6 66 RX0 yX0_keep wsX0_keep) := goodIn_app (goodIn_of _ (by decide +kernel)) ggX6_begin_X0_keep
set_option maxRecDepth 20000 in
theorem ggX6_begin_X4_startRing : GoodIn wsX6_begin wsX4_startRing := goodIn_r _ [55, 31, 56, 57, 58, 29, 59, 33, 34, 60, 48, 49, 40, 50, 46, 61, 62, 63, 64, 36, 51, 43, 44, 45, 65, 6, 66, 67, 68, 69, 70, 76, 77, 78, 79, 80, 81, 85] (by decide +kernel) (by decide +kernel)
set_option maxRecDepth 20000 in
theorem gX6_begin_X4_startRing : GoodIn wsX6_begin (wsV RX6 54 RX4 yX4_startRing wsX4_startRing) := goodIn_app (goodIn_of _ (by decide +kernel)) ggX6_begin_X4_startRing
theorem dX6_begin_0 : decode cX6_begin 0 = .ok (.iload_n 1, 1) := by decide +kernel
theorem dX6_begin_1 : decode cX6_begin 1 = .ok (.iconst 3, 1) := by decide +kernel
theorem dX6_begin_2 : decode cX6_begin 2 = .ok (.if_icmp .lt 13, 3) := by decide +kernel
theorem dX6_begin_5 : decode cX6_begin 5 = .ok (.iload_n 1, 1) := by decide +kernel
theorem dX6_begin_6 : decode cX6_begin 6 = .ok (.bipush 12, 2) := by decide +kernel
theorem dX6_begin_8 : decode cX6_begin 8 = .ok (.if_icmp .gt 7, 3) := by decide +kernel
theorem dX6_begin_11 : decode cX6_begin 11 = .ok (.iconst 1, 1) := by decide +kernel
theorem dX6_begin_12 : decode cX6_begin 12 = .ok (.goto 4, 3) := by decide +kernel
theorem dX6_begin_15 : decode cX6_begin 15 = .ok (.iconst 0, 1) := by decide +kernel
theorem dX6_begin_16 : decode cX6_begin 16 = .ok (.invokestatic 58, 3) := by decide +kernel
theorem dX6_begin_19 : decode cX6_begin 19 = .ok (.aload_n 0, 1) := by decide +kernel
theorem dX6_begin_20 : decode cX6_begin 20 = .ok (.getfield 10, 3) := by decide +kernel
theorem dX6_begin_23 : decode cX6_begin 23 = .ok (.getfield 62, 3) := by decide +kernel
theorem dX6_begin_26 : decode cX6_begin 26 = .ok (.istore_n 2, 1) := by decide +kernel
theorem dX6_begin_27 : decode cX6_begin 27 = .ok (.aload_n 0, 1) := by decide +kernel
theorem dX6_begin_28 : decode cX6_begin 28 = .ok (.getfield 19, 3) := by decide +kernel
theorem dX6_begin_31 : decode cX6_begin 31 = .ok (.aload_n 0, 1) := by decide +kernel
theorem dX6_begin_32 : decode cX6_begin 32 = .ok (.getfield 10, 3) := by decide +kernel
theorem dX6_begin_35 : decode cX6_begin 35 = .ok (.invokevirtual 66, 3) := by decide +kernel
theorem dX6_begin_38 : decode cX6_begin 38 = .ok (.aload_n 0, 1) := by decide +kernel
theorem dX6_begin_39 : decode cX6_begin 39 = .ok (.getfield 10, 3) := by decide +kernel
theorem dX6_begin_42 : decode cX6_begin 42 = .ok (.iload_n 1, 1) := by decide +kernel
theorem dX6_begin_43 : decode cX6_begin 43 = .ok (.invokevirtual 54, 3) := by decide +kernel
theorem dX6_begin_46 : decode cX6_begin 46 = .ok (.iload_n 2, 1) := by decide +kernel
theorem dX6_begin_47 : decode cX6_begin 47 = .ok (.ireturn, 1) := by decide +kernel
set_option maxRecDepth 20000 in
theorem ggX6_addRound_X6_isGoal : GoodIn wsX6_addRound wsX6_isGoal := goodIn_r _ [7] (by decide +kernel) (by decide +kernel)
set_option maxRecDepth 20000 in
theorem gX6_addRound_X6_isGoal : GoodIn wsX6_addRound (va_wsS RX6 70 yX6_isGoal wsX6_isGoal) := goodIn_app (goodIn_of _ (by decide +kernel)) ggX6_addRound_X6_isGoal
set_option maxRecDepth 20000 in
theorem ggX6_addRound_X6_checkArgument : GoodIn wsX6_addRound wsX6_checkArgument := goodIn_ca (goodIn_r _ [10, 11, 12] (by decide +kernel) (by decide +kernel)) (goodIn_sub (fun _ h => List.mem_cons_of_mem _ (List.mem_append_left _ (List.mem_append_left _ (List.mem_append_right _ h)))) (by decide +kernel))
set_option maxRecDepth 20000 in
theorem gX6_addRound_X6_checkArgument : GoodIn wsX6_addRound (va_wsS RX6 58 yX6_checkArgument wsX6_checkArgument) := goodIn_app (goodIn_of _ (by decide +kernel)) ggX6_addRound_X6_checkArgument
set_option maxRecDepth 20000 in
theorem ggX6_addRound_X6_checkRoom : GoodIn wsX6_addRound wsX6_checkRoom := goodIn_ca (goodIn_r _ [16, 2, 17, 18, 19, 6, 20, 21, 22, 141, 142, 143, 144, 145, 146, 147, 148, 149, 150, 151] (by decide +kernel) (by decide +kernel)) (goodIn_sub (fun _ h => List.mem_cons_of_mem _ (List.mem_append_left _ (List.mem_append_right _ h))) (by decide +kernel))
set_option maxRecDepth 20000 in
theorem gX6_addRound_X6_checkRoom : GoodIn wsX6_addRound (wsV RX6 74 RX6 yX6_checkRoom wsX6_checkRoom) := goodIn_app (goodIn_of _ (by decide +kernel)) ggX6_addRound_X6_checkRoom
set_option maxRecDepth 20000 in
theorem ggX6_addRound_X4_lastTotal : GoodIn wsX6_addRound wsX4_lastTotal := goodIn_r _ [27, 28, 29, 30, 31, 32, 33, 34, 35, 146, 147, 148, 149, 150, 151, 152] (by decide +kernel) (by decide +kernel)
set_option maxRecDepth 20000 in
theorem gX6_addRound_X4_lastTotal : GoodIn wsX6_addRound (wsV RX6 77 RX4 yX4_lastTotal wsX4_lastTotal) := goodIn_app (goodIn_of _ (by decide +kernel)) ggX6_addRound_X4_lastTotal
set_option maxRecDepth 20000 in
theorem ggX6_addRound_X5_spread : GoodIn wsX6_addRound wsX5_spread := goodIn_r _ [40, 41, 42, 43, 44, 45, 46, 39, 47, 48, 49, 50, 51, 52, 53, 54, 55, 33, 56, 35, 153, 154, 155, 156, 152] (by decide +kernel) (by decide +kernel)
set_option maxRecDepth 20000 in
theorem gX6_addRound_X5_spread : GoodIn wsX6_addRound (wsV RX6 81 RX5 yX5_spread wsX5_spread) := goodIn_app (goodIn_of _ (by decide +kernel)) ggX6_addRound_X5_spread
set_option maxRecDepth 20000 in
theorem ggX6_addRound_X6_checkPossible : GoodIn wsX6_addRound wsX6_checkPossible := goodIn_ca (goodIn_r _ [59, 60, 61] (by decide +kernel) (by decide +kernel)) (goodIn_sub (fun _ h => List.mem_cons_of_mem _ (List.mem_append_right _ h)) (by decide +kernel))
set_option maxRecDepth 20000 in
theorem gX6_addRound_X6_checkPossible : GoodIn wsX6_addRound (va_wsS RX6 85 yX6_checkPossible wsX6_checkPossible) := goodIn_app (goodIn_of _ (by decide +kernel)) ggX6_addRound_X6_checkPossible
set_option maxRecDepth 20000 in
theorem ggX6_addRound_X0_keep : GoodIn wsX6_addRound wsX0_keep := goodIn_r _ [66, 67, 68, 69, 70, 71, 72, 73, 74, 75, 65, 76, 77, 78, 79, 80, 26, 81, 29, 82, 83, 28, 84, 85, 86, 87, 88, 33, 89, 90, 31, 32, 34, 35, 91, 54, 55, 56, 30, 157, 158, 159, 146, 147, 148, 149, 150, 151, 152] (by decide +kernel) (by decide +kernel)
set_option maxRecDepth 20000 in
theorem gX6_addRound_X0_keep : GoodIn wsX6_addRound (wsV RX6 66 RX0 yX0_keep wsX0_keep) := goodIn_app (goodIn_of _ (by decide +kernel)) ggX6_addRound_X0_keep
set_option maxRecDepth 20000 in
theorem ggX6_addRound_X6_addBest : GoodIn wsX6_addRound wsX6_addBest := goodIn_r _ [95, 96, 2, 17, 1, 97, 98, 99, 100, 101, 102, 103, 104, 105, 31, 32, 33, 34, 35, 106, 54, 55, 56, 107, 6, 108, 109, 110, 111, 112, 113, 114, 115, 116, 117, 118, 119, 120, 121, 122, 123, 124, 125, 126, 127, 128, 129, 26, 130, 83, 29, 28, 131, 132, 133, 134, 135, 136, 85, 30, 137, 138, 139, 140, 141, 142, 143, 144, 145, 146, 147, 148, 149, 150, 151, 160, 152, 153, 154, 155, 156] (by decide +kernel) (by decide +kernel)
set_option maxRecDepth 20000 in
theorem gX6_addRound_X6_addBest : GoodIn wsX6_addRound (wsV RX6 88 RX6 yX6_addBest wsX6_addBest) := goodIn_app (goodIn_of _ (by decide +kernel)) ggX6_addRound_X6_addBest
theorem dX6_addRound_0 : decode cX6_addRound 0 = .ok (.iload_n 1, 1) := by decide +kernel
theorem dX6_addRound_1 : decode cX6_addRound 1 = .ok (.invokestatic 70, 3) := by decide +kernel
theorem dX6_addRound_4 : decode cX6_addRound 4 = .ok (.invokestatic 58, 3) := by decide +kernel
theorem dX6_addRound_7 : decode cX6_addRound 7 = .ok (.aload_n 0, 1) := by decide +kernel
theorem dX6_addRound_8 : decode cX6_addRound 8 = .ok (.invokevirtual 74, 3) := by decide +kernel
theorem dX6_addRound_11 : decode cX6_addRound 11 = .ok (.aload_n 0, 1) := by decide +kernel
theorem dX6_addRound_12 : decode cX6_addRound 12 = .ok (.getfield 33, 3) := by decide +kernel
theorem dX6_addRound_15 : decode cX6_addRound 15 = .ok (.aload_n 0, 1) := by decide +kernel
theorem dX6_addRound_16 : decode cX6_addRound 16 = .ok (.getfield 10, 3) := by decide +kernel
theorem dX6_addRound_19 : decode cX6_addRound 19 = .ok (.invokevirtual 77, 3) := by decide +kernel
theorem dX6_addRound_22 : decode cX6_addRound 22 = .ok (.iload_n 1, 1) := by decide +kernel
theorem dX6_addRound_23 : decode cX6_addRound 23 = .ok (.invokevirtual 81, 3) := by decide +kernel
theorem dX6_addRound_26 : decode cX6_addRound 26 = .ok (.invokestatic 85, 3) := by decide +kernel
theorem dX6_addRound_29 : decode cX6_addRound 29 = .ok (.aload_n 0, 1) := by decide +kernel
theorem dX6_addRound_30 : decode cX6_addRound 30 = .ok (.getfield 19, 3) := by decide +kernel
theorem dX6_addRound_33 : decode cX6_addRound 33 = .ok (.aload_n 0, 1) := by decide +kernel
theorem dX6_addRound_34 : decode cX6_addRound 34 = .ok (.getfield 10, 3) := by decide +kernel
theorem dX6_addRound_37 : decode cX6_addRound 37 = .ok (.invokevirtual 66, 3) := by decide +kernel
theorem dX6_addRound_40 : decode cX6_addRound 40 = .ok (.aload_n 0, 1) := by decide +kernel
theorem dX6_addRound_41 : decode cX6_addRound 41 = .ok (.invokevirtual 88, 3) := by decide +kernel
theorem dX6_addRound_44 : decode cX6_addRound 44 = .ok (.ireturn, 1) := by decide +kernel
set_option maxRecDepth 20000 in
theorem ggX6_addShifted_X6_isGoal : GoodIn wsX6_addShifted wsX6_isGoal := goodIn_r _ [7] (by decide +kernel) (by decide +kernel)
set_option maxRecDepth 20000 in
theorem gX6_addShifted_X6_isGoal : GoodIn wsX6_addShifted (va_wsS RX6 70 yX6_isGoal wsX6_isGoal) := goodIn_app (goodIn_of _ (by decide +kernel)) ggX6_addShifted_X6_isGoal
set_option maxRecDepth 20000 in
theorem ggX6_addShifted_X6_isShift : GoodIn wsX6_addShifted wsX6_isShift := goodIn_r _ [10] (by decide +kernel) (by decide +kernel)
set_option maxRecDepth 20000 in
theorem gX6_addShifted_X6_isShift : GoodIn wsX6_addShifted (va_wsS RX6 91 yX6_isShift wsX6_isShift) := goodIn_app (goodIn_of _ (by decide +kernel)) ggX6_addShifted_X6_isShift
set_option maxRecDepth 20000 in
theorem ggX6_addShifted_X6_checkArgument : GoodIn wsX6_addShifted wsX6_checkArgument := goodIn_ca (goodIn_r _ [13, 14, 15] (by decide +kernel) (by decide +kernel)) (goodIn_sub (fun _ h => List.mem_cons_of_mem _ (List.mem_append_left _ (List.mem_append_left _ (List.mem_append_right _ h)))) (by decide +kernel))
set_option maxRecDepth 20000 in
theorem gX6_addShifted_X6_checkArgument : GoodIn wsX6_addShifted (va_wsS RX6 58 yX6_checkArgument wsX6_checkArgument) := goodIn_app (goodIn_of _ (by decide +kernel)) ggX6_addShifted_X6_checkArgument
set_option maxRecDepth 20000 in
theorem ggX6_addShifted_X6_checkRoom : GoodIn wsX6_addShifted wsX6_checkRoom := goodIn_ca (goodIn_r _ [19, 2, 20, 21, 22, 6, 23, 24, 25, 138, 139, 140, 141, 142, 143, 144, 145, 146, 147, 148] (by decide +kernel) (by decide +kernel)) (goodIn_sub (fun _ h => List.mem_cons_of_mem _ (List.mem_append_left _ (List.mem_append_right _ h))) (by decide +kernel))
set_option maxRecDepth 20000 in
theorem gX6_addShifted_X6_checkRoom : GoodIn wsX6_addShifted (wsV RX6 74 RX6 yX6_checkRoom wsX6_checkRoom) := goodIn_app (goodIn_of _ (by decide +kernel)) ggX6_addShifted_X6_checkRoom
set_option maxRecDepth 20000 in
theorem ggX6_addShifted_X4_lastTotal : GoodIn wsX6_addShifted wsX4_lastTotal := goodIn_r _ [30, 31, 32, 33, 34, 35, 36, 37, 38, 143, 144, 145, 146, 147, 148, 149] (by decide +kernel) (by decide +kernel)
set_option maxRecDepth 20000 in
theorem gX6_addShifted_X4_lastTotal : GoodIn wsX6_addShifted (wsV RX6 77 RX4 yX4_lastTotal wsX4_lastTotal) := goodIn_app (goodIn_of _ (by decide +kernel)) ggX6_addShifted_X4_lastTotal
set_option maxRecDepth 20000 in
theorem ggX6_addShifted_X5_spread : GoodIn wsX6_addShifted wsX5_spread := goodIn_r _ [43, 44, 45, 46, 47, 48, 49, 42, 50, 51, 52, 53, 54, 55, 56, 57, 58, 36, 59, 38, 150, 151, 152, 153, 149] (by decide +kernel) (by decide +kernel)
set_option maxRecDepth 20000 in
theorem gX6_addShifted_X5_spread : GoodIn wsX6_addShifted (wsV RX6 81 RX5 yX5_spread wsX5_spread) := goodIn_app (goodIn_of _ (by decide +kernel)) ggX6_addShifted_X5_spread
set_option maxRecDepth 20000 in
theorem ggX6_addShifted_X6_checkPossible : GoodIn wsX6_addShifted wsX6_checkPossible := goodIn_ca (goodIn_r _ [62, 63, 64] (by decide +kernel) (by decide +kernel)) (goodIn_sub (fun _ h => List.mem_cons_of_mem _ (List.mem_append_right _ h)) (by decide +kernel))
set_option maxRecDepth 20000 in
theorem gX6_addShifted_X6_checkPossible : GoodIn wsX6_addShifted (va_wsS RX6 85 yX6_checkPossible wsX6_checkPossible) := goodIn_app (goodIn_of _ (by decide +kernel)) ggX6_addShifted_X6_checkPossible
set_option maxRecDepth 20000 in
theorem ggX6_addShifted_X0_keep : GoodIn wsX6_addShifted wsX0_keep := goodIn_r _ [69, 70, 71, 72, 73, 74, 75, 76, 77, 78, 68, 79, 80, 81, 82, 83, 29, 84, 32, 85, 86, 31, 87, 88, 89, 90, 91, 36, 92, 93, 34, 35, 37, 38, 94, 57, 58, 59, 33, 154, 155, 156, 143, 144, 145, 146, 147, 148, 149] (by decide +kernel) (by decide +kernel)
set_option maxRecDepth 20000 in
theorem gX6_addShifted_X0_keep : GoodIn wsX6_addShifted (wsV RX6 66 RX0 yX0_keep wsX0_keep) := goodIn_app (goodIn_of _ (by decide +kernel)) ggX6_addShifted_X0_keep
set_option maxRecDepth 20000 in
theorem ggX6_addShifted_X6_addPlanned : GoodIn wsX6_addShifted wsX6_addPlanned := goodIn_r _ [98, 99, 2, 20, 1, 100, 101, 102, 103, 104, 105, 106, 107, 108, 109, 110, 34, 35, 36, 37, 38, 111, 57, 58, 59, 112, 6, 113, 114, 115, 116, 117, 118, 119, 120, 121, 122, 123, 124, 125, 126, 29, 127, 86, 32, 31, 128, 129, 130, 131, 132, 133, 88, 33, 134, 135, 136, 137, 138, 139, 140, 141, 142, 143, 144, 145, 146, 147, 148, 150, 151, 152, 153, 157, 149] (by decide +kernel) (by decide +kernel)
set_option maxRecDepth 20000 in
theorem gX6_addShifted_X6_addPlanned : GoodIn wsX6_addShifted (wsV RX6 94 RX6 yX6_addPlanned wsX6_addPlanned) := goodIn_app (goodIn_of _ (by decide +kernel)) ggX6_addShifted_X6_addPlanned
theorem dX6_addShifted_0 : decode cX6_addShifted 0 = .ok (.iload_n 1, 1) := by decide +kernel
theorem dX6_addShifted_1 : decode cX6_addShifted 1 = .ok (.invokestatic 70, 3) := by decide +kernel
theorem dX6_addShifted_4 : decode cX6_addShifted 4 = .ok (.ifCond .eq 14, 3) := by decide +kernel
theorem dX6_addShifted_7 : decode cX6_addShifted 7 = .ok (.iload_n 2, 1) := by decide +kernel
theorem dX6_addShifted_8 : decode cX6_addShifted 8 = .ok (.invokestatic 91, 3) := by decide +kernel
theorem dX6_addShifted_11 : decode cX6_addShifted 11 = .ok (.ifCond .eq 7, 3) := by decide +kernel
theorem dX6_addShifted_14 : decode cX6_addShifted 14 = .ok (.iconst 1, 1) := by decide +kernel
theorem dX6_addShifted_15 : decode cX6_addShifted 15 = .ok (.goto 4, 3) := by decide +kernel
theorem dX6_addShifted_18 : decode cX6_addShifted 18 = .ok (.iconst 0, 1) := by decide +kernel
theorem dX6_addShifted_19 : decode cX6_addShifted 19 = .ok (.invokestatic 58, 3) := by decide +kernel
theorem dX6_addShifted_22 : decode cX6_addShifted 22 = .ok (.aload_n 0, 1) := by decide +kernel
theorem dX6_addShifted_23 : decode cX6_addShifted 23 = .ok (.invokevirtual 74, 3) := by decide +kernel
theorem dX6_addShifted_26 : decode cX6_addShifted 26 = .ok (.aload_n 0, 1) := by decide +kernel
theorem dX6_addShifted_27 : decode cX6_addShifted 27 = .ok (.getfield 33, 3) := by decide +kernel
theorem dX6_addShifted_30 : decode cX6_addShifted 30 = .ok (.aload_n 0, 1) := by decide +kernel
theorem dX6_addShifted_31 : decode cX6_addShifted 31 = .ok (.getfield 10, 3) := by decide +kernel
theorem dX6_addShifted_34 : decode cX6_addShifted 34 = .ok (.invokevirtual 77, 3) := by decide +kernel
theorem dX6_addShifted_37 : decode cX6_addShifted 37 = .ok (.iload_n 1, 1) := by decide +kernel
theorem dX6_addShifted_38 : decode cX6_addShifted 38 = .ok (.invokevirtual 81, 3) := by decide +kernel
theorem dX6_addShifted_41 : decode cX6_addShifted 41 = .ok (.invokestatic 85, 3) := by decide +kernel
theorem dX6_addShifted_44 : decode cX6_addShifted 44 = .ok (.aload_n 0, 1) := by decide +kernel
theorem dX6_addShifted_45 : decode cX6_addShifted 45 = .ok (.getfield 19, 3) := by decide +kernel
theorem dX6_addShifted_48 : decode cX6_addShifted 48 = .ok (.aload_n 0, 1) := by decide +kernel
theorem dX6_addShifted_49 : decode cX6_addShifted 49 = .ok (.getfield 10, 3) := by decide +kernel
theorem dX6_addShifted_52 : decode cX6_addShifted 52 = .ok (.invokevirtual 66, 3) := by decide +kernel
theorem dX6_addShifted_55 : decode cX6_addShifted 55 = .ok (.aload_n 0, 1) := by decide +kernel
theorem dX6_addShifted_56 : decode cX6_addShifted 56 = .ok (.iload_n 2, 1) := by decide +kernel
theorem dX6_addShifted_57 : decode cX6_addShifted 57 = .ok (.invokevirtual 94, 3) := by decide +kernel
theorem dX6_addShifted_60 : decode cX6_addShifted 60 = .ok (.ireturn, 1) := by decide +kernel
set_option maxRecDepth 20000 in
theorem ggX6_addMirrored_X6_isGoal : GoodIn wsX6_addMirrored wsX6_isGoal := goodIn_r _ [7] (by decide +kernel) (by decide +kernel)
set_option maxRecDepth 20000 in
theorem gX6_addMirrored_X6_isGoal : GoodIn wsX6_addMirrored (va_wsS RX6 70 yX6_isGoal wsX6_isGoal) := goodIn_app (goodIn_of _ (by decide +kernel)) ggX6_addMirrored_X6_isGoal
set_option maxRecDepth 20000 in
theorem ggX6_addMirrored_X6_checkArgument : GoodIn wsX6_addMirrored wsX6_checkArgument := goodIn_ca (goodIn_r _ [10, 11, 12] (by decide +kernel) (by decide +kernel)) (goodIn_sub (fun _ h => List.mem_cons_of_mem _ (List.mem_append_left _ (List.mem_append_left _ (List.mem_append_right _ h)))) (by decide +kernel))
set_option maxRecDepth 20000 in
theorem gX6_addMirrored_X6_checkArgument : GoodIn wsX6_addMirrored (va_wsS RX6 58 yX6_checkArgument wsX6_checkArgument) := goodIn_app (goodIn_of _ (by decide +kernel)) ggX6_addMirrored_X6_checkArgument
set_option maxRecDepth 20000 in
theorem ggX6_addMirrored_X6_checkRoom : GoodIn wsX6_addMirrored wsX6_checkRoom := goodIn_ca (goodIn_r _ [16, 2, 17, 18, 19, 6, 20, 21, 22, 135, 136, 137, 138, 139, 140, 141, 142, 143, 144, 145] (by decide +kernel) (by decide +kernel)) (goodIn_sub (fun _ h => List.mem_cons_of_mem _ (List.mem_append_left _ (List.mem_append_right _ h))) (by decide +kernel))
set_option maxRecDepth 20000 in
theorem gX6_addMirrored_X6_checkRoom : GoodIn wsX6_addMirrored (wsV RX6 74 RX6 yX6_checkRoom wsX6_checkRoom) := goodIn_app (goodIn_of _ (by decide +kernel)) ggX6_addMirrored_X6_checkRoom
set_option maxRecDepth 20000 in
theorem ggX6_addMirrored_X4_lastTotal : GoodIn wsX6_addMirrored wsX4_lastTotal := goodIn_r _ [27, 28, 29, 30, 31, 32, 33, 34, 35, 140, 141, 142, 143, 144, 145, 146] (by decide +kernel) (by decide +kernel)
set_option maxRecDepth 20000 in
theorem gX6_addMirrored_X4_lastTotal : GoodIn wsX6_addMirrored (wsV RX6 77 RX4 yX4_lastTotal wsX4_lastTotal) := goodIn_app (goodIn_of _ (by decide +kernel)) ggX6_addMirrored_X4_lastTotal
set_option maxRecDepth 20000 in
theorem ggX6_addMirrored_X5_mirror : GoodIn wsX6_addMirrored wsX5_mirror := goodIn_r _ [40, 41, 42, 43, 44, 45, 46, 47, 39, 48, 49, 50, 51, 52, 53, 54, 55, 33, 56, 35, 147, 148, 149, 150, 146] (by decide +kernel) (by decide +kernel)
set_option maxRecDepth 20000 in
theorem gX6_addMirrored_X5_mirror : GoodIn wsX6_addMirrored (wsV RX6 98 RX5 yX5_mirror wsX5_mirror) := goodIn_app (goodIn_of _ (by decide +kernel)) ggX6_addMirrored_X5_mirror
set_option maxRecDepth 20000 in
theorem ggX6_addMirrored_X6_checkPossible : GoodIn wsX6_addMirrored wsX6_checkPossible := goodIn_ca (goodIn_r _ [59, 60, 61] (by decide +kernel) (by decide +kernel)) (goodIn_sub (fun _ h => List.mem_cons_of_mem _ (List.mem_append_right _ h)) (by decide +kernel))
set_option maxRecDepth 20000 in
theorem gX6_addMirrored_X6_checkPossible : GoodIn wsX6_addMirrored (va_wsS RX6 85 yX6_checkPossible wsX6_checkPossible) := goodIn_app (goodIn_of _ (by decide +kernel)) ggX6_addMirrored_X6_checkPossible
set_option maxRecDepth 20000 in
theorem ggX6_addMirrored_X0_keep : GoodIn wsX6_addMirrored wsX0_keep := goodIn_r _ [66, 67, 68, 69, 70, 71, 72, 73, 74, 75, 65, 76, 77, 78, 79, 80, 26, 81, 29, 82, 83, 28, 84, 85, 86, 87, 88, 33, 89, 90, 31, 32, 34, 35, 91, 54, 55, 56, 30, 151, 152, 153, 140, 141, 142, 143, 144, 145, 146] (by decide +kernel) (by decide +kernel)
set_option maxRecDepth 20000 in
theorem gX6_addMirrored_X0_keep : GoodIn wsX6_addMirrored (wsV RX6 66 RX0 yX0_keep wsX0_keep) := goodIn_app (goodIn_of _ (by decide +kernel)) ggX6_addMirrored_X0_keep
set_option maxRecDepth 20000 in
theorem ggX6_addMirrored_X6_addPlanned : GoodIn wsX6_addMirrored wsX6_addPlanned := goodIn_r _ [95, 96, 2, 17, 1, 97, 98, 99, 100, 101, 102, 103, 104, 105, 106, 107, 31, 32, 33, 34, 35, 108, 54, 55, 56, 109, 6, 110, 111, 112, 113, 114, 115, 116, 117, 118, 119, 120, 121, 122, 123, 26, 124, 83, 29, 28, 125, 126, 127, 128, 129, 130, 85, 30, 131, 132, 133, 134, 135, 136, 137, 138, 139, 140, 141, 142, 143, 144, 145, 147, 148, 149, 150, 154, 146] (by decide +kernel) (by decide +kernel)
set_option maxRecDepth 20000 in
theorem gX6_addMirrored_X6_addPlanned : GoodIn wsX6_addMirrored (wsV RX6 94 RX6 yX6_addPlanned wsX6_addPlanned) := goodIn_app (goodIn_of _ (by decide +kernel)) ggX6_addMirrored_X6_addPlanned
theorem dX6_addMirrored_0 : decode cX6_addMirrored 0 = .ok (.iload_n 1, 1) := by decide +kernel
theorem dX6_addMirrored_1 : decode cX6_addMirrored 1 = .ok (.invokestatic 70, 3) := by decide +kernel
theorem dX6_addMirrored_4 : decode cX6_addMirrored 4 = .ok (.invokestatic 58, 3) := by decide +kernel
theorem dX6_addMirrored_7 : decode cX6_addMirrored 7 = .ok (.aload_n 0, 1) := by decide +kernel
theorem dX6_addMirrored_8 : decode cX6_addMirrored 8 = .ok (.invokevirtual 74, 3) := by decide +kernel
theorem dX6_addMirrored_11 : decode cX6_addMirrored 11 = .ok (.aload_n 0, 1) := by decide +kernel
theorem dX6_addMirrored_12 : decode cX6_addMirrored 12 = .ok (.getfield 33, 3) := by decide +kernel
theorem dX6_addMirrored_15 : decode cX6_addMirrored 15 = .ok (.aload_n 0, 1) := by decide +kernel
theorem dX6_addMirrored_16 : decode cX6_addMirrored 16 = .ok (.getfield 10, 3) := by decide +kernel
theorem dX6_addMirrored_19 : decode cX6_addMirrored 19 = .ok (.invokevirtual 77, 3) := by decide +kernel
theorem dX6_addMirrored_22 : decode cX6_addMirrored 22 = .ok (.iload_n 1, 1) := by decide +kernel
theorem dX6_addMirrored_23 : decode cX6_addMirrored 23 = .ok (.invokevirtual 98, 3) := by decide +kernel
theorem dX6_addMirrored_26 : decode cX6_addMirrored 26 = .ok (.invokestatic 85, 3) := by decide +kernel
theorem dX6_addMirrored_29 : decode cX6_addMirrored 29 = .ok (.aload_n 0, 1) := by decide +kernel
theorem dX6_addMirrored_30 : decode cX6_addMirrored 30 = .ok (.getfield 19, 3) := by decide +kernel
theorem dX6_addMirrored_33 : decode cX6_addMirrored 33 = .ok (.aload_n 0, 1) := by decide +kernel
theorem dX6_addMirrored_34 : decode cX6_addMirrored 34 = .ok (.getfield 10, 3) := by decide +kernel
theorem dX6_addMirrored_37 : decode cX6_addMirrored 37 = .ok (.invokevirtual 66, 3) := by decide +kernel
theorem dX6_addMirrored_40 : decode cX6_addMirrored 40 = .ok (.aload_n 0, 1) := by decide +kernel
theorem dX6_addMirrored_41 : decode cX6_addMirrored 41 = .ok (.iconst 0, 1) := by decide +kernel
theorem dX6_addMirrored_42 : decode cX6_addMirrored 42 = .ok (.invokevirtual 94, 3) := by decide +kernel
theorem dX6_addMirrored_45 : decode cX6_addMirrored 45 = .ok (.ireturn, 1) := by decide +kernel
set_option maxRecDepth 20000 in
theorem ggX6_addShape_X6_isShape : GoodIn wsX6_addShape wsX6_isShape := goodIn_r _ [8] (by decide +kernel) (by decide +kernel)
set_option maxRecDepth 20000 in
theorem gX6_addShape_X6_isShape : GoodIn wsX6_addShape (va_wsS RX6 101 yX6_isShape wsX6_isShape) := goodIn_app (goodIn_of _ (by decide +kernel)) ggX6_addShape_X6_isShape
set_option maxRecDepth 20000 in
theorem ggX6_addShape_X6_isSize : GoodIn wsX6_addShape wsX6_isSize := goodIn_r _ [11] (by decide +kernel) (by decide +kernel)
set_option maxRecDepth 20000 in
theorem gX6_addShape_X6_isSize : GoodIn wsX6_addShape (va_wsS RX6 104 yX6_isSize wsX6_isSize) := goodIn_app (goodIn_of _ (by decide +kernel)) ggX6_addShape_X6_isSize
set_option maxRecDepth 20000 in
theorem ggX6_addShape_X6_checkArgument : GoodIn wsX6_addShape wsX6_checkArgument := goodIn_ca (goodIn_r _ [14, 15, 16] (by decide +kernel) (by decide +kernel)) (goodIn_sub (fun _ h => List.mem_cons_of_mem _ (List.mem_append_right _ h)) (by decide +kernel))
set_option maxRecDepth 20000 in
theorem gX6_addShape_X6_checkArgument : GoodIn wsX6_addShape (va_wsS RX6 58 yX6_checkArgument wsX6_checkArgument) := goodIn_app (goodIn_of _ (by decide +kernel)) ggX6_addShape_X6_checkArgument
set_option maxRecDepth 20000 in
theorem ggX6_addShape_X0_keep : GoodIn wsX6_addShape wsX0_keep := goodIn_r _ [21, 22, 23, 24, 25, 26, 27, 28, 29, 30, 20, 31, 32, 33, 34, 35, 36, 37, 38, 39, 40, 41, 42, 43, 44, 45, 46, 47, 48, 49, 50, 51, 52, 53, 54, 55, 56, 57, 58, 156, 157, 158, 150, 151, 152, 153, 154, 155, 159] (by decide +kernel) (by decide +kernel)
set_option maxRecDepth 20000 in
theorem gX6_addShape_X0_keep : GoodIn wsX6_addShape (wsV RX6 66 RX0 yX0_keep wsX0_keep) := goodIn_app (goodIn_of _ (by decide +kernel)) ggX6_addShape_X0_keep
set_option maxRecDepth 20000 in
theorem ggX6_addShape_X6_shapeGoal : GoodIn wsX6_addShape wsX6_shapeGoal := goodIn_r _ [62, 2, 63, 64, 25, 26, 27, 65, 66, 67, 68, 50, 51, 47, 52, 53, 69, 70, 7, 71, 72, 73, 74, 145, 146, 147, 148, 149, 150, 151, 152, 153, 154, 155, 159] (by decide +kernel) (by decide +kernel)
set_option maxRecDepth 20000 in
theorem gX6_addShape_X6_shapeGoal : GoodIn wsX6_addShape (wsV RX6 107 RX6 yX6_shapeGoal wsX6_shapeGoal) := goodIn_app (goodIn_of _ (by decide +kernel)) ggX6_addShape_X6_shapeGoal
set_option maxRecDepth 20000 in
theorem ggX6_addShape_X4_lastTotal : GoodIn wsX6_addShape wsX4_lastTotal := goodIn_r _ [78, 41, 38, 58, 50, 51, 47, 52, 53, 150, 151, 152, 153, 154, 155, 159] (by decide +kernel) (by decide +kernel)
set_option maxRecDepth 20000 in
theorem gX6_addShape_X4_lastTotal : GoodIn wsX6_addShape (wsV RX6 77 RX4 yX4_lastTotal wsX4_lastTotal) := goodIn_app (goodIn_of _ (by decide +kernel)) ggX6_addShape_X4_lastTotal
set_option maxRecDepth 20000 in
theorem ggX6_addShape_X5_spread : GoodIn wsX6_addShape wsX5_spread := goodIn_r _ [83, 84, 85, 86, 87, 88, 89, 82, 90, 91, 92, 93, 94, 95, 96, 55, 56, 47, 57, 53, 160, 161, 162, 163, 159] (by decide +kernel) (by decide +kernel)
set_option maxRecDepth 20000 in
theorem gX6_addShape_X5_spread : GoodIn wsX6_addShape (wsV RX6 81 RX5 yX5_spread wsX5_spread) := goodIn_app (goodIn_of _ (by decide +kernel)) ggX6_addShape_X5_spread
set_option maxRecDepth 20000 in
theorem ggX6_addShape_X6_addBest : GoodIn wsX6_addShape wsX6_addBest := goodIn_r _ [100, 101, 2, 3, 4, 102, 103, 104, 105, 106, 107, 108, 109, 110, 50, 51, 47, 52, 53, 111, 55, 56, 57, 112, 7, 113, 114, 115, 116, 117, 118, 119, 120, 121, 122, 123, 124, 125, 126, 127, 128, 129, 130, 131, 132, 133, 134, 36, 135, 40, 38, 41, 136, 68, 137, 138, 139, 140, 43, 58, 141, 142, 143, 144, 145, 146, 147, 148, 149, 150, 151, 152, 153, 154, 155, 164, 159, 160, 161, 162, 163] (by decide +kernel) (by decide +kernel)
set_option maxRecDepth 20000 in
theorem gX6_addShape_X6_addBest : GoodIn wsX6_addShape (wsV RX6 88 RX6 yX6_addBest wsX6_addBest) := goodIn_app (goodIn_of _ (by decide +kernel)) ggX6_addShape_X6_addBest
theorem dX6_addShape_0 : decode cX6_addShape 0 = .ok (.iload_n 1, 1) := by decide +kernel
theorem dX6_addShape_1 : decode cX6_addShape 1 = .ok (.invokestatic 101, 3) := by decide +kernel
theorem dX6_addShape_4 : decode cX6_addShape 4 = .ok (.ifCond .eq 14, 3) := by decide +kernel
theorem dX6_addShape_7 : decode cX6_addShape 7 = .ok (.iload_n 2, 1) := by decide +kernel
theorem dX6_addShape_8 : decode cX6_addShape 8 = .ok (.invokestatic 104, 3) := by decide +kernel
theorem dX6_addShape_11 : decode cX6_addShape 11 = .ok (.ifCond .eq 7, 3) := by decide +kernel
theorem dX6_addShape_14 : decode cX6_addShape 14 = .ok (.iconst 1, 1) := by decide +kernel
theorem dX6_addShape_15 : decode cX6_addShape 15 = .ok (.goto 4, 3) := by decide +kernel
theorem dX6_addShape_18 : decode cX6_addShape 18 = .ok (.iconst 0, 1) := by decide +kernel
theorem dX6_addShape_19 : decode cX6_addShape 19 = .ok (.invokestatic 58, 3) := by decide +kernel
theorem dX6_addShape_22 : decode cX6_addShape 22 = .ok (.iload_n 3, 1) := by decide +kernel
theorem dX6_addShape_23 : decode cX6_addShape 23 = .ok (.iconst 1, 1) := by decide +kernel
theorem dX6_addShape_24 : decode cX6_addShape 24 = .ok (.if_icmp .lt 13, 3) := by decide +kernel
theorem dX6_addShape_27 : decode cX6_addShape 27 = .ok (.iload_n 3, 1) := by decide +kernel
theorem dX6_addShape_28 : decode cX6_addShape 28 = .ok (.bipush 40, 2) := by decide +kernel
theorem dX6_addShape_30 : decode cX6_addShape 30 = .ok (.if_icmp .ge 7, 3) := by decide +kernel
theorem dX6_addShape_33 : decode cX6_addShape 33 = .ok (.iconst 1, 1) := by decide +kernel
theorem dX6_addShape_34 : decode cX6_addShape 34 = .ok (.goto 4, 3) := by decide +kernel
theorem dX6_addShape_37 : decode cX6_addShape 37 = .ok (.iconst 0, 1) := by decide +kernel
theorem dX6_addShape_38 : decode cX6_addShape 38 = .ok (.invokestatic 58, 3) := by decide +kernel
theorem dX6_addShape_41 : decode cX6_addShape 41 = .ok (.aload_n 0, 1) := by decide +kernel
theorem dX6_addShape_42 : decode cX6_addShape 42 = .ok (.getfield 19, 3) := by decide +kernel
theorem dX6_addShape_45 : decode cX6_addShape 45 = .ok (.aload_n 0, 1) := by decide +kernel
theorem dX6_addShape_46 : decode cX6_addShape 46 = .ok (.getfield 10, 3) := by decide +kernel
theorem dX6_addShape_49 : decode cX6_addShape 49 = .ok (.invokevirtual 66, 3) := by decide +kernel
theorem dX6_addShape_52 : decode cX6_addShape 52 = .ok (.iconst 0, 1) := by decide +kernel
theorem dX6_addShape_53 : decode cX6_addShape 53 = .ok (.istore 4, 2) := by decide +kernel
theorem dX6_addShape_55 : decode cX6_addShape 55 = .ok (.iload 4, 2) := by decide +kernel
theorem dX6_addShape_57 : decode cX6_addShape 57 = .ok (.iload_n 3, 1) := by decide +kernel
theorem dX6_addShape_58 : decode cX6_addShape 58 = .ok (.if_icmp .ge 63, 3) := by decide +kernel
theorem dX6_addShape_61 : decode cX6_addShape 61 = .ok (.aload_n 0, 1) := by decide +kernel
theorem dX6_addShape_62 : decode cX6_addShape 62 = .ok (.getfield 10, 3) := by decide +kernel
theorem dX6_addShape_65 : decode cX6_addShape 65 = .ok (.getfield 62, 3) := by decide +kernel
theorem dX6_addShape_68 : decode cX6_addShape 68 = .ok (.bipush 40, 2) := by decide +kernel
theorem dX6_addShape_70 : decode cX6_addShape 70 = .ok (.if_icmp .ge 51, 3) := by decide +kernel
theorem dX6_addShape_73 : decode cX6_addShape 73 = .ok (.aload_n 0, 1) := by decide +kernel
theorem dX6_addShape_74 : decode cX6_addShape 74 = .ok (.iload_n 1, 1) := by decide +kernel
theorem dX6_addShape_75 : decode cX6_addShape 75 = .ok (.iload_n 2, 1) := by decide +kernel
theorem dX6_addShape_76 : decode cX6_addShape 76 = .ok (.aload_n 0, 1) := by decide +kernel
theorem dX6_addShape_77 : decode cX6_addShape 77 = .ok (.getfield 10, 3) := by decide +kernel
theorem dX6_addShape_80 : decode cX6_addShape 80 = .ok (.getfield 62, 3) := by decide +kernel
theorem dX6_addShape_83 : decode cX6_addShape 83 = .ok (.invokevirtual 107, 3) := by decide +kernel
theorem dX6_addShape_86 : decode cX6_addShape 86 = .ok (.istore 5, 2) := by decide +kernel
theorem dX6_addShape_88 : decode cX6_addShape 88 = .ok (.aload_n 0, 1) := by decide +kernel
theorem dX6_addShape_89 : decode cX6_addShape 89 = .ok (.getfield 33, 3) := by decide +kernel
theorem dX6_addShape_92 : decode cX6_addShape 92 = .ok (.aload_n 0, 1) := by decide +kernel
theorem dX6_addShape_93 : decode cX6_addShape 93 = .ok (.getfield 10, 3) := by decide +kernel
theorem dX6_addShape_96 : decode cX6_addShape 96 = .ok (.invokevirtual 77, 3) := by decide +kernel
theorem dX6_addShape_99 : decode cX6_addShape 99 = .ok (.iload 5, 2) := by decide +kernel
theorem dX6_addShape_101 : decode cX6_addShape 101 = .ok (.invokevirtual 81, 3) := by decide +kernel
theorem dX6_addShape_104 : decode cX6_addShape 104 = .ok (.ifCond .ne 6, 3) := by decide +kernel
theorem dX6_addShape_107 : decode cX6_addShape 107 = .ok (.iload 4, 2) := by decide +kernel
theorem dX6_addShape_109 : decode cX6_addShape 109 = .ok (.ireturn, 1) := by decide +kernel
theorem dX6_addShape_110 : decode cX6_addShape 110 = .ok (.aload_n 0, 1) := by decide +kernel
theorem dX6_addShape_111 : decode cX6_addShape 111 = .ok (.invokevirtual 88, 3) := by decide +kernel
theorem dX6_addShape_114 : decode cX6_addShape 114 = .ok (.pop, 1) := by decide +kernel
theorem dX6_addShape_115 : decode cX6_addShape 115 = .ok (.iinc 4 1, 3) := by decide +kernel
theorem dX6_addShape_118 : decode cX6_addShape 118 = .ok (.goto (-63), 3) := by decide +kernel
theorem dX6_addShape_121 : decode cX6_addShape 121 = .ok (.iload 4, 2) := by decide +kernel
theorem dX6_addShape_123 : decode cX6_addShape 123 = .ok (.ireturn, 1) := by decide +kernel
set_option maxRecDepth 20000 in
theorem ggX6_rip_X6_checkArgument : GoodIn wsX6_rip wsX6_checkArgument := goodIn_ca (goodIn_r _ [7, 8, 9] (by decide +kernel) (by decide +kernel)) (goodIn_sub (fun _ h => List.mem_cons_of_mem _ (List.mem_append_left _ (List.mem_append_right _ h))) (by decide +kernel))
set_option maxRecDepth 20000 in
theorem gX6_rip_X6_checkArgument : GoodIn wsX6_rip (va_wsS RX6 58 yX6_checkArgument wsX6_checkArgument) := goodIn_app (goodIn_of _ (by decide +kernel)) ggX6_rip_X6_checkArgument
set_option maxRecDepth 20000 in
theorem ggX6_rip_X6_checkState : GoodIn wsX6_rip wsX6_checkState := goodIn_ca (goodIn_r _ [12, 13, 14] (by decide +kernel) (by decide +kernel)) (goodIn_sub (fun _ h => List.mem_cons_of_mem _ (List.mem_append_right _ h)) (by decide +kernel))
set_option maxRecDepth 20000 in
theorem gX6_rip_X6_checkState : GoodIn wsX6_rip (va_wsS RX6 111 yX6_checkState wsX6_checkState) := goodIn_app (goodIn_of _ (by decide +kernel)) ggX6_rip_X6_checkState
set_option maxRecDepth 20000 in
theorem ggX6_rip_X0_keep : GoodIn wsX6_rip wsX0_keep := goodIn_r _ [19, 20, 21, 22, 23, 24, 25, 26, 27, 28, 18, 29, 30, 31, 32, 33, 34, 35, 36, 37, 38, 39, 40, 41, 42, 43, 44, 45, 46, 47, 48, 49, 50, 51, 52, 53, 54, 55, 56, 72, 73, 74, 66, 67, 68, 69, 70, 71, 75] (by decide +kernel) (by decide +kernel)
set_option maxRecDepth 20000 in
theorem gX6_rip_X0_keep : GoodIn wsX6_rip (wsV RX6 66 RX0 yX0_keep wsX0_keep) := goodIn_app (goodIn_of _ (by decide +kernel)) ggX6_rip_X0_keep
set_option maxRecDepth 20000 in
theorem ggX6_rip_X4_lastTotal : GoodIn wsX6_rip wsX4_lastTotal := goodIn_r _ [60, 39, 36, 56, 48, 49, 45, 50, 51, 66, 67, 68, 69, 70, 71, 75] (by decide +kernel) (by decide +kernel)
set_option maxRecDepth 20000 in
theorem gX6_rip_X4_lastTotal : GoodIn wsX6_rip (wsV RX6 77 RX4 yX4_lastTotal wsX4_lastTotal) := goodIn_app (goodIn_of _ (by decide +kernel)) ggX6_rip_X4_lastTotal
theorem dX6_rip_0 : decode cX6_rip 0 = .ok (.iload_n 1, 1) := by decide +kernel
theorem dX6_rip_1 : decode cX6_rip 1 = .ok (.iconst 1, 1) := by decide +kernel
theorem dX6_rip_2 : decode cX6_rip 2 = .ok (.if_icmp .lt 7, 3) := by decide +kernel
theorem dX6_rip_5 : decode cX6_rip 5 = .ok (.iconst 1, 1) := by decide +kernel
theorem dX6_rip_6 : decode cX6_rip 6 = .ok (.goto 4, 3) := by decide +kernel
theorem dX6_rip_9 : decode cX6_rip 9 = .ok (.iconst 0, 1) := by decide +kernel
theorem dX6_rip_10 : decode cX6_rip 10 = .ok (.invokestatic 58, 3) := by decide +kernel
theorem dX6_rip_13 : decode cX6_rip 13 = .ok (.iload_n 1, 1) := by decide +kernel
theorem dX6_rip_14 : decode cX6_rip 14 = .ok (.aload_n 0, 1) := by decide +kernel
theorem dX6_rip_15 : decode cX6_rip 15 = .ok (.getfield 10, 3) := by decide +kernel
theorem dX6_rip_18 : decode cX6_rip 18 = .ok (.getfield 62, 3) := by decide +kernel
theorem dX6_rip_21 : decode cX6_rip 21 = .ok (.if_icmp .ge 7, 3) := by decide +kernel
theorem dX6_rip_24 : decode cX6_rip 24 = .ok (.iconst 1, 1) := by decide +kernel
theorem dX6_rip_25 : decode cX6_rip 25 = .ok (.goto 4, 3) := by decide +kernel
theorem dX6_rip_28 : decode cX6_rip 28 = .ok (.iconst 0, 1) := by decide +kernel
theorem dX6_rip_29 : decode cX6_rip 29 = .ok (.invokestatic 111, 3) := by decide +kernel
theorem dX6_rip_32 : decode cX6_rip 32 = .ok (.aload_n 0, 1) := by decide +kernel
theorem dX6_rip_33 : decode cX6_rip 33 = .ok (.getfield 19, 3) := by decide +kernel
theorem dX6_rip_36 : decode cX6_rip 36 = .ok (.aload_n 0, 1) := by decide +kernel
theorem dX6_rip_37 : decode cX6_rip 37 = .ok (.getfield 10, 3) := by decide +kernel
theorem dX6_rip_40 : decode cX6_rip 40 = .ok (.invokevirtual 66, 3) := by decide +kernel
theorem dX6_rip_43 : decode cX6_rip 43 = .ok (.aload_n 0, 1) := by decide +kernel
theorem dX6_rip_44 : decode cX6_rip 44 = .ok (.getfield 10, 3) := by decide +kernel
theorem dX6_rip_47 : decode cX6_rip 47 = .ok (.dup, 1) := by decide +kernel
theorem dX6_rip_48 : decode cX6_rip 48 = .ok (.getfield 62, 3) := by decide +kernel
theorem dX6_rip_51 : decode cX6_rip 51 = .ok (.iload_n 1, 1) := by decide +kernel
theorem dX6_rip_52 : decode cX6_rip 52 = .ok (.isub, 1) := by decide +kernel
theorem dX6_rip_53 : decode cX6_rip 53 = .ok (.putfield 62, 3) := by decide +kernel
theorem dX6_rip_56 : decode cX6_rip 56 = .ok (.aload_n 0, 1) := by decide +kernel
theorem dX6_rip_57 : decode cX6_rip 57 = .ok (.getfield 10, 3) := by decide +kernel
theorem dX6_rip_60 : decode cX6_rip 60 = .ok (.invokevirtual 77, 3) := by decide +kernel
theorem dX6_rip_63 : decode cX6_rip 63 = .ok (.ireturn, 1) := by decide +kernel
set_option maxRecDepth 20000 in
theorem ggX6_setYarn_X6_checkArgument : GoodIn wsX6_setYarn wsX6_checkArgument := goodIn_ca (goodIn_r _ [7, 8, 9] (by decide +kernel) (by decide +kernel)) (goodIn_sub (fun _ h => List.mem_cons_of_mem _ (List.mem_append_right _ h)) (by decide +kernel))
set_option maxRecDepth 20000 in
theorem gX6_setYarn_X6_checkArgument : GoodIn wsX6_setYarn (va_wsS RX6 58 yX6_checkArgument wsX6_checkArgument) := goodIn_app (goodIn_of _ (by decide +kernel)) ggX6_setYarn_X6_checkArgument
set_option maxRecDepth 20000 in
theorem ggX6_setYarn_X0_keep : GoodIn wsX6_setYarn wsX0_keep := goodIn_r _ [14, 15, 16, 17, 18, 19, 20, 21, 22, 23, 13, 24, 25, 26, 27, 28, 29, 30, 31, 32, 33, 34, 35, 36, 37, 38, 39, 40, 41, 42, 43, 44, 45, 46, 47, 48, 49, 50, 51, 65, 66, 67, 59, 60, 61, 62, 63, 64, 68] (by decide +kernel) (by decide +kernel)
set_option maxRecDepth 20000 in
theorem gX6_setYarn_X0_keep : GoodIn wsX6_setYarn (wsV RX6 66 RX0 yX0_keep wsX0_keep) := goodIn_app (goodIn_of _ (by decide +kernel)) ggX6_setYarn_X0_keep
set_option maxRecDepth 20000 in
theorem ggX6_setYarn_X2_at : GoodIn wsX6_setYarn wsX2_at := goodIn_r _ [45, 46, 68] (by decide +kernel) (by decide +kernel)
set_option maxRecDepth 20000 in
theorem gX6_setYarn_X2_at : GoodIn wsX6_setYarn (wsV RX6 114 RX2 yX2_at wsX2_at) := goodIn_app (goodIn_of _ (by decide +kernel)) ggX6_setYarn_X2_at
set_option maxRecDepth 20000 in
theorem ggX6_setYarn_X2_put : GoodIn wsX6_setYarn wsX2_put := goodIn_r _ [50, 46, 68] (by decide +kernel) (by decide +kernel)
set_option maxRecDepth 20000 in
theorem gX6_setYarn_X2_put : GoodIn wsX6_setYarn (wsV RX6 48 RX2 yX2_put wsX2_put) := goodIn_app (goodIn_of _ (by decide +kernel)) ggX6_setYarn_X2_put
theorem dX6_setYarn_0 : decode cX6_setYarn 0 = .ok (.iload_n 1, 1) := by decide +kernel
theorem dX6_setYarn_1 : decode cX6_setYarn 1 = .ok (.ifCond .lt 23, 3) := by decide +kernel
theorem dX6_setYarn_4 : decode cX6_setYarn 4 = .ok (.iload_n 1, 1) := by decide +kernel
theorem dX6_setYarn_5 : decode cX6_setYarn 5 = .ok (.iconst 3, 1) := by decide +kernel
theorem dX6_setYarn_6 : decode cX6_setYarn 6 = .ok (.if_icmp .ge 18, 3) := by decide +kernel
theorem dX6_setYarn_9 : decode cX6_setYarn 9 = .ok (.iload_n 2, 1) := by decide +kernel
theorem dX6_setYarn_10 : decode cX6_setYarn 10 = .ok (.iconst 1, 1) := by decide +kernel
theorem dX6_setYarn_11 : decode cX6_setYarn 11 = .ok (.if_icmp .lt 13, 3) := by decide +kernel
theorem dX6_setYarn_14 : decode cX6_setYarn 14 = .ok (.iload_n 2, 1) := by decide +kernel
theorem dX6_setYarn_15 : decode cX6_setYarn 15 = .ok (.bipush 60, 2) := by decide +kernel
theorem dX6_setYarn_17 : decode cX6_setYarn 17 = .ok (.if_icmp .gt 7, 3) := by decide +kernel
theorem dX6_setYarn_20 : decode cX6_setYarn 20 = .ok (.iconst 1, 1) := by decide +kernel
theorem dX6_setYarn_21 : decode cX6_setYarn 21 = .ok (.goto 4, 3) := by decide +kernel
theorem dX6_setYarn_24 : decode cX6_setYarn 24 = .ok (.iconst 0, 1) := by decide +kernel
theorem dX6_setYarn_25 : decode cX6_setYarn 25 = .ok (.invokestatic 58, 3) := by decide +kernel
theorem dX6_setYarn_28 : decode cX6_setYarn 28 = .ok (.aload_n 0, 1) := by decide +kernel
theorem dX6_setYarn_29 : decode cX6_setYarn 29 = .ok (.getfield 19, 3) := by decide +kernel
theorem dX6_setYarn_32 : decode cX6_setYarn 32 = .ok (.aload_n 0, 1) := by decide +kernel
theorem dX6_setYarn_33 : decode cX6_setYarn 33 = .ok (.getfield 10, 3) := by decide +kernel
theorem dX6_setYarn_36 : decode cX6_setYarn 36 = .ok (.invokevirtual 66, 3) := by decide +kernel
theorem dX6_setYarn_39 : decode cX6_setYarn 39 = .ok (.aload_n 0, 1) := by decide +kernel
theorem dX6_setYarn_40 : decode cX6_setYarn 40 = .ok (.getfield 10, 3) := by decide +kernel
theorem dX6_setYarn_43 : decode cX6_setYarn 43 = .ok (.getfield 44, 3) := by decide +kernel
theorem dX6_setYarn_46 : decode cX6_setYarn 46 = .ok (.iload_n 1, 1) := by decide +kernel
theorem dX6_setYarn_47 : decode cX6_setYarn 47 = .ok (.invokevirtual 114, 3) := by decide +kernel
theorem dX6_setYarn_50 : decode cX6_setYarn 50 = .ok (.istore_n 3, 1) := by decide +kernel
theorem dX6_setYarn_51 : decode cX6_setYarn 51 = .ok (.aload_n 0, 1) := by decide +kernel
theorem dX6_setYarn_52 : decode cX6_setYarn 52 = .ok (.getfield 10, 3) := by decide +kernel
theorem dX6_setYarn_55 : decode cX6_setYarn 55 = .ok (.getfield 44, 3) := by decide +kernel
theorem dX6_setYarn_58 : decode cX6_setYarn 58 = .ok (.iload_n 1, 1) := by decide +kernel
theorem dX6_setYarn_59 : decode cX6_setYarn 59 = .ok (.iload_n 2, 1) := by decide +kernel
theorem dX6_setYarn_60 : decode cX6_setYarn 60 = .ok (.invokevirtual 48, 3) := by decide +kernel
theorem dX6_setYarn_63 : decode cX6_setYarn 63 = .ok (.iload_n 3, 1) := by decide +kernel
theorem dX6_setYarn_64 : decode cX6_setYarn 64 = .ok (.ireturn, 1) := by decide +kernel
set_option maxRecDepth 20000 in
theorem ggX6_setSpiral_X0_keep : GoodIn wsX6_setSpiral wsX0_keep := goodIn_r _ [8, 9, 10, 11, 12, 13, 14, 15, 16, 17, 7, 18, 19, 20, 21, 22, 23, 24, 25, 26, 27, 28, 29, 30, 31, 32, 33, 34, 35, 36, 37, 38, 39, 40, 41, 42, 43, 44, 45, 57, 58, 59, 51, 52, 53, 54, 55, 56, 60] (by decide +kernel) (by decide +kernel)
set_option maxRecDepth 20000 in
theorem gX6_setSpiral_X0_keep : GoodIn wsX6_setSpiral (wsV RX6 66 RX0 yX0_keep wsX0_keep) := goodIn_app (goodIn_of _ (by decide +kernel)) ggX6_setSpiral_X0_keep
theorem dX6_setSpiral_0 : decode cX6_setSpiral 0 = .ok (.aload_n 0, 1) := by decide +kernel
theorem dX6_setSpiral_1 : decode cX6_setSpiral 1 = .ok (.getfield 19, 3) := by decide +kernel
theorem dX6_setSpiral_4 : decode cX6_setSpiral 4 = .ok (.aload_n 0, 1) := by decide +kernel
theorem dX6_setSpiral_5 : decode cX6_setSpiral 5 = .ok (.getfield 10, 3) := by decide +kernel
theorem dX6_setSpiral_8 : decode cX6_setSpiral 8 = .ok (.invokevirtual 66, 3) := by decide +kernel
theorem dX6_setSpiral_11 : decode cX6_setSpiral 11 = .ok (.aload_n 0, 1) := by decide +kernel
theorem dX6_setSpiral_12 : decode cX6_setSpiral 12 = .ok (.getfield 10, 3) := by decide +kernel
theorem dX6_setSpiral_15 : decode cX6_setSpiral 15 = .ok (.getfield 117, 3) := by decide +kernel
theorem dX6_setSpiral_18 : decode cX6_setSpiral 18 = .ok (.istore_n 2, 1) := by decide +kernel
theorem dX6_setSpiral_19 : decode cX6_setSpiral 19 = .ok (.aload_n 0, 1) := by decide +kernel
theorem dX6_setSpiral_20 : decode cX6_setSpiral 20 = .ok (.getfield 10, 3) := by decide +kernel
theorem dX6_setSpiral_23 : decode cX6_setSpiral 23 = .ok (.iload_n 1, 1) := by decide +kernel
theorem dX6_setSpiral_24 : decode cX6_setSpiral 24 = .ok (.putfield 117, 3) := by decide +kernel
theorem dX6_setSpiral_27 : decode cX6_setSpiral 27 = .ok (.iload_n 2, 1) := by decide +kernel
theorem dX6_setSpiral_28 : decode cX6_setSpiral 28 = .ok (.ireturn, 1) := by decide +kernel
set_option maxRecDepth 20000 in
theorem ggX6_round_X6_checkIndex : GoodIn wsX6_round wsX6_checkIndex := goodIn_ca (goodIn_r _ [6, 7, 8] (by decide +kernel) (by decide +kernel)) (goodIn_sub (fun _ h => List.mem_cons_of_mem _ (List.mem_append_left _ (List.mem_append_right _ h))) (by decide +kernel))
set_option maxRecDepth 20000 in
theorem gX6_round_X6_checkIndex : GoodIn wsX6_round (va_wsS RX6 121 yX6_checkIndex wsX6_checkIndex) := goodIn_app (goodIn_of _ (by decide +kernel)) ggX6_round_X6_checkIndex
set_option maxRecDepth 20000 in
theorem ggX6_round_X6_checkArgument : GoodIn wsX6_round wsX6_checkArgument := goodIn_ca (goodIn_r _ [11, 12, 13] (by decide +kernel) (by decide +kernel)) (goodIn_sub (fun _ h => List.mem_cons_of_mem _ (List.mem_append_right _ h)) (by decide +kernel))
set_option maxRecDepth 20000 in
theorem gX6_round_X6_checkArgument : GoodIn wsX6_round (va_wsS RX6 58 yX6_checkArgument wsX6_checkArgument) := goodIn_app (goodIn_of _ (by decide +kernel)) ggX6_round_X6_checkArgument
set_option maxRecDepth 20000 in
theorem ggX6_round_X6_ofRound : GoodIn wsX6_round wsX6_ofRound := goodIn_r _ [17, 1, 18, 19, 20, 21, 22, 23, 24, 25, 26, 27, 28, 29, 30, 31, 32, 33, 34, 35, 36, 37, 38, 39, 40, 5, 41, 42, 43, 44, 45, 46, 47, 48, 49, 50, 51, 52, 53, 54, 55, 56, 57, 58, 59, 60, 61, 62, 63, 64, 65, 66, 67, 68, 69, 70, 71, 72, 73, 74, 75, 76, 77, 78, 79, 80, 81, 82, 83, 84, 85, 86, 87, 88, 89, 90, 91, 92, 93, 94, 95, 96, 97, 98, 99, 100] (by decide +kernel) (by decide +kernel)
set_option maxRecDepth 20000 in
theorem gX6_round_X6_ofRound : GoodIn wsX6_round (wsV RX6 124 RX6 yX6_ofRound wsX6_ofRound) := goodIn_app (goodIn_of _ (by decide +kernel)) ggX6_round_X6_ofRound
theorem dX6_round_0 : decode cX6_round 0 = .ok (.iload_n 1, 1) := by decide +kernel
theorem dX6_round_1 : decode cX6_round 1 = .ok (.aload_n 0, 1) := by decide +kernel
theorem dX6_round_2 : decode cX6_round 2 = .ok (.getfield 10, 3) := by decide +kernel
theorem dX6_round_5 : decode cX6_round 5 = .ok (.getfield 62, 3) := by decide +kernel
theorem dX6_round_8 : decode cX6_round 8 = .ok (.invokestatic 121, 3) := by decide +kernel
theorem dX6_round_11 : decode cX6_round 11 = .ok (.iload_n 2, 1) := by decide +kernel
theorem dX6_round_12 : decode cX6_round 12 = .ok (.ifCond .lt 13, 3) := by decide +kernel
theorem dX6_round_15 : decode cX6_round 15 = .ok (.iload_n 2, 1) := by decide +kernel
theorem dX6_round_16 : decode cX6_round 16 = .ok (.bipush 10, 2) := by decide +kernel
theorem dX6_round_18 : decode cX6_round 18 = .ok (.if_icmp .gt 7, 3) := by decide +kernel
theorem dX6_round_21 : decode cX6_round 21 = .ok (.iconst 1, 1) := by decide +kernel
theorem dX6_round_22 : decode cX6_round 22 = .ok (.goto 4, 3) := by decide +kernel
theorem dX6_round_25 : decode cX6_round 25 = .ok (.iconst 0, 1) := by decide +kernel
theorem dX6_round_26 : decode cX6_round 26 = .ok (.invokestatic 58, 3) := by decide +kernel
theorem dX6_round_29 : decode cX6_round 29 = .ok (.aload_n 0, 1) := by decide +kernel
theorem dX6_round_30 : decode cX6_round 30 = .ok (.iload_n 1, 1) := by decide +kernel
theorem dX6_round_31 : decode cX6_round 31 = .ok (.iload_n 2, 1) := by decide +kernel
theorem dX6_round_32 : decode cX6_round 32 = .ok (.invokevirtual 124, 3) := by decide +kernel
theorem dX6_round_35 : decode cX6_round 35 = .ok (.ireturn, 1) := by decide +kernel
set_option maxRecDepth 20000 in
theorem ggX6_work_X6_checkIndex : GoodIn wsX6_work wsX6_checkIndex := goodIn_ca (goodIn_r _ [7, 8, 9] (by decide +kernel) (by decide +kernel)) (goodIn_sub (fun _ h => List.mem_cons_of_mem _ (List.mem_append_right _ h)) (by decide +kernel))
set_option maxRecDepth 20000 in
theorem gX6_work_X6_checkIndex : GoodIn wsX6_work (va_wsS RX6 121 yX6_checkIndex wsX6_checkIndex) := goodIn_app (goodIn_of _ (by decide +kernel)) ggX6_work_X6_checkIndex
set_option maxRecDepth 20000 in
theorem ggX6_work_X2_at : GoodIn wsX6_work wsX2_at := goodIn_r _ [14, 15, 34] (by decide +kernel) (by decide +kernel)
set_option maxRecDepth 20000 in
theorem gX6_work_X2_at : GoodIn wsX6_work (wsV RX6 114 RX2 yX2_at wsX2_at) := goodIn_app (goodIn_of _ (by decide +kernel)) ggX6_work_X2_at
set_option maxRecDepth 20000 in
theorem ggX6_work_X4_kindOf : GoodIn wsX6_work wsX4_kindOf := goodIn_r _ [20, 21, 22, 11, 12, 13, 14, 15, 28, 29, 30, 31, 32, 33, 34] (by decide +kernel) (by decide +kernel)
set_option maxRecDepth 20000 in
theorem gX6_work_X4_kindOf : GoodIn wsX6_work (wsV RX6 131 RX4 yX4_kindOf wsX4_kindOf) := goodIn_app (goodIn_of _ (by decide +kernel)) ggX6_work_X4_kindOf
theorem dX6_work_0 : decode cX6_work 0 = .ok (.iload_n 1, 1) := by decide +kernel
theorem dX6_work_1 : decode cX6_work 1 = .ok (.aload_n 0, 1) := by decide +kernel
theorem dX6_work_2 : decode cX6_work 2 = .ok (.getfield 10, 3) := by decide +kernel
theorem dX6_work_5 : decode cX6_work 5 = .ok (.getfield 62, 3) := by decide +kernel
theorem dX6_work_8 : decode cX6_work 8 = .ok (.invokestatic 121, 3) := by decide +kernel
theorem dX6_work_11 : decode cX6_work 11 = .ok (.iload_n 2, 1) := by decide +kernel
theorem dX6_work_12 : decode cX6_work 12 = .ok (.aload_n 0, 1) := by decide +kernel
theorem dX6_work_13 : decode cX6_work 13 = .ok (.getfield 10, 3) := by decide +kernel
theorem dX6_work_16 : decode cX6_work 16 = .ok (.getfield 128, 3) := by decide +kernel
theorem dX6_work_19 : decode cX6_work 19 = .ok (.iload_n 1, 1) := by decide +kernel
theorem dX6_work_20 : decode cX6_work 20 = .ok (.invokevirtual 114, 3) := by decide +kernel
theorem dX6_work_23 : decode cX6_work 23 = .ok (.invokestatic 121, 3) := by decide +kernel
theorem dX6_work_26 : decode cX6_work 26 = .ok (.aload_n 0, 1) := by decide +kernel
theorem dX6_work_27 : decode cX6_work 27 = .ok (.getfield 10, 3) := by decide +kernel
theorem dX6_work_30 : decode cX6_work 30 = .ok (.iload_n 1, 1) := by decide +kernel
theorem dX6_work_31 : decode cX6_work 31 = .ok (.iload_n 2, 1) := by decide +kernel
theorem dX6_work_32 : decode cX6_work 32 = .ok (.invokevirtual 131, 3) := by decide +kernel
theorem dX6_work_35 : decode cX6_work 35 = .ok (.ireturn, 1) := by decide +kernel
set_option maxRecDepth 20000 in
theorem ggX6_maker_X6_checkStitch : GoodIn wsX6_maker wsX6_checkStitch := goodIn_ca (goodIn_r _ [6, 1, 7, 8, 9, 10, 5, 11, 12, 13, 14, 15, 16, 17, 18, 19, 34, 35, 36, 37, 38, 39, 40, 41, 42, 43, 44, 45] (by decide +kernel) (by decide +kernel)) (goodIn_sub (fun _ h => List.mem_cons_of_mem _ (List.mem_append_right _ h)) (by decide +kernel))
set_option maxRecDepth 20000 in
theorem gX6_maker_X6_checkStitch : GoodIn wsX6_maker (wsV RX6 134 RX6 yX6_checkStitch wsX6_checkStitch) := goodIn_app (goodIn_of _ (by decide +kernel)) ggX6_maker_X6_checkStitch
set_option maxRecDepth 20000 in
theorem ggX6_maker_X4_makerOf : GoodIn wsX6_maker wsX4_makerOf := goodIn_r _ [24, 25, 26, 15, 16, 17, 18, 19, 27, 28, 29, 23, 30, 31, 32, 5, 33, 39, 40, 41, 42, 43, 44, 45] (by decide +kernel) (by decide +kernel)
set_option maxRecDepth 20000 in
theorem gX6_maker_X4_makerOf : GoodIn wsX6_maker (wsV RX6 137 RX4 yX4_makerOf wsX4_makerOf) := goodIn_app (goodIn_of _ (by decide +kernel)) ggX6_maker_X4_makerOf
theorem dX6_maker_0 : decode cX6_maker 0 = .ok (.aload_n 0, 1) := by decide +kernel
theorem dX6_maker_1 : decode cX6_maker 1 = .ok (.iload_n 1, 1) := by decide +kernel
theorem dX6_maker_2 : decode cX6_maker 2 = .ok (.iload_n 2, 1) := by decide +kernel
theorem dX6_maker_3 : decode cX6_maker 3 = .ok (.invokevirtual 134, 3) := by decide +kernel
theorem dX6_maker_6 : decode cX6_maker 6 = .ok (.aload_n 0, 1) := by decide +kernel
theorem dX6_maker_7 : decode cX6_maker 7 = .ok (.getfield 10, 3) := by decide +kernel
theorem dX6_maker_10 : decode cX6_maker 10 = .ok (.iload_n 1, 1) := by decide +kernel
theorem dX6_maker_11 : decode cX6_maker 11 = .ok (.iload_n 2, 1) := by decide +kernel
theorem dX6_maker_12 : decode cX6_maker 12 = .ok (.invokevirtual 137, 3) := by decide +kernel
theorem dX6_maker_15 : decode cX6_maker 15 = .ok (.ireturn, 1) := by decide +kernel
set_option maxRecDepth 20000 in
theorem ggX6_parent_X6_checkStitch : GoodIn wsX6_parent wsX6_checkStitch := goodIn_ca (goodIn_r _ [6, 1, 7, 8, 9, 10, 5, 11, 12, 13, 14, 15, 16, 17, 18, 19, 40, 41, 42, 43, 44, 45, 46, 47, 48, 49, 50, 51] (by decide +kernel) (by decide +kernel)) (goodIn_sub (fun _ h => List.mem_cons_of_mem _ (List.mem_append_right _ h)) (by decide +kernel))
set_option maxRecDepth 20000 in
theorem gX6_parent_X6_checkStitch : GoodIn wsX6_parent (wsV RX6 134 RX6 yX6_checkStitch wsX6_checkStitch) := goodIn_app (goodIn_of _ (by decide +kernel)) ggX6_parent_X6_checkStitch
set_option maxRecDepth 20000 in
theorem ggX6_parent_X4_parentOf : GoodIn wsX6_parent wsX4_parentOf := goodIn_r _ [24, 25, 26, 27, 23, 28, 29, 30, 15, 16, 17, 18, 19, 31, 32, 33, 34, 35, 36, 5, 37, 38, 39, 45, 46, 47, 48, 49, 50, 51] (by decide +kernel) (by decide +kernel)
set_option maxRecDepth 20000 in
theorem gX6_parent_X4_parentOf : GoodIn wsX6_parent (wsV RX6 140 RX4 yX4_parentOf wsX4_parentOf) := goodIn_app (goodIn_of _ (by decide +kernel)) ggX6_parent_X4_parentOf
theorem dX6_parent_0 : decode cX6_parent 0 = .ok (.aload_n 0, 1) := by decide +kernel
theorem dX6_parent_1 : decode cX6_parent 1 = .ok (.iload_n 1, 1) := by decide +kernel
theorem dX6_parent_2 : decode cX6_parent 2 = .ok (.iload_n 2, 1) := by decide +kernel
theorem dX6_parent_3 : decode cX6_parent 3 = .ok (.invokevirtual 134, 3) := by decide +kernel
theorem dX6_parent_6 : decode cX6_parent 6 = .ok (.iload_n 1, 1) := by decide +kernel
theorem dX6_parent_7 : decode cX6_parent 7 = .ok (.ifCond .ne 7, 3) := by decide +kernel
theorem dX6_parent_10 : decode cX6_parent 10 = .ok (.iconst (-1), 1) := by decide +kernel
theorem dX6_parent_11 : decode cX6_parent 11 = .ok (.goto 12, 3) := by decide +kernel
theorem dX6_parent_14 : decode cX6_parent 14 = .ok (.aload_n 0, 1) := by decide +kernel
theorem dX6_parent_15 : decode cX6_parent 15 = .ok (.getfield 10, 3) := by decide +kernel
theorem dX6_parent_18 : decode cX6_parent 18 = .ok (.iload_n 1, 1) := by decide +kernel
theorem dX6_parent_19 : decode cX6_parent 19 = .ok (.iload_n 2, 1) := by decide +kernel
theorem dX6_parent_20 : decode cX6_parent 20 = .ok (.invokevirtual 140, 3) := by decide +kernel
theorem dX6_parent_23 : decode cX6_parent 23 = .ok (.ireturn, 1) := by decide +kernel
set_option maxRecDepth 20000 in
theorem ggX6_child_X6_checkStitch : GoodIn wsX6_child wsX6_checkStitch := goodIn_ca (goodIn_r _ [7, 1, 2, 8, 9, 10, 6, 11, 12, 13, 14, 15, 16, 17, 18, 19, 36, 37, 38, 39, 40, 41, 42, 43, 44, 45, 46, 47] (by decide +kernel) (by decide +kernel)) (goodIn_sub (fun _ h => List.mem_cons_of_mem _ (List.mem_append_right _ h)) (by decide +kernel))
set_option maxRecDepth 20000 in
theorem gX6_child_X6_checkStitch : GoodIn wsX6_child (wsV RX6 134 RX6 yX6_checkStitch wsX6_checkStitch) := goodIn_app (goodIn_of _ (by decide +kernel)) ggX6_child_X6_checkStitch
set_option maxRecDepth 20000 in
theorem ggX6_child_X4_childOf : GoodIn wsX6_child wsX4_childOf := goodIn_r _ [24, 25, 26, 15, 16, 17, 18, 19, 27, 28, 29, 23, 30, 31, 32, 6, 33, 34, 35, 41, 42, 43, 44, 45, 46, 47] (by decide +kernel) (by decide +kernel)
set_option maxRecDepth 20000 in
theorem gX6_child_X4_childOf : GoodIn wsX6_child (wsV RX6 143 RX4 yX4_childOf wsX4_childOf) := goodIn_app (goodIn_of _ (by decide +kernel)) ggX6_child_X4_childOf
theorem dX6_child_0 : decode cX6_child 0 = .ok (.aload_n 0, 1) := by decide +kernel
theorem dX6_child_1 : decode cX6_child 1 = .ok (.iload_n 1, 1) := by decide +kernel
theorem dX6_child_2 : decode cX6_child 2 = .ok (.iload_n 2, 1) := by decide +kernel
theorem dX6_child_3 : decode cX6_child 3 = .ok (.invokevirtual 134, 3) := by decide +kernel
theorem dX6_child_6 : decode cX6_child 6 = .ok (.iload_n 1, 1) := by decide +kernel
theorem dX6_child_7 : decode cX6_child 7 = .ok (.aload_n 0, 1) := by decide +kernel
theorem dX6_child_8 : decode cX6_child 8 = .ok (.getfield 10, 3) := by decide +kernel
theorem dX6_child_11 : decode cX6_child 11 = .ok (.getfield 62, 3) := by decide +kernel
theorem dX6_child_14 : decode cX6_child 14 = .ok (.iconst 1, 1) := by decide +kernel
theorem dX6_child_15 : decode cX6_child 15 = .ok (.isub, 1) := by decide +kernel
theorem dX6_child_16 : decode cX6_child 16 = .ok (.if_icmp .ne 7, 3) := by decide +kernel
theorem dX6_child_19 : decode cX6_child 19 = .ok (.iconst (-1), 1) := by decide +kernel
theorem dX6_child_20 : decode cX6_child 20 = .ok (.goto 12, 3) := by decide +kernel
theorem dX6_child_23 : decode cX6_child 23 = .ok (.aload_n 0, 1) := by decide +kernel
theorem dX6_child_24 : decode cX6_child 24 = .ok (.getfield 10, 3) := by decide +kernel
theorem dX6_child_27 : decode cX6_child 27 = .ok (.iload_n 1, 1) := by decide +kernel
theorem dX6_child_28 : decode cX6_child 28 = .ok (.iload_n 2, 1) := by decide +kernel
theorem dX6_child_29 : decode cX6_child 29 = .ok (.invokevirtual 143, 3) := by decide +kernel
theorem dX6_child_32 : decode cX6_child 32 = .ok (.ireturn, 1) := by decide +kernel
set_option maxRecDepth 20000 in
theorem ggX6_root_X6_checkStitch : GoodIn wsX6_root wsX6_checkStitch := goodIn_ca (goodIn_r _ [6, 1, 7, 8, 9, 10, 5, 11, 12, 13, 14, 15, 16, 17, 18, 19, 40, 41, 42, 43, 44, 45, 46, 47, 48, 49, 50, 51] (by decide +kernel) (by decide +kernel)) (goodIn_sub (fun _ h => List.mem_cons_of_mem _ (List.mem_append_right _ h)) (by decide +kernel))
set_option maxRecDepth 20000 in
theorem gX6_root_X6_checkStitch : GoodIn wsX6_root (wsV RX6 134 RX6 yX6_checkStitch wsX6_checkStitch) := goodIn_app (goodIn_of _ (by decide +kernel)) ggX6_root_X6_checkStitch
set_option maxRecDepth 20000 in
theorem ggX6_root_X4_parentOf : GoodIn wsX6_root wsX4_parentOf := goodIn_r _ [24, 25, 26, 27, 23, 28, 29, 30, 15, 16, 17, 18, 19, 31, 32, 33, 34, 35, 36, 5, 37, 38, 39, 45, 46, 47, 48, 49, 50, 51] (by decide +kernel) (by decide +kernel)
set_option maxRecDepth 20000 in
theorem gX6_root_X4_parentOf : GoodIn wsX6_root (wsV RX6 140 RX4 yX4_parentOf wsX4_parentOf) := goodIn_app (goodIn_of _ (by decide +kernel)) ggX6_root_X4_parentOf
theorem dX6_root_0 : decode cX6_root 0 = .ok (.aload_n 0, 1) := by decide +kernel
theorem dX6_root_1 : decode cX6_root 1 = .ok (.iload_n 1, 1) := by decide +kernel
theorem dX6_root_2 : decode cX6_root 2 = .ok (.iload_n 2, 1) := by decide +kernel
theorem dX6_root_3 : decode cX6_root 3 = .ok (.invokevirtual 134, 3) := by decide +kernel
theorem dX6_root_6 : decode cX6_root 6 = .ok (.iload_n 2, 1) := by decide +kernel
theorem dX6_root_7 : decode cX6_root 7 = .ok (.istore_n 3, 1) := by decide +kernel
theorem dX6_root_8 : decode cX6_root 8 = .ok (.iload_n 1, 1) := by decide +kernel
theorem dX6_root_9 : decode cX6_root 9 = .ok (.istore 4, 2) := by decide +kernel
theorem dX6_root_11 : decode cX6_root 11 = .ok (.iload 4, 2) := by decide +kernel
theorem dX6_root_13 : decode cX6_root 13 = .ok (.ifCond .le 20, 3) := by decide +kernel
theorem dX6_root_16 : decode cX6_root 16 = .ok (.aload_n 0, 1) := by decide +kernel
theorem dX6_root_17 : decode cX6_root 17 = .ok (.getfield 10, 3) := by decide +kernel
theorem dX6_root_20 : decode cX6_root 20 = .ok (.iload 4, 2) := by decide +kernel
theorem dX6_root_22 : decode cX6_root 22 = .ok (.iload_n 3, 1) := by decide +kernel
theorem dX6_root_23 : decode cX6_root 23 = .ok (.invokevirtual 140, 3) := by decide +kernel
theorem dX6_root_26 : decode cX6_root 26 = .ok (.istore_n 3, 1) := by decide +kernel
theorem dX6_root_27 : decode cX6_root 27 = .ok (.iinc 4 (-1), 3) := by decide +kernel
theorem dX6_root_30 : decode cX6_root 30 = .ok (.goto (-19), 3) := by decide +kernel
theorem dX6_root_33 : decode cX6_root 33 = .ok (.iload_n 3, 1) := by decide +kernel
theorem dX6_root_34 : decode cX6_root 34 = .ok (.ireturn, 1) := by decide +kernel
set_option maxRecDepth 20000 in
theorem ggX6_place_X6_checkStitch : GoodIn wsX6_place wsX6_checkStitch := goodIn_ca (goodIn_r _ [8, 1, 9, 2, 10, 11, 7, 12, 13, 14, 15, 16, 17, 18, 19, 20, 21, 22, 23, 24, 25, 26, 27, 28, 29, 30, 31, 32] (by decide +kernel) (by decide +kernel)) (goodIn_sub (fun _ h => List.mem_cons_of_mem _ (List.mem_append_right _ h)) (by decide +kernel))
set_option maxRecDepth 20000 in
theorem gX6_place_X6_checkStitch : GoodIn wsX6_place (wsV RX6 134 RX6 yX6_checkStitch wsX6_checkStitch) := goodIn_app (goodIn_of _ (by decide +kernel)) ggX6_place_X6_checkStitch
set_option maxRecDepth 20000 in
theorem ggX6_place_X2_at : GoodIn wsX6_place wsX2_at := goodIn_r _ [19, 20, 32] (by decide +kernel) (by decide +kernel)
set_option maxRecDepth 20000 in
theorem gX6_place_X2_at : GoodIn wsX6_place (wsV RX6 114 RX2 yX2_at wsX2_at) := goodIn_app (goodIn_of _ (by decide +kernel)) ggX6_place_X2_at
theorem dX6_place_0 : decode cX6_place 0 = .ok (.aload_n 0, 1) := by decide +kernel
theorem dX6_place_1 : decode cX6_place 1 = .ok (.iload_n 1, 1) := by decide +kernel
theorem dX6_place_2 : decode cX6_place 2 = .ok (.iload_n 2, 1) := by decide +kernel
theorem dX6_place_3 : decode cX6_place 3 = .ok (.invokevirtual 134, 3) := by decide +kernel
theorem dX6_place_6 : decode cX6_place 6 = .ok (.aload_n 0, 1) := by decide +kernel
theorem dX6_place_7 : decode cX6_place 7 = .ok (.getfield 10, 3) := by decide +kernel
theorem dX6_place_10 : decode cX6_place 10 = .ok (.getfield 146, 3) := by decide +kernel
theorem dX6_place_13 : decode cX6_place 13 = .ok (.iload_n 1, 1) := by decide +kernel
theorem dX6_place_14 : decode cX6_place 14 = .ok (.invokevirtual 114, 3) := by decide +kernel
theorem dX6_place_17 : decode cX6_place 17 = .ok (.istore_n 3, 1) := by decide +kernel
theorem dX6_place_18 : decode cX6_place 18 = .ok (.iload_n 3, 1) := by decide +kernel
theorem dX6_place_19 : decode cX6_place 19 = .ok (.ifCond .gt 5, 3) := by decide +kernel
theorem dX6_place_22 : decode cX6_place 22 = .ok (.iconst 0, 1) := by decide +kernel
theorem dX6_place_23 : decode cX6_place 23 = .ok (.ireturn, 1) := by decide +kernel
theorem dX6_place_24 : decode cX6_place 24 = .ok (.aload_n 0, 1) := by decide +kernel
theorem dX6_place_25 : decode cX6_place 25 = .ok (.getfield 10, 3) := by decide +kernel
theorem dX6_place_28 : decode cX6_place 28 = .ok (.getfield 117, 3) := by decide +kernel
theorem dX6_place_31 : decode cX6_place 31 = .ok (.ifCond .eq 21, 3) := by decide +kernel
theorem dX6_place_34 : decode cX6_place 34 = .ok (.iconst 2, 1) := by decide +kernel
theorem dX6_place_35 : decode cX6_place 35 = .ok (.iload_n 2, 1) := by decide +kernel
theorem dX6_place_36 : decode cX6_place 36 = .ok (.imul, 1) := by decide +kernel
theorem dX6_place_37 : decode cX6_place 37 = .ok (.iload_n 1, 1) := by decide +kernel
theorem dX6_place_38 : decode cX6_place 38 = .ok (.iadd, 1) := by decide +kernel
theorem dX6_place_39 : decode cX6_place 39 = .ok (.sipush 1000, 3) := by decide +kernel
theorem dX6_place_42 : decode cX6_place 42 = .ok (.imul, 1) := by decide +kernel
theorem dX6_place_43 : decode cX6_place 43 = .ok (.iconst 2, 1) := by decide +kernel
theorem dX6_place_44 : decode cX6_place 44 = .ok (.iload_n 3, 1) := by decide +kernel
theorem dX6_place_45 : decode cX6_place 45 = .ok (.imul, 1) := by decide +kernel
theorem dX6_place_46 : decode cX6_place 46 = .ok (.idiv, 1) := by decide +kernel
theorem dX6_place_47 : decode cX6_place 47 = .ok (.sipush 1000, 3) := by decide +kernel
theorem dX6_place_50 : decode cX6_place 50 = .ok (.irem, 1) := by decide +kernel
theorem dX6_place_51 : decode cX6_place 51 = .ok (.ireturn, 1) := by decide +kernel
theorem dX6_place_52 : decode cX6_place 52 = .ok (.iload_n 2, 1) := by decide +kernel
theorem dX6_place_53 : decode cX6_place 53 = .ok (.sipush 1000, 3) := by decide +kernel
theorem dX6_place_56 : decode cX6_place 56 = .ok (.imul, 1) := by decide +kernel
theorem dX6_place_57 : decode cX6_place 57 = .ok (.iload_n 3, 1) := by decide +kernel
theorem dX6_place_58 : decode cX6_place 58 = .ok (.idiv, 1) := by decide +kernel
theorem dX6_place_59 : decode cX6_place 59 = .ok (.ireturn, 1) := by decide +kernel
set_option maxRecDepth 20000 in
theorem ggX6_value_X6_checkArgument : GoodIn wsX6_value wsX6_checkArgument := goodIn_ca (goodIn_r _ [7, 8, 9] (by decide +kernel) (by decide +kernel)) (goodIn_sub (fun _ h => List.mem_cons_of_mem _ (List.mem_append_right _ h)) (by decide +kernel))
set_option maxRecDepth 20000 in
theorem gX6_value_X6_checkArgument : GoodIn wsX6_value (va_wsS RX6 58 yX6_checkArgument wsX6_checkArgument) := goodIn_app (goodIn_of _ (by decide +kernel)) ggX6_value_X6_checkArgument
set_option maxRecDepth 20000 in
theorem ggX6_value_X4_lastTotal : GoodIn wsX6_value wsX4_lastTotal := goodIn_r _ [14, 15, 16, 17, 18, 19, 20, 21, 22, 103, 104, 105, 106, 107, 108, 109] (by decide +kernel) (by decide +kernel)
set_option maxRecDepth 20000 in
theorem gX6_value_X4_lastTotal : GoodIn wsX6_value (wsV RX6 77 RX4 yX4_lastTotal wsX4_lastTotal) := goodIn_app (goodIn_of _ (by decide +kernel)) ggX6_value_X4_lastTotal
set_option maxRecDepth 20000 in
theorem ggX6_value_X6_sumOverRounds : GoodIn wsX6_value wsX6_sumOverRounds := goodIn_r _ [26, 1, 2, 27, 28, 29, 6, 30, 31, 32, 33, 18, 19, 20, 21, 22, 34, 35, 36, 13, 37, 38, 17, 39, 40, 41, 42, 43, 44, 45, 46, 47, 48, 49, 50, 51, 52, 53, 54, 55, 56, 57, 58, 59, 60, 61, 62, 63, 64, 65, 66, 67, 68, 69, 70, 71, 72, 73, 74, 75, 76, 77, 78, 79, 80, 81, 82, 83, 84, 85, 86, 87, 88, 89, 90, 91, 92, 93, 98, 99, 100, 101, 102, 103, 104, 105, 106, 107, 108, 109, 110] (by decide +kernel) (by decide +kernel)
set_option maxRecDepth 20000 in
theorem gX6_value_X6_sumOverRounds : GoodIn wsX6_value (wsV RX6 149 RX6 yX6_sumOverRounds wsX6_sumOverRounds) := goodIn_app (goodIn_of _ (by decide +kernel)) ggX6_value_X6_sumOverRounds
set_option maxRecDepth 20000 in
theorem ggX6_value_X4_widest : GoodIn wsX6_value wsX4_widest := goodIn_r _ [97, 16, 15, 17, 18, 19, 20, 21, 22, 103, 104, 105, 106, 107, 108, 109] (by decide +kernel) (by decide +kernel)
set_option maxRecDepth 20000 in
theorem gX6_value_X4_widest : GoodIn wsX6_value (wsV RX6 152 RX4 yX4_widest wsX4_widest) := goodIn_app (goodIn_of _ (by decide +kernel)) ggX6_value_X4_widest
theorem dX6_value_0 : decode cX6_value 0 = .ok (.iload_n 1, 1) := by decide +kernel
theorem dX6_value_1 : decode cX6_value 1 = .ok (.ifCond .lt 13, 3) := by decide +kernel
theorem dX6_value_4 : decode cX6_value 4 = .ok (.iload_n 1, 1) := by decide +kernel
theorem dX6_value_5 : decode cX6_value 5 = .ok (.bipush 7, 2) := by decide +kernel
theorem dX6_value_7 : decode cX6_value 7 = .ok (.if_icmp .gt 7, 3) := by decide +kernel
theorem dX6_value_10 : decode cX6_value 10 = .ok (.iconst 1, 1) := by decide +kernel
theorem dX6_value_11 : decode cX6_value 11 = .ok (.goto 4, 3) := by decide +kernel
theorem dX6_value_14 : decode cX6_value 14 = .ok (.iconst 0, 1) := by decide +kernel
theorem dX6_value_15 : decode cX6_value 15 = .ok (.invokestatic 58, 3) := by decide +kernel
theorem dX6_value_18 : decode cX6_value 18 = .ok (.iload_n 1, 1) := by decide +kernel
theorem dX6_value_19 : decode cX6_value 19 = .ok (.tableswitch 91 0 6 #[41, 49, 57, 63, 70, 76, 83], 41) := by decide +kernel
theorem dX6_value_60 : decode cX6_value 60 = .ok (.aload_n 0, 1) := by decide +kernel
theorem dX6_value_61 : decode cX6_value 61 = .ok (.getfield 10, 3) := by decide +kernel
theorem dX6_value_64 : decode cX6_value 64 = .ok (.getfield 62, 3) := by decide +kernel
theorem dX6_value_67 : decode cX6_value 67 = .ok (.ireturn, 1) := by decide +kernel
theorem dX6_value_68 : decode cX6_value 68 = .ok (.aload_n 0, 1) := by decide +kernel
theorem dX6_value_69 : decode cX6_value 69 = .ok (.getfield 10, 3) := by decide +kernel
theorem dX6_value_72 : decode cX6_value 72 = .ok (.invokevirtual 77, 3) := by decide +kernel
theorem dX6_value_75 : decode cX6_value 75 = .ok (.ireturn, 1) := by decide +kernel
theorem dX6_value_76 : decode cX6_value 76 = .ok (.aload_n 0, 1) := by decide +kernel
theorem dX6_value_77 : decode cX6_value 77 = .ok (.iconst 0, 1) := by decide +kernel
theorem dX6_value_78 : decode cX6_value 78 = .ok (.invokevirtual 149, 3) := by decide +kernel
theorem dX6_value_81 : decode cX6_value 81 = .ok (.ireturn, 1) := by decide +kernel
theorem dX6_value_82 : decode cX6_value 82 = .ok (.aload_n 0, 1) := by decide +kernel
theorem dX6_value_83 : decode cX6_value 83 = .ok (.bipush 7, 2) := by decide +kernel
theorem dX6_value_85 : decode cX6_value 85 = .ok (.invokevirtual 149, 3) := by decide +kernel
theorem dX6_value_88 : decode cX6_value 88 = .ok (.ireturn, 1) := by decide +kernel
theorem dX6_value_89 : decode cX6_value 89 = .ok (.aload_n 0, 1) := by decide +kernel
theorem dX6_value_90 : decode cX6_value 90 = .ok (.iconst 5, 1) := by decide +kernel
theorem dX6_value_91 : decode cX6_value 91 = .ok (.invokevirtual 149, 3) := by decide +kernel
theorem dX6_value_94 : decode cX6_value 94 = .ok (.ireturn, 1) := by decide +kernel
theorem dX6_value_95 : decode cX6_value 95 = .ok (.aload_n 0, 1) := by decide +kernel
theorem dX6_value_96 : decode cX6_value 96 = .ok (.bipush 6, 2) := by decide +kernel
theorem dX6_value_98 : decode cX6_value 98 = .ok (.invokevirtual 149, 3) := by decide +kernel
theorem dX6_value_101 : decode cX6_value 101 = .ok (.ireturn, 1) := by decide +kernel
theorem dX6_value_102 : decode cX6_value 102 = .ok (.aload_n 0, 1) := by decide +kernel
theorem dX6_value_103 : decode cX6_value 103 = .ok (.getfield 10, 3) := by decide +kernel
theorem dX6_value_106 : decode cX6_value 106 = .ok (.invokevirtual 152, 3) := by decide +kernel
theorem dX6_value_109 : decode cX6_value 109 = .ok (.ireturn, 1) := by decide +kernel
theorem dX6_value_110 : decode cX6_value 110 = .ok (.aload_n 0, 1) := by decide +kernel
theorem dX6_value_111 : decode cX6_value 111 = .ok (.getfield 10, 3) := by decide +kernel
theorem dX6_value_114 : decode cX6_value 114 = .ok (.getfield 117, 3) := by decide +kernel
theorem dX6_value_117 : decode cX6_value 117 = .ok (.ifCond .eq 7, 3) := by decide +kernel
theorem dX6_value_120 : decode cX6_value 120 = .ok (.iconst 1, 1) := by decide +kernel
theorem dX6_value_121 : decode cX6_value 121 = .ok (.goto 4, 3) := by decide +kernel
theorem dX6_value_124 : decode cX6_value 124 = .ok (.iconst 0, 1) := by decide +kernel
theorem dX6_value_125 : decode cX6_value 125 = .ok (.ireturn, 1) := by decide +kernel
set_option maxRecDepth 20000 in
theorem ggX6_goal_X6_isShape : GoodIn wsX6_goal wsX6_isShape := goodIn_r _ [4] (by decide +kernel) (by decide +kernel)
set_option maxRecDepth 20000 in
theorem gX6_goal_X6_isShape : GoodIn wsX6_goal (va_wsS RX6 101 yX6_isShape wsX6_isShape) := goodIn_app (goodIn_of _ (by decide +kernel)) ggX6_goal_X6_isShape
set_option maxRecDepth 20000 in
theorem ggX6_goal_X6_isSize : GoodIn wsX6_goal wsX6_isSize := goodIn_r _ [7] (by decide +kernel) (by decide +kernel)
set_option maxRecDepth 20000 in
theorem gX6_goal_X6_isSize : GoodIn wsX6_goal (va_wsS RX6 104 yX6_isSize wsX6_isSize) := goodIn_app (goodIn_of _ (by decide +kernel)) ggX6_goal_X6_isSize
set_option maxRecDepth 20000 in
theorem ggX6_goal_X6_checkArgument : GoodIn wsX6_goal wsX6_checkArgument := goodIn_ca (goodIn_r _ [10, 11, 12] (by decide +kernel) (by decide +kernel)) (goodIn_sub (fun _ h => List.mem_cons_of_mem _ (List.mem_append_right _ h)) (by decide +kernel))
set_option maxRecDepth 20000 in
theorem gX6_goal_X6_checkArgument : GoodIn wsX6_goal (va_wsS RX6 58 yX6_checkArgument wsX6_checkArgument) := goodIn_app (goodIn_of _ (by decide +kernel)) ggX6_goal_X6_checkArgument
set_option maxRecDepth 20000 in
theorem ggX6_goal_X6_shapeGoal : GoodIn wsX6_goal wsX6_shapeGoal := goodIn_r _ [16, 17, 18, 19, 20, 21, 22, 23, 24, 25, 26, 27, 28, 29, 30, 31, 32, 33, 3, 34, 35, 36, 37, 38, 39, 40, 41, 42, 43, 44, 45, 46, 47, 48, 49] (by decide +kernel) (by decide +kernel)
set_option maxRecDepth 20000 in
theorem gX6_goal_X6_shapeGoal : GoodIn wsX6_goal (wsV RX6 107 RX6 yX6_shapeGoal wsX6_shapeGoal) := goodIn_app (goodIn_of _ (by decide +kernel)) ggX6_goal_X6_shapeGoal
theorem dX6_goal_0 : decode cX6_goal 0 = .ok (.iload_n 1, 1) := by decide +kernel
theorem dX6_goal_1 : decode cX6_goal 1 = .ok (.invokestatic 101, 3) := by decide +kernel
theorem dX6_goal_4 : decode cX6_goal 4 = .ok (.ifCond .eq 14, 3) := by decide +kernel
theorem dX6_goal_7 : decode cX6_goal 7 = .ok (.iload_n 2, 1) := by decide +kernel
theorem dX6_goal_8 : decode cX6_goal 8 = .ok (.invokestatic 104, 3) := by decide +kernel
theorem dX6_goal_11 : decode cX6_goal 11 = .ok (.ifCond .eq 7, 3) := by decide +kernel
theorem dX6_goal_14 : decode cX6_goal 14 = .ok (.iconst 1, 1) := by decide +kernel
theorem dX6_goal_15 : decode cX6_goal 15 = .ok (.goto 4, 3) := by decide +kernel
theorem dX6_goal_18 : decode cX6_goal 18 = .ok (.iconst 0, 1) := by decide +kernel
theorem dX6_goal_19 : decode cX6_goal 19 = .ok (.invokestatic 58, 3) := by decide +kernel
theorem dX6_goal_22 : decode cX6_goal 22 = .ok (.iload_n 3, 1) := by decide +kernel
theorem dX6_goal_23 : decode cX6_goal 23 = .ok (.ifCond .lt 13, 3) := by decide +kernel
theorem dX6_goal_26 : decode cX6_goal 26 = .ok (.iload_n 3, 1) := by decide +kernel
theorem dX6_goal_27 : decode cX6_goal 27 = .ok (.bipush 40, 2) := by decide +kernel
theorem dX6_goal_29 : decode cX6_goal 29 = .ok (.if_icmp .ge 7, 3) := by decide +kernel
theorem dX6_goal_32 : decode cX6_goal 32 = .ok (.iconst 1, 1) := by decide +kernel
theorem dX6_goal_33 : decode cX6_goal 33 = .ok (.goto 4, 3) := by decide +kernel
theorem dX6_goal_36 : decode cX6_goal 36 = .ok (.iconst 0, 1) := by decide +kernel
theorem dX6_goal_37 : decode cX6_goal 37 = .ok (.invokestatic 58, 3) := by decide +kernel
theorem dX6_goal_40 : decode cX6_goal 40 = .ok (.aload_n 0, 1) := by decide +kernel
theorem dX6_goal_41 : decode cX6_goal 41 = .ok (.iload_n 1, 1) := by decide +kernel
theorem dX6_goal_42 : decode cX6_goal 42 = .ok (.iload_n 2, 1) := by decide +kernel
theorem dX6_goal_43 : decode cX6_goal 43 = .ok (.iload_n 3, 1) := by decide +kernel
theorem dX6_goal_44 : decode cX6_goal 44 = .ok (.invokevirtual 107, 3) := by decide +kernel
theorem dX6_goal_47 : decode cX6_goal 47 = .ok (.ireturn, 1) := by decide +kernel
set_option maxRecDepth 20000 in
theorem ggX6_stacks_X6_isGoal : GoodIn wsX6_stacks wsX6_isGoal := goodIn_r _ [10] (by decide +kernel) (by decide +kernel)
set_option maxRecDepth 20000 in
theorem gX6_stacks_X6_isGoal : GoodIn wsX6_stacks (va_wsS RX6 70 yX6_isGoal wsX6_isGoal) := goodIn_app (goodIn_of _ (by decide +kernel)) ggX6_stacks_X6_isGoal
set_option maxRecDepth 20000 in
theorem ggX6_stacks_X6_isShift : GoodIn wsX6_stacks wsX6_isShift := goodIn_r _ [13] (by decide +kernel) (by decide +kernel)
set_option maxRecDepth 20000 in
theorem gX6_stacks_X6_isShift : GoodIn wsX6_stacks (va_wsS RX6 91 yX6_isShift wsX6_isShift) := goodIn_app (goodIn_of _ (by decide +kernel)) ggX6_stacks_X6_isShift
set_option maxRecDepth 20000 in
theorem ggX6_stacks_X6_checkArgument : GoodIn wsX6_stacks wsX6_checkArgument := goodIn_ca (goodIn_r _ [16, 17, 18] (by decide +kernel) (by decide +kernel)) (goodIn_sub (fun _ h => List.mem_cons_of_mem _ (List.mem_append_right _ h)) (by decide +kernel))
set_option maxRecDepth 20000 in
theorem gX6_stacks_X6_checkArgument : GoodIn wsX6_stacks (va_wsS RX6 58 yX6_checkArgument wsX6_checkArgument) := goodIn_app (goodIn_of _ (by decide +kernel)) ggX6_stacks_X6_checkArgument
set_option maxRecDepth 20000 in
theorem ggX6_stacks_X4_lastTotal : GoodIn wsX6_stacks wsX4_lastTotal := goodIn_r _ [23, 24, 25, 26, 27, 28, 29, 30, 31, 76, 77, 78, 79, 80, 81, 86] (by decide +kernel) (by decide +kernel)
set_option maxRecDepth 20000 in
theorem gX6_stacks_X4_lastTotal : GoodIn wsX6_stacks (wsV RX6 77 RX4 yX4_lastTotal wsX4_lastTotal) := goodIn_app (goodIn_of _ (by decide +kernel)) ggX6_stacks_X4_lastTotal
set_option maxRecDepth 20000 in
theorem ggX6_stacks_X5_spread : GoodIn wsX6_stacks wsX5_spread := goodIn_r _ [36, 37, 38, 39, 40, 41, 42, 35, 43, 44, 45, 46, 47, 48, 49, 50, 51, 29, 52, 31, 82, 83, 84, 85, 86] (by decide +kernel) (by decide +kernel)
set_option maxRecDepth 20000 in
theorem gX6_stacks_X5_spread : GoodIn wsX6_stacks (wsV RX6 81 RX5 yX5_spread wsX5_spread) := goodIn_app (goodIn_of _ (by decide +kernel)) ggX6_stacks_X5_spread
set_option maxRecDepth 20000 in
theorem ggX6_stacks_X1_load : GoodIn wsX6_stacks wsX1_load := goodIn_r _ [57, 58, 59, 60, 61, 27, 28, 29, 30, 31, 62, 50, 51, 52, 63, 9, 64, 76, 77, 78, 79, 80, 81, 87, 86] (by decide +kernel) (by decide +kernel)
set_option maxRecDepth 20000 in
theorem gX6_stacks_X1_load : GoodIn wsX6_stacks (wsV RX6 155 RX1 yX1_load wsX1_load) := goodIn_app (goodIn_of _ (by decide +kernel)) ggX6_stacks_X1_load
set_option maxRecDepth 20000 in
theorem ggX6_stacks_X1_stackedIn : GoodIn wsX6_stacks wsX1_stackedIn := goodIn_r _ [68, 60, 61, 27, 28, 29, 30, 31, 69, 9, 70, 87, 86] (by decide +kernel) (by decide +kernel)
set_option maxRecDepth 20000 in
theorem gX6_stacks_X1_stackedIn : GoodIn wsX6_stacks (wsV RX6 164 RX1 yX1_stackedIn wsX1_stackedIn) := goodIn_app (goodIn_of _ (by decide +kernel)) ggX6_stacks_X1_stackedIn
theorem dX6_stacks_0 : decode cX6_stacks 0 = .ok (.iload_n 1, 1) := by decide +kernel
theorem dX6_stacks_1 : decode cX6_stacks 1 = .ok (.invokestatic 70, 3) := by decide +kernel
theorem dX6_stacks_4 : decode cX6_stacks 4 = .ok (.ifCond .eq 14, 3) := by decide +kernel
theorem dX6_stacks_7 : decode cX6_stacks 7 = .ok (.iload_n 2, 1) := by decide +kernel
theorem dX6_stacks_8 : decode cX6_stacks 8 = .ok (.invokestatic 91, 3) := by decide +kernel
theorem dX6_stacks_11 : decode cX6_stacks 11 = .ok (.ifCond .eq 7, 3) := by decide +kernel
theorem dX6_stacks_14 : decode cX6_stacks 14 = .ok (.iconst 1, 1) := by decide +kernel
theorem dX6_stacks_15 : decode cX6_stacks 15 = .ok (.goto 4, 3) := by decide +kernel
theorem dX6_stacks_18 : decode cX6_stacks 18 = .ok (.iconst 0, 1) := by decide +kernel
theorem dX6_stacks_19 : decode cX6_stacks 19 = .ok (.invokestatic 58, 3) := by decide +kernel
theorem dX6_stacks_22 : decode cX6_stacks 22 = .ok (.aload_n 0, 1) := by decide +kernel
theorem dX6_stacks_23 : decode cX6_stacks 23 = .ok (.getfield 33, 3) := by decide +kernel
theorem dX6_stacks_26 : decode cX6_stacks 26 = .ok (.aload_n 0, 1) := by decide +kernel
theorem dX6_stacks_27 : decode cX6_stacks 27 = .ok (.getfield 10, 3) := by decide +kernel
theorem dX6_stacks_30 : decode cX6_stacks 30 = .ok (.invokevirtual 77, 3) := by decide +kernel
theorem dX6_stacks_33 : decode cX6_stacks 33 = .ok (.iload_n 1, 1) := by decide +kernel
theorem dX6_stacks_34 : decode cX6_stacks 34 = .ok (.invokevirtual 81, 3) := by decide +kernel
theorem dX6_stacks_37 : decode cX6_stacks 37 = .ok (.ifCond .ne 5, 3) := by decide +kernel
theorem dX6_stacks_40 : decode cX6_stacks 40 = .ok (.iconst (-1), 1) := by decide +kernel
theorem dX6_stacks_41 : decode cX6_stacks 41 = .ok (.ireturn, 1) := by decide +kernel
theorem dX6_stacks_42 : decode cX6_stacks 42 = .ok (.aload_n 0, 1) := by decide +kernel
theorem dX6_stacks_43 : decode cX6_stacks 43 = .ok (.getfield 40, 3) := by decide +kernel
theorem dX6_stacks_46 : decode cX6_stacks 46 = .ok (.aload_n 0, 1) := by decide +kernel
theorem dX6_stacks_47 : decode cX6_stacks 47 = .ok (.getfield 10, 3) := by decide +kernel
theorem dX6_stacks_50 : decode cX6_stacks 50 = .ok (.aload_n 0, 1) := by decide +kernel
theorem dX6_stacks_51 : decode cX6_stacks 51 = .ok (.getfield 10, 3) := by decide +kernel
theorem dX6_stacks_54 : decode cX6_stacks 54 = .ok (.getfield 62, 3) := by decide +kernel
theorem dX6_stacks_57 : decode cX6_stacks 57 = .ok (.iconst 1, 1) := by decide +kernel
theorem dX6_stacks_58 : decode cX6_stacks 58 = .ok (.isub, 1) := by decide +kernel
theorem dX6_stacks_59 : decode cX6_stacks 59 = .ok (.invokevirtual 155, 3) := by decide +kernel
theorem dX6_stacks_62 : decode cX6_stacks 62 = .ok (.aload_n 0, 1) := by decide +kernel
theorem dX6_stacks_63 : decode cX6_stacks 63 = .ok (.getfield 40, 3) := by decide +kernel
theorem dX6_stacks_66 : decode cX6_stacks 66 = .ok (.aload_n 0, 1) := by decide +kernel
theorem dX6_stacks_67 : decode cX6_stacks 67 = .ok (.getfield 33, 3) := by decide +kernel
theorem dX6_stacks_70 : decode cX6_stacks 70 = .ok (.getfield 159, 3) := by decide +kernel
theorem dX6_stacks_73 : decode cX6_stacks 73 = .ok (.iconst 0, 1) := by decide +kernel
theorem dX6_stacks_74 : decode cX6_stacks 74 = .ok (.aload_n 0, 1) := by decide +kernel
theorem dX6_stacks_75 : decode cX6_stacks 75 = .ok (.getfield 33, 3) := by decide +kernel
theorem dX6_stacks_78 : decode cX6_stacks 78 = .ok (.getfield 162, 3) := by decide +kernel
theorem dX6_stacks_81 : decode cX6_stacks 81 = .ok (.iload_n 2, 1) := by decide +kernel
theorem dX6_stacks_82 : decode cX6_stacks 82 = .ok (.invokevirtual 164, 3) := by decide +kernel
theorem dX6_stacks_85 : decode cX6_stacks 85 = .ok (.ireturn, 1) := by decide +kernel
set_option maxRecDepth 20000 in
theorem ggX6_roundsTo_X6_isGoal : GoodIn wsX6_roundsTo wsX6_isGoal := goodIn_r _ [5] (by decide +kernel) (by decide +kernel)
set_option maxRecDepth 20000 in
theorem gX6_roundsTo_X6_isGoal : GoodIn wsX6_roundsTo (va_wsS RX6 70 yX6_isGoal wsX6_isGoal) := goodIn_app (goodIn_of _ (by decide +kernel)) ggX6_roundsTo_X6_isGoal
set_option maxRecDepth 20000 in
theorem ggX6_roundsTo_X6_checkArgument : GoodIn wsX6_roundsTo wsX6_checkArgument := goodIn_ca (goodIn_r _ [8, 9, 10] (by decide +kernel) (by decide +kernel)) (goodIn_sub (fun _ h => List.mem_cons_of_mem _ (List.mem_append_right _ h)) (by decide +kernel))
set_option maxRecDepth 20000 in
theorem gX6_roundsTo_X6_checkArgument : GoodIn wsX6_roundsTo (va_wsS RX6 58 yX6_checkArgument wsX6_checkArgument) := goodIn_app (goodIn_of _ (by decide +kernel)) ggX6_roundsTo_X6_checkArgument
set_option maxRecDepth 20000 in
theorem ggX6_roundsTo_X4_lastTotal : GoodIn wsX6_roundsTo wsX4_lastTotal := goodIn_r _ [15, 16, 17, 18, 19, 20, 21, 22, 23, 39, 40, 41, 42, 43, 44, 45] (by decide +kernel) (by decide +kernel)
set_option maxRecDepth 20000 in
theorem gX6_roundsTo_X4_lastTotal : GoodIn wsX6_roundsTo (wsV RX6 77 RX4 yX4_lastTotal wsX4_lastTotal) := goodIn_app (goodIn_of _ (by decide +kernel)) ggX6_roundsTo_X4_lastTotal
set_option maxRecDepth 20000 in
theorem ggX6_roundsTo_X6_nearestTo : GoodIn wsX6_roundsTo wsX6_nearestTo := goodIn_r _ [26, 27, 28, 29, 30, 31, 32, 33] (by decide +kernel) (by decide +kernel)
set_option maxRecDepth 20000 in
theorem gX6_roundsTo_X6_nearestTo : GoodIn wsX6_roundsTo (va_wsS RX6 168 yX6_nearestTo wsX6_nearestTo) := goodIn_app (goodIn_of _ (by decide +kernel)) ggX6_roundsTo_X6_nearestTo
theorem dX6_roundsTo_0 : decode cX6_roundsTo 0 = .ok (.iload_n 1, 1) := by decide +kernel
theorem dX6_roundsTo_1 : decode cX6_roundsTo 1 = .ok (.invokestatic 70, 3) := by decide +kernel
theorem dX6_roundsTo_4 : decode cX6_roundsTo 4 = .ok (.ifCond .eq 18, 3) := by decide +kernel
theorem dX6_roundsTo_7 : decode cX6_roundsTo 7 = .ok (.iload_n 2, 1) := by decide +kernel
theorem dX6_roundsTo_8 : decode cX6_roundsTo 8 = .ok (.iconst 1, 1) := by decide +kernel
theorem dX6_roundsTo_9 : decode cX6_roundsTo 9 = .ok (.if_icmp .lt 13, 3) := by decide +kernel
theorem dX6_roundsTo_12 : decode cX6_roundsTo 12 = .ok (.iload_n 2, 1) := by decide +kernel
theorem dX6_roundsTo_13 : decode cX6_roundsTo 13 = .ok (.bipush 60, 2) := by decide +kernel
theorem dX6_roundsTo_15 : decode cX6_roundsTo 15 = .ok (.if_icmp .gt 7, 3) := by decide +kernel
theorem dX6_roundsTo_18 : decode cX6_roundsTo 18 = .ok (.iconst 1, 1) := by decide +kernel
theorem dX6_roundsTo_19 : decode cX6_roundsTo 19 = .ok (.goto 4, 3) := by decide +kernel
theorem dX6_roundsTo_22 : decode cX6_roundsTo 22 = .ok (.iconst 0, 1) := by decide +kernel
theorem dX6_roundsTo_23 : decode cX6_roundsTo 23 = .ok (.invokestatic 58, 3) := by decide +kernel
theorem dX6_roundsTo_26 : decode cX6_roundsTo 26 = .ok (.aload_n 0, 1) := by decide +kernel
theorem dX6_roundsTo_27 : decode cX6_roundsTo 27 = .ok (.getfield 10, 3) := by decide +kernel
theorem dX6_roundsTo_30 : decode cX6_roundsTo 30 = .ok (.invokevirtual 77, 3) := by decide +kernel
theorem dX6_roundsTo_33 : decode cX6_roundsTo 33 = .ok (.istore_n 3, 1) := by decide +kernel
theorem dX6_roundsTo_34 : decode cX6_roundsTo 34 = .ok (.iconst 0, 1) := by decide +kernel
theorem dX6_roundsTo_35 : decode cX6_roundsTo 35 = .ok (.istore 4, 2) := by decide +kernel
theorem dX6_roundsTo_37 : decode cX6_roundsTo 37 = .ok (.iload_n 3, 1) := by decide +kernel
theorem dX6_roundsTo_38 : decode cX6_roundsTo 38 = .ok (.iload_n 1, 1) := by decide +kernel
theorem dX6_roundsTo_39 : decode cX6_roundsTo 39 = .ok (.if_icmp .eq 23, 3) := by decide +kernel
theorem dX6_roundsTo_42 : decode cX6_roundsTo 42 = .ok (.iload 4, 2) := by decide +kernel
theorem dX6_roundsTo_44 : decode cX6_roundsTo 44 = .ok (.bipush 120, 2) := by decide +kernel
theorem dX6_roundsTo_46 : decode cX6_roundsTo 46 = .ok (.if_icmp .ge 16, 3) := by decide +kernel
theorem dX6_roundsTo_49 : decode cX6_roundsTo 49 = .ok (.iload_n 1, 1) := by decide +kernel
theorem dX6_roundsTo_50 : decode cX6_roundsTo 50 = .ok (.iload_n 3, 1) := by decide +kernel
theorem dX6_roundsTo_51 : decode cX6_roundsTo 51 = .ok (.iload_n 2, 1) := by decide +kernel
theorem dX6_roundsTo_52 : decode cX6_roundsTo 52 = .ok (.invokestatic 168, 3) := by decide +kernel
theorem dX6_roundsTo_55 : decode cX6_roundsTo 55 = .ok (.istore_n 3, 1) := by decide +kernel
theorem dX6_roundsTo_56 : decode cX6_roundsTo 56 = .ok (.iinc 4 1, 3) := by decide +kernel
theorem dX6_roundsTo_59 : decode cX6_roundsTo 59 = .ok (.goto (-22), 3) := by decide +kernel
theorem dX6_roundsTo_62 : decode cX6_roundsTo 62 = .ok (.iload 4, 2) := by decide +kernel
theorem dX6_roundsTo_64 : decode cX6_roundsTo 64 = .ok (.ireturn, 1) := by decide +kernel
set_option maxRecDepth 20000 in
theorem ggX6_nearestShape_X6_differences : GoodIn wsX6_nearestShape wsX6_differences := goodIn_r _ [5, 6, 7, 8, 9, 10, 11, 12, 13, 14, 15, 16, 17, 18, 19, 20, 21, 4, 22, 23, 24, 25, 26, 27, 28, 29, 30, 31, 32, 33, 34, 35, 36, 37, 38, 39, 40, 41, 42, 43, 44, 45, 46] (by decide +kernel) (by decide +kernel)
set_option maxRecDepth 20000 in
theorem gX6_nearestShape_X6_differences : GoodIn wsX6_nearestShape (wsV RX6 171 RX6 yX6_differences wsX6_differences) := goodIn_app (goodIn_of _ (by decide +kernel)) ggX6_nearestShape_X6_differences
theorem dX6_nearestShape_0 : decode cX6_nearestShape 0 = .ok (.iconst (-1), 1) := by decide +kernel
theorem dX6_nearestShape_1 : decode cX6_nearestShape 1 = .ok (.istore_n 1, 1) := by decide +kernel
theorem dX6_nearestShape_2 : decode cX6_nearestShape 2 = .ok (.iconst 0, 1) := by decide +kernel
theorem dX6_nearestShape_3 : decode cX6_nearestShape 3 = .ok (.istore_n 2, 1) := by decide +kernel
theorem dX6_nearestShape_4 : decode cX6_nearestShape 4 = .ok (.iconst 0, 1) := by decide +kernel
theorem dX6_nearestShape_5 : decode cX6_nearestShape 5 = .ok (.istore_n 3, 1) := by decide +kernel
theorem dX6_nearestShape_6 : decode cX6_nearestShape 6 = .ok (.iload_n 3, 1) := by decide +kernel
theorem dX6_nearestShape_7 : decode cX6_nearestShape 7 = .ok (.iconst 4, 1) := by decide +kernel
theorem dX6_nearestShape_8 : decode cX6_nearestShape 8 = .ok (.if_icmp .gt 56, 3) := by decide +kernel
theorem dX6_nearestShape_11 : decode cX6_nearestShape 11 = .ok (.iconst 1, 1) := by decide +kernel
theorem dX6_nearestShape_12 : decode cX6_nearestShape 12 = .ok (.istore 4, 2) := by decide +kernel
theorem dX6_nearestShape_14 : decode cX6_nearestShape 14 = .ok (.iload 4, 2) := by decide +kernel
theorem dX6_nearestShape_16 : decode cX6_nearestShape 16 = .ok (.bipush 20, 2) := by decide +kernel
theorem dX6_nearestShape_18 : decode cX6_nearestShape 18 = .ok (.if_icmp .gt 40, 3) := by decide +kernel
theorem dX6_nearestShape_21 : decode cX6_nearestShape 21 = .ok (.aload_n 0, 1) := by decide +kernel
theorem dX6_nearestShape_22 : decode cX6_nearestShape 22 = .ok (.iload_n 3, 1) := by decide +kernel
theorem dX6_nearestShape_23 : decode cX6_nearestShape 23 = .ok (.iload 4, 2) := by decide +kernel
theorem dX6_nearestShape_25 : decode cX6_nearestShape 25 = .ok (.invokevirtual 171, 3) := by decide +kernel
theorem dX6_nearestShape_28 : decode cX6_nearestShape 28 = .ok (.istore 5, 2) := by decide +kernel
theorem dX6_nearestShape_30 : decode cX6_nearestShape 30 = .ok (.iload_n 1, 1) := by decide +kernel
theorem dX6_nearestShape_31 : decode cX6_nearestShape 31 = .ok (.iconst (-1), 1) := by decide +kernel
theorem dX6_nearestShape_32 : decode cX6_nearestShape 32 = .ok (.if_icmp .eq 9, 3) := by decide +kernel
theorem dX6_nearestShape_35 : decode cX6_nearestShape 35 = .ok (.iload 5, 2) := by decide +kernel
theorem dX6_nearestShape_37 : decode cX6_nearestShape 37 = .ok (.iload_n 2, 1) := by decide +kernel
theorem dX6_nearestShape_38 : decode cX6_nearestShape 38 = .ok (.if_icmp .ge 14, 3) := by decide +kernel
theorem dX6_nearestShape_41 : decode cX6_nearestShape 41 = .ok (.bipush 100, 2) := by decide +kernel
theorem dX6_nearestShape_43 : decode cX6_nearestShape 43 = .ok (.iload_n 3, 1) := by decide +kernel
theorem dX6_nearestShape_44 : decode cX6_nearestShape 44 = .ok (.imul, 1) := by decide +kernel
theorem dX6_nearestShape_45 : decode cX6_nearestShape 45 = .ok (.iload 4, 2) := by decide +kernel
theorem dX6_nearestShape_47 : decode cX6_nearestShape 47 = .ok (.iadd, 1) := by decide +kernel
theorem dX6_nearestShape_48 : decode cX6_nearestShape 48 = .ok (.istore_n 1, 1) := by decide +kernel
theorem dX6_nearestShape_49 : decode cX6_nearestShape 49 = .ok (.iload 5, 2) := by decide +kernel
theorem dX6_nearestShape_51 : decode cX6_nearestShape 51 = .ok (.istore_n 2, 1) := by decide +kernel
theorem dX6_nearestShape_52 : decode cX6_nearestShape 52 = .ok (.iinc 4 1, 3) := by decide +kernel
theorem dX6_nearestShape_55 : decode cX6_nearestShape 55 = .ok (.goto (-41), 3) := by decide +kernel
theorem dX6_nearestShape_58 : decode cX6_nearestShape 58 = .ok (.iinc 3 1, 3) := by decide +kernel
theorem dX6_nearestShape_61 : decode cX6_nearestShape 61 = .ok (.goto (-55), 3) := by decide +kernel
theorem dX6_nearestShape_64 : decode cX6_nearestShape 64 = .ok (.iload_n 1, 1) := by decide +kernel
theorem dX6_nearestShape_65 : decode cX6_nearestShape 65 = .ok (.ireturn, 1) := by decide +kernel
set_option maxRecDepth 20000 in
theorem ggX6_evenness_X6_checkIndex : GoodIn wsX6_evenness wsX6_checkIndex := goodIn_ca (goodIn_r _ [6, 7, 8] (by decide +kernel) (by decide +kernel)) (goodIn_sub (fun _ h => List.mem_cons_of_mem _ (List.mem_append_right _ h)) (by decide +kernel))
set_option maxRecDepth 20000 in
theorem gX6_evenness_X6_checkIndex : GoodIn wsX6_evenness (va_wsS RX6 121 yX6_checkIndex wsX6_checkIndex) := goodIn_app (goodIn_of _ (by decide +kernel)) ggX6_evenness_X6_checkIndex
set_option maxRecDepth 20000 in
theorem ggX6_evenness_X4_distance : GoodIn wsX6_evenness wsX4_distance := goodIn_r _ [13, 14, 15, 16, 17, 18, 19, 20, 21, 22, 23, 12, 24, 25, 26, 27, 28, 29, 30, 31, 32, 33, 34, 35, 41, 42, 43, 44, 45, 46, 47] (by decide +kernel) (by decide +kernel)
set_option maxRecDepth 20000 in
theorem gX6_evenness_X4_distance : GoodIn wsX6_evenness (wsV RX6 174 RX4 yX4_distance wsX4_distance) := goodIn_app (goodIn_of _ (by decide +kernel)) ggX6_evenness_X4_distance
theorem dX6_evenness_0 : decode cX6_evenness 0 = .ok (.iload_n 1, 1) := by decide +kernel
theorem dX6_evenness_1 : decode cX6_evenness 1 = .ok (.aload_n 0, 1) := by decide +kernel
theorem dX6_evenness_2 : decode cX6_evenness 2 = .ok (.getfield 10, 3) := by decide +kernel
theorem dX6_evenness_5 : decode cX6_evenness 5 = .ok (.getfield 62, 3) := by decide +kernel
theorem dX6_evenness_8 : decode cX6_evenness 8 = .ok (.invokestatic 121, 3) := by decide +kernel
theorem dX6_evenness_11 : decode cX6_evenness 11 = .ok (.aload_n 0, 1) := by decide +kernel
theorem dX6_evenness_12 : decode cX6_evenness 12 = .ok (.getfield 10, 3) := by decide +kernel
theorem dX6_evenness_15 : decode cX6_evenness 15 = .ok (.iload_n 1, 1) := by decide +kernel
theorem dX6_evenness_16 : decode cX6_evenness 16 = .ok (.iconst 1, 1) := by decide +kernel
theorem dX6_evenness_17 : decode cX6_evenness 17 = .ok (.invokevirtual 174, 3) := by decide +kernel
theorem dX6_evenness_20 : decode cX6_evenness 20 = .ok (.istore_n 2, 1) := by decide +kernel
theorem dX6_evenness_21 : decode cX6_evenness 21 = .ok (.iload_n 2, 1) := by decide +kernel
theorem dX6_evenness_22 : decode cX6_evenness 22 = .ok (.ifCond .gt 5, 3) := by decide +kernel
theorem dX6_evenness_25 : decode cX6_evenness 25 = .ok (.dconst 0, 1) := by decide +kernel
theorem dX6_evenness_26 : decode cX6_evenness 26 = .ok (.dreturn, 1) := by decide +kernel
theorem dX6_evenness_27 : decode cX6_evenness 27 = .ok (.aload_n 0, 1) := by decide +kernel
theorem dX6_evenness_28 : decode cX6_evenness 28 = .ok (.getfield 10, 3) := by decide +kernel
theorem dX6_evenness_31 : decode cX6_evenness 31 = .ok (.iload_n 1, 1) := by decide +kernel
theorem dX6_evenness_32 : decode cX6_evenness 32 = .ok (.iconst 0, 1) := by decide +kernel
theorem dX6_evenness_33 : decode cX6_evenness 33 = .ok (.invokevirtual 174, 3) := by decide +kernel
theorem dX6_evenness_36 : decode cX6_evenness 36 = .ok (.i2d, 1) := by decide +kernel
theorem dX6_evenness_37 : decode cX6_evenness 37 = .ok (.iload_n 2, 1) := by decide +kernel
theorem dX6_evenness_38 : decode cX6_evenness 38 = .ok (.i2d, 1) := by decide +kernel
theorem dX6_evenness_39 : decode cX6_evenness 39 = .ok (.ddiv, 1) := by decide +kernel
theorem dX6_evenness_40 : decode cX6_evenness 40 = .ok (.dreturn, 1) := by decide +kernel
set_option maxRecDepth 20000 in
theorem ggX6_append_X6_checkArgument : GoodIn wsX6_append wsX6_checkArgument := goodIn_ca (goodIn_r _ [7, 8, 9] (by decide +kernel) (by decide +kernel)) (goodIn_sub (fun _ h => List.mem_cons_of_mem _ (List.mem_append_left _ (List.mem_append_right _ h))) (by decide +kernel))
set_option maxRecDepth 20000 in
theorem gX6_append_X6_checkArgument : GoodIn wsX6_append (va_wsS RX6 58 yX6_checkArgument wsX6_checkArgument) := goodIn_app (goodIn_of _ (by decide +kernel)) ggX6_append_X6_checkArgument
set_option maxRecDepth 20000 in
theorem ggX6_append_X6_checkState : GoodIn wsX6_append wsX6_checkState := goodIn_ca (goodIn_r _ [12, 13, 14] (by decide +kernel) (by decide +kernel)) (goodIn_sub (fun _ h => List.mem_cons_of_mem _ (List.mem_append_right _ h)) (by decide +kernel))
set_option maxRecDepth 20000 in
theorem gX6_append_X6_checkState : GoodIn wsX6_append (va_wsS RX6 111 yX6_checkState wsX6_checkState) := goodIn_app (goodIn_of _ (by decide +kernel)) ggX6_append_X6_checkState
set_option maxRecDepth 20000 in
theorem ggX6_append_X2_put : GoodIn wsX6_append wsX2_put := goodIn_r _ [19, 20, 36] (by decide +kernel) (by decide +kernel)
set_option maxRecDepth 20000 in
theorem gX6_append_X2_put : GoodIn wsX6_append (wsV RX6 48 RX2 yX2_put wsX2_put) := goodIn_app (goodIn_of _ (by decide +kernel)) ggX6_append_X2_put
theorem dX6_append_0 : decode cX6_append 0 = .ok (.iload_n 1, 1) := by decide +kernel
theorem dX6_append_1 : decode cX6_append 1 = .ok (.ifCond .lt 13, 3) := by decide +kernel
theorem dX6_append_4 : decode cX6_append 4 = .ok (.iload_n 1, 1) := by decide +kernel
theorem dX6_append_5 : decode cX6_append 5 = .ok (.bipush 127, 2) := by decide +kernel
theorem dX6_append_7 : decode cX6_append 7 = .ok (.if_icmp .gt 7, 3) := by decide +kernel
theorem dX6_append_10 : decode cX6_append 10 = .ok (.iconst 1, 1) := by decide +kernel
theorem dX6_append_11 : decode cX6_append 11 = .ok (.goto 4, 3) := by decide +kernel
theorem dX6_append_14 : decode cX6_append 14 = .ok (.iconst 0, 1) := by decide +kernel
theorem dX6_append_15 : decode cX6_append 15 = .ok (.invokestatic 58, 3) := by decide +kernel
theorem dX6_append_18 : decode cX6_append 18 = .ok (.aload_n 0, 1) := by decide +kernel
theorem dX6_append_19 : decode cX6_append 19 = .ok (.getfield 26, 3) := by decide +kernel
theorem dX6_append_22 : decode cX6_append 22 = .ok (.getfield 178, 3) := by decide +kernel
theorem dX6_append_25 : decode cX6_append 25 = .ok (.bipush 120, 2) := by decide +kernel
theorem dX6_append_27 : decode cX6_append 27 = .ok (.if_icmp .ge 7, 3) := by decide +kernel
theorem dX6_append_30 : decode cX6_append 30 = .ok (.iconst 1, 1) := by decide +kernel
theorem dX6_append_31 : decode cX6_append 31 = .ok (.goto 4, 3) := by decide +kernel
theorem dX6_append_34 : decode cX6_append 34 = .ok (.iconst 0, 1) := by decide +kernel
theorem dX6_append_35 : decode cX6_append 35 = .ok (.invokestatic 111, 3) := by decide +kernel
theorem dX6_append_38 : decode cX6_append 38 = .ok (.aload_n 0, 1) := by decide +kernel
theorem dX6_append_39 : decode cX6_append 39 = .ok (.getfield 26, 3) := by decide +kernel
theorem dX6_append_42 : decode cX6_append 42 = .ok (.getfield 181, 3) := by decide +kernel
theorem dX6_append_45 : decode cX6_append 45 = .ok (.aload_n 0, 1) := by decide +kernel
theorem dX6_append_46 : decode cX6_append 46 = .ok (.getfield 26, 3) := by decide +kernel
theorem dX6_append_49 : decode cX6_append 49 = .ok (.getfield 178, 3) := by decide +kernel
theorem dX6_append_52 : decode cX6_append 52 = .ok (.iload_n 1, 1) := by decide +kernel
theorem dX6_append_53 : decode cX6_append 53 = .ok (.invokevirtual 48, 3) := by decide +kernel
theorem dX6_append_56 : decode cX6_append 56 = .ok (.aload_n 0, 1) := by decide +kernel
theorem dX6_append_57 : decode cX6_append 57 = .ok (.getfield 26, 3) := by decide +kernel
theorem dX6_append_60 : decode cX6_append 60 = .ok (.dup, 1) := by decide +kernel
theorem dX6_append_61 : decode cX6_append 61 = .ok (.getfield 178, 3) := by decide +kernel
theorem dX6_append_64 : decode cX6_append 64 = .ok (.iconst 1, 1) := by decide +kernel
theorem dX6_append_65 : decode cX6_append 65 = .ok (.iadd, 1) := by decide +kernel
theorem dX6_append_66 : decode cX6_append 66 = .ok (.putfield 178, 3) := by decide +kernel
theorem dX6_append_69 : decode cX6_append 69 = .ok (.aload_n 0, 1) := by decide +kernel
theorem dX6_append_70 : decode cX6_append 70 = .ok (.getfield 26, 3) := by decide +kernel
theorem dX6_append_73 : decode cX6_append 73 = .ok (.getfield 178, 3) := by decide +kernel
theorem dX6_append_76 : decode cX6_append 76 = .ok (.ireturn, 1) := by decide +kernel
theorem dX6_clearText_0 : decode cX6_clearText 0 = .ok (.aload_n 0, 1) := by decide +kernel
theorem dX6_clearText_1 : decode cX6_clearText 1 = .ok (.getfield 26, 3) := by decide +kernel
theorem dX6_clearText_4 : decode cX6_clearText 4 = .ok (.getfield 178, 3) := by decide +kernel
theorem dX6_clearText_7 : decode cX6_clearText 7 = .ok (.istore_n 1, 1) := by decide +kernel
theorem dX6_clearText_8 : decode cX6_clearText 8 = .ok (.aload_n 0, 1) := by decide +kernel
theorem dX6_clearText_9 : decode cX6_clearText 9 = .ok (.getfield 26, 3) := by decide +kernel
theorem dX6_clearText_12 : decode cX6_clearText 12 = .ok (.iconst 0, 1) := by decide +kernel
theorem dX6_clearText_13 : decode cX6_clearText 13 = .ok (.putfield 178, 3) := by decide +kernel
theorem dX6_clearText_16 : decode cX6_clearText 16 = .ok (.iload_n 1, 1) := by decide +kernel
theorem dX6_clearText_17 : decode cX6_clearText 17 = .ok (.ireturn, 1) := by decide +kernel
set_option maxRecDepth 20000 in
theorem ggX6_judged_X3_syntaxError : GoodIn wsX6_judged wsX3_syntaxError := goodIn_r _ [6, 7, 8, 9, 10, 5, 11, 12, 13, 14, 15, 16, 17, 18, 19, 20, 21, 22, 23, 24, 25, 26, 27, 28, 29, 30, 31, 32, 33, 34, 35, 36, 37, 38, 39, 40, 41, 42, 43, 44, 45, 46, 47, 48, 49, 50, 51, 52, 53, 54, 55, 56, 57, 58, 59, 60, 61, 62, 63, 64, 65, 93, 94, 95, 96, 97, 98, 99, 100, 101, 102, 103] (by decide +kernel) (by decide +kernel)
set_option maxRecDepth 20000 in
theorem gX6_judged_X3_syntaxError : GoodIn wsX6_judged (wsV RX6 184 RX3 yX3_syntaxError wsX3_syntaxError) := goodIn_app (goodIn_of _ (by decide +kernel)) ggX6_judged_X3_syntaxError
set_option maxRecDepth 20000 in
theorem ggX6_judged_X6_fittingRounds : GoodIn wsX6_judged wsX6_fittingRounds := goodIn_r _ [69, 70, 71, 1, 72, 73, 74, 75, 76, 77, 78, 79, 80, 81, 38, 39, 40, 41, 42, 82, 9, 10, 5, 11, 12, 7, 83, 14, 15, 16, 17, 84, 19, 20, 21, 22, 23, 24, 25, 26, 27, 28, 29, 30, 31, 32, 33, 34, 35, 36, 13, 37, 43, 44, 45, 46, 47, 48, 49, 50, 51, 52, 53, 54, 55, 56, 57, 58, 59, 60, 61, 62, 63, 64, 65, 85, 86, 87, 88, 89, 90, 91, 92, 104, 105, 106, 107, 108, 109, 93, 94, 95, 96, 97, 98, 99, 100, 101, 102, 103] (by decide +kernel) (by decide +kernel)
set_option maxRecDepth 20000 in
theorem gX6_judged_X6_fittingRounds : GoodIn wsX6_judged (wsV RX6 187 RX6 yX6_fittingRounds wsX6_fittingRounds) := goodIn_app (goodIn_of _ (by decide +kernel)) ggX6_judged_X6_fittingRounds
theorem dX6_judged_0 : decode cX6_judged 0 = .ok (.aload_n 0, 1) := by decide +kernel
theorem dX6_judged_1 : decode cX6_judged 1 = .ok (.getfield 26, 3) := by decide +kernel
theorem dX6_judged_4 : decode cX6_judged 4 = .ok (.invokevirtual 184, 3) := by decide +kernel
theorem dX6_judged_7 : decode cX6_judged 7 = .ok (.istore_n 1, 1) := by decide +kernel
theorem dX6_judged_8 : decode cX6_judged 8 = .ok (.iload_n 1, 1) := by decide +kernel
theorem dX6_judged_9 : decode cX6_judged 9 = .ok (.iconst (-1), 1) := by decide +kernel
theorem dX6_judged_10 : decode cX6_judged 10 = .ok (.if_icmp .ne 10, 3) := by decide +kernel
theorem dX6_judged_13 : decode cX6_judged 13 = .ok (.aload_n 0, 1) := by decide +kernel
theorem dX6_judged_14 : decode cX6_judged 14 = .ok (.invokevirtual 187, 3) := by decide +kernel
theorem dX6_judged_17 : decode cX6_judged 17 = .ok (.goto 7, 3) := by decide +kernel
theorem dX6_judged_20 : decode cX6_judged 20 = .ok (.bipush (-10), 2) := by decide +kernel
theorem dX6_judged_22 : decode cX6_judged 22 = .ok (.iload_n 1, 1) := by decide +kernel
theorem dX6_judged_23 : decode cX6_judged 23 = .ok (.isub, 1) := by decide +kernel
theorem dX6_judged_24 : decode cX6_judged 24 = .ok (.ireturn, 1) := by decide +kernel
set_option maxRecDepth 20000 in
theorem ggX6_carryOut_X3_syntaxError : GoodIn wsX6_carryOut wsX3_syntaxError := goodIn_r _ [8, 9, 10, 11, 12, 7, 13, 14, 15, 16, 17, 18, 19, 20, 21, 22, 23, 24, 25, 26, 27, 28, 29, 30, 31, 32, 33, 34, 35, 36, 37, 38, 39, 40, 41, 42, 43, 44, 45, 46, 47, 48, 49, 50, 51, 52, 53, 54, 55, 56, 57, 58, 59, 60, 61, 62, 63, 64, 65, 66, 67, 146, 147, 148, 149, 150, 151, 152, 153, 154, 155, 156] (by decide +kernel) (by decide +kernel)
set_option maxRecDepth 20000 in
theorem gX6_carryOut_X3_syntaxError : GoodIn wsX6_carryOut (wsV RX6 184 RX3 yX3_syntaxError wsX3_syntaxError) := goodIn_app (goodIn_of _ (by decide +kernel)) ggX6_carryOut_X3_syntaxError
set_option maxRecDepth 20000 in
theorem ggX6_carryOut_X0_keep : GoodIn wsX6_carryOut wsX0_keep := goodIn_r _ [72, 73, 74, 75, 76, 77, 78, 79, 80, 81, 71, 82, 83, 84, 85, 86, 87, 88, 89, 90, 91, 92, 93, 94, 95, 96, 97, 42, 98, 99, 40, 41, 43, 44, 100, 60, 61, 62, 101, 157, 158, 159, 160, 161, 162, 163, 164, 165, 156] (by decide +kernel) (by decide +kernel)
set_option maxRecDepth 20000 in
theorem gX6_carryOut_X0_keep : GoodIn wsX6_carryOut (wsV RX6 66 RX0 yX0_keep wsX0_keep) := goodIn_app (goodIn_of _ (by decide +kernel)) ggX6_carryOut_X0_keep
set_option maxRecDepth 20000 in
theorem ggX6_carryOut_X6_fittingRounds : GoodIn wsX6_carryOut wsX6_fittingRounds := goodIn_r _ [105, 3, 106, 1, 107, 108, 109, 110, 111, 87, 112, 92, 89, 101, 40, 41, 42, 43, 44, 113, 11, 12, 7, 13, 14, 9, 114, 16, 17, 18, 19, 115, 21, 22, 23, 24, 25, 26, 27, 28, 29, 30, 31, 32, 33, 34, 35, 36, 37, 38, 15, 39, 45, 46, 47, 48, 49, 50, 51, 52, 53, 54, 55, 56, 57, 58, 59, 60, 61, 62, 63, 64, 65, 66, 67, 116, 117, 118, 141, 142, 143, 144, 145, 160, 161, 162, 163, 164, 165, 146, 147, 148, 149, 150, 151, 152, 153, 154, 155, 156] (by decide +kernel) (by decide +kernel)
set_option maxRecDepth 20000 in
theorem gX6_carryOut_X6_fittingRounds : GoodIn wsX6_carryOut (wsV RX6 187 RX6 yX6_fittingRounds wsX6_fittingRounds) := goodIn_app (goodIn_of _ (by decide +kernel)) ggX6_carryOut_X6_fittingRounds
set_option maxRecDepth 20000 in
theorem ggX6_carryOut_X3_rewind : GoodIn wsX6_carryOut wsX3_rewind := goodIn_r _ [13, 14, 9, 146, 147, 148, 149, 150, 151, 152, 153, 154, 155] (by decide +kernel) (by decide +kernel)
set_option maxRecDepth 20000 in
theorem gX6_carryOut_X3_rewind : GoodIn wsX6_carryOut (wsV RX6 190 RX3 yX3_rewind wsX3_rewind) := goodIn_app (goodIn_of _ (by decide +kernel)) ggX6_carryOut_X3_rewind
set_option maxRecDepth 20000 in
theorem ggX6_carryOut_X3_readRound : GoodIn wsX6_carryOut wsX3_readRound := goodIn_r _ [23, 24, 25, 26, 27, 9, 14, 28, 29, 30, 7, 31, 32, 33, 34, 35, 36, 37, 38, 15, 16, 17, 18, 19, 39, 40, 41, 42, 43, 44, 45, 46, 47, 48, 49, 50, 51, 52, 53, 54, 55, 56, 57, 58, 59, 60, 61, 62, 63, 64, 65, 66, 67, 146, 147, 148, 149, 150, 151, 152, 153, 154, 155, 156] (by decide +kernel) (by decide +kernel)
set_option maxRecDepth 20000 in
theorem gX6_carryOut_X3_readRound : GoodIn wsX6_carryOut (wsV RX6 193 RX3 yX3_readRound wsX3_readRound) := goodIn_app (goodIn_of _ (by decide +kernel)) ggX6_carryOut_X3_readRound
set_option maxRecDepth 20000 in
theorem ggX6_carryOut_X6_addTold : GoodIn wsX6_carryOut wsX6_addTold := goodIn_r _ [122, 3, 1, 123, 124, 125, 126, 127, 128, 129, 87, 130, 91, 89, 92, 131, 60, 61, 42, 62, 44, 132, 40, 41, 43, 133, 134, 135, 136, 94, 101, 66, 64, 67, 137, 138, 139, 140, 141, 142, 143, 144, 145, 146, 147, 148, 149, 150, 151, 152, 153, 154, 155, 160, 161, 162, 163, 164, 165, 156] (by decide +kernel) (by decide +kernel)
set_option maxRecDepth 20000 in
theorem gX6_carryOut_X6_addTold : GoodIn wsX6_carryOut (wsV RX6 196 RX6 yX6_addTold wsX6_addTold) := goodIn_app (goodIn_of _ (by decide +kernel)) ggX6_carryOut_X6_addTold
theorem dX6_carryOut_0 : decode cX6_carryOut 0 = .ok (.aload_n 0, 1) := by decide +kernel
theorem dX6_carryOut_1 : decode cX6_carryOut 1 = .ok (.getfield 26, 3) := by decide +kernel
theorem dX6_carryOut_4 : decode cX6_carryOut 4 = .ok (.invokevirtual 184, 3) := by decide +kernel
theorem dX6_carryOut_7 : decode cX6_carryOut 7 = .ok (.istore_n 1, 1) := by decide +kernel
theorem dX6_carryOut_8 : decode cX6_carryOut 8 = .ok (.iload_n 1, 1) := by decide +kernel
theorem dX6_carryOut_9 : decode cX6_carryOut 9 = .ok (.iconst (-1), 1) := by decide +kernel
theorem dX6_carryOut_10 : decode cX6_carryOut 10 = .ok (.if_icmp .eq 8, 3) := by decide +kernel
theorem dX6_carryOut_13 : decode cX6_carryOut 13 = .ok (.bipush (-10), 2) := by decide +kernel
theorem dX6_carryOut_15 : decode cX6_carryOut 15 = .ok (.iload_n 1, 1) := by decide +kernel
theorem dX6_carryOut_16 : decode cX6_carryOut 16 = .ok (.isub, 1) := by decide +kernel
theorem dX6_carryOut_17 : decode cX6_carryOut 17 = .ok (.ireturn, 1) := by decide +kernel
theorem dX6_carryOut_18 : decode cX6_carryOut 18 = .ok (.aload_n 0, 1) := by decide +kernel
theorem dX6_carryOut_19 : decode cX6_carryOut 19 = .ok (.getfield 19, 3) := by decide +kernel
theorem dX6_carryOut_22 : decode cX6_carryOut 22 = .ok (.aload_n 0, 1) := by decide +kernel
theorem dX6_carryOut_23 : decode cX6_carryOut 23 = .ok (.getfield 10, 3) := by decide +kernel
theorem dX6_carryOut_26 : decode cX6_carryOut 26 = .ok (.invokevirtual 66, 3) := by decide +kernel
theorem dX6_carryOut_29 : decode cX6_carryOut 29 = .ok (.aload_n 0, 1) := by decide +kernel
theorem dX6_carryOut_30 : decode cX6_carryOut 30 = .ok (.invokevirtual 187, 3) := by decide +kernel
theorem dX6_carryOut_33 : decode cX6_carryOut 33 = .ok (.istore_n 2, 1) := by decide +kernel
theorem dX6_carryOut_34 : decode cX6_carryOut 34 = .ok (.aload_n 0, 1) := by decide +kernel
theorem dX6_carryOut_35 : decode cX6_carryOut 35 = .ok (.getfield 26, 3) := by decide +kernel
theorem dX6_carryOut_38 : decode cX6_carryOut 38 = .ok (.invokevirtual 190, 3) := by decide +kernel
theorem dX6_carryOut_41 : decode cX6_carryOut 41 = .ok (.iconst 0, 1) := by decide +kernel
theorem dX6_carryOut_42 : decode cX6_carryOut 42 = .ok (.istore_n 3, 1) := by decide +kernel
theorem dX6_carryOut_43 : decode cX6_carryOut 43 = .ok (.iload_n 3, 1) := by decide +kernel
theorem dX6_carryOut_44 : decode cX6_carryOut 44 = .ok (.iload_n 2, 1) := by decide +kernel
theorem dX6_carryOut_45 : decode cX6_carryOut 45 = .ok (.if_icmp .ge 20, 3) := by decide +kernel
theorem dX6_carryOut_48 : decode cX6_carryOut 48 = .ok (.aload_n 0, 1) := by decide +kernel
theorem dX6_carryOut_49 : decode cX6_carryOut 49 = .ok (.getfield 26, 3) := by decide +kernel
theorem dX6_carryOut_52 : decode cX6_carryOut 52 = .ok (.invokevirtual 193, 3) := by decide +kernel
theorem dX6_carryOut_55 : decode cX6_carryOut 55 = .ok (.aload_n 0, 1) := by decide +kernel
theorem dX6_carryOut_56 : decode cX6_carryOut 56 = .ok (.invokevirtual 196, 3) := by decide +kernel
theorem dX6_carryOut_59 : decode cX6_carryOut 59 = .ok (.iinc 3 1, 3) := by decide +kernel
theorem dX6_carryOut_62 : decode cX6_carryOut 62 = .ok (.goto (-19), 3) := by decide +kernel
theorem dX6_carryOut_65 : decode cX6_carryOut 65 = .ok (.iload_n 2, 1) := by decide +kernel
theorem dX6_carryOut_66 : decode cX6_carryOut 66 = .ok (.ireturn, 1) := by decide +kernel
set_option maxRecDepth 20000 in
theorem ggX6_undo_X6_checkState : GoodIn wsX6_undo wsX6_checkState := goodIn_ca (goodIn_r _ [7, 8, 9] (by decide +kernel) (by decide +kernel)) (goodIn_sub (fun _ h => List.mem_cons_of_mem _ (List.mem_append_right _ h)) (by decide +kernel))
set_option maxRecDepth 20000 in
theorem gX6_undo_X6_checkState : GoodIn wsX6_undo (va_wsS RX6 111 yX6_checkState wsX6_checkState) := goodIn_app (goodIn_of _ (by decide +kernel)) ggX6_undo_X6_checkState
set_option maxRecDepth 20000 in
theorem ggX6_undo_X0_restore : GoodIn wsX6_undo wsX0_restore := goodIn_r _ [14, 15, 16, 17, 18, 19, 13, 20, 21, 22, 23, 24, 25, 26, 27, 28, 29, 30, 31, 32, 33, 34, 35, 36, 37, 38, 39, 40, 41, 42, 43, 44, 45, 46, 47, 53, 54, 55, 56, 57, 58, 59, 60, 61, 62] (by decide +kernel) (by decide +kernel)
set_option maxRecDepth 20000 in
theorem gX6_undo_X0_restore : GoodIn wsX6_undo (wsV RX6 202 RX0 yX0_restore wsX0_restore) := goodIn_app (goodIn_of _ (by decide +kernel)) ggX6_undo_X0_restore
theorem dX6_undo_0 : decode cX6_undo 0 = .ok (.aload_n 0, 1) := by decide +kernel
theorem dX6_undo_1 : decode cX6_undo 1 = .ok (.getfield 19, 3) := by decide +kernel
theorem dX6_undo_4 : decode cX6_undo 4 = .ok (.getfield 199, 3) := by decide +kernel
theorem dX6_undo_7 : decode cX6_undo 7 = .ok (.ifCond .le 7, 3) := by decide +kernel
theorem dX6_undo_10 : decode cX6_undo 10 = .ok (.iconst 1, 1) := by decide +kernel
theorem dX6_undo_11 : decode cX6_undo 11 = .ok (.goto 4, 3) := by decide +kernel
theorem dX6_undo_14 : decode cX6_undo 14 = .ok (.iconst 0, 1) := by decide +kernel
theorem dX6_undo_15 : decode cX6_undo 15 = .ok (.invokestatic 111, 3) := by decide +kernel
theorem dX6_undo_18 : decode cX6_undo 18 = .ok (.aload_n 0, 1) := by decide +kernel
theorem dX6_undo_19 : decode cX6_undo 19 = .ok (.getfield 19, 3) := by decide +kernel
theorem dX6_undo_22 : decode cX6_undo 22 = .ok (.aload_n 0, 1) := by decide +kernel
theorem dX6_undo_23 : decode cX6_undo 23 = .ok (.getfield 10, 3) := by decide +kernel
theorem dX6_undo_26 : decode cX6_undo 26 = .ok (.invokevirtual 202, 3) := by decide +kernel
theorem dX6_undo_29 : decode cX6_undo 29 = .ok (.aload_n 0, 1) := by decide +kernel
theorem dX6_undo_30 : decode cX6_undo 30 = .ok (.getfield 19, 3) := by decide +kernel
theorem dX6_undo_33 : decode cX6_undo 33 = .ok (.getfield 199, 3) := by decide +kernel
theorem dX6_undo_36 : decode cX6_undo 36 = .ok (.ireturn, 1) := by decide +kernel
set_option maxRecDepth 20000 in
theorem ggX6_digest_X6_mixed : GoodIn wsX6_digest wsX6_mixed := goodIn_r _ [12, 13] (by decide +kernel) (by decide +kernel)
set_option maxRecDepth 20000 in
theorem gX6_digest_X6_mixed : GoodIn wsX6_digest (va_wsS RX6 207 yX6_mixed wsX6_mixed) := goodIn_app (goodIn_of _ (by decide +kernel)) ggX6_digest_X6_mixed
set_option maxRecDepth 20000 in
theorem ggX6_digest_X6_value : GoodIn wsX6_digest wsX6_value := goodIn_ca (goodIn_r _ [17, 4, 6, 18, 19, 20, 11, 21, 22, 23, 24, 25, 26, 27, 28, 29, 30, 31, 32, 33, 34, 35, 36, 37, 38, 39, 40, 41, 42, 43, 44, 45, 46, 47, 48, 49, 50, 51, 52, 53, 54, 55, 56, 57, 58, 59, 60, 61, 62, 63, 64, 65, 66, 67, 68, 69, 70, 71, 72, 73, 74, 75, 76, 77, 78, 79, 80, 81, 82, 83, 84, 85, 86, 87, 88, 89, 90, 91, 92, 93, 94, 95, 96, 97, 98, 99, 100, 101, 102, 103, 104, 105, 106, 107, 108, 109, 110, 111, 117, 118, 119, 120, 121, 132, 133, 134, 135, 136, 137, 141, 142] (by decide +kernel) (by decide +kernel)) (goodIn_sub (fun _ h => List.mem_cons_of_mem _ (List.mem_append_right _ h)) (by decide +kernel))
set_option maxRecDepth 20000 in
theorem gX6_digest_X6_value : GoodIn wsX6_digest (wsV RX6 211 RX6 yX6_value wsX6_value) := goodIn_app (goodIn_of _ (by decide +kernel)) ggX6_digest_X6_value
set_option maxRecDepth 20000 in
theorem ggX6_digest_X2_at : GoodIn wsX6_digest wsX2_at := goodIn_r _ [35, 36, 141] (by decide +kernel) (by decide +kernel)
set_option maxRecDepth 20000 in
theorem gX6_digest_X2_at : GoodIn wsX6_digest (wsV RX6 114 RX2 yX2_at wsX2_at) := goodIn_app (goodIn_of _ (by decide +kernel)) ggX6_digest_X2_at
set_option maxRecDepth 20000 in
theorem ggX6_digest_X6_mixedRound : GoodIn wsX6_digest wsX6_mixedRound := goodIn_r _ [115, 4, 46, 41, 42, 43, 11, 44, 45, 47, 32, 33, 34, 35, 36, 48, 49, 50, 27, 51, 52, 31, 53, 54, 55, 56, 57, 58, 59, 60, 61, 62, 63, 64, 65, 66, 67, 68, 69, 70, 71, 72, 73, 74, 75, 76, 77, 78, 79, 80, 81, 82, 83, 84, 85, 86, 87, 88, 89, 90, 91, 92, 93, 94, 95, 96, 97, 98, 99, 100, 101, 102, 103, 104, 105, 106, 107, 9, 10, 12, 13, 116, 117, 118, 119, 120, 121, 132, 133, 134, 135, 136, 137, 141, 142] (by decide +kernel) (by decide +kernel)
set_option maxRecDepth 20000 in
theorem gX6_digest_X6_mixedRound : GoodIn wsX6_digest (wsV RX6 214 RX6 yX6_mixedRound wsX6_mixedRound) := goodIn_app (goodIn_of _ (by decide +kernel)) ggX6_digest_X6_mixedRound
theorem dX6_digest_0 : decode cX6_digest 0 = .ok (.ldc2_w 205, 3) := by decide +kernel
theorem dX6_digest_3 : decode cX6_digest 3 = .ok (.aload_n 0, 1) := by decide +kernel
theorem dX6_digest_4 : decode cX6_digest 4 = .ok (.getfield 26, 3) := by decide +kernel
theorem dX6_digest_7 : decode cX6_digest 7 = .ok (.getfield 178, 3) := by decide +kernel
theorem dX6_digest_10 : decode cX6_digest 10 = .ok (.invokestatic 207, 3) := by decide +kernel
theorem dX6_digest_13 : decode cX6_digest 13 = .ok (.lstore_n 1, 1) := by decide +kernel
theorem dX6_digest_14 : decode cX6_digest 14 = .ok (.iconst 0, 1) := by decide +kernel
theorem dX6_digest_15 : decode cX6_digest 15 = .ok (.istore_n 3, 1) := by decide +kernel
theorem dX6_digest_16 : decode cX6_digest 16 = .ok (.iload_n 3, 1) := by decide +kernel
theorem dX6_digest_17 : decode cX6_digest 17 = .ok (.bipush 7, 2) := by decide +kernel
theorem dX6_digest_19 : decode cX6_digest 19 = .ok (.if_icmp .gt 19, 3) := by decide +kernel
theorem dX6_digest_22 : decode cX6_digest 22 = .ok (.lload_n 1, 1) := by decide +kernel
theorem dX6_digest_23 : decode cX6_digest 23 = .ok (.aload_n 0, 1) := by decide +kernel
theorem dX6_digest_24 : decode cX6_digest 24 = .ok (.iload_n 3, 1) := by decide +kernel
theorem dX6_digest_25 : decode cX6_digest 25 = .ok (.invokevirtual 211, 3) := by decide +kernel
theorem dX6_digest_28 : decode cX6_digest 28 = .ok (.invokestatic 207, 3) := by decide +kernel
theorem dX6_digest_31 : decode cX6_digest 31 = .ok (.lstore_n 1, 1) := by decide +kernel
theorem dX6_digest_32 : decode cX6_digest 32 = .ok (.iinc 3 1, 3) := by decide +kernel
theorem dX6_digest_35 : decode cX6_digest 35 = .ok (.goto (-19), 3) := by decide +kernel
theorem dX6_digest_38 : decode cX6_digest 38 = .ok (.iconst 0, 1) := by decide +kernel
theorem dX6_digest_39 : decode cX6_digest 39 = .ok (.istore_n 3, 1) := by decide +kernel
theorem dX6_digest_40 : decode cX6_digest 40 = .ok (.iload_n 3, 1) := by decide +kernel
theorem dX6_digest_41 : decode cX6_digest 41 = .ok (.iconst 3, 1) := by decide +kernel
theorem dX6_digest_42 : decode cX6_digest 42 = .ok (.if_icmp .ge 25, 3) := by decide +kernel
theorem dX6_digest_45 : decode cX6_digest 45 = .ok (.lload_n 1, 1) := by decide +kernel
theorem dX6_digest_46 : decode cX6_digest 46 = .ok (.aload_n 0, 1) := by decide +kernel
theorem dX6_digest_47 : decode cX6_digest 47 = .ok (.getfield 10, 3) := by decide +kernel
theorem dX6_digest_50 : decode cX6_digest 50 = .ok (.getfield 44, 3) := by decide +kernel
theorem dX6_digest_53 : decode cX6_digest 53 = .ok (.iload_n 3, 1) := by decide +kernel
theorem dX6_digest_54 : decode cX6_digest 54 = .ok (.invokevirtual 114, 3) := by decide +kernel
theorem dX6_digest_57 : decode cX6_digest 57 = .ok (.invokestatic 207, 3) := by decide +kernel
theorem dX6_digest_60 : decode cX6_digest 60 = .ok (.lstore_n 1, 1) := by decide +kernel
theorem dX6_digest_61 : decode cX6_digest 61 = .ok (.iinc 3 1, 3) := by decide +kernel
theorem dX6_digest_64 : decode cX6_digest 64 = .ok (.goto (-24), 3) := by decide +kernel
theorem dX6_digest_67 : decode cX6_digest 67 = .ok (.iconst 0, 1) := by decide +kernel
theorem dX6_digest_68 : decode cX6_digest 68 = .ok (.istore_n 3, 1) := by decide +kernel
theorem dX6_digest_69 : decode cX6_digest 69 = .ok (.iload_n 3, 1) := by decide +kernel
theorem dX6_digest_70 : decode cX6_digest 70 = .ok (.aload_n 0, 1) := by decide +kernel
theorem dX6_digest_71 : decode cX6_digest 71 = .ok (.getfield 10, 3) := by decide +kernel
theorem dX6_digest_74 : decode cX6_digest 74 = .ok (.getfield 62, 3) := by decide +kernel
theorem dX6_digest_77 : decode cX6_digest 77 = .ok (.if_icmp .ge 16, 3) := by decide +kernel
theorem dX6_digest_80 : decode cX6_digest 80 = .ok (.aload_n 0, 1) := by decide +kernel
theorem dX6_digest_81 : decode cX6_digest 81 = .ok (.lload_n 1, 1) := by decide +kernel
theorem dX6_digest_82 : decode cX6_digest 82 = .ok (.iload_n 3, 1) := by decide +kernel
theorem dX6_digest_83 : decode cX6_digest 83 = .ok (.invokevirtual 214, 3) := by decide +kernel
theorem dX6_digest_86 : decode cX6_digest 86 = .ok (.lstore_n 1, 1) := by decide +kernel
theorem dX6_digest_87 : decode cX6_digest 87 = .ok (.iinc 3 1, 3) := by decide +kernel
theorem dX6_digest_90 : decode cX6_digest 90 = .ok (.goto (-21), 3) := by decide +kernel
theorem dX6_digest_93 : decode cX6_digest 93 = .ok (.lload_n 1, 1) := by decide +kernel
theorem dX6_digest_94 : decode cX6_digest 94 = .ok (.aload_n 0, 1) := by decide +kernel
theorem dX6_digest_95 : decode cX6_digest 95 = .ok (.getfield 19, 3) := by decide +kernel
theorem dX6_digest_98 : decode cX6_digest 98 = .ok (.getfield 199, 3) := by decide +kernel
theorem dX6_digest_101 : decode cX6_digest 101 = .ok (.invokestatic 207, 3) := by decide +kernel
theorem dX6_digest_104 : decode cX6_digest 104 = .ok (.lreturn, 1) := by decide +kernel
theorem dX6_checkArgument_0 : decode cX6_checkArgument 0 = .ok (.iload_n 0, 1) := by decide +kernel
theorem dX6_checkArgument_1 : decode cX6_checkArgument 1 = .ok (.ifCond .ne 13, 3) := by decide +kernel
theorem dX6_checkArgument_4 : decode cX6_checkArgument 4 = .ok (.new 217, 3) := by decide +kernel
theorem dX6_checkArgument_7 : decode cX6_checkArgument 7 = .ok (.dup, 1) := by decide +kernel
theorem dX6_checkArgument_8 : decode cX6_checkArgument 8 = .ok (.ldc 219, 2) := by decide +kernel
theorem dX6_checkArgument_10 : decode cX6_checkArgument 10 = .ok (.invokespecial 221, 3) := by decide +kernel
theorem dX6_checkArgument_13 : decode cX6_checkArgument 13 = .ok (.athrow, 1) := by decide +kernel
theorem dX6_checkArgument_14 : decode cX6_checkArgument 14 = .ok (.return_, 1) := by decide +kernel
theorem dX6_checkState_0 : decode cX6_checkState 0 = .ok (.iload_n 0, 1) := by decide +kernel
theorem dX6_checkState_1 : decode cX6_checkState 1 = .ok (.ifCond .ne 13, 3) := by decide +kernel
theorem dX6_checkState_4 : decode cX6_checkState 4 = .ok (.new 224, 3) := by decide +kernel
theorem dX6_checkState_7 : decode cX6_checkState 7 = .ok (.dup, 1) := by decide +kernel
theorem dX6_checkState_8 : decode cX6_checkState 8 = .ok (.ldc 226, 2) := by decide +kernel
theorem dX6_checkState_10 : decode cX6_checkState 10 = .ok (.invokespecial 228, 3) := by decide +kernel
theorem dX6_checkState_13 : decode cX6_checkState 13 = .ok (.athrow, 1) := by decide +kernel
theorem dX6_checkState_14 : decode cX6_checkState 14 = .ok (.return_, 1) := by decide +kernel
set_option maxRecDepth 20000 in
theorem ggX6_checkRoom_X6_checkState : GoodIn wsX6_checkRoom wsX6_checkState := goodIn_ca (goodIn_r _ [6, 7, 8] (by decide +kernel) (by decide +kernel)) (goodIn_sub (fun _ h => List.mem_cons_of_mem _ (List.mem_append_right _ h)) (by decide +kernel))
set_option maxRecDepth 20000 in
theorem gX6_checkRoom_X6_checkState : GoodIn wsX6_checkRoom (va_wsS RX6 111 yX6_checkState wsX6_checkState) := goodIn_app (goodIn_of _ (by decide +kernel)) ggX6_checkRoom_X6_checkState
theorem dX6_checkRoom_0 : decode cX6_checkRoom 0 = .ok (.aload_n 0, 1) := by decide +kernel
theorem dX6_checkRoom_1 : decode cX6_checkRoom 1 = .ok (.getfield 10, 3) := by decide +kernel
theorem dX6_checkRoom_4 : decode cX6_checkRoom 4 = .ok (.getfield 62, 3) := by decide +kernel
theorem dX6_checkRoom_7 : decode cX6_checkRoom 7 = .ok (.bipush 40, 2) := by decide +kernel
theorem dX6_checkRoom_9 : decode cX6_checkRoom 9 = .ok (.if_icmp .ge 7, 3) := by decide +kernel
theorem dX6_checkRoom_12 : decode cX6_checkRoom 12 = .ok (.iconst 1, 1) := by decide +kernel
theorem dX6_checkRoom_13 : decode cX6_checkRoom 13 = .ok (.goto 4, 3) := by decide +kernel
theorem dX6_checkRoom_16 : decode cX6_checkRoom 16 = .ok (.iconst 0, 1) := by decide +kernel
theorem dX6_checkRoom_17 : decode cX6_checkRoom 17 = .ok (.invokestatic 111, 3) := by decide +kernel
theorem dX6_checkRoom_20 : decode cX6_checkRoom 20 = .ok (.return_, 1) := by decide +kernel
theorem dX6_checkPossible_0 : decode cX6_checkPossible 0 = .ok (.iload_n 0, 1) := by decide +kernel
theorem dX6_checkPossible_1 : decode cX6_checkPossible 1 = .ok (.ifCond .ne 13, 3) := by decide +kernel
theorem dX6_checkPossible_4 : decode cX6_checkPossible 4 = .ok (.new 229, 3) := by decide +kernel
theorem dX6_checkPossible_7 : decode cX6_checkPossible 7 = .ok (.dup, 1) := by decide +kernel
theorem dX6_checkPossible_8 : decode cX6_checkPossible 8 = .ok (.ldc 231, 2) := by decide +kernel
theorem dX6_checkPossible_10 : decode cX6_checkPossible 10 = .ok (.invokespecial 233, 3) := by decide +kernel
theorem dX6_checkPossible_13 : decode cX6_checkPossible 13 = .ok (.athrow, 1) := by decide +kernel
theorem dX6_checkPossible_14 : decode cX6_checkPossible 14 = .ok (.return_, 1) := by decide +kernel
theorem dX6_checkIndex_0 : decode cX6_checkIndex 0 = .ok (.iload_n 0, 1) := by decide +kernel
theorem dX6_checkIndex_1 : decode cX6_checkIndex 1 = .ok (.ifCond .lt 8, 3) := by decide +kernel
theorem dX6_checkIndex_4 : decode cX6_checkIndex 4 = .ok (.iload_n 0, 1) := by decide +kernel
theorem dX6_checkIndex_5 : decode cX6_checkIndex 5 = .ok (.iload_n 1, 1) := by decide +kernel
theorem dX6_checkIndex_6 : decode cX6_checkIndex 6 = .ok (.if_icmp .lt 13, 3) := by decide +kernel
theorem dX6_checkIndex_9 : decode cX6_checkIndex 9 = .ok (.new 234, 3) := by decide +kernel
theorem dX6_checkIndex_12 : decode cX6_checkIndex 12 = .ok (.dup, 1) := by decide +kernel
theorem dX6_checkIndex_13 : decode cX6_checkIndex 13 = .ok (.ldc 236, 2) := by decide +kernel
theorem dX6_checkIndex_15 : decode cX6_checkIndex 15 = .ok (.invokespecial 238, 3) := by decide +kernel
theorem dX6_checkIndex_18 : decode cX6_checkIndex 18 = .ok (.athrow, 1) := by decide +kernel
theorem dX6_checkIndex_19 : decode cX6_checkIndex 19 = .ok (.return_, 1) := by decide +kernel
set_option maxRecDepth 20000 in
theorem ggX6_checkStitch_X6_checkIndex : GoodIn wsX6_checkStitch wsX6_checkIndex := goodIn_ca (goodIn_r _ [7, 8, 9] (by decide +kernel) (by decide +kernel)) (goodIn_sub (fun _ h => List.mem_cons_of_mem _ (List.mem_append_right _ h)) (by decide +kernel))
set_option maxRecDepth 20000 in
theorem gX6_checkStitch_X6_checkIndex : GoodIn wsX6_checkStitch (va_wsS RX6 121 yX6_checkIndex wsX6_checkIndex) := goodIn_app (goodIn_of _ (by decide +kernel)) ggX6_checkStitch_X6_checkIndex
set_option maxRecDepth 20000 in
theorem ggX6_checkStitch_X2_at : GoodIn wsX6_checkStitch wsX2_at := goodIn_r _ [14, 15, 27] (by decide +kernel) (by decide +kernel)
set_option maxRecDepth 20000 in
theorem gX6_checkStitch_X2_at : GoodIn wsX6_checkStitch (wsV RX6 114 RX2 yX2_at wsX2_at) := goodIn_app (goodIn_of _ (by decide +kernel)) ggX6_checkStitch_X2_at
theorem dX6_checkStitch_0 : decode cX6_checkStitch 0 = .ok (.iload_n 1, 1) := by decide +kernel
theorem dX6_checkStitch_1 : decode cX6_checkStitch 1 = .ok (.aload_n 0, 1) := by decide +kernel
theorem dX6_checkStitch_2 : decode cX6_checkStitch 2 = .ok (.getfield 10, 3) := by decide +kernel
theorem dX6_checkStitch_5 : decode cX6_checkStitch 5 = .ok (.getfield 62, 3) := by decide +kernel
theorem dX6_checkStitch_8 : decode cX6_checkStitch 8 = .ok (.invokestatic 121, 3) := by decide +kernel
theorem dX6_checkStitch_11 : decode cX6_checkStitch 11 = .ok (.iload_n 2, 1) := by decide +kernel
theorem dX6_checkStitch_12 : decode cX6_checkStitch 12 = .ok (.aload_n 0, 1) := by decide +kernel
theorem dX6_checkStitch_13 : decode cX6_checkStitch 13 = .ok (.getfield 10, 3) := by decide +kernel
theorem dX6_checkStitch_16 : decode cX6_checkStitch 16 = .ok (.getfield 146, 3) := by decide +kernel
theorem dX6_checkStitch_19 : decode cX6_checkStitch 19 = .ok (.iload_n 1, 1) := by decide +kernel
theorem dX6_checkStitch_20 : decode cX6_checkStitch 20 = .ok (.invokevirtual 114, 3) := by decide +kernel
theorem dX6_checkStitch_23 : decode cX6_checkStitch 23 = .ok (.invokestatic 121, 3) := by decide +kernel
theorem dX6_checkStitch_26 : decode cX6_checkStitch 26 = .ok (.return_, 1) := by decide +kernel
theorem dX6_isGoal_0 : decode cX6_isGoal 0 = .ok (.iload_n 0, 1) := by decide +kernel
theorem dX6_isGoal_1 : decode cX6_isGoal 1 = .ok (.iconst 3, 1) := by decide +kernel
theorem dX6_isGoal_2 : decode cX6_isGoal 2 = .ok (.if_icmp .lt 13, 3) := by decide +kernel
theorem dX6_isGoal_5 : decode cX6_isGoal 5 = .ok (.iload_n 0, 1) := by decide +kernel
theorem dX6_isGoal_6 : decode cX6_isGoal 6 = .ok (.bipush 120, 2) := by decide +kernel
theorem dX6_isGoal_8 : decode cX6_isGoal 8 = .ok (.if_icmp .gt 7, 3) := by decide +kernel
theorem dX6_isGoal_11 : decode cX6_isGoal 11 = .ok (.iconst 1, 1) := by decide +kernel
theorem dX6_isGoal_12 : decode cX6_isGoal 12 = .ok (.goto 4, 3) := by decide +kernel
theorem dX6_isGoal_15 : decode cX6_isGoal 15 = .ok (.iconst 0, 1) := by decide +kernel
theorem dX6_isGoal_16 : decode cX6_isGoal 16 = .ok (.ireturn, 1) := by decide +kernel
theorem dX6_isShift_0 : decode cX6_isShift 0 = .ok (.iload_n 0, 1) := by decide +kernel
theorem dX6_isShift_1 : decode cX6_isShift 1 = .ok (.ifCond .lt 13, 3) := by decide +kernel
theorem dX6_isShift_4 : decode cX6_isShift 4 = .ok (.iload_n 0, 1) := by decide +kernel
theorem dX6_isShift_5 : decode cX6_isShift 5 = .ok (.bipush 120, 2) := by decide +kernel
theorem dX6_isShift_7 : decode cX6_isShift 7 = .ok (.if_icmp .ge 7, 3) := by decide +kernel
theorem dX6_isShift_10 : decode cX6_isShift 10 = .ok (.iconst 1, 1) := by decide +kernel
theorem dX6_isShift_11 : decode cX6_isShift 11 = .ok (.goto 4, 3) := by decide +kernel
theorem dX6_isShift_14 : decode cX6_isShift 14 = .ok (.iconst 0, 1) := by decide +kernel
theorem dX6_isShift_15 : decode cX6_isShift 15 = .ok (.ireturn, 1) := by decide +kernel
theorem dX6_isShape_0 : decode cX6_isShape 0 = .ok (.iload_n 0, 1) := by decide +kernel
theorem dX6_isShape_1 : decode cX6_isShape 1 = .ok (.ifCond .lt 12, 3) := by decide +kernel
theorem dX6_isShape_4 : decode cX6_isShape 4 = .ok (.iload_n 0, 1) := by decide +kernel
theorem dX6_isShape_5 : decode cX6_isShape 5 = .ok (.iconst 4, 1) := by decide +kernel
theorem dX6_isShape_6 : decode cX6_isShape 6 = .ok (.if_icmp .gt 7, 3) := by decide +kernel
theorem dX6_isShape_9 : decode cX6_isShape 9 = .ok (.iconst 1, 1) := by decide +kernel
theorem dX6_isShape_10 : decode cX6_isShape 10 = .ok (.goto 4, 3) := by decide +kernel
theorem dX6_isShape_13 : decode cX6_isShape 13 = .ok (.iconst 0, 1) := by decide +kernel
theorem dX6_isShape_14 : decode cX6_isShape 14 = .ok (.ireturn, 1) := by decide +kernel
theorem dX6_isSize_0 : decode cX6_isSize 0 = .ok (.iload_n 0, 1) := by decide +kernel
theorem dX6_isSize_1 : decode cX6_isSize 1 = .ok (.iconst 1, 1) := by decide +kernel
theorem dX6_isSize_2 : decode cX6_isSize 2 = .ok (.if_icmp .lt 13, 3) := by decide +kernel
theorem dX6_isSize_5 : decode cX6_isSize 5 = .ok (.iload_n 0, 1) := by decide +kernel
theorem dX6_isSize_6 : decode cX6_isSize 6 = .ok (.bipush 20, 2) := by decide +kernel
theorem dX6_isSize_8 : decode cX6_isSize 8 = .ok (.if_icmp .gt 7, 3) := by decide +kernel
theorem dX6_isSize_11 : decode cX6_isSize 11 = .ok (.iconst 1, 1) := by decide +kernel
theorem dX6_isSize_12 : decode cX6_isSize 12 = .ok (.goto 4, 3) := by decide +kernel
theorem dX6_isSize_15 : decode cX6_isSize 15 = .ok (.iconst 0, 1) := by decide +kernel
theorem dX6_isSize_16 : decode cX6_isSize 16 = .ok (.ireturn, 1) := by decide +kernel
set_option maxRecDepth 20000 in
theorem ggX6_addBest_X1_load : GoodIn wsX6_addBest wsX1_load := goodIn_r _ [9, 10, 11, 12, 13, 14, 15, 16, 17, 18, 19, 20, 21, 22, 23, 24, 25, 69, 70, 71, 72, 73, 74, 75, 76] (by decide +kernel) (by decide +kernel)
set_option maxRecDepth 20000 in
theorem gX6_addBest_X1_load : GoodIn wsX6_addBest (wsV RX6 155 RX1 yX1_load wsX1_load) := goodIn_app (goodIn_of _ (by decide +kernel)) ggX6_addBest_X1_load
set_option maxRecDepth 20000 in
theorem ggX6_addBest_X1_bestShift : GoodIn wsX6_addBest wsX1_bestShift := goodIn_r _ [29, 30, 31, 32, 33, 34, 8, 35, 12, 13, 14, 15, 16, 17, 18, 36, 24, 37, 77, 78, 79, 80, 75, 76] (by decide +kernel) (by decide +kernel)
set_option maxRecDepth 20000 in
theorem gX6_addBest_X1_bestShift : GoodIn wsX6_addBest (wsV RX6 239 RX1 yX1_bestShift wsX1_bestShift) := goodIn_app (goodIn_of _ (by decide +kernel)) ggX6_addBest_X1_bestShift
set_option maxRecDepth 20000 in
theorem ggX6_addBest_X6_addRow : GoodIn wsX6_addBest wsX6_addRow := goodIn_r _ [41, 4, 42, 2, 43, 44, 45, 46, 47, 48, 49, 50, 51, 52, 20, 21, 16, 22, 18, 53, 14, 15, 17, 54, 55, 56, 57, 58, 59, 23, 24, 25, 60, 61, 62, 63, 64, 65, 66, 67, 68, 77, 78, 79, 80, 69, 70, 71, 72, 73, 74, 76] (by decide +kernel) (by decide +kernel)
set_option maxRecDepth 20000 in
theorem gX6_addBest_X6_addRow : GoodIn wsX6_addBest (wsV RX6 243 RX6 yX6_addRow wsX6_addRow) := goodIn_app (goodIn_of _ (by decide +kernel)) ggX6_addBest_X6_addRow
theorem dX6_addBest_0 : decode cX6_addBest 0 = .ok (.aload_n 0, 1) := by decide +kernel
theorem dX6_addBest_1 : decode cX6_addBest 1 = .ok (.getfield 40, 3) := by decide +kernel
theorem dX6_addBest_4 : decode cX6_addBest 4 = .ok (.aload_n 0, 1) := by decide +kernel
theorem dX6_addBest_5 : decode cX6_addBest 5 = .ok (.getfield 10, 3) := by decide +kernel
theorem dX6_addBest_8 : decode cX6_addBest 8 = .ok (.aload_n 0, 1) := by decide +kernel
theorem dX6_addBest_9 : decode cX6_addBest 9 = .ok (.getfield 10, 3) := by decide +kernel
theorem dX6_addBest_12 : decode cX6_addBest 12 = .ok (.getfield 62, 3) := by decide +kernel
theorem dX6_addBest_15 : decode cX6_addBest 15 = .ok (.iconst 1, 1) := by decide +kernel
theorem dX6_addBest_16 : decode cX6_addBest 16 = .ok (.isub, 1) := by decide +kernel
theorem dX6_addBest_17 : decode cX6_addBest 17 = .ok (.invokevirtual 155, 3) := by decide +kernel
theorem dX6_addBest_20 : decode cX6_addBest 20 = .ok (.aload_n 0, 1) := by decide +kernel
theorem dX6_addBest_21 : decode cX6_addBest 21 = .ok (.getfield 40, 3) := by decide +kernel
theorem dX6_addBest_24 : decode cX6_addBest 24 = .ok (.aload_n 0, 1) := by decide +kernel
theorem dX6_addBest_25 : decode cX6_addBest 25 = .ok (.getfield 33, 3) := by decide +kernel
theorem dX6_addBest_28 : decode cX6_addBest 28 = .ok (.invokevirtual 239, 3) := by decide +kernel
theorem dX6_addBest_31 : decode cX6_addBest 31 = .ok (.istore_n 1, 1) := by decide +kernel
theorem dX6_addBest_32 : decode cX6_addBest 32 = .ok (.aload_n 0, 1) := by decide +kernel
theorem dX6_addBest_33 : decode cX6_addBest 33 = .ok (.iload_n 1, 1) := by decide +kernel
theorem dX6_addBest_34 : decode cX6_addBest 34 = .ok (.invokevirtual 243, 3) := by decide +kernel
theorem dX6_addBest_37 : decode cX6_addBest 37 = .ok (.iload_n 1, 1) := by decide +kernel
theorem dX6_addBest_38 : decode cX6_addBest 38 = .ok (.ireturn, 1) := by decide +kernel
set_option maxRecDepth 20000 in
theorem ggX6_addPlanned_X1_load : GoodIn wsX6_addPlanned wsX1_load := goodIn_r _ [11, 12, 13, 14, 15, 16, 17, 18, 19, 20, 21, 22, 23, 24, 25, 26, 27, 63, 64, 65, 66, 67, 68, 73, 74] (by decide +kernel) (by decide +kernel)
set_option maxRecDepth 20000 in
theorem gX6_addPlanned_X1_load : GoodIn wsX6_addPlanned (wsV RX6 155 RX1 yX1_load wsX1_load) := goodIn_app (goodIn_of _ (by decide +kernel)) ggX6_addPlanned_X1_load
set_option maxRecDepth 20000 in
theorem ggX6_addPlanned_X1_stackedIn : GoodIn wsX6_addPlanned wsX1_stackedIn := goodIn_r _ [31, 14, 15, 16, 17, 18, 19, 20, 32, 26, 33, 73, 74] (by decide +kernel) (by decide +kernel)
set_option maxRecDepth 20000 in
theorem gX6_addPlanned_X1_stackedIn : GoodIn wsX6_addPlanned (wsV RX6 164 RX1 yX1_stackedIn wsX1_stackedIn) := goodIn_app (goodIn_of _ (by decide +kernel)) ggX6_addPlanned_X1_stackedIn
set_option maxRecDepth 20000 in
theorem ggX6_addPlanned_X6_addRow : GoodIn wsX6_addPlanned wsX6_addRow := goodIn_r _ [37, 4, 6, 2, 5, 38, 39, 40, 41, 42, 43, 44, 45, 46, 22, 23, 18, 24, 20, 47, 16, 17, 19, 48, 49, 50, 51, 52, 53, 25, 26, 27, 54, 55, 56, 57, 58, 59, 60, 61, 62, 69, 70, 71, 72, 63, 64, 65, 66, 67, 68, 74] (by decide +kernel) (by decide +kernel)
set_option maxRecDepth 20000 in
theorem gX6_addPlanned_X6_addRow : GoodIn wsX6_addPlanned (wsV RX6 243 RX6 yX6_addRow wsX6_addRow) := goodIn_app (goodIn_of _ (by decide +kernel)) ggX6_addPlanned_X6_addRow
theorem dX6_addPlanned_0 : decode cX6_addPlanned 0 = .ok (.aload_n 0, 1) := by decide +kernel
theorem dX6_addPlanned_1 : decode cX6_addPlanned 1 = .ok (.getfield 40, 3) := by decide +kernel
theorem dX6_addPlanned_4 : decode cX6_addPlanned 4 = .ok (.aload_n 0, 1) := by decide +kernel
theorem dX6_addPlanned_5 : decode cX6_addPlanned 5 = .ok (.getfield 10, 3) := by decide +kernel
theorem dX6_addPlanned_8 : decode cX6_addPlanned 8 = .ok (.aload_n 0, 1) := by decide +kernel
theorem dX6_addPlanned_9 : decode cX6_addPlanned 9 = .ok (.getfield 10, 3) := by decide +kernel
theorem dX6_addPlanned_12 : decode cX6_addPlanned 12 = .ok (.getfield 62, 3) := by decide +kernel
theorem dX6_addPlanned_15 : decode cX6_addPlanned 15 = .ok (.iconst 1, 1) := by decide +kernel
theorem dX6_addPlanned_16 : decode cX6_addPlanned 16 = .ok (.isub, 1) := by decide +kernel
theorem dX6_addPlanned_17 : decode cX6_addPlanned 17 = .ok (.invokevirtual 155, 3) := by decide +kernel
theorem dX6_addPlanned_20 : decode cX6_addPlanned 20 = .ok (.aload_n 0, 1) := by decide +kernel
theorem dX6_addPlanned_21 : decode cX6_addPlanned 21 = .ok (.getfield 40, 3) := by decide +kernel
theorem dX6_addPlanned_24 : decode cX6_addPlanned 24 = .ok (.aload_n 0, 1) := by decide +kernel
theorem dX6_addPlanned_25 : decode cX6_addPlanned 25 = .ok (.getfield 33, 3) := by decide +kernel
theorem dX6_addPlanned_28 : decode cX6_addPlanned 28 = .ok (.getfield 159, 3) := by decide +kernel
theorem dX6_addPlanned_31 : decode cX6_addPlanned 31 = .ok (.iconst 0, 1) := by decide +kernel
theorem dX6_addPlanned_32 : decode cX6_addPlanned 32 = .ok (.aload_n 0, 1) := by decide +kernel
theorem dX6_addPlanned_33 : decode cX6_addPlanned 33 = .ok (.getfield 33, 3) := by decide +kernel
theorem dX6_addPlanned_36 : decode cX6_addPlanned 36 = .ok (.getfield 162, 3) := by decide +kernel
theorem dX6_addPlanned_39 : decode cX6_addPlanned 39 = .ok (.iload_n 1, 1) := by decide +kernel
theorem dX6_addPlanned_40 : decode cX6_addPlanned 40 = .ok (.invokevirtual 164, 3) := by decide +kernel
theorem dX6_addPlanned_43 : decode cX6_addPlanned 43 = .ok (.istore_n 2, 1) := by decide +kernel
theorem dX6_addPlanned_44 : decode cX6_addPlanned 44 = .ok (.aload_n 0, 1) := by decide +kernel
theorem dX6_addPlanned_45 : decode cX6_addPlanned 45 = .ok (.iload_n 1, 1) := by decide +kernel
theorem dX6_addPlanned_46 : decode cX6_addPlanned 46 = .ok (.invokevirtual 243, 3) := by decide +kernel
theorem dX6_addPlanned_49 : decode cX6_addPlanned 49 = .ok (.iload_n 2, 1) := by decide +kernel
theorem dX6_addPlanned_50 : decode cX6_addPlanned 50 = .ok (.ireturn, 1) := by decide +kernel
set_option maxRecDepth 20000 in
theorem ggX6_addRow_X4_openRound : GoodIn wsX6_addRow wsX4_openRound := goodIn_r _ [9, 10, 11, 12, 13, 14, 15, 16, 17, 18, 45, 46, 47, 48, 49, 50, 51] (by decide +kernel) (by decide +kernel)
set_option maxRecDepth 20000 in
theorem gX6_addRow_X4_openRound : GoodIn wsX6_addRow (wsV RX6 246 RX4 yX4_openRound wsX4_openRound) := goodIn_app (goodIn_of _ (by decide +kernel)) ggX6_addRow_X4_openRound
set_option maxRecDepth 20000 in
theorem ggX6_addRow_X2_at : GoodIn wsX6_addRow wsX2_at := goodIn_r _ [22, 18, 51] (by decide +kernel) (by decide +kernel)
set_option maxRecDepth 20000 in
theorem gX6_addRow_X2_at : GoodIn wsX6_addRow (wsV RX6 114 RX2 yX2_at wsX2_at) := goodIn_app (goodIn_of _ (by decide +kernel)) ggX6_addRow_X2_at
set_option maxRecDepth 20000 in
theorem ggX6_addRow_X4_addWork : GoodIn wsX6_addRow wsX4_addWork := goodIn_r _ [26, 10, 11, 27, 12, 28, 20, 21, 16, 22, 18, 13, 14, 15, 17, 29, 30, 31, 45, 46, 47, 48, 49, 50, 51] (by decide +kernel) (by decide +kernel)
set_option maxRecDepth 20000 in
theorem gX6_addRow_X4_addWork : GoodIn wsX6_addRow (wsV RX6 249 RX4 yX4_addWork wsX4_addWork) := goodIn_app (goodIn_of _ (by decide +kernel)) ggX6_addRow_X4_addWork
set_option maxRecDepth 20000 in
theorem ggX6_addRow_X4_closeRound : GoodIn wsX6_addRow wsX4_closeRound := goodIn_r _ [35, 11, 45, 46, 47, 48, 49, 50] (by decide +kernel) (by decide +kernel)
set_option maxRecDepth 20000 in
theorem gX6_addRow_X4_closeRound : GoodIn wsX6_addRow (wsV RX6 252 RX4 yX4_closeRound wsX4_closeRound) := goodIn_app (goodIn_of _ (by decide +kernel)) ggX6_addRow_X4_closeRound
theorem dX6_addRow_0 : decode cX6_addRow 0 = .ok (.aload_n 0, 1) := by decide +kernel
theorem dX6_addRow_1 : decode cX6_addRow 1 = .ok (.getfield 33, 3) := by decide +kernel
theorem dX6_addRow_4 : decode cX6_addRow 4 = .ok (.getfield 162, 3) := by decide +kernel
theorem dX6_addRow_7 : decode cX6_addRow 7 = .ok (.istore_n 2, 1) := by decide +kernel
theorem dX6_addRow_8 : decode cX6_addRow 8 = .ok (.aload_n 0, 1) := by decide +kernel
theorem dX6_addRow_9 : decode cX6_addRow 9 = .ok (.getfield 10, 3) := by decide +kernel
theorem dX6_addRow_12 : decode cX6_addRow 12 = .ok (.invokevirtual 246, 3) := by decide +kernel
theorem dX6_addRow_15 : decode cX6_addRow 15 = .ok (.iconst 0, 1) := by decide +kernel
theorem dX6_addRow_16 : decode cX6_addRow 16 = .ok (.istore_n 3, 1) := by decide +kernel
theorem dX6_addRow_17 : decode cX6_addRow 17 = .ok (.iload_n 3, 1) := by decide +kernel
theorem dX6_addRow_18 : decode cX6_addRow 18 = .ok (.iload_n 2, 1) := by decide +kernel
theorem dX6_addRow_19 : decode cX6_addRow 19 = .ok (.if_icmp .ge 31, 3) := by decide +kernel
theorem dX6_addRow_22 : decode cX6_addRow 22 = .ok (.aload_n 0, 1) := by decide +kernel
theorem dX6_addRow_23 : decode cX6_addRow 23 = .ok (.getfield 10, 3) := by decide +kernel
theorem dX6_addRow_26 : decode cX6_addRow 26 = .ok (.aload_n 0, 1) := by decide +kernel
theorem dX6_addRow_27 : decode cX6_addRow 27 = .ok (.getfield 33, 3) := by decide +kernel
theorem dX6_addRow_30 : decode cX6_addRow 30 = .ok (.getfield 159, 3) := by decide +kernel
theorem dX6_addRow_33 : decode cX6_addRow 33 = .ok (.iload_n 3, 1) := by decide +kernel
theorem dX6_addRow_34 : decode cX6_addRow 34 = .ok (.iload_n 1, 1) := by decide +kernel
theorem dX6_addRow_35 : decode cX6_addRow 35 = .ok (.iadd, 1) := by decide +kernel
theorem dX6_addRow_36 : decode cX6_addRow 36 = .ok (.iload_n 2, 1) := by decide +kernel
theorem dX6_addRow_37 : decode cX6_addRow 37 = .ok (.irem, 1) := by decide +kernel
theorem dX6_addRow_38 : decode cX6_addRow 38 = .ok (.invokevirtual 114, 3) := by decide +kernel
theorem dX6_addRow_41 : decode cX6_addRow 41 = .ok (.invokevirtual 249, 3) := by decide +kernel
theorem dX6_addRow_44 : decode cX6_addRow 44 = .ok (.iinc 3 1, 3) := by decide +kernel
theorem dX6_addRow_47 : decode cX6_addRow 47 = .ok (.goto (-30), 3) := by decide +kernel
theorem dX6_addRow_50 : decode cX6_addRow 50 = .ok (.aload_n 0, 1) := by decide +kernel
theorem dX6_addRow_51 : decode cX6_addRow 51 = .ok (.getfield 10, 3) := by decide +kernel
theorem dX6_addRow_54 : decode cX6_addRow 54 = .ok (.invokevirtual 252, 3) := by decide +kernel
theorem dX6_addRow_57 : decode cX6_addRow 57 = .ok (.return_, 1) := by decide +kernel
set_option maxRecDepth 20000 in
theorem ggX6_addTold_X4_openRound : GoodIn wsX6_addTold wsX4_openRound := goodIn_r _ [11, 12, 13, 14, 15, 16, 17, 18, 19, 20, 53, 54, 55, 56, 57, 58, 59] (by decide +kernel) (by decide +kernel)
set_option maxRecDepth 20000 in
theorem gX6_addTold_X4_openRound : GoodIn wsX6_addTold (wsV RX6 246 RX4 yX4_openRound wsX4_openRound) := goodIn_app (goodIn_of _ (by decide +kernel)) ggX6_addTold_X4_openRound
set_option maxRecDepth 20000 in
theorem ggX6_addTold_X2_at : GoodIn wsX6_addTold wsX2_at := goodIn_r _ [24, 20, 59] (by decide +kernel) (by decide +kernel)
set_option maxRecDepth 20000 in
theorem gX6_addTold_X2_at : GoodIn wsX6_addTold (wsV RX6 114 RX2 yX2_at wsX2_at) := goodIn_app (goodIn_of _ (by decide +kernel)) ggX6_addTold_X2_at
set_option maxRecDepth 20000 in
theorem ggX6_addTold_X4_addWork : GoodIn wsX6_addTold wsX4_addWork := goodIn_r _ [28, 12, 13, 29, 14, 30, 22, 23, 18, 24, 20, 15, 16, 17, 19, 31, 32, 33, 53, 54, 55, 56, 57, 58, 59] (by decide +kernel) (by decide +kernel)
set_option maxRecDepth 20000 in
theorem gX6_addTold_X4_addWork : GoodIn wsX6_addTold (wsV RX6 249 RX4 yX4_addWork wsX4_addWork) := goodIn_app (goodIn_of _ (by decide +kernel)) ggX6_addTold_X4_addWork
set_option maxRecDepth 20000 in
theorem ggX6_addTold_X4_closeRound : GoodIn wsX6_addTold wsX4_closeRound := goodIn_r _ [37, 13, 53, 54, 55, 56, 57, 58] (by decide +kernel) (by decide +kernel)
set_option maxRecDepth 20000 in
theorem gX6_addTold_X4_closeRound : GoodIn wsX6_addTold (wsV RX6 252 RX4 yX4_closeRound wsX4_closeRound) := goodIn_app (goodIn_of _ (by decide +kernel)) ggX6_addTold_X4_closeRound
theorem dX6_addTold_0 : decode cX6_addTold 0 = .ok (.aload_n 0, 1) := by decide +kernel
theorem dX6_addTold_1 : decode cX6_addTold 1 = .ok (.getfield 10, 3) := by decide +kernel
theorem dX6_addTold_4 : decode cX6_addTold 4 = .ok (.invokevirtual 246, 3) := by decide +kernel
theorem dX6_addTold_7 : decode cX6_addTold 7 = .ok (.iconst 0, 1) := by decide +kernel
theorem dX6_addTold_8 : decode cX6_addTold 8 = .ok (.istore_n 1, 1) := by decide +kernel
theorem dX6_addTold_9 : decode cX6_addTold 9 = .ok (.iload_n 1, 1) := by decide +kernel
theorem dX6_addTold_10 : decode cX6_addTold 10 = .ok (.aload_n 0, 1) := by decide +kernel
theorem dX6_addTold_11 : decode cX6_addTold 11 = .ok (.getfield 26, 3) := by decide +kernel
theorem dX6_addTold_14 : decode cX6_addTold 14 = .ok (.getfield 255, 3) := by decide +kernel
theorem dX6_addTold_17 : decode cX6_addTold 17 = .ok (.if_icmp .ge 77, 3) := by decide +kernel
theorem dX6_addTold_20 : decode cX6_addTold 20 = .ok (.iconst 0, 1) := by decide +kernel
theorem dX6_addTold_21 : decode cX6_addTold 21 = .ok (.istore_n 2, 1) := by decide +kernel
theorem dX6_addTold_22 : decode cX6_addTold 22 = .ok (.iload_n 2, 1) := by decide +kernel
theorem dX6_addTold_23 : decode cX6_addTold 23 = .ok (.aload_n 0, 1) := by decide +kernel
theorem dX6_addTold_24 : decode cX6_addTold 24 = .ok (.getfield 26, 3) := by decide +kernel
theorem dX6_addTold_27 : decode cX6_addTold 27 = .ok (.getfield 258, 3) := by decide +kernel
theorem dX6_addTold_30 : decode cX6_addTold 30 = .ok (.if_icmp .ge 58, 3) := by decide +kernel
theorem dX6_addTold_33 : decode cX6_addTold 33 = .ok (.aload_n 0, 1) := by decide +kernel
theorem dX6_addTold_34 : decode cX6_addTold 34 = .ok (.getfield 26, 3) := by decide +kernel
theorem dX6_addTold_37 : decode cX6_addTold 37 = .ok (.getfield 261, 3) := by decide +kernel
theorem dX6_addTold_40 : decode cX6_addTold 40 = .ok (.iload_n 2, 1) := by decide +kernel
theorem dX6_addTold_41 : decode cX6_addTold 41 = .ok (.invokevirtual 114, 3) := by decide +kernel
theorem dX6_addTold_44 : decode cX6_addTold 44 = .ok (.istore_n 3, 1) := by decide +kernel
theorem dX6_addTold_45 : decode cX6_addTold 45 = .ok (.aload_n 0, 1) := by decide +kernel
theorem dX6_addTold_46 : decode cX6_addTold 46 = .ok (.getfield 26, 3) := by decide +kernel
theorem dX6_addTold_49 : decode cX6_addTold 49 = .ok (.getfield 264, 3) := by decide +kernel
theorem dX6_addTold_52 : decode cX6_addTold 52 = .ok (.iload_n 2, 1) := by decide +kernel
theorem dX6_addTold_53 : decode cX6_addTold 53 = .ok (.invokevirtual 114, 3) := by decide +kernel
theorem dX6_addTold_56 : decode cX6_addTold 56 = .ok (.istore 4, 2) := by decide +kernel
theorem dX6_addTold_58 : decode cX6_addTold 58 = .ok (.iconst 0, 1) := by decide +kernel
theorem dX6_addTold_59 : decode cX6_addTold 59 = .ok (.istore 5, 2) := by decide +kernel
theorem dX6_addTold_61 : decode cX6_addTold 61 = .ok (.iload 5, 2) := by decide +kernel
theorem dX6_addTold_63 : decode cX6_addTold 63 = .ok (.iload 4, 2) := by decide +kernel
theorem dX6_addTold_65 : decode cX6_addTold 65 = .ok (.if_icmp .ge 17, 3) := by decide +kernel
theorem dX6_addTold_68 : decode cX6_addTold 68 = .ok (.aload_n 0, 1) := by decide +kernel
theorem dX6_addTold_69 : decode cX6_addTold 69 = .ok (.getfield 10, 3) := by decide +kernel
theorem dX6_addTold_72 : decode cX6_addTold 72 = .ok (.iload_n 3, 1) := by decide +kernel
theorem dX6_addTold_73 : decode cX6_addTold 73 = .ok (.invokevirtual 249, 3) := by decide +kernel
theorem dX6_addTold_76 : decode cX6_addTold 76 = .ok (.iinc 5 1, 3) := by decide +kernel
theorem dX6_addTold_79 : decode cX6_addTold 79 = .ok (.goto (-18), 3) := by decide +kernel
theorem dX6_addTold_82 : decode cX6_addTold 82 = .ok (.iinc 2 1, 3) := by decide +kernel
theorem dX6_addTold_85 : decode cX6_addTold 85 = .ok (.goto (-63), 3) := by decide +kernel
theorem dX6_addTold_88 : decode cX6_addTold 88 = .ok (.iinc 1 1, 3) := by decide +kernel
theorem dX6_addTold_91 : decode cX6_addTold 91 = .ok (.goto (-82), 3) := by decide +kernel
theorem dX6_addTold_94 : decode cX6_addTold 94 = .ok (.aload_n 0, 1) := by decide +kernel
theorem dX6_addTold_95 : decode cX6_addTold 95 = .ok (.getfield 10, 3) := by decide +kernel
theorem dX6_addTold_98 : decode cX6_addTold 98 = .ok (.invokevirtual 252, 3) := by decide +kernel
theorem dX6_addTold_101 : decode cX6_addTold 101 = .ok (.return_, 1) := by decide +kernel
set_option maxRecDepth 20000 in
theorem ggX6_ofRound_X2_at : GoodIn wsX6_ofRound wsX2_at := goodIn_r _ [8, 9, 84] (by decide +kernel) (by decide +kernel)
set_option maxRecDepth 20000 in
theorem gX6_ofRound_X2_at : GoodIn wsX6_ofRound (wsV RX6 114 RX2 yX2_at wsX2_at) := goodIn_app (goodIn_of _ (by decide +kernel)) ggX6_ofRound_X2_at
set_option maxRecDepth 20000 in
theorem ggX6_ofRound_X4_countOf : GoodIn wsX6_ofRound wsX4_countOf := goodIn_r _ [14, 15, 16, 5, 6, 7, 8, 9, 17, 18, 19, 13, 20, 21, 78, 79, 80, 81, 82, 83, 84] (by decide +kernel) (by decide +kernel)
set_option maxRecDepth 20000 in
theorem gX6_ofRound_X4_countOf : GoodIn wsX6_ofRound (wsV RX6 267 RX4 yX4_countOf wsX4_countOf) := goodIn_app (goodIn_of _ (by decide +kernel)) ggX6_ofRound_X4_countOf
set_option maxRecDepth 20000 in
theorem ggX6_ofRound_X6_stackedOf : GoodIn wsX6_ofRound wsX6_stackedOf := goodIn_r _ [26, 27, 1, 28, 3, 29, 30, 31, 32, 33, 34, 35, 36, 37, 5, 6, 7, 8, 9, 38, 39, 40, 41, 42, 25, 43, 4, 44, 45, 46, 47, 48, 49, 73, 74, 75, 76, 77, 78, 79, 80, 81, 82, 83, 85, 84] (by decide +kernel) (by decide +kernel)
set_option maxRecDepth 20000 in
theorem gX6_ofRound_X6_stackedOf : GoodIn wsX6_ofRound (wsV RX6 270 RX6 yX6_stackedOf wsX6_stackedOf) := goodIn_app (goodIn_of _ (by decide +kernel)) ggX6_ofRound_X6_stackedOf
set_option maxRecDepth 20000 in
theorem ggX6_ofRound_X4_isMirrored : GoodIn wsX6_ofRound wsX4_isMirrored := goodIn_r _ [53, 15, 16, 5, 6, 7, 8, 9, 17, 18, 19, 13, 20, 21, 78, 79, 80, 81, 82, 83, 84] (by decide +kernel) (by decide +kernel)
set_option maxRecDepth 20000 in
theorem gX6_ofRound_X4_isMirrored : GoodIn wsX6_ofRound (wsV RX6 273 RX4 yX4_isMirrored wsX4_isMirrored) := goodIn_app (goodIn_of _ (by decide +kernel)) ggX6_ofRound_X4_isMirrored
set_option maxRecDepth 20000 in
theorem ggX6_ofRound_X4_yarnOf : GoodIn wsX6_ofRound wsX4_yarnOf := goodIn_r _ [57, 15, 58, 16, 5, 6, 7, 8, 9, 17, 18, 19, 13, 20, 21, 78, 79, 80, 81, 82, 83, 84] (by decide +kernel) (by decide +kernel)
set_option maxRecDepth 20000 in
theorem gX6_ofRound_X4_yarnOf : GoodIn wsX6_ofRound (wsV RX6 276 RX4 yX4_yarnOf wsX4_yarnOf) := goodIn_app (goodIn_of _ (by decide +kernel)) ggX6_ofRound_X4_yarnOf
set_option maxRecDepth 20000 in
theorem ggX6_ofRound_X4_distance : GoodIn wsX6_ofRound wsX4_distance := goodIn_r _ [62, 15, 16, 5, 6, 7, 8, 9, 17, 18, 19, 13, 20, 21, 63, 64, 65, 66, 67, 68, 69, 70, 71, 72, 78, 79, 80, 81, 82, 83, 84] (by decide +kernel) (by decide +kernel)
set_option maxRecDepth 20000 in
theorem gX6_ofRound_X4_distance : GoodIn wsX6_ofRound (wsV RX6 174 RX4 yX4_distance wsX4_distance) := goodIn_app (goodIn_of _ (by decide +kernel)) ggX6_ofRound_X4_distance
theorem dX6_ofRound_0 : decode cX6_ofRound 0 = .ok (.iload_n 2, 1) := by decide +kernel
theorem dX6_ofRound_1 : decode cX6_ofRound 1 = .ok (.tableswitch 161 0 9 #[55, 67, 79, 89, 99, 109, 115, 132, 141, 151], 55) := by decide +kernel
theorem dX6_ofRound_56 : decode cX6_ofRound 56 = .ok (.aload_n 0, 1) := by decide +kernel
theorem dX6_ofRound_57 : decode cX6_ofRound 57 = .ok (.getfield 10, 3) := by decide +kernel
theorem dX6_ofRound_60 : decode cX6_ofRound 60 = .ok (.getfield 146, 3) := by decide +kernel
theorem dX6_ofRound_63 : decode cX6_ofRound 63 = .ok (.iload_n 1, 1) := by decide +kernel
theorem dX6_ofRound_64 : decode cX6_ofRound 64 = .ok (.invokevirtual 114, 3) := by decide +kernel
theorem dX6_ofRound_67 : decode cX6_ofRound 67 = .ok (.ireturn, 1) := by decide +kernel
theorem dX6_ofRound_68 : decode cX6_ofRound 68 = .ok (.aload_n 0, 1) := by decide +kernel
theorem dX6_ofRound_69 : decode cX6_ofRound 69 = .ok (.getfield 10, 3) := by decide +kernel
theorem dX6_ofRound_72 : decode cX6_ofRound 72 = .ok (.getfield 128, 3) := by decide +kernel
theorem dX6_ofRound_75 : decode cX6_ofRound 75 = .ok (.iload_n 1, 1) := by decide +kernel
theorem dX6_ofRound_76 : decode cX6_ofRound 76 = .ok (.invokevirtual 114, 3) := by decide +kernel
theorem dX6_ofRound_79 : decode cX6_ofRound 79 = .ok (.ireturn, 1) := by decide +kernel
theorem dX6_ofRound_80 : decode cX6_ofRound 80 = .ok (.aload_n 0, 1) := by decide +kernel
theorem dX6_ofRound_81 : decode cX6_ofRound 81 = .ok (.getfield 10, 3) := by decide +kernel
theorem dX6_ofRound_84 : decode cX6_ofRound 84 = .ok (.iload_n 1, 1) := by decide +kernel
theorem dX6_ofRound_85 : decode cX6_ofRound 85 = .ok (.iconst 0, 1) := by decide +kernel
theorem dX6_ofRound_86 : decode cX6_ofRound 86 = .ok (.invokevirtual 267, 3) := by decide +kernel
theorem dX6_ofRound_89 : decode cX6_ofRound 89 = .ok (.ireturn, 1) := by decide +kernel
theorem dX6_ofRound_90 : decode cX6_ofRound 90 = .ok (.aload_n 0, 1) := by decide +kernel
theorem dX6_ofRound_91 : decode cX6_ofRound 91 = .ok (.getfield 10, 3) := by decide +kernel
theorem dX6_ofRound_94 : decode cX6_ofRound 94 = .ok (.iload_n 1, 1) := by decide +kernel
theorem dX6_ofRound_95 : decode cX6_ofRound 95 = .ok (.iconst 1, 1) := by decide +kernel
theorem dX6_ofRound_96 : decode cX6_ofRound 96 = .ok (.invokevirtual 267, 3) := by decide +kernel
theorem dX6_ofRound_99 : decode cX6_ofRound 99 = .ok (.ireturn, 1) := by decide +kernel
theorem dX6_ofRound_100 : decode cX6_ofRound 100 = .ok (.aload_n 0, 1) := by decide +kernel
theorem dX6_ofRound_101 : decode cX6_ofRound 101 = .ok (.getfield 10, 3) := by decide +kernel
theorem dX6_ofRound_104 : decode cX6_ofRound 104 = .ok (.iload_n 1, 1) := by decide +kernel
theorem dX6_ofRound_105 : decode cX6_ofRound 105 = .ok (.iconst 2, 1) := by decide +kernel
theorem dX6_ofRound_106 : decode cX6_ofRound 106 = .ok (.invokevirtual 267, 3) := by decide +kernel
theorem dX6_ofRound_109 : decode cX6_ofRound 109 = .ok (.ireturn, 1) := by decide +kernel
theorem dX6_ofRound_110 : decode cX6_ofRound 110 = .ok (.aload_n 0, 1) := by decide +kernel
theorem dX6_ofRound_111 : decode cX6_ofRound 111 = .ok (.iload_n 1, 1) := by decide +kernel
theorem dX6_ofRound_112 : decode cX6_ofRound 112 = .ok (.invokevirtual 270, 3) := by decide +kernel
theorem dX6_ofRound_115 : decode cX6_ofRound 115 = .ok (.ireturn, 1) := by decide +kernel
theorem dX6_ofRound_116 : decode cX6_ofRound 116 = .ok (.aload_n 0, 1) := by decide +kernel
theorem dX6_ofRound_117 : decode cX6_ofRound 117 = .ok (.getfield 10, 3) := by decide +kernel
theorem dX6_ofRound_120 : decode cX6_ofRound 120 = .ok (.iload_n 1, 1) := by decide +kernel
theorem dX6_ofRound_121 : decode cX6_ofRound 121 = .ok (.invokevirtual 273, 3) := by decide +kernel
theorem dX6_ofRound_124 : decode cX6_ofRound 124 = .ok (.ifCond .eq 7, 3) := by decide +kernel
theorem dX6_ofRound_127 : decode cX6_ofRound 127 = .ok (.iconst 1, 1) := by decide +kernel
theorem dX6_ofRound_128 : decode cX6_ofRound 128 = .ok (.goto 4, 3) := by decide +kernel
theorem dX6_ofRound_131 : decode cX6_ofRound 131 = .ok (.iconst 0, 1) := by decide +kernel
theorem dX6_ofRound_132 : decode cX6_ofRound 132 = .ok (.ireturn, 1) := by decide +kernel
theorem dX6_ofRound_133 : decode cX6_ofRound 133 = .ok (.aload_n 0, 1) := by decide +kernel
theorem dX6_ofRound_134 : decode cX6_ofRound 134 = .ok (.getfield 10, 3) := by decide +kernel
theorem dX6_ofRound_137 : decode cX6_ofRound 137 = .ok (.iload_n 1, 1) := by decide +kernel
theorem dX6_ofRound_138 : decode cX6_ofRound 138 = .ok (.invokevirtual 276, 3) := by decide +kernel
theorem dX6_ofRound_141 : decode cX6_ofRound 141 = .ok (.ireturn, 1) := by decide +kernel
theorem dX6_ofRound_142 : decode cX6_ofRound 142 = .ok (.aload_n 0, 1) := by decide +kernel
theorem dX6_ofRound_143 : decode cX6_ofRound 143 = .ok (.getfield 10, 3) := by decide +kernel
theorem dX6_ofRound_146 : decode cX6_ofRound 146 = .ok (.iload_n 1, 1) := by decide +kernel
theorem dX6_ofRound_147 : decode cX6_ofRound 147 = .ok (.iconst 1, 1) := by decide +kernel
theorem dX6_ofRound_148 : decode cX6_ofRound 148 = .ok (.invokevirtual 174, 3) := by decide +kernel
theorem dX6_ofRound_151 : decode cX6_ofRound 151 = .ok (.ireturn, 1) := by decide +kernel
theorem dX6_ofRound_152 : decode cX6_ofRound 152 = .ok (.aload_n 0, 1) := by decide +kernel
theorem dX6_ofRound_153 : decode cX6_ofRound 153 = .ok (.getfield 10, 3) := by decide +kernel
theorem dX6_ofRound_156 : decode cX6_ofRound 156 = .ok (.iload_n 1, 1) := by decide +kernel
theorem dX6_ofRound_157 : decode cX6_ofRound 157 = .ok (.iconst 0, 1) := by decide +kernel
theorem dX6_ofRound_158 : decode cX6_ofRound 158 = .ok (.invokevirtual 174, 3) := by decide +kernel
theorem dX6_ofRound_161 : decode cX6_ofRound 161 = .ok (.ireturn, 1) := by decide +kernel
theorem dX6_ofRound_162 : decode cX6_ofRound 162 = .ok (.aload_n 0, 1) := by decide +kernel
theorem dX6_ofRound_163 : decode cX6_ofRound 163 = .ok (.getfield 10, 3) := by decide +kernel
theorem dX6_ofRound_166 : decode cX6_ofRound 166 = .ok (.getfield 146, 3) := by decide +kernel
theorem dX6_ofRound_169 : decode cX6_ofRound 169 = .ok (.iload_n 1, 1) := by decide +kernel
theorem dX6_ofRound_170 : decode cX6_ofRound 170 = .ok (.invokevirtual 114, 3) := by decide +kernel
theorem dX6_ofRound_173 : decode cX6_ofRound 173 = .ok (.aload_n 0, 1) := by decide +kernel
theorem dX6_ofRound_174 : decode cX6_ofRound 174 = .ok (.getfield 10, 3) := by decide +kernel
theorem dX6_ofRound_177 : decode cX6_ofRound 177 = .ok (.getfield 146, 3) := by decide +kernel
theorem dX6_ofRound_180 : decode cX6_ofRound 180 = .ok (.iconst 0, 1) := by decide +kernel
theorem dX6_ofRound_181 : decode cX6_ofRound 181 = .ok (.invokevirtual 114, 3) := by decide +kernel
theorem dX6_ofRound_184 : decode cX6_ofRound 184 = .ok (.iload_n 1, 1) := by decide +kernel
theorem dX6_ofRound_185 : decode cX6_ofRound 185 = .ok (.iconst 1, 1) := by decide +kernel
theorem dX6_ofRound_186 : decode cX6_ofRound 186 = .ok (.iadd, 1) := by decide +kernel
theorem dX6_ofRound_187 : decode cX6_ofRound 187 = .ok (.imul, 1) := by decide +kernel
theorem dX6_ofRound_188 : decode cX6_ofRound 188 = .ok (.isub, 1) := by decide +kernel
theorem dX6_ofRound_189 : decode cX6_ofRound 189 = .ok (.ireturn, 1) := by decide +kernel
set_option maxRecDepth 20000 in
theorem ggX6_stackedOf_X1_load : GoodIn wsX6_stackedOf wsX1_load := goodIn_r _ [9, 10, 11, 12, 13, 14, 15, 16, 17, 18, 19, 20, 21, 22, 23, 24, 25, 38, 39, 40, 41, 42, 43, 44, 45] (by decide +kernel) (by decide +kernel)
set_option maxRecDepth 20000 in
theorem gX6_stackedOf_X1_load : GoodIn wsX6_stackedOf (wsV RX6 155 RX1 yX1_load wsX1_load) := goodIn_app (goodIn_of _ (by decide +kernel)) ggX6_stackedOf_X1_load
set_option maxRecDepth 20000 in
theorem ggX6_stackedOf_X2_at : GoodIn wsX6_stackedOf wsX2_at := goodIn_r _ [17, 18, 45] (by decide +kernel) (by decide +kernel)
set_option maxRecDepth 20000 in
theorem gX6_stackedOf_X2_at : GoodIn wsX6_stackedOf (wsV RX6 114 RX2 yX2_at wsX2_at) := goodIn_app (goodIn_of _ (by decide +kernel)) ggX6_stackedOf_X2_at
set_option maxRecDepth 20000 in
theorem ggX6_stackedOf_X1_stackedIn : GoodIn wsX6_stackedOf wsX1_stackedIn := goodIn_r _ [30, 12, 13, 14, 15, 16, 17, 18, 31, 24, 32, 44, 45] (by decide +kernel) (by decide +kernel)
set_option maxRecDepth 20000 in
theorem gX6_stackedOf_X1_stackedIn : GoodIn wsX6_stackedOf (wsV RX6 164 RX1 yX1_stackedIn wsX1_stackedIn) := goodIn_app (goodIn_of _ (by decide +kernel)) ggX6_stackedOf_X1_stackedIn
theorem dX6_stackedOf_0 : decode cX6_stackedOf 0 = .ok (.iload_n 1, 1) := by decide +kernel
theorem dX6_stackedOf_1 : decode cX6_stackedOf 1 = .ok (.ifCond .ne 5, 3) := by decide +kernel
theorem dX6_stackedOf_4 : decode cX6_stackedOf 4 = .ok (.iconst 0, 1) := by decide +kernel
theorem dX6_stackedOf_5 : decode cX6_stackedOf 5 = .ok (.ireturn, 1) := by decide +kernel
theorem dX6_stackedOf_6 : decode cX6_stackedOf 6 = .ok (.aload_n 0, 1) := by decide +kernel
theorem dX6_stackedOf_7 : decode cX6_stackedOf 7 = .ok (.getfield 40, 3) := by decide +kernel
theorem dX6_stackedOf_10 : decode cX6_stackedOf 10 = .ok (.aload_n 0, 1) := by decide +kernel
theorem dX6_stackedOf_11 : decode cX6_stackedOf 11 = .ok (.getfield 10, 3) := by decide +kernel
theorem dX6_stackedOf_14 : decode cX6_stackedOf 14 = .ok (.iload_n 1, 1) := by decide +kernel
theorem dX6_stackedOf_15 : decode cX6_stackedOf 15 = .ok (.iconst 1, 1) := by decide +kernel
theorem dX6_stackedOf_16 : decode cX6_stackedOf 16 = .ok (.isub, 1) := by decide +kernel
theorem dX6_stackedOf_17 : decode cX6_stackedOf 17 = .ok (.invokevirtual 155, 3) := by decide +kernel
theorem dX6_stackedOf_20 : decode cX6_stackedOf 20 = .ok (.aload_n 0, 1) := by decide +kernel
theorem dX6_stackedOf_21 : decode cX6_stackedOf 21 = .ok (.getfield 40, 3) := by decide +kernel
theorem dX6_stackedOf_24 : decode cX6_stackedOf 24 = .ok (.aload_n 0, 1) := by decide +kernel
theorem dX6_stackedOf_25 : decode cX6_stackedOf 25 = .ok (.getfield 10, 3) := by decide +kernel
theorem dX6_stackedOf_28 : decode cX6_stackedOf 28 = .ok (.getfield 279, 3) := by decide +kernel
theorem dX6_stackedOf_31 : decode cX6_stackedOf 31 = .ok (.iload_n 1, 1) := by decide +kernel
theorem dX6_stackedOf_32 : decode cX6_stackedOf 32 = .ok (.bipush 120, 2) := by decide +kernel
theorem dX6_stackedOf_34 : decode cX6_stackedOf 34 = .ok (.imul, 1) := by decide +kernel
theorem dX6_stackedOf_35 : decode cX6_stackedOf 35 = .ok (.aload_n 0, 1) := by decide +kernel
theorem dX6_stackedOf_36 : decode cX6_stackedOf 36 = .ok (.getfield 10, 3) := by decide +kernel
theorem dX6_stackedOf_39 : decode cX6_stackedOf 39 = .ok (.getfield 128, 3) := by decide +kernel
theorem dX6_stackedOf_42 : decode cX6_stackedOf 42 = .ok (.iload_n 1, 1) := by decide +kernel
theorem dX6_stackedOf_43 : decode cX6_stackedOf 43 = .ok (.invokevirtual 114, 3) := by decide +kernel
theorem dX6_stackedOf_46 : decode cX6_stackedOf 46 = .ok (.iconst 0, 1) := by decide +kernel
theorem dX6_stackedOf_47 : decode cX6_stackedOf 47 = .ok (.invokevirtual 164, 3) := by decide +kernel
theorem dX6_stackedOf_50 : decode cX6_stackedOf 50 = .ok (.ireturn, 1) := by decide +kernel
set_option maxRecDepth 20000 in
theorem ggX6_sumOverRounds_X6_ofRound : GoodIn wsX6_sumOverRounds wsX6_ofRound := goodIn_r _ [7, 1, 8, 9, 10, 11, 12, 13, 14, 15, 16, 17, 18, 19, 20, 21, 22, 23, 24, 25, 26, 27, 28, 29, 30, 6, 31, 32, 33, 34, 35, 36, 37, 38, 39, 40, 41, 42, 43, 44, 45, 46, 47, 48, 49, 50, 51, 52, 53, 54, 55, 56, 57, 58, 59, 60, 61, 62, 63, 64, 65, 66, 67, 68, 69, 70, 71, 72, 73, 74, 75, 76, 77, 78, 79, 80, 81, 82, 83, 84, 85, 86, 87, 88, 89, 90] (by decide +kernel) (by decide +kernel)
set_option maxRecDepth 20000 in
theorem gX6_sumOverRounds_X6_ofRound : GoodIn wsX6_sumOverRounds (wsV RX6 124 RX6 yX6_ofRound wsX6_ofRound) := goodIn_app (goodIn_of _ (by decide +kernel)) ggX6_sumOverRounds_X6_ofRound
theorem dX6_sumOverRounds_0 : decode cX6_sumOverRounds 0 = .ok (.iconst 0, 1) := by decide +kernel
theorem dX6_sumOverRounds_1 : decode cX6_sumOverRounds 1 = .ok (.istore_n 2, 1) := by decide +kernel
theorem dX6_sumOverRounds_2 : decode cX6_sumOverRounds 2 = .ok (.iconst 0, 1) := by decide +kernel
theorem dX6_sumOverRounds_3 : decode cX6_sumOverRounds 3 = .ok (.istore_n 3, 1) := by decide +kernel
theorem dX6_sumOverRounds_4 : decode cX6_sumOverRounds 4 = .ok (.iload_n 3, 1) := by decide +kernel
theorem dX6_sumOverRounds_5 : decode cX6_sumOverRounds 5 = .ok (.aload_n 0, 1) := by decide +kernel
theorem dX6_sumOverRounds_6 : decode cX6_sumOverRounds 6 = .ok (.getfield 10, 3) := by decide +kernel
theorem dX6_sumOverRounds_9 : decode cX6_sumOverRounds 9 = .ok (.getfield 62, 3) := by decide +kernel
theorem dX6_sumOverRounds_12 : decode cX6_sumOverRounds 12 = .ok (.if_icmp .ge 18, 3) := by decide +kernel
theorem dX6_sumOverRounds_15 : decode cX6_sumOverRounds 15 = .ok (.iload_n 2, 1) := by decide +kernel
theorem dX6_sumOverRounds_16 : decode cX6_sumOverRounds 16 = .ok (.aload_n 0, 1) := by decide +kernel
theorem dX6_sumOverRounds_17 : decode cX6_sumOverRounds 17 = .ok (.iload_n 3, 1) := by decide +kernel
theorem dX6_sumOverRounds_18 : decode cX6_sumOverRounds 18 = .ok (.iload_n 1, 1) := by decide +kernel
theorem dX6_sumOverRounds_19 : decode cX6_sumOverRounds 19 = .ok (.invokevirtual 124, 3) := by decide +kernel
theorem dX6_sumOverRounds_22 : decode cX6_sumOverRounds 22 = .ok (.iadd, 1) := by decide +kernel
theorem dX6_sumOverRounds_23 : decode cX6_sumOverRounds 23 = .ok (.istore_n 2, 1) := by decide +kernel
theorem dX6_sumOverRounds_24 : decode cX6_sumOverRounds 24 = .ok (.iinc 3 1, 3) := by decide +kernel
theorem dX6_sumOverRounds_27 : decode cX6_sumOverRounds 27 = .ok (.goto (-23), 3) := by decide +kernel
theorem dX6_sumOverRounds_30 : decode cX6_sumOverRounds 30 = .ok (.iload_n 2, 1) := by decide +kernel
theorem dX6_sumOverRounds_31 : decode cX6_sumOverRounds 31 = .ok (.ireturn, 1) := by decide +kernel
set_option maxRecDepth 20000 in
theorem ggX6_shapeGoal_X2_at : GoodIn wsX6_shapeGoal wsX2_at := goodIn_r _ [14, 15, 34] (by decide +kernel) (by decide +kernel)
set_option maxRecDepth 20000 in
theorem gX6_shapeGoal_X2_at : GoodIn wsX6_shapeGoal (wsV RX6 114 RX2 yX2_at wsX2_at) := goodIn_app (goodIn_of _ (by decide +kernel)) ggX6_shapeGoal_X2_at
set_option maxRecDepth 20000 in
theorem ggX6_shapeGoal_X6_rawGoal : GoodIn wsX6_shapeGoal wsX6_rawGoal := goodIn_r _ [19, 3, 4, 5, 6, 20, 21, 18, 22] (by decide +kernel) (by decide +kernel)
set_option maxRecDepth 20000 in
theorem gX6_shapeGoal_X6_rawGoal : GoodIn wsX6_shapeGoal (va_wsS RX6 282 yX6_rawGoal wsX6_rawGoal) := goodIn_app (goodIn_of _ (by decide +kernel)) ggX6_shapeGoal_X6_rawGoal
theorem dX6_shapeGoal_0 : decode cX6_shapeGoal 0 = .ok (.aload_n 0, 1) := by decide +kernel
theorem dX6_shapeGoal_1 : decode cX6_shapeGoal 1 = .ok (.getfield 10, 3) := by decide +kernel
theorem dX6_shapeGoal_4 : decode cX6_shapeGoal 4 = .ok (.getfield 146, 3) := by decide +kernel
theorem dX6_shapeGoal_7 : decode cX6_shapeGoal 7 = .ok (.iconst 0, 1) := by decide +kernel
theorem dX6_shapeGoal_8 : decode cX6_shapeGoal 8 = .ok (.invokevirtual 114, 3) := by decide +kernel
theorem dX6_shapeGoal_11 : decode cX6_shapeGoal 11 = .ok (.iload_n 1, 1) := by decide +kernel
theorem dX6_shapeGoal_12 : decode cX6_shapeGoal 12 = .ok (.iload_n 2, 1) := by decide +kernel
theorem dX6_shapeGoal_13 : decode cX6_shapeGoal 13 = .ok (.iload_n 3, 1) := by decide +kernel
theorem dX6_shapeGoal_14 : decode cX6_shapeGoal 14 = .ok (.invokestatic 282, 3) := by decide +kernel
theorem dX6_shapeGoal_17 : decode cX6_shapeGoal 17 = .ok (.istore 4, 2) := by decide +kernel
theorem dX6_shapeGoal_19 : decode cX6_shapeGoal 19 = .ok (.iconst 3, 1) := by decide +kernel
theorem dX6_shapeGoal_20 : decode cX6_shapeGoal 20 = .ok (.bipush 120, 2) := by decide +kernel
theorem dX6_shapeGoal_22 : decode cX6_shapeGoal 22 = .ok (.iload 4, 2) := by decide +kernel
theorem dX6_shapeGoal_24 : decode cX6_shapeGoal 24 = .ok (.invokestatic 286, 3) := by decide +kernel
theorem dX6_shapeGoal_27 : decode cX6_shapeGoal 27 = .ok (.invokestatic 291, 3) := by decide +kernel
theorem dX6_shapeGoal_30 : decode cX6_shapeGoal 30 = .ok (.ireturn, 1) := by decide +kernel
set_option maxRecDepth 20000 in
theorem ggX6_rawGoal_X6_doubled : GoodIn wsX6_rawGoal wsX6_doubled := goodIn_r _ [8] (by decide +kernel) (by decide +kernel)
set_option maxRecDepth 20000 in
theorem gX6_rawGoal_X6_doubled : GoodIn wsX6_rawGoal (va_wsS RX6 294 yX6_doubled wsX6_doubled) := goodIn_app (goodIn_of _ (by decide +kernel)) ggX6_rawGoal_X6_doubled
theorem dX6_rawGoal_0 : decode cX6_rawGoal 0 = .ok (.iload_n 1, 1) := by decide +kernel
theorem dX6_rawGoal_1 : decode cX6_rawGoal 1 = .ok (.tableswitch 67 0 3 #[31, 37, 55, 61], 31) := by decide +kernel
theorem dX6_rawGoal_32 : decode cX6_rawGoal 32 = .ok (.iload_n 0, 1) := by decide +kernel
theorem dX6_rawGoal_33 : decode cX6_rawGoal 33 = .ok (.iload_n 3, 1) := by decide +kernel
theorem dX6_rawGoal_34 : decode cX6_rawGoal 34 = .ok (.iconst 1, 1) := by decide +kernel
theorem dX6_rawGoal_35 : decode cX6_rawGoal 35 = .ok (.iadd, 1) := by decide +kernel
theorem dX6_rawGoal_36 : decode cX6_rawGoal 36 = .ok (.imul, 1) := by decide +kernel
theorem dX6_rawGoal_37 : decode cX6_rawGoal 37 = .ok (.ireturn, 1) := by decide +kernel
theorem dX6_rawGoal_38 : decode cX6_rawGoal 38 = .ok (.iload_n 0, 1) := by decide +kernel
theorem dX6_rawGoal_39 : decode cX6_rawGoal 39 = .ok (.iload_n 3, 1) := by decide +kernel
theorem dX6_rawGoal_40 : decode cX6_rawGoal 40 = .ok (.iconst 1, 1) := by decide +kernel
theorem dX6_rawGoal_41 : decode cX6_rawGoal 41 = .ok (.iadd, 1) := by decide +kernel
theorem dX6_rawGoal_42 : decode cX6_rawGoal 42 = .ok (.iload_n 2, 1) := by decide +kernel
theorem dX6_rawGoal_43 : decode cX6_rawGoal 43 = .ok (.invokestatic 286, 3) := by decide +kernel
theorem dX6_rawGoal_46 : decode cX6_rawGoal 46 = .ok (.iconst 3, 1) := by decide +kernel
theorem dX6_rawGoal_47 : decode cX6_rawGoal 47 = .ok (.iload_n 2, 1) := by decide +kernel
theorem dX6_rawGoal_48 : decode cX6_rawGoal 48 = .ok (.imul, 1) := by decide +kernel
theorem dX6_rawGoal_49 : decode cX6_rawGoal 49 = .ok (.iload_n 3, 1) := by decide +kernel
theorem dX6_rawGoal_50 : decode cX6_rawGoal 50 = .ok (.isub, 1) := by decide +kernel
theorem dX6_rawGoal_51 : decode cX6_rawGoal 51 = .ok (.invokestatic 286, 3) := by decide +kernel
theorem dX6_rawGoal_54 : decode cX6_rawGoal 54 = .ok (.imul, 1) := by decide +kernel
theorem dX6_rawGoal_55 : decode cX6_rawGoal 55 = .ok (.ireturn, 1) := by decide +kernel
theorem dX6_rawGoal_56 : decode cX6_rawGoal 56 = .ok (.iload_n 0, 1) := by decide +kernel
theorem dX6_rawGoal_57 : decode cX6_rawGoal 57 = .ok (.iload_n 3, 1) := by decide +kernel
theorem dX6_rawGoal_58 : decode cX6_rawGoal 58 = .ok (.invokestatic 294, 3) := by decide +kernel
theorem dX6_rawGoal_61 : decode cX6_rawGoal 61 = .ok (.ireturn, 1) := by decide +kernel
theorem dX6_rawGoal_62 : decode cX6_rawGoal 62 = .ok (.iload_n 0, 1) := by decide +kernel
theorem dX6_rawGoal_63 : decode cX6_rawGoal 63 = .ok (.iload_n 3, 1) := by decide +kernel
theorem dX6_rawGoal_64 : decode cX6_rawGoal 64 = .ok (.iload_n 2, 1) := by decide +kernel
theorem dX6_rawGoal_65 : decode cX6_rawGoal 65 = .ok (.imul, 1) := by decide +kernel
theorem dX6_rawGoal_66 : decode cX6_rawGoal 66 = .ok (.iadd, 1) := by decide +kernel
theorem dX6_rawGoal_67 : decode cX6_rawGoal 67 = .ok (.ireturn, 1) := by decide +kernel
theorem dX6_rawGoal_68 : decode cX6_rawGoal 68 = .ok (.iload_n 0, 1) := by decide +kernel
theorem dX6_rawGoal_69 : decode cX6_rawGoal 69 = .ok (.iload_n 3, 1) := by decide +kernel
theorem dX6_rawGoal_70 : decode cX6_rawGoal 70 = .ok (.iconst 1, 1) := by decide +kernel
theorem dX6_rawGoal_71 : decode cX6_rawGoal 71 = .ok (.iadd, 1) := by decide +kernel
theorem dX6_rawGoal_72 : decode cX6_rawGoal 72 = .ok (.iload_n 2, 1) := by decide +kernel
theorem dX6_rawGoal_73 : decode cX6_rawGoal 73 = .ok (.invokestatic 286, 3) := by decide +kernel
theorem dX6_rawGoal_76 : decode cX6_rawGoal 76 = .ok (.imul, 1) := by decide +kernel
theorem dX6_rawGoal_77 : decode cX6_rawGoal 77 = .ok (.ireturn, 1) := by decide +kernel
theorem dX6_doubled_0 : decode cX6_doubled 0 = .ok (.iload_n 0, 1) := by decide +kernel
theorem dX6_doubled_1 : decode cX6_doubled 1 = .ok (.istore_n 2, 1) := by decide +kernel
theorem dX6_doubled_2 : decode cX6_doubled 2 = .ok (.iconst 0, 1) := by decide +kernel
theorem dX6_doubled_3 : decode cX6_doubled 3 = .ok (.istore_n 3, 1) := by decide +kernel
theorem dX6_doubled_4 : decode cX6_doubled 4 = .ok (.iload_n 3, 1) := by decide +kernel
theorem dX6_doubled_5 : decode cX6_doubled 5 = .ok (.iload_n 1, 1) := by decide +kernel
theorem dX6_doubled_6 : decode cX6_doubled 6 = .ok (.if_icmp .ge 19, 3) := by decide +kernel
theorem dX6_doubled_9 : decode cX6_doubled 9 = .ok (.iload_n 2, 1) := by decide +kernel
theorem dX6_doubled_10 : decode cX6_doubled 10 = .ok (.bipush 120, 2) := by decide +kernel
theorem dX6_doubled_12 : decode cX6_doubled 12 = .ok (.if_icmp .gt 13, 3) := by decide +kernel
theorem dX6_doubled_15 : decode cX6_doubled 15 = .ok (.iload_n 2, 1) := by decide +kernel
theorem dX6_doubled_16 : decode cX6_doubled 16 = .ok (.iconst 2, 1) := by decide +kernel
theorem dX6_doubled_17 : decode cX6_doubled 17 = .ok (.imul, 1) := by decide +kernel
theorem dX6_doubled_18 : decode cX6_doubled 18 = .ok (.istore_n 2, 1) := by decide +kernel
theorem dX6_doubled_19 : decode cX6_doubled 19 = .ok (.iinc 3 1, 3) := by decide +kernel
theorem dX6_doubled_22 : decode cX6_doubled 22 = .ok (.goto (-18), 3) := by decide +kernel
theorem dX6_doubled_25 : decode cX6_doubled 25 = .ok (.iload_n 2, 1) := by decide +kernel
theorem dX6_doubled_26 : decode cX6_doubled 26 = .ok (.ireturn, 1) := by decide +kernel
set_option maxRecDepth 20000 in
theorem ggX6_differences_X2_at : GoodIn wsX6_differences wsX2_at := goodIn_r _ [12, 13, 42] (by decide +kernel) (by decide +kernel)
set_option maxRecDepth 20000 in
theorem gX6_differences_X2_at : GoodIn wsX6_differences (wsV RX6 114 RX2 yX2_at wsX2_at) := goodIn_app (goodIn_of _ (by decide +kernel)) ggX6_differences_X2_at
set_option maxRecDepth 20000 in
theorem ggX6_differences_X6_shapeGoal : GoodIn wsX6_differences wsX6_shapeGoal := goodIn_r _ [18, 1, 3, 19, 20, 6, 21, 22, 23, 24, 8, 9, 10, 11, 12, 13, 25, 26, 17, 27, 28, 29, 30, 31, 32, 33, 34, 35, 36, 37, 38, 39, 40, 41, 42] (by decide +kernel) (by decide +kernel)
set_option maxRecDepth 20000 in
theorem gX6_differences_X6_shapeGoal : GoodIn wsX6_differences (wsV RX6 107 RX6 yX6_shapeGoal wsX6_shapeGoal) := goodIn_app (goodIn_of _ (by decide +kernel)) ggX6_differences_X6_shapeGoal
theorem dX6_differences_0 : decode cX6_differences 0 = .ok (.iconst 0, 1) := by decide +kernel
theorem dX6_differences_1 : decode cX6_differences 1 = .ok (.istore_n 3, 1) := by decide +kernel
theorem dX6_differences_2 : decode cX6_differences 2 = .ok (.iconst 0, 1) := by decide +kernel
theorem dX6_differences_3 : decode cX6_differences 3 = .ok (.istore 4, 2) := by decide +kernel
theorem dX6_differences_5 : decode cX6_differences 5 = .ok (.iload 4, 2) := by decide +kernel
theorem dX6_differences_7 : decode cX6_differences 7 = .ok (.aload_n 0, 1) := by decide +kernel
theorem dX6_differences_8 : decode cX6_differences 8 = .ok (.getfield 10, 3) := by decide +kernel
theorem dX6_differences_11 : decode cX6_differences 11 = .ok (.getfield 62, 3) := by decide +kernel
theorem dX6_differences_14 : decode cX6_differences 14 = .ok (.if_icmp .ge 36, 3) := by decide +kernel
theorem dX6_differences_17 : decode cX6_differences 17 = .ok (.iload_n 3, 1) := by decide +kernel
theorem dX6_differences_18 : decode cX6_differences 18 = .ok (.aload_n 0, 1) := by decide +kernel
theorem dX6_differences_19 : decode cX6_differences 19 = .ok (.getfield 10, 3) := by decide +kernel
theorem dX6_differences_22 : decode cX6_differences 22 = .ok (.getfield 146, 3) := by decide +kernel
theorem dX6_differences_25 : decode cX6_differences 25 = .ok (.iload 4, 2) := by decide +kernel
theorem dX6_differences_27 : decode cX6_differences 27 = .ok (.invokevirtual 114, 3) := by decide +kernel
theorem dX6_differences_30 : decode cX6_differences 30 = .ok (.aload_n 0, 1) := by decide +kernel
theorem dX6_differences_31 : decode cX6_differences 31 = .ok (.iload_n 1, 1) := by decide +kernel
theorem dX6_differences_32 : decode cX6_differences 32 = .ok (.iload_n 2, 1) := by decide +kernel
theorem dX6_differences_33 : decode cX6_differences 33 = .ok (.iload 4, 2) := by decide +kernel
theorem dX6_differences_35 : decode cX6_differences 35 = .ok (.invokevirtual 107, 3) := by decide +kernel
theorem dX6_differences_38 : decode cX6_differences 38 = .ok (.isub, 1) := by decide +kernel
theorem dX6_differences_39 : decode cX6_differences 39 = .ok (.invokestatic 297, 3) := by decide +kernel
theorem dX6_differences_42 : decode cX6_differences 42 = .ok (.iadd, 1) := by decide +kernel
theorem dX6_differences_43 : decode cX6_differences 43 = .ok (.istore_n 3, 1) := by decide +kernel
theorem dX6_differences_44 : decode cX6_differences 44 = .ok (.iinc 4 1, 3) := by decide +kernel
theorem dX6_differences_47 : decode cX6_differences 47 = .ok (.goto (-42), 3) := by decide +kernel
theorem dX6_differences_50 : decode cX6_differences 50 = .ok (.iload_n 3, 1) := by decide +kernel
theorem dX6_differences_51 : decode cX6_differences 51 = .ok (.ireturn, 1) := by decide +kernel
theorem dX6_nearestTo_0 : decode cX6_nearestTo 0 = .ok (.iload_n 0, 1) := by decide +kernel
theorem dX6_nearestTo_1 : decode cX6_nearestTo 1 = .ok (.iload_n 1, 1) := by decide +kernel
theorem dX6_nearestTo_2 : decode cX6_nearestTo 2 = .ok (.if_icmp .le 15, 3) := by decide +kernel
theorem dX6_nearestTo_5 : decode cX6_nearestTo 5 = .ok (.iload_n 0, 1) := by decide +kernel
theorem dX6_nearestTo_6 : decode cX6_nearestTo 6 = .ok (.iload_n 1, 1) := by decide +kernel
theorem dX6_nearestTo_7 : decode cX6_nearestTo 7 = .ok (.iload_n 1, 1) := by decide +kernel
theorem dX6_nearestTo_8 : decode cX6_nearestTo 8 = .ok (.iload_n 2, 1) := by decide +kernel
theorem dX6_nearestTo_9 : decode cX6_nearestTo 9 = .ok (.invokestatic 286, 3) := by decide +kernel
theorem dX6_nearestTo_12 : decode cX6_nearestTo 12 = .ok (.iadd, 1) := by decide +kernel
theorem dX6_nearestTo_13 : decode cX6_nearestTo 13 = .ok (.invokestatic 286, 3) := by decide +kernel
theorem dX6_nearestTo_16 : decode cX6_nearestTo 16 = .ok (.ireturn, 1) := by decide +kernel
theorem dX6_nearestTo_17 : decode cX6_nearestTo 17 = .ok (.iload_n 0, 1) := by decide +kernel
theorem dX6_nearestTo_18 : decode cX6_nearestTo 18 = .ok (.iload_n 1, 1) := by decide +kernel
theorem dX6_nearestTo_19 : decode cX6_nearestTo 19 = .ok (.iload_n 1, 1) := by decide +kernel
theorem dX6_nearestTo_20 : decode cX6_nearestTo 20 = .ok (.iconst 2, 1) := by decide +kernel
theorem dX6_nearestTo_21 : decode cX6_nearestTo 21 = .ok (.idiv, 1) := by decide +kernel
theorem dX6_nearestTo_22 : decode cX6_nearestTo 22 = .ok (.iload_n 2, 1) := by decide +kernel
theorem dX6_nearestTo_23 : decode cX6_nearestTo 23 = .ok (.invokestatic 286, 3) := by decide +kernel
theorem dX6_nearestTo_26 : decode cX6_nearestTo 26 = .ok (.isub, 1) := by decide +kernel
theorem dX6_nearestTo_27 : decode cX6_nearestTo 27 = .ok (.invokestatic 291, 3) := by decide +kernel
theorem dX6_nearestTo_30 : decode cX6_nearestTo 30 = .ok (.ireturn, 1) := by decide +kernel
theorem dX6_mixed_0 : decode cX6_mixed 0 = .ok (.ldc2_w 300, 3) := by decide +kernel
theorem dX6_mixed_3 : decode cX6_mixed 3 = .ok (.lload_n 0, 1) := by decide +kernel
theorem dX6_mixed_4 : decode cX6_mixed 4 = .ok (.lmul, 1) := by decide +kernel
theorem dX6_mixed_5 : decode cX6_mixed 5 = .ok (.iload_n 2, 1) := by decide +kernel
theorem dX6_mixed_6 : decode cX6_mixed 6 = .ok (.i2l, 1) := by decide +kernel
theorem dX6_mixed_7 : decode cX6_mixed 7 = .ok (.ladd, 1) := by decide +kernel
theorem dX6_mixed_8 : decode cX6_mixed 8 = .ok (.lreturn, 1) := by decide +kernel
set_option maxRecDepth 20000 in
theorem ggX6_mixedRound_X6_ofRound : GoodIn wsX6_mixedRound wsX6_ofRound := goodIn_r _ [7, 1, 8, 2, 9, 10, 11, 12, 13, 14, 15, 16, 17, 18, 19, 20, 21, 22, 23, 24, 25, 26, 27, 28, 29, 6, 30, 31, 32, 33, 34, 35, 36, 37, 38, 39, 40, 41, 42, 43, 44, 45, 46, 47, 48, 49, 50, 51, 52, 53, 54, 55, 56, 57, 58, 59, 60, 61, 62, 63, 64, 65, 66, 67, 68, 69, 70, 71, 72, 73, 74, 75, 76, 82, 83, 84, 85, 86, 87, 88, 89, 90, 91, 92, 93, 94] (by decide +kernel) (by decide +kernel)
set_option maxRecDepth 20000 in
theorem gX6_mixedRound_X6_ofRound : GoodIn wsX6_mixedRound (wsV RX6 124 RX6 yX6_ofRound wsX6_ofRound) := goodIn_app (goodIn_of _ (by decide +kernel)) ggX6_mixedRound_X6_ofRound
set_option maxRecDepth 20000 in
theorem ggX6_mixedRound_X6_mixed : GoodIn wsX6_mixedRound wsX6_mixed := goodIn_r _ [79, 80] (by decide +kernel) (by decide +kernel)
set_option maxRecDepth 20000 in
theorem gX6_mixedRound_X6_mixed : GoodIn wsX6_mixedRound (va_wsS RX6 207 yX6_mixed wsX6_mixed) := goodIn_app (goodIn_of _ (by decide +kernel)) ggX6_mixedRound_X6_mixed
set_option maxRecDepth 20000 in
theorem ggX6_mixedRound_X2_at : GoodIn wsX6_mixedRound wsX2_at := goodIn_r _ [13, 14, 93] (by decide +kernel) (by decide +kernel)
set_option maxRecDepth 20000 in
theorem gX6_mixedRound_X2_at : GoodIn wsX6_mixedRound (wsV RX6 114 RX2 yX2_at wsX2_at) := goodIn_app (goodIn_of _ (by decide +kernel)) ggX6_mixedRound_X2_at
set_option maxRecDepth 20000 in
theorem ggX6_mixedRound_X4_kindOf : GoodIn wsX6_mixedRound wsX4_kindOf := goodIn_r _ [25, 26, 21, 10, 11, 12, 13, 14, 87, 88, 89, 90, 91, 92, 93] (by decide +kernel) (by decide +kernel)
set_option maxRecDepth 20000 in
theorem gX6_mixedRound_X4_kindOf : GoodIn wsX6_mixedRound (wsV RX6 131 RX4 yX4_kindOf wsX4_kindOf) := goodIn_app (goodIn_of _ (by decide +kernel)) ggX6_mixedRound_X4_kindOf
theorem dX6_mixedRound_0 : decode cX6_mixedRound 0 = .ok (.lload_n 1, 1) := by decide +kernel
theorem dX6_mixedRound_1 : decode cX6_mixedRound 1 = .ok (.lstore 4, 2) := by decide +kernel
theorem dX6_mixedRound_3 : decode cX6_mixedRound 3 = .ok (.iconst 0, 1) := by decide +kernel
theorem dX6_mixedRound_4 : decode cX6_mixedRound 4 = .ok (.istore 6, 2) := by decide +kernel
theorem dX6_mixedRound_6 : decode cX6_mixedRound 6 = .ok (.iload 6, 2) := by decide +kernel
theorem dX6_mixedRound_8 : decode cX6_mixedRound 8 = .ok (.bipush 10, 2) := by decide +kernel
theorem dX6_mixedRound_10 : decode cX6_mixedRound 10 = .ok (.if_icmp .gt 23, 3) := by decide +kernel
theorem dX6_mixedRound_13 : decode cX6_mixedRound 13 = .ok (.lload 4, 2) := by decide +kernel
theorem dX6_mixedRound_15 : decode cX6_mixedRound 15 = .ok (.aload_n 0, 1) := by decide +kernel
theorem dX6_mixedRound_16 : decode cX6_mixedRound 16 = .ok (.iload_n 3, 1) := by decide +kernel
theorem dX6_mixedRound_17 : decode cX6_mixedRound 17 = .ok (.iload 6, 2) := by decide +kernel
theorem dX6_mixedRound_19 : decode cX6_mixedRound 19 = .ok (.invokevirtual 124, 3) := by decide +kernel
theorem dX6_mixedRound_22 : decode cX6_mixedRound 22 = .ok (.invokestatic 207, 3) := by decide +kernel
theorem dX6_mixedRound_25 : decode cX6_mixedRound 25 = .ok (.lstore 4, 2) := by decide +kernel
theorem dX6_mixedRound_27 : decode cX6_mixedRound 27 = .ok (.iinc 6 1, 3) := by decide +kernel
theorem dX6_mixedRound_30 : decode cX6_mixedRound 30 = .ok (.goto (-24), 3) := by decide +kernel
theorem dX6_mixedRound_33 : decode cX6_mixedRound 33 = .ok (.aload_n 0, 1) := by decide +kernel
theorem dX6_mixedRound_34 : decode cX6_mixedRound 34 = .ok (.getfield 10, 3) := by decide +kernel
theorem dX6_mixedRound_37 : decode cX6_mixedRound 37 = .ok (.getfield 128, 3) := by decide +kernel
theorem dX6_mixedRound_40 : decode cX6_mixedRound 40 = .ok (.iload_n 3, 1) := by decide +kernel
theorem dX6_mixedRound_41 : decode cX6_mixedRound 41 = .ok (.invokevirtual 114, 3) := by decide +kernel
theorem dX6_mixedRound_44 : decode cX6_mixedRound 44 = .ok (.istore 6, 2) := by decide +kernel
theorem dX6_mixedRound_46 : decode cX6_mixedRound 46 = .ok (.iconst 0, 1) := by decide +kernel
theorem dX6_mixedRound_47 : decode cX6_mixedRound 47 = .ok (.istore 7, 2) := by decide +kernel
theorem dX6_mixedRound_49 : decode cX6_mixedRound 49 = .ok (.iload 7, 2) := by decide +kernel
theorem dX6_mixedRound_51 : decode cX6_mixedRound 51 = .ok (.iload 6, 2) := by decide +kernel
theorem dX6_mixedRound_53 : decode cX6_mixedRound 53 = .ok (.if_icmp .ge 26, 3) := by decide +kernel
theorem dX6_mixedRound_56 : decode cX6_mixedRound 56 = .ok (.lload 4, 2) := by decide +kernel
theorem dX6_mixedRound_58 : decode cX6_mixedRound 58 = .ok (.aload_n 0, 1) := by decide +kernel
theorem dX6_mixedRound_59 : decode cX6_mixedRound 59 = .ok (.getfield 10, 3) := by decide +kernel
theorem dX6_mixedRound_62 : decode cX6_mixedRound 62 = .ok (.iload_n 3, 1) := by decide +kernel
theorem dX6_mixedRound_63 : decode cX6_mixedRound 63 = .ok (.iload 7, 2) := by decide +kernel
theorem dX6_mixedRound_65 : decode cX6_mixedRound 65 = .ok (.invokevirtual 131, 3) := by decide +kernel
theorem dX6_mixedRound_68 : decode cX6_mixedRound 68 = .ok (.invokestatic 207, 3) := by decide +kernel
theorem dX6_mixedRound_71 : decode cX6_mixedRound 71 = .ok (.lstore 4, 2) := by decide +kernel
theorem dX6_mixedRound_73 : decode cX6_mixedRound 73 = .ok (.iinc 7 1, 3) := by decide +kernel
theorem dX6_mixedRound_76 : decode cX6_mixedRound 76 = .ok (.goto (-27), 3) := by decide +kernel
theorem dX6_mixedRound_79 : decode cX6_mixedRound 79 = .ok (.lload 4, 2) := by decide +kernel
theorem dX6_mixedRound_81 : decode cX6_mixedRound 81 = .ok (.lreturn, 1) := by decide +kernel
set_option maxRecDepth 20000 in
theorem ggX6_fittingRounds_X4_lastTotal : GoodIn wsX6_fittingRounds wsX4_lastTotal := goodIn_r _ [10, 11, 12, 13, 14, 15, 16, 17, 18, 83, 84, 85, 86, 87, 88, 99] (by decide +kernel) (by decide +kernel)
set_option maxRecDepth 20000 in
theorem gX6_fittingRounds_X4_lastTotal : GoodIn wsX6_fittingRounds (wsV RX6 77 RX4 yX4_lastTotal wsX4_lastTotal) := goodIn_app (goodIn_of _ (by decide +kernel)) ggX6_fittingRounds_X4_lastTotal
set_option maxRecDepth 20000 in
theorem ggX6_fittingRounds_X3_rewind : GoodIn wsX6_fittingRounds wsX3_rewind := goodIn_r _ [23, 24, 25, 89, 90, 91, 92, 93, 94, 95, 96, 97, 98] (by decide +kernel) (by decide +kernel)
set_option maxRecDepth 20000 in
theorem gX6_fittingRounds_X3_rewind : GoodIn wsX6_fittingRounds (wsV RX6 190 RX3 yX3_rewind wsX3_rewind) := goodIn_app (goodIn_of _ (by decide +kernel)) ggX6_fittingRounds_X3_rewind
set_option maxRecDepth 20000 in
theorem ggX6_fittingRounds_X3_hasMore : GoodIn wsX6_fittingRounds wsX3_hasMore := goodIn_r _ [29, 24, 30, 89, 90, 91, 92, 93, 94, 95, 96, 97, 98] (by decide +kernel) (by decide +kernel)
set_option maxRecDepth 20000 in
theorem gX6_fittingRounds_X3_hasMore : GoodIn wsX6_fittingRounds (wsV RX6 302 RX3 yX3_hasMore wsX3_hasMore) := goodIn_app (goodIn_of _ (by decide +kernel)) ggX6_fittingRounds_X3_hasMore
set_option maxRecDepth 20000 in
theorem ggX6_fittingRounds_X3_readRound : GoodIn wsX6_fittingRounds wsX3_readRound := goodIn_r _ [34, 35, 36, 37, 38, 25, 24, 39, 40, 41, 22, 42, 43, 44, 45, 46, 47, 48, 49, 50, 27, 28, 29, 30, 51, 14, 15, 16, 17, 18, 52, 53, 54, 55, 56, 57, 58, 59, 60, 61, 62, 63, 64, 65, 66, 67, 68, 69, 70, 71, 72, 73, 74, 89, 90, 91, 92, 93, 94, 95, 96, 97, 98, 99] (by decide +kernel) (by decide +kernel)
set_option maxRecDepth 20000 in
theorem gX6_fittingRounds_X3_readRound : GoodIn wsX6_fittingRounds (wsV RX6 193 RX3 yX3_readRound wsX3_readRound) := goodIn_app (goodIn_of _ (by decide +kernel)) ggX6_fittingRounds_X3_readRound
set_option maxRecDepth 20000 in
theorem ggX6_fittingRounds_X6_isGoal : GoodIn wsX6_fittingRounds wsX6_isGoal := goodIn_r _ [77] (by decide +kernel) (by decide +kernel)
set_option maxRecDepth 20000 in
theorem gX6_fittingRounds_X6_isGoal : GoodIn wsX6_fittingRounds (va_wsS RX6 70 yX6_isGoal wsX6_isGoal) := goodIn_app (goodIn_of _ (by decide +kernel)) ggX6_fittingRounds_X6_isGoal
theorem dX6_fittingRounds_0 : decode cX6_fittingRounds 0 = .ok (.aload_n 0, 1) := by decide +kernel
theorem dX6_fittingRounds_1 : decode cX6_fittingRounds 1 = .ok (.getfield 10, 3) := by decide +kernel
theorem dX6_fittingRounds_4 : decode cX6_fittingRounds 4 = .ok (.invokevirtual 77, 3) := by decide +kernel
theorem dX6_fittingRounds_7 : decode cX6_fittingRounds 7 = .ok (.istore_n 1, 1) := by decide +kernel
theorem dX6_fittingRounds_8 : decode cX6_fittingRounds 8 = .ok (.bipush 40, 2) := by decide +kernel
theorem dX6_fittingRounds_10 : decode cX6_fittingRounds 10 = .ok (.aload_n 0, 1) := by decide +kernel
theorem dX6_fittingRounds_11 : decode cX6_fittingRounds 11 = .ok (.getfield 10, 3) := by decide +kernel
theorem dX6_fittingRounds_14 : decode cX6_fittingRounds 14 = .ok (.getfield 62, 3) := by decide +kernel
theorem dX6_fittingRounds_17 : decode cX6_fittingRounds 17 = .ok (.isub, 1) := by decide +kernel
theorem dX6_fittingRounds_18 : decode cX6_fittingRounds 18 = .ok (.istore_n 2, 1) := by decide +kernel
theorem dX6_fittingRounds_19 : decode cX6_fittingRounds 19 = .ok (.iconst 0, 1) := by decide +kernel
theorem dX6_fittingRounds_20 : decode cX6_fittingRounds 20 = .ok (.istore_n 3, 1) := by decide +kernel
theorem dX6_fittingRounds_21 : decode cX6_fittingRounds 21 = .ok (.aload_n 0, 1) := by decide +kernel
theorem dX6_fittingRounds_22 : decode cX6_fittingRounds 22 = .ok (.getfield 26, 3) := by decide +kernel
theorem dX6_fittingRounds_25 : decode cX6_fittingRounds 25 = .ok (.invokevirtual 190, 3) := by decide +kernel
theorem dX6_fittingRounds_28 : decode cX6_fittingRounds 28 = .ok (.iload_n 3, 1) := by decide +kernel
theorem dX6_fittingRounds_29 : decode cX6_fittingRounds 29 = .ok (.iload_n 2, 1) := by decide +kernel
theorem dX6_fittingRounds_30 : decode cX6_fittingRounds 30 = .ok (.if_icmp .ge 60, 3) := by decide +kernel
theorem dX6_fittingRounds_33 : decode cX6_fittingRounds 33 = .ok (.aload_n 0, 1) := by decide +kernel
theorem dX6_fittingRounds_34 : decode cX6_fittingRounds 34 = .ok (.getfield 26, 3) := by decide +kernel
theorem dX6_fittingRounds_37 : decode cX6_fittingRounds 37 = .ok (.invokevirtual 302, 3) := by decide +kernel
theorem dX6_fittingRounds_40 : decode cX6_fittingRounds 40 = .ok (.ifCond .eq 50, 3) := by decide +kernel
theorem dX6_fittingRounds_43 : decode cX6_fittingRounds 43 = .ok (.aload_n 0, 1) := by decide +kernel
theorem dX6_fittingRounds_44 : decode cX6_fittingRounds 44 = .ok (.getfield 26, 3) := by decide +kernel
theorem dX6_fittingRounds_47 : decode cX6_fittingRounds 47 = .ok (.invokevirtual 193, 3) := by decide +kernel
theorem dX6_fittingRounds_50 : decode cX6_fittingRounds 50 = .ok (.aload_n 0, 1) := by decide +kernel
theorem dX6_fittingRounds_51 : decode cX6_fittingRounds 51 = .ok (.getfield 26, 3) := by decide +kernel
theorem dX6_fittingRounds_54 : decode cX6_fittingRounds 54 = .ok (.getfield 306, 3) := by decide +kernel
theorem dX6_fittingRounds_57 : decode cX6_fittingRounds 57 = .ok (.iload_n 1, 1) := by decide +kernel
theorem dX6_fittingRounds_58 : decode cX6_fittingRounds 58 = .ok (.if_icmp .ne 16, 3) := by decide +kernel
theorem dX6_fittingRounds_61 : decode cX6_fittingRounds 61 = .ok (.aload_n 0, 1) := by decide +kernel
theorem dX6_fittingRounds_62 : decode cX6_fittingRounds 62 = .ok (.getfield 26, 3) := by decide +kernel
theorem dX6_fittingRounds_65 : decode cX6_fittingRounds 65 = .ok (.getfield 309, 3) := by decide +kernel
theorem dX6_fittingRounds_68 : decode cX6_fittingRounds 68 = .ok (.invokestatic 70, 3) := by decide +kernel
theorem dX6_fittingRounds_71 : decode cX6_fittingRounds 71 = .ok (.ifCond .ne 5, 3) := by decide +kernel
theorem dX6_fittingRounds_74 : decode cX6_fittingRounds 74 = .ok (.iload_n 3, 1) := by decide +kernel
theorem dX6_fittingRounds_75 : decode cX6_fittingRounds 75 = .ok (.ireturn, 1) := by decide +kernel
theorem dX6_fittingRounds_76 : decode cX6_fittingRounds 76 = .ok (.aload_n 0, 1) := by decide +kernel
theorem dX6_fittingRounds_77 : decode cX6_fittingRounds 77 = .ok (.getfield 26, 3) := by decide +kernel
theorem dX6_fittingRounds_80 : decode cX6_fittingRounds 80 = .ok (.getfield 309, 3) := by decide +kernel
theorem dX6_fittingRounds_83 : decode cX6_fittingRounds 83 = .ok (.istore_n 1, 1) := by decide +kernel
theorem dX6_fittingRounds_84 : decode cX6_fittingRounds 84 = .ok (.iinc 3 1, 3) := by decide +kernel
theorem dX6_fittingRounds_87 : decode cX6_fittingRounds 87 = .ok (.goto (-59), 3) := by decide +kernel
theorem dX6_fittingRounds_90 : decode cX6_fittingRounds 90 = .ok (.iload_n 3, 1) := by decide +kernel
theorem dX6_fittingRounds_91 : decode cX6_fittingRounds 91 = .ok (.ireturn, 1) := by decide +kernel
theorem dX6_usedBy_0 : decode cX6_usedBy 0 = .ok (.iload_n 0, 1) := by decide +kernel
theorem dX6_usedBy_1 : decode cX6_usedBy 1 = .ok (.iconst 2, 1) := by decide +kernel
theorem dX6_usedBy_2 : decode cX6_usedBy 2 = .ok (.if_icmp .ne 7, 3) := by decide +kernel
theorem dX6_usedBy_5 : decode cX6_usedBy 5 = .ok (.iconst 2, 1) := by decide +kernel
theorem dX6_usedBy_6 : decode cX6_usedBy 6 = .ok (.goto 4, 3) := by decide +kernel
theorem dX6_usedBy_9 : decode cX6_usedBy 9 = .ok (.iconst 1, 1) := by decide +kernel
theorem dX6_usedBy_10 : decode cX6_usedBy 10 = .ok (.ireturn, 1) := by decide +kernel
theorem dX6_madeBy_0 : decode cX6_madeBy 0 = .ok (.iload_n 0, 1) := by decide +kernel
theorem dX6_madeBy_1 : decode cX6_madeBy 1 = .ok (.iconst 1, 1) := by decide +kernel
theorem dX6_madeBy_2 : decode cX6_madeBy 2 = .ok (.if_icmp .ne 7, 3) := by decide +kernel
theorem dX6_madeBy_5 : decode cX6_madeBy 5 = .ok (.iconst 2, 1) := by decide +kernel
theorem dX6_madeBy_6 : decode cX6_madeBy 6 = .ok (.goto 4, 3) := by decide +kernel
theorem dX6_madeBy_9 : decode cX6_madeBy 9 = .ok (.iconst 1, 1) := by decide +kernel
theorem dX6_madeBy_10 : decode cX6_madeBy 10 = .ok (.ireturn, 1) := by decide +kernel
