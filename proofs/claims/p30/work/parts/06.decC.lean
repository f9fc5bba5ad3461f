theorem dL_cell_0 : decode cL_cell 0 = .ok (.iload_n 1, 1) := by decide +kernel
theorem dL_cell_1 : decode cL_cell 1 = .ok (.aload_n 0, 1) := by decide +kernel
theorem dL_cell_2 : decode cL_cell 2 = .ok (.arraylength, 1) := by decide +kernel
theorem dL_cell_3 : decode cL_cell 3 = .ok (.if_icmp .ge 9, 3) := by decide +kernel
theorem dL_cell_6 : decode cL_cell 6 = .ok (.aload_n 0, 1) := by decide +kernel
theorem dL_cell_7 : decode cL_cell 7 = .ok (.iload_n 1, 1) := by decide +kernel
theorem dL_cell_8 : decode cL_cell 8 = .ok (.iaload, 1) := by decide +kernel
theorem dL_cell_9 : decode cL_cell 9 = .ok (.goto 9, 3) := by decide +kernel
theorem dL_cell_12 : decode cL_cell 12 = .ok (.ldc 7, 2) := by decide +kernel
theorem dL_cell_14 : decode cL_cell 14 = .ok (.iload_n 1, 1) := by decide +kernel
theorem dL_cell_15 : decode cL_cell 15 = .ok (.iconst 3, 1) := by decide +kernel
theorem dL_cell_16 : decode cL_cell 16 = .ok (.iadd, 1) := by decide +kernel
theorem dL_cell_17 : decode cL_cell 17 = .ok (.imul, 1) := by decide +kernel
theorem dL_cell_18 : decode cL_cell 18 = .ok (.ireturn, 1) := by decide +kernel
theorem dL_low_0 : decode cL_low 0 = .ok (.iload_n 0, 1) := by decide +kernel
theorem dL_low_1 : decode cL_low 1 = .ok (.ldc 8, 2) := by decide +kernel
theorem dL_low_3 : decode cL_low 3 = .ok (.iand, 1) := by decide +kernel
theorem dL_low_4 : decode cL_low 4 = .ok (.iload_n 1, 1) := by decide +kernel
theorem dL_low_5 : decode cL_low 5 = .ok (.irem, 1) := by decide +kernel
theorem dL_low_6 : decode cL_low 6 = .ok (.ireturn, 1) := by decide +kernel
set_option maxRecDepth 20000 in
theorem ggL_begins_X6_begin : GoodIn wsL_begins wsX6_begin := goodIn_ca (goodIn_r _ [6, 7, 8, 9, 10, 11, 5, 12, 13, 14, 15, 16, 17, 18, 19, 20, 21, 22, 23, 24, 25, 26, 27, 28, 29, 30, 31, 32, 33, 34, 35, 36, 37, 38, 39, 40, 41, 42, 43, 44, 45, 46, 47, 48, 49, 50, 51, 52, 53, 54, 55, 56, 57, 58, 59, 60, 61, 62, 63, 64, 65, 66, 67, 68, 69, 70, 71, 72, 73, 74, 75, 76, 77, 78, 79, 80, 81, 82, 83, 84, 85, 86, 87, 88, 89, 90] (by decide +kernel) (by decide +kernel)) (goodIn_sub (fun _ h => List.mem_cons_of_mem _ (List.mem_append_right _ h)) (by decide +kernel))
set_option maxRecDepth 20000 in
theorem gL_begins_X6_begin : GoodIn wsL_begins (wsV RL 9 RX6 yX6_begin wsX6_begin) := goodIn_app (goodIn_of _ (by decide +kernel)) ggL_begins_X6_begin
theorem dL_begins_0 : decode cL_begins 0 = .ok (.aload_n 0, 1) := by decide +kernel
theorem dL_begins_1 : decode cL_begins 1 = .ok (.iload_n 1, 1) := by decide +kernel
theorem dL_begins_2 : decode cL_begins 2 = .ok (.invokevirtual 9, 3) := by decide +kernel
theorem dL_begins_5 : decode cL_begins 5 = .ok (.ireturn, 1) := by decide +kernel
theorem dL_begins_6 : decode cL_begins 6 = .ok (.astore_n 2, 1) := by decide +kernel
theorem dL_begins_7 : decode cL_begins 7 = .ok (.sipush (-30001), 3) := by decide +kernel
theorem dL_begins_10 : decode cL_begins 10 = .ok (.ireturn, 1) := by decide +kernel
set_option maxRecDepth 20000 in
theorem ggL_adds_X6_addRound : GoodIn wsL_adds wsX6_addRound := goodIn_ca (goodIn_ca (goodIn_ca (goodIn_r _ [8, 9, 10, 11, 12, 13, 7, 14, 15, 16, 17, 18, 19, 20, 21, 22, 23, 24, 25, 26, 27, 28, 29, 30, 31, 32, 33, 34, 35, 36, 37, 38, 39, 40, 41, 42, 43, 44, 45, 46, 47, 48, 49, 50, 51, 52, 53, 54, 55, 56, 57, 58, 59, 60, 61, 62, 63, 64, 65, 66, 67, 68, 69, 70, 71, 72, 73, 74, 75, 76, 77, 78, 79, 80, 81, 82, 83, 84, 85, 86, 87, 88, 89, 90, 91, 92, 93, 94, 95, 96, 97, 98, 99, 100, 101, 102, 103, 104, 105, 106, 107, 108, 109, 110, 111, 112, 113, 114, 115, 116, 117, 118, 119, 120, 121, 122, 123, 124, 125, 126, 127, 128, 129, 130, 131, 132, 133, 134, 135, 136, 137, 138, 139, 140, 141, 142, 143, 144, 145, 146, 147, 148, 149, 150, 151, 152, 153, 154, 155, 156, 157, 158, 159, 160, 161, 162, 163, 164, 165, 166, 167] (by decide +kernel) (by decide +kernel)) (goodIn_sub (fun _ h => List.mem_cons_of_mem _ (List.mem_append_left _ (List.mem_append_left _ (List.mem_append_right _ h)))) (by decide +kernel))) (goodIn_sub (fun _ h => List.mem_cons_of_mem _ (List.mem_append_left _ (List.mem_append_right _ h))) (by decide +kernel))) (goodIn_sub (fun _ h => List.mem_cons_of_mem _ (List.mem_append_right _ h)) (by decide +kernel))
set_option maxRecDepth 20000 in
theorem gL_adds_X6_addRound : GoodIn wsL_adds (wsV RL 17 RX6 yX6_addRound wsX6_addRound) := goodIn_app (goodIn_of _ (by decide +kernel)) ggL_adds_X6_addRound
theorem dL_adds_0 : decode cL_adds 0 = .ok (.aload_n 0, 1) := by decide +kernel
theorem dL_adds_1 : decode cL_adds 1 = .ok (.iload_n 1, 1) := by decide +kernel
theorem dL_adds_2 : decode cL_adds 2 = .ok (.invokevirtual 17, 3) := by decide +kernel
theorem dL_adds_5 : decode cL_adds 5 = .ok (.ireturn, 1) := by decide +kernel
theorem dL_adds_6 : decode cL_adds 6 = .ok (.astore_n 2, 1) := by decide +kernel
theorem dL_adds_7 : decode cL_adds 7 = .ok (.sipush (-30001), 3) := by decide +kernel
theorem dL_adds_10 : decode cL_adds 10 = .ok (.ireturn, 1) := by decide +kernel
theorem dL_adds_11 : decode cL_adds 11 = .ok (.astore_n 2, 1) := by decide +kernel
theorem dL_adds_12 : decode cL_adds 12 = .ok (.sipush (-30002), 3) := by decide +kernel
theorem dL_adds_15 : decode cL_adds 15 = .ok (.ireturn, 1) := by decide +kernel
theorem dL_adds_16 : decode cL_adds 16 = .ok (.astore_n 2, 1) := by decide +kernel
theorem dL_adds_17 : decode cL_adds 17 = .ok (.sipush (-30003), 3) := by decide +kernel
theorem dL_adds_20 : decode cL_adds 20 = .ok (.ireturn, 1) := by decide +kernel
set_option maxRecDepth 20000 in
theorem ggL_shifts_X6_addShifted : GoodIn wsL_shifts wsX6_addShifted := goodIn_ca (goodIn_ca (goodIn_ca (goodIn_r _ [8, 9, 10, 11, 12, 13, 7, 14, 15, 16, 17, 18, 19, 20, 21, 22, 23, 24, 25, 26, 27, 28, 29, 30, 31, 32, 33, 34, 35, 36, 37, 38, 39, 40, 41, 42, 43, 44, 45, 46, 47, 48, 49, 50, 51, 52, 53, 54, 55, 56, 57, 58, 59, 60, 61, 62, 63, 64, 65, 66, 67, 68, 69, 70, 71, 72, 73, 74, 75, 76, 77, 78, 79, 80, 81, 82, 83, 84, 85, 86, 87, 88, 89, 90, 91, 92, 93, 94, 95, 96, 97, 98, 99, 100, 101, 102, 103, 104, 105, 106, 107, 108, 109, 110, 111, 112, 113, 114, 115, 116, 117, 118, 119, 120, 121, 122, 123, 124, 125, 126, 127, 128, 129, 130, 131, 132, 133, 134, 135, 136, 137, 138, 139, 140, 141, 142, 143, 144, 145, 146, 147, 148, 149, 150, 151, 152, 153, 154, 155, 156, 157, 158, 159, 160, 161, 162, 163, 164] (by decide +kernel) (by decide +kernel)) (goodIn_sub (fun _ h => List.mem_cons_of_mem _ (List.mem_append_left _ (List.mem_append_left _ (List.mem_append_right _ h)))) (by decide +kernel))) (goodIn_sub (fun _ h => List.mem_cons_of_mem _ (List.mem_append_left _ (List.mem_append_right _ h))) (by decide +kernel))) (goodIn_sub (fun _ h => List.mem_cons_of_mem _ (List.mem_append_right _ h)) (by decide +kernel))
set_option maxRecDepth 20000 in
theorem gL_shifts_X6_addShifted : GoodIn wsL_shifts (wsV RL 24 RX6 yX6_addShifted wsX6_addShifted) := goodIn_app (goodIn_of _ (by decide +kernel)) ggL_shifts_X6_addShifted
theorem dL_shifts_0 : decode cL_shifts 0 = .ok (.aload_n 0, 1) := by decide +kernel
theorem dL_shifts_1 : decode cL_shifts 1 = .ok (.iload_n 1, 1) := by decide +kernel
theorem dL_shifts_2 : decode cL_shifts 2 = .ok (.iload_n 2, 1) := by decide +kernel
theorem dL_shifts_3 : decode cL_shifts 3 = .ok (.invokevirtual 24, 3) := by decide +kernel
theorem dL_shifts_6 : decode cL_shifts 6 = .ok (.ireturn, 1) := by decide +kernel
theorem dL_shifts_7 : decode cL_shifts 7 = .ok (.astore_n 3, 1) := by decide +kernel
theorem dL_shifts_8 : decode cL_shifts 8 = .ok (.sipush (-30001), 3) := by decide +kernel
theorem dL_shifts_11 : decode cL_shifts 11 = .ok (.ireturn, 1) := by decide +kernel
theorem dL_shifts_12 : decode cL_shifts 12 = .ok (.astore_n 3, 1) := by decide +kernel
theorem dL_shifts_13 : decode cL_shifts 13 = .ok (.sipush (-30002), 3) := by decide +kernel
theorem dL_shifts_16 : decode cL_shifts 16 = .ok (.ireturn, 1) := by decide +kernel
theorem dL_shifts_17 : decode cL_shifts 17 = .ok (.astore_n 3, 1) := by decide +kernel
theorem dL_shifts_18 : decode cL_shifts 18 = .ok (.sipush (-30003), 3) := by decide +kernel
theorem dL_shifts_21 : decode cL_shifts 21 = .ok (.ireturn, 1) := by decide +kernel
set_option maxRecDepth 20000 in
theorem ggL_mirrors_X6_addMirrored : GoodIn wsL_mirrors wsX6_addMirrored := goodIn_ca (goodIn_ca (goodIn_ca (goodIn_r _ [8, 9, 10, 11, 12, 13, 7, 14, 15, 16, 17, 18, 19, 20, 21, 22, 23, 24, 25, 26, 27, 28, 29, 30, 31, 32, 33, 34, 35, 36, 37, 38, 39, 40, 41, 42, 43, 44, 45, 46, 47, 48, 49, 50, 51, 52, 53, 54, 55, 56, 57, 58, 59, 60, 61, 62, 63, 64, 65, 66, 67, 68, 69, 70, 71, 72, 73, 74, 75, 76, 77, 78, 79, 80, 81, 82, 83, 84, 85, 86, 87, 88, 89, 90, 91, 92, 93, 94, 95, 96, 97, 98, 99, 100, 101, 102, 103, 104, 105, 106, 107, 108, 109, 110, 111, 112, 113, 114, 115, 116, 117, 118, 119, 120, 121, 122, 123, 124, 125, 126, 127, 128, 129, 130, 131, 132, 133, 134, 135, 136, 137, 138, 139, 140, 141, 142, 143, 144, 145, 146, 147, 148, 149, 150, 151, 152, 153, 154, 155, 156, 157, 158, 159, 160, 161] (by decide +kernel) (by decide +kernel)) (goodIn_sub (fun _ h => List.mem_cons_of_mem _ (List.mem_append_left _ (List.mem_append_left _ (List.mem_append_right _ h)))) (by decide +kernel))) (goodIn_sub (fun _ h => List.mem_cons_of_mem _ (List.mem_append_left _ (List.mem_append_right _ h))) (by decide +kernel))) (goodIn_sub (fun _ h => List.mem_cons_of_mem _ (List.mem_append_right _ h)) (by decide +kernel))
set_option maxRecDepth 20000 in
theorem gL_mirrors_X6_addMirrored : GoodIn wsL_mirrors (wsV RL 28 RX6 yX6_addMirrored wsX6_addMirrored) := goodIn_app (goodIn_of _ (by decide +kernel)) ggL_mirrors_X6_addMirrored
theorem dL_mirrors_0 : decode cL_mirrors 0 = .ok (.aload_n 0, 1) := by decide +kernel
theorem dL_mirrors_1 : decode cL_mirrors 1 = .ok (.iload_n 1, 1) := by decide +kernel
theorem dL_mirrors_2 : decode cL_mirrors 2 = .ok (.invokevirtual 28, 3) := by decide +kernel
theorem dL_mirrors_5 : decode cL_mirrors 5 = .ok (.ireturn, 1) := by decide +kernel
theorem dL_mirrors_6 : decode cL_mirrors 6 = .ok (.astore_n 2, 1) := by decide +kernel
theorem dL_mirrors_7 : decode cL_mirrors 7 = .ok (.sipush (-30001), 3) := by decide +kernel
theorem dL_mirrors_10 : decode cL_mirrors 10 = .ok (.ireturn, 1) := by decide +kernel
theorem dL_mirrors_11 : decode cL_mirrors 11 = .ok (.astore_n 2, 1) := by decide +kernel
theorem dL_mirrors_12 : decode cL_mirrors 12 = .ok (.sipush (-30002), 3) := by decide +kernel
theorem dL_mirrors_15 : decode cL_mirrors 15 = .ok (.ireturn, 1) := by decide +kernel
theorem dL_mirrors_16 : decode cL_mirrors 16 = .ok (.astore_n 2, 1) := by decide +kernel
theorem dL_mirrors_17 : decode cL_mirrors 17 = .ok (.sipush (-30003), 3) := by decide +kernel
theorem dL_mirrors_20 : decode cL_mirrors 20 = .ok (.ireturn, 1) := by decide +kernel
set_option maxRecDepth 20000 in
theorem ggL_shapes_X6_addShape : GoodIn wsL_shapes wsX6_addShape := goodIn_ca (goodIn_r _ [6, 7, 8, 9, 10, 11, 12, 5, 13, 14, 15, 16, 17, 18, 19, 20, 21, 22, 23, 24, 25, 26, 27, 28, 29, 30, 31, 32, 33, 34, 35, 36, 37, 38, 39, 40, 41, 42, 43, 44, 45, 46, 47, 48, 49, 50, 51, 52, 53, 54, 55, 56, 57, 58, 59, 60, 61, 62, 63, 64, 65, 66, 67, 68, 69, 70, 71, 72, 73, 74, 75, 76, 77, 78, 79, 80, 81, 82, 83, 84, 85, 86, 87, 88, 89, 90, 91, 92, 93, 94, 95, 96, 97, 98, 99, 100, 101, 102, 103, 104, 105, 106, 107, 108, 109, 110, 111, 112, 113, 114, 115, 116, 117, 118, 119, 120, 121, 122, 123, 124, 125, 126, 127, 128, 129, 130, 131, 132, 133, 134, 135, 136, 137, 138, 139, 140, 141, 142, 143, 144, 145, 146, 147, 148, 149, 150, 151, 152, 153, 154, 155, 156, 157, 158, 159, 160, 161, 162, 163, 164, 165, 166, 167, 168, 169] (by decide +kernel) (by decide +kernel)) (goodIn_sub (fun _ h => List.mem_cons_of_mem _ (List.mem_append_right _ h)) (by decide +kernel))
set_option maxRecDepth 20000 in
theorem gL_shapes_X6_addShape : GoodIn wsL_shapes (wsV RL 31 RX6 yX6_addShape wsX6_addShape) := goodIn_app (goodIn_of _ (by decide +kernel)) ggL_shapes_X6_addShape
theorem dL_shapes_0 : decode cL_shapes 0 = .ok (.aload_n 0, 1) := by decide +kernel
theorem dL_shapes_1 : decode cL_shapes 1 = .ok (.iload_n 1, 1) := by decide +kernel
theorem dL_shapes_2 : decode cL_shapes 2 = .ok (.iload_n 2, 1) := by decide +kernel
theorem dL_shapes_3 : decode cL_shapes 3 = .ok (.iload_n 3, 1) := by decide +kernel
theorem dL_shapes_4 : decode cL_shapes 4 = .ok (.invokevirtual 31, 3) := by decide +kernel
theorem dL_shapes_7 : decode cL_shapes 7 = .ok (.ireturn, 1) := by decide +kernel
theorem dL_shapes_8 : decode cL_shapes 8 = .ok (.astore 4, 2) := by decide +kernel
theorem dL_shapes_10 : decode cL_shapes 10 = .ok (.sipush (-30001), 3) := by decide +kernel
theorem dL_shapes_13 : decode cL_shapes 13 = .ok (.ireturn, 1) := by decide +kernel
set_option maxRecDepth 20000 in
theorem ggL_rips_X6_rip : GoodIn wsL_rips wsX6_rip := goodIn_ca (goodIn_ca (goodIn_r _ [7, 8, 9, 10, 11, 12, 6, 13, 14, 15, 16, 17, 18, 19, 20, 21, 22, 23, 24, 25, 26, 27, 28, 29, 30, 31, 32, 33, 34, 35, 36, 37, 38, 39, 40, 41, 42, 43, 44, 45, 46, 47, 48, 49, 50, 51, 52, 53, 54, 55, 56, 57, 58, 59, 60, 61, 62, 63, 64, 65, 66, 67, 68, 69, 70, 71, 72, 73, 74, 75, 76, 77, 78, 79, 80, 81] (by decide +kernel) (by decide +kernel)) (goodIn_sub (fun _ h => List.mem_cons_of_mem _ (List.mem_append_left _ (List.mem_append_right _ h))) (by decide +kernel))) (goodIn_sub (fun _ h => List.mem_cons_of_mem _ (List.mem_append_right _ h)) (by decide +kernel))
set_option maxRecDepth 20000 in
theorem gL_rips_X6_rip : GoodIn wsL_rips (wsV RL 35 RX6 yX6_rip wsX6_rip) := goodIn_app (goodIn_of _ (by decide +kernel)) ggL_rips_X6_rip
theorem dL_rips_0 : decode cL_rips 0 = .ok (.aload_n 0, 1) := by decide +kernel
theorem dL_rips_1 : decode cL_rips 1 = .ok (.iload_n 1, 1) := by decide +kernel
theorem dL_rips_2 : decode cL_rips 2 = .ok (.invokevirtual 35, 3) := by decide +kernel
theorem dL_rips_5 : decode cL_rips 5 = .ok (.ireturn, 1) := by decide +kernel
theorem dL_rips_6 : decode cL_rips 6 = .ok (.astore_n 2, 1) := by decide +kernel
theorem dL_rips_7 : decode cL_rips 7 = .ok (.sipush (-30001), 3) := by decide +kernel
theorem dL_rips_10 : decode cL_rips 10 = .ok (.ireturn, 1) := by decide +kernel
theorem dL_rips_11 : decode cL_rips 11 = .ok (.astore_n 2, 1) := by decide +kernel
theorem dL_rips_12 : decode cL_rips 12 = .ok (.sipush (-30002), 3) := by decide +kernel
theorem dL_rips_15 : decode cL_rips 15 = .ok (.ireturn, 1) := by decide +kernel
set_option maxRecDepth 20000 in
theorem ggL_yarns_X6_setYarn : GoodIn wsL_yarns wsX6_setYarn := goodIn_ca (goodIn_r _ [6, 7, 8, 9, 10, 11, 5, 12, 13, 14, 15, 16, 17, 18, 19, 20, 21, 22, 23, 24, 25, 26, 27, 28, 29, 30, 31, 32, 33, 34, 35, 36, 37, 38, 39, 40, 41, 42, 43, 44, 45, 46, 47, 48, 49, 50, 51, 52, 53, 54, 55, 56, 57, 58, 59, 60, 61, 62, 63, 64, 65, 66, 67, 68, 69, 70, 71, 72, 73] (by decide +kernel) (by decide +kernel)) (goodIn_sub (fun _ h => List.mem_cons_of_mem _ (List.mem_append_right _ h)) (by decide +kernel))
set_option maxRecDepth 20000 in
theorem gL_yarns_X6_setYarn : GoodIn wsL_yarns (wsV RL 38 RX6 yX6_setYarn wsX6_setYarn) := goodIn_app (goodIn_of _ (by decide +kernel)) ggL_yarns_X6_setYarn
theorem dL_yarns_0 : decode cL_yarns 0 = .ok (.aload_n 0, 1) := by decide +kernel
theorem dL_yarns_1 : decode cL_yarns 1 = .ok (.iload_n 1, 1) := by decide +kernel
theorem dL_yarns_2 : decode cL_yarns 2 = .ok (.iload_n 2, 1) := by decide +kernel
theorem dL_yarns_3 : decode cL_yarns 3 = .ok (.invokevirtual 38, 3) := by decide +kernel
theorem dL_yarns_6 : decode cL_yarns 6 = .ok (.ireturn, 1) := by decide +kernel
theorem dL_yarns_7 : decode cL_yarns 7 = .ok (.astore_n 3, 1) := by decide +kernel
theorem dL_yarns_8 : decode cL_yarns 8 = .ok (.sipush (-30001), 3) := by decide +kernel
theorem dL_yarns_11 : decode cL_yarns 11 = .ok (.ireturn, 1) := by decide +kernel
theorem dL_kind_0 : decode cL_kind 0 = .ok (.aload_n 0, 1) := by decide +kernel
theorem dL_kind_1 : decode cL_kind 1 = .ok (.iconst 4, 1) := by decide +kernel
theorem dL_kind_2 : decode cL_kind 2 = .ok (.iload_n 1, 1) := by decide +kernel
theorem dL_kind_3 : decode cL_kind 3 = .ok (.imul, 1) := by decide +kernel
theorem dL_kind_4 : decode cL_kind 4 = .ok (.iload_n 2, 1) := by decide +kernel
theorem dL_kind_5 : decode cL_kind 5 = .ok (.bipush 32, 2) := by decide +kernel
theorem dL_kind_7 : decode cL_kind 7 = .ok (.idiv, 1) := by decide +kernel
theorem dL_kind_8 : decode cL_kind 8 = .ok (.iadd, 1) := by decide +kernel
theorem dL_kind_9 : decode cL_kind 9 = .ok (.laload, 1) := by decide +kernel
theorem dL_kind_10 : decode cL_kind 10 = .ok (.iload_n 2, 1) := by decide +kernel
theorem dL_kind_11 : decode cL_kind 11 = .ok (.bipush 32, 2) := by decide +kernel
theorem dL_kind_13 : decode cL_kind 13 = .ok (.irem, 1) := by decide +kernel
theorem dL_kind_14 : decode cL_kind 14 = .ok (.iconst 2, 1) := by decide +kernel
theorem dL_kind_15 : decode cL_kind 15 = .ok (.imul, 1) := by decide +kernel
theorem dL_kind_16 : decode cL_kind 16 = .ok (.lshr, 1) := by decide +kernel
theorem dL_kind_17 : decode cL_kind 17 = .ok (.ldc2_w 41, 3) := by decide +kernel
theorem dL_kind_20 : decode cL_kind 20 = .ok (.land, 1) := by decide +kernel
theorem dL_kind_21 : decode cL_kind 21 = .ok (.l2i, 1) := by decide +kernel
theorem dL_kind_22 : decode cL_kind 22 = .ok (.ireturn, 1) := by decide +kernel
set_option maxRecDepth 20000 in
theorem ggL_total_L_kind : GoodIn wsL_total wsL_kind := goodIn_r _ [4, 5] (by decide +kernel) (by decide +kernel)
set_option maxRecDepth 20000 in
theorem gL_total_L_kind : GoodIn wsL_total (va_wsS RL 43 yL_kind wsL_kind) := goodIn_app (goodIn_of _ (by decide +kernel)) ggL_total_L_kind
theorem dL_total_0 : decode cL_total 0 = .ok (.aload_n 0, 1) := by decide +kernel
theorem dL_total_1 : decode cL_total 1 = .ok (.iload_n 2, 1) := by decide +kernel
theorem dL_total_2 : decode cL_total 2 = .ok (.iaload, 1) := by decide +kernel
theorem dL_total_3 : decode cL_total 3 = .ok (.istore_n 3, 1) := by decide +kernel
theorem dL_total_4 : decode cL_total 4 = .ok (.iconst 0, 1) := by decide +kernel
theorem dL_total_5 : decode cL_total 5 = .ok (.istore 4, 2) := by decide +kernel
theorem dL_total_7 : decode cL_total 7 = .ok (.iload 4, 2) := by decide +kernel
theorem dL_total_9 : decode cL_total 9 = .ok (.aload_n 0, 1) := by decide +kernel
theorem dL_total_10 : decode cL_total 10 = .ok (.iload_n 2, 1) := by decide +kernel
theorem dL_total_11 : decode cL_total 11 = .ok (.iaload, 1) := by decide +kernel
theorem dL_total_12 : decode cL_total 12 = .ok (.if_icmp .ge 28, 3) := by decide +kernel
theorem dL_total_15 : decode cL_total 15 = .ok (.iload_n 3, 1) := by decide +kernel
theorem dL_total_16 : decode cL_total 16 = .ok (.aload_n 1, 1) := by decide +kernel
theorem dL_total_17 : decode cL_total 17 = .ok (.iload_n 2, 1) := by decide +kernel
theorem dL_total_18 : decode cL_total 18 = .ok (.iload 4, 2) := by decide +kernel
theorem dL_total_20 : decode cL_total 20 = .ok (.invokestatic 43, 3) := by decide +kernel
theorem dL_total_23 : decode cL_total 23 = .ok (.iconst 1, 1) := by decide +kernel
theorem dL_total_24 : decode cL_total 24 = .ok (.if_icmp .ne 7, 3) := by decide +kernel
theorem dL_total_27 : decode cL_total 27 = .ok (.iconst 1, 1) := by decide +kernel
theorem dL_total_28 : decode cL_total 28 = .ok (.goto 4, 3) := by decide +kernel
theorem dL_total_31 : decode cL_total 31 = .ok (.iconst 0, 1) := by decide +kernel
theorem dL_total_32 : decode cL_total 32 = .ok (.iadd, 1) := by decide +kernel
theorem dL_total_33 : decode cL_total 33 = .ok (.istore_n 3, 1) := by decide +kernel
theorem dL_total_34 : decode cL_total 34 = .ok (.iinc 4 1, 3) := by decide +kernel
theorem dL_total_37 : decode cL_total 37 = .ok (.goto (-30), 3) := by decide +kernel
theorem dL_total_40 : decode cL_total 40 = .ok (.iload_n 3, 1) := by decide +kernel
theorem dL_total_41 : decode cL_total 41 = .ok (.ireturn, 1) := by decide +kernel
set_option maxRecDepth 20000 in
theorem ggL_isMade_L_kind : GoodIn wsL_isMade wsL_kind := goodIn_r _ [4, 5] (by decide +kernel) (by decide +kernel)
set_option maxRecDepth 20000 in
theorem gL_isMade_L_kind : GoodIn wsL_isMade (va_wsS RL 43 yL_kind wsL_kind) := goodIn_app (goodIn_of _ (by decide +kernel)) ggL_isMade_L_kind
theorem dL_isMade_0 : decode cL_isMade 0 = .ok (.iconst 0, 1) := by decide +kernel
theorem dL_isMade_1 : decode cL_isMade 1 = .ok (.istore 5, 2) := by decide +kernel
theorem dL_isMade_3 : decode cL_isMade 3 = .ok (.iconst 0, 1) := by decide +kernel
theorem dL_isMade_4 : decode cL_isMade 4 = .ok (.istore 6, 2) := by decide +kernel
theorem dL_isMade_6 : decode cL_isMade 6 = .ok (.iload 6, 2) := by decide +kernel
theorem dL_isMade_8 : decode cL_isMade 8 = .ok (.aload_n 0, 1) := by decide +kernel
theorem dL_isMade_9 : decode cL_isMade 9 = .ok (.iload_n 2, 1) := by decide +kernel
theorem dL_isMade_10 : decode cL_isMade 10 = .ok (.iaload, 1) := by decide +kernel
theorem dL_isMade_11 : decode cL_isMade 11 = .ok (.if_icmp .ge 67, 3) := by decide +kernel
theorem dL_isMade_14 : decode cL_isMade 14 = .ok (.aload_n 1, 1) := by decide +kernel
theorem dL_isMade_15 : decode cL_isMade 15 = .ok (.iload_n 2, 1) := by decide +kernel
theorem dL_isMade_16 : decode cL_isMade 16 = .ok (.iload 6, 2) := by decide +kernel
theorem dL_isMade_18 : decode cL_isMade 18 = .ok (.invokestatic 43, 3) := by decide +kernel
theorem dL_isMade_21 : decode cL_isMade 21 = .ok (.iconst 1, 1) := by decide +kernel
theorem dL_isMade_22 : decode cL_isMade 22 = .ok (.if_icmp .ne 7, 3) := by decide +kernel
theorem dL_isMade_25 : decode cL_isMade 25 = .ok (.iconst 2, 1) := by decide +kernel
theorem dL_isMade_26 : decode cL_isMade 26 = .ok (.goto 4, 3) := by decide +kernel
theorem dL_isMade_29 : decode cL_isMade 29 = .ok (.iconst 1, 1) := by decide +kernel
theorem dL_isMade_30 : decode cL_isMade 30 = .ok (.istore 7, 2) := by decide +kernel
theorem dL_isMade_32 : decode cL_isMade 32 = .ok (.iload_n 3, 1) := by decide +kernel
theorem dL_isMade_33 : decode cL_isMade 33 = .ok (.iload 5, 2) := by decide +kernel
theorem dL_isMade_35 : decode cL_isMade 35 = .ok (.if_icmp .lt 30, 3) := by decide +kernel
theorem dL_isMade_38 : decode cL_isMade 38 = .ok (.iload_n 3, 1) := by decide +kernel
theorem dL_isMade_39 : decode cL_isMade 39 = .ok (.iload 5, 2) := by decide +kernel
theorem dL_isMade_41 : decode cL_isMade 41 = .ok (.iload 7, 2) := by decide +kernel
theorem dL_isMade_43 : decode cL_isMade 43 = .ok (.iadd, 1) := by decide +kernel
theorem dL_isMade_44 : decode cL_isMade 44 = .ok (.if_icmp .ge 21, 3) := by decide +kernel
theorem dL_isMade_47 : decode cL_isMade 47 = .ok (.aload_n 1, 1) := by decide +kernel
theorem dL_isMade_48 : decode cL_isMade 48 = .ok (.iload_n 2, 1) := by decide +kernel
theorem dL_isMade_49 : decode cL_isMade 49 = .ok (.iload 6, 2) := by decide +kernel
theorem dL_isMade_51 : decode cL_isMade 51 = .ok (.invokestatic 43, 3) := by decide +kernel
theorem dL_isMade_54 : decode cL_isMade 54 = .ok (.iload 4, 2) := by decide +kernel
theorem dL_isMade_56 : decode cL_isMade 56 = .ok (.if_icmp .ne 7, 3) := by decide +kernel
theorem dL_isMade_59 : decode cL_isMade 59 = .ok (.iconst 1, 1) := by decide +kernel
theorem dL_isMade_60 : decode cL_isMade 60 = .ok (.goto 4, 3) := by decide +kernel
theorem dL_isMade_63 : decode cL_isMade 63 = .ok (.iconst 0, 1) := by decide +kernel
theorem dL_isMade_64 : decode cL_isMade 64 = .ok (.ireturn, 1) := by decide +kernel
theorem dL_isMade_65 : decode cL_isMade 65 = .ok (.iload 5, 2) := by decide +kernel
theorem dL_isMade_67 : decode cL_isMade 67 = .ok (.iload 7, 2) := by decide +kernel
theorem dL_isMade_69 : decode cL_isMade 69 = .ok (.iadd, 1) := by decide +kernel
theorem dL_isMade_70 : decode cL_isMade 70 = .ok (.istore 5, 2) := by decide +kernel
theorem dL_isMade_72 : decode cL_isMade 72 = .ok (.iinc 6 1, 3) := by decide +kernel
theorem dL_isMade_75 : decode cL_isMade 75 = .ok (.goto (-69), 3) := by decide +kernel
theorem dL_isMade_78 : decode cL_isMade 78 = .ok (.iconst 0, 1) := by decide +kernel
theorem dL_isMade_79 : decode cL_isMade 79 = .ok (.ireturn, 1) := by decide +kernel
set_option maxRecDepth 20000 in
theorem ggL_stacked_L_kind : GoodIn wsL_stacked wsL_kind := goodIn_r _ [4, 5] (by decide +kernel) (by decide +kernel)
set_option maxRecDepth 20000 in
theorem gL_stacked_L_kind : GoodIn wsL_stacked (va_wsS RL 43 yL_kind wsL_kind) := goodIn_app (goodIn_of _ (by decide +kernel)) ggL_stacked_L_kind
set_option maxRecDepth 20000 in
theorem ggL_stacked_L_isMade : GoodIn wsL_stacked wsL_isMade := goodIn_r _ [8, 1, 2, 3, 4, 5] (by decide +kernel) (by decide +kernel)
set_option maxRecDepth 20000 in
theorem gL_stacked_L_isMade : GoodIn wsL_stacked (va_wsS RL 49 yL_isMade wsL_isMade) := goodIn_app (goodIn_of _ (by decide +kernel)) ggL_stacked_L_isMade
theorem dL_stacked_0 : decode cL_stacked 0 = .ok (.iconst 0, 1) := by decide +kernel
theorem dL_stacked_1 : decode cL_stacked 1 = .ok (.istore_n 3, 1) := by decide +kernel
theorem dL_stacked_2 : decode cL_stacked 2 = .ok (.iconst 0, 1) := by decide +kernel
theorem dL_stacked_3 : decode cL_stacked 3 = .ok (.istore 4, 2) := by decide +kernel
theorem dL_stacked_5 : decode cL_stacked 5 = .ok (.iconst 0, 1) := by decide +kernel
theorem dL_stacked_6 : decode cL_stacked 6 = .ok (.istore 5, 2) := by decide +kernel
theorem dL_stacked_8 : decode cL_stacked 8 = .ok (.iload 5, 2) := by decide +kernel
theorem dL_stacked_10 : decode cL_stacked 10 = .ok (.aload_n 0, 1) := by decide +kernel
theorem dL_stacked_11 : decode cL_stacked 11 = .ok (.iload_n 2, 1) := by decide +kernel
theorem dL_stacked_12 : decode cL_stacked 12 = .ok (.iaload, 1) := by decide +kernel
theorem dL_stacked_13 : decode cL_stacked 13 = .ok (.if_icmp .ge 97, 3) := by decide +kernel
theorem dL_stacked_16 : decode cL_stacked 16 = .ok (.iload_n 2, 1) := by decide +kernel
theorem dL_stacked_17 : decode cL_stacked 17 = .ok (.ifCond .le 93, 3) := by decide +kernel
theorem dL_stacked_20 : decode cL_stacked 20 = .ok (.aload_n 1, 1) := by decide +kernel
theorem dL_stacked_21 : decode cL_stacked 21 = .ok (.iload_n 2, 1) := by decide +kernel
theorem dL_stacked_22 : decode cL_stacked 22 = .ok (.iload 5, 2) := by decide +kernel
theorem dL_stacked_24 : decode cL_stacked 24 = .ok (.invokestatic 43, 3) := by decide +kernel
theorem dL_stacked_27 : decode cL_stacked 27 = .ok (.istore 6, 2) := by decide +kernel
theorem dL_stacked_29 : decode cL_stacked 29 = .ok (.iload 6, 2) := by decide +kernel
theorem dL_stacked_31 : decode cL_stacked 31 = .ok (.iconst 1, 1) := by decide +kernel
theorem dL_stacked_32 : decode cL_stacked 32 = .ok (.if_icmp .ne 17, 3) := by decide +kernel
theorem dL_stacked_35 : decode cL_stacked 35 = .ok (.aload_n 0, 1) := by decide +kernel
theorem dL_stacked_36 : decode cL_stacked 36 = .ok (.aload_n 1, 1) := by decide +kernel
theorem dL_stacked_37 : decode cL_stacked 37 = .ok (.iload_n 2, 1) := by decide +kernel
theorem dL_stacked_38 : decode cL_stacked 38 = .ok (.iconst 1, 1) := by decide +kernel
theorem dL_stacked_39 : decode cL_stacked 39 = .ok (.isub, 1) := by decide +kernel
theorem dL_stacked_40 : decode cL_stacked 40 = .ok (.iload 4, 2) := by decide +kernel
theorem dL_stacked_42 : decode cL_stacked 42 = .ok (.iconst 1, 1) := by decide +kernel
theorem dL_stacked_43 : decode cL_stacked 43 = .ok (.invokestatic 49, 3) := by decide +kernel
theorem dL_stacked_46 : decode cL_stacked 46 = .ok (.ifCond .ne 39, 3) := by decide +kernel
theorem dL_stacked_49 : decode cL_stacked 49 = .ok (.iload 6, 2) := by decide +kernel
theorem dL_stacked_51 : decode cL_stacked 51 = .ok (.iconst 2, 1) := by decide +kernel
theorem dL_stacked_52 : decode cL_stacked 52 = .ok (.if_icmp .ne 36, 3) := by decide +kernel
theorem dL_stacked_55 : decode cL_stacked 55 = .ok (.aload_n 0, 1) := by decide +kernel
theorem dL_stacked_56 : decode cL_stacked 56 = .ok (.aload_n 1, 1) := by decide +kernel
theorem dL_stacked_57 : decode cL_stacked 57 = .ok (.iload_n 2, 1) := by decide +kernel
theorem dL_stacked_58 : decode cL_stacked 58 = .ok (.iconst 1, 1) := by decide +kernel
theorem dL_stacked_59 : decode cL_stacked 59 = .ok (.isub, 1) := by decide +kernel
theorem dL_stacked_60 : decode cL_stacked 60 = .ok (.iload 4, 2) := by decide +kernel
theorem dL_stacked_62 : decode cL_stacked 62 = .ok (.iconst 2, 1) := by decide +kernel
theorem dL_stacked_63 : decode cL_stacked 63 = .ok (.invokestatic 49, 3) := by decide +kernel
theorem dL_stacked_66 : decode cL_stacked 66 = .ok (.ifCond .ne 19, 3) := by decide +kernel
theorem dL_stacked_69 : decode cL_stacked 69 = .ok (.aload_n 0, 1) := by decide +kernel
theorem dL_stacked_70 : decode cL_stacked 70 = .ok (.aload_n 1, 1) := by decide +kernel
theorem dL_stacked_71 : decode cL_stacked 71 = .ok (.iload_n 2, 1) := by decide +kernel
theorem dL_stacked_72 : decode cL_stacked 72 = .ok (.iconst 1, 1) := by decide +kernel
theorem dL_stacked_73 : decode cL_stacked 73 = .ok (.isub, 1) := by decide +kernel
theorem dL_stacked_74 : decode cL_stacked 74 = .ok (.iload 4, 2) := by decide +kernel
theorem dL_stacked_76 : decode cL_stacked 76 = .ok (.iconst 1, 1) := by decide +kernel
theorem dL_stacked_77 : decode cL_stacked 77 = .ok (.iadd, 1) := by decide +kernel
theorem dL_stacked_78 : decode cL_stacked 78 = .ok (.iconst 2, 1) := by decide +kernel
theorem dL_stacked_79 : decode cL_stacked 79 = .ok (.invokestatic 49, 3) := by decide +kernel
theorem dL_stacked_82 : decode cL_stacked 82 = .ok (.ifCond .eq 6, 3) := by decide +kernel
theorem dL_stacked_85 : decode cL_stacked 85 = .ok (.iinc 3 1, 3) := by decide +kernel
theorem dL_stacked_88 : decode cL_stacked 88 = .ok (.iload 4, 2) := by decide +kernel
theorem dL_stacked_90 : decode cL_stacked 90 = .ok (.iload 6, 2) := by decide +kernel
theorem dL_stacked_92 : decode cL_stacked 92 = .ok (.iconst 2, 1) := by decide +kernel
theorem dL_stacked_93 : decode cL_stacked 93 = .ok (.if_icmp .ne 7, 3) := by decide +kernel
theorem dL_stacked_96 : decode cL_stacked 96 = .ok (.iconst 2, 1) := by decide +kernel
theorem dL_stacked_97 : decode cL_stacked 97 = .ok (.goto 4, 3) := by decide +kernel
theorem dL_stacked_100 : decode cL_stacked 100 = .ok (.iconst 1, 1) := by decide +kernel
theorem dL_stacked_101 : decode cL_stacked 101 = .ok (.iadd, 1) := by decide +kernel
theorem dL_stacked_102 : decode cL_stacked 102 = .ok (.istore 4, 2) := by decide +kernel
theorem dL_stacked_104 : decode cL_stacked 104 = .ok (.iinc 5 1, 3) := by decide +kernel
theorem dL_stacked_107 : decode cL_stacked 107 = .ok (.goto (-99), 3) := by decide +kernel
theorem dL_stacked_110 : decode cL_stacked 110 = .ok (.iload_n 3, 1) := by decide +kernel
theorem dL_stacked_111 : decode cL_stacked 111 = .ok (.ireturn, 1) := by decide +kernel
theorem dL_canBe_0 : decode cL_canBe 0 = .ok (.iload_n 0, 1) := by decide +kernel
theorem dL_canBe_1 : decode cL_canBe 1 = .ok (.iconst 2, 1) := by decide +kernel
theorem dL_canBe_2 : decode cL_canBe 2 = .ok (.iload_n 1, 1) := by decide +kernel
theorem dL_canBe_3 : decode cL_canBe 3 = .ok (.imul, 1) := by decide +kernel
theorem dL_canBe_4 : decode cL_canBe 4 = .ok (.if_icmp .gt 14, 3) := by decide +kernel
theorem dL_canBe_7 : decode cL_canBe 7 = .ok (.iconst 2, 1) := by decide +kernel
theorem dL_canBe_8 : decode cL_canBe 8 = .ok (.iload_n 0, 1) := by decide +kernel
theorem dL_canBe_9 : decode cL_canBe 9 = .ok (.imul, 1) := by decide +kernel
theorem dL_canBe_10 : decode cL_canBe 10 = .ok (.iload_n 1, 1) := by decide +kernel
theorem dL_canBe_11 : decode cL_canBe 11 = .ok (.if_icmp .lt 7, 3) := by decide +kernel
theorem dL_canBe_14 : decode cL_canBe 14 = .ok (.iconst 1, 1) := by decide +kernel
theorem dL_canBe_15 : decode cL_canBe 15 = .ok (.goto 4, 3) := by decide +kernel
theorem dL_canBe_18 : decode cL_canBe 18 = .ok (.iconst 0, 1) := by decide +kernel
theorem dL_canBe_19 : decode cL_canBe 19 = .ok (.ireturn, 1) := by decide +kernel
set_option maxRecDepth 20000 in
theorem ggL_lays_L_total : GoodIn wsL_lays wsL_total := goodIn_r _ [5, 6, 7, 4, 8, 9] (by decide +kernel) (by decide +kernel)
set_option maxRecDepth 20000 in
theorem gL_lays_L_total : GoodIn wsL_lays (va_wsS RL 53 yL_total wsL_total) := goodIn_app (goodIn_of _ (by decide +kernel)) ggL_lays_L_total
theorem dL_lays_0 : decode cL_lays 0 = .ok (.aload_n 0, 1) := by decide +kernel
theorem dL_lays_1 : decode cL_lays 1 = .ok (.iconst 0, 1) := by decide +kernel
theorem dL_lays_2 : decode cL_lays 2 = .ok (.iaload, 1) := by decide +kernel
theorem dL_lays_3 : decode cL_lays 3 = .ok (.istore 5, 2) := by decide +kernel
theorem dL_lays_5 : decode cL_lays 5 = .ok (.aload_n 1, 1) := by decide +kernel
theorem dL_lays_6 : decode cL_lays 6 = .ok (.aload_n 2, 1) := by decide +kernel
theorem dL_lays_7 : decode cL_lays 7 = .ok (.iload 5, 2) := by decide +kernel
theorem dL_lays_9 : decode cL_lays 9 = .ok (.iconst 1, 1) := by decide +kernel
theorem dL_lays_10 : decode cL_lays 10 = .ok (.isub, 1) := by decide +kernel
theorem dL_lays_11 : decode cL_lays 11 = .ok (.invokestatic 53, 3) := by decide +kernel
theorem dL_lays_14 : decode cL_lays 14 = .ok (.istore 6, 2) := by decide +kernel
theorem dL_lays_16 : decode cL_lays 16 = .ok (.iload_n 3, 1) := by decide +kernel
theorem dL_lays_17 : decode cL_lays 17 = .ok (.iload 6, 2) := by decide +kernel
theorem dL_lays_19 : decode cL_lays 19 = .ok (.if_icmp .ge 7, 3) := by decide +kernel
theorem dL_lays_22 : decode cL_lays 22 = .ok (.iload_n 3, 1) := by decide +kernel
theorem dL_lays_23 : decode cL_lays 23 = .ok (.goto 5, 3) := by decide +kernel
theorem dL_lays_26 : decode cL_lays 26 = .ok (.iload 6, 2) := by decide +kernel
theorem dL_lays_28 : decode cL_lays 28 = .ok (.istore 7, 2) := by decide +kernel
theorem dL_lays_30 : decode cL_lays 30 = .ok (.iload_n 3, 1) := by decide +kernel
theorem dL_lays_31 : decode cL_lays 31 = .ok (.iload 6, 2) := by decide +kernel
theorem dL_lays_33 : decode cL_lays 33 = .ok (.if_icmp .ge 10, 3) := by decide +kernel
theorem dL_lays_36 : decode cL_lays 36 = .ok (.iload 6, 2) := by decide +kernel
theorem dL_lays_38 : decode cL_lays 38 = .ok (.iload_n 3, 1) := by decide +kernel
theorem dL_lays_39 : decode cL_lays 39 = .ok (.isub, 1) := by decide +kernel
theorem dL_lays_40 : decode cL_lays 40 = .ok (.goto 7, 3) := by decide +kernel
theorem dL_lays_43 : decode cL_lays 43 = .ok (.iload_n 3, 1) := by decide +kernel
theorem dL_lays_44 : decode cL_lays 44 = .ok (.iload 6, 2) := by decide +kernel
theorem dL_lays_46 : decode cL_lays 46 = .ok (.isub, 1) := by decide +kernel
theorem dL_lays_47 : decode cL_lays 47 = .ok (.istore 8, 2) := by decide +kernel
theorem dL_lays_49 : decode cL_lays 49 = .ok (.iconst 0, 1) := by decide +kernel
theorem dL_lays_50 : decode cL_lays 50 = .ok (.istore 9, 2) := by decide +kernel
theorem dL_lays_52 : decode cL_lays 52 = .ok (.iload 9, 2) := by decide +kernel
theorem dL_lays_54 : decode cL_lays 54 = .ok (.iconst 4, 1) := by decide +kernel
theorem dL_lays_55 : decode cL_lays 55 = .ok (.if_icmp .ge 19, 3) := by decide +kernel
theorem dL_lays_58 : decode cL_lays 58 = .ok (.aload_n 2, 1) := by decide +kernel
theorem dL_lays_59 : decode cL_lays 59 = .ok (.iconst 4, 1) := by decide +kernel
theorem dL_lays_60 : decode cL_lays 60 = .ok (.iload 5, 2) := by decide +kernel
theorem dL_lays_62 : decode cL_lays 62 = .ok (.imul, 1) := by decide +kernel
theorem dL_lays_63 : decode cL_lays 63 = .ok (.iload 9, 2) := by decide +kernel
theorem dL_lays_65 : decode cL_lays 65 = .ok (.iadd, 1) := by decide +kernel
theorem dL_lays_66 : decode cL_lays 66 = .ok (.lconst 0, 1) := by decide +kernel
theorem dL_lays_67 : decode cL_lays 67 = .ok (.lastore, 1) := by decide +kernel
theorem dL_lays_68 : decode cL_lays 68 = .ok (.iinc 9 1, 3) := by decide +kernel
theorem dL_lays_71 : decode cL_lays 71 = .ok (.goto (-19), 3) := by decide +kernel
theorem dL_lays_74 : decode cL_lays 74 = .ok (.iconst 0, 1) := by decide +kernel
theorem dL_lays_75 : decode cL_lays 75 = .ok (.istore 9, 2) := by decide +kernel
theorem dL_lays_77 : decode cL_lays 77 = .ok (.iload 9, 2) := by decide +kernel
theorem dL_lays_79 : decode cL_lays 79 = .ok (.iload 7, 2) := by decide +kernel
theorem dL_lays_81 : decode cL_lays 81 = .ok (.if_icmp .ge 176, 3) := by decide +kernel
theorem dL_lays_84 : decode cL_lays 84 = .ok (.iload 4, 2) := by decide +kernel
theorem dL_lays_86 : decode cL_lays 86 = .ok (.ifCond .lt 14, 3) := by decide +kernel
theorem dL_lays_89 : decode cL_lays 89 = .ok (.iload 9, 2) := by decide +kernel
theorem dL_lays_91 : decode cL_lays 91 = .ok (.iload 4, 2) := by decide +kernel
theorem dL_lays_93 : decode cL_lays 93 = .ok (.iadd, 1) := by decide +kernel
theorem dL_lays_94 : decode cL_lays 94 = .ok (.iload 7, 2) := by decide +kernel
theorem dL_lays_96 : decode cL_lays 96 = .ok (.irem, 1) := by decide +kernel
theorem dL_lays_97 : decode cL_lays 97 = .ok (.goto 24, 3) := by decide +kernel
theorem dL_lays_100 : decode cL_lays 100 = .ok (.iload 9, 2) := by decide +kernel
theorem dL_lays_102 : decode cL_lays 102 = .ok (.iload 7, 2) := by decide +kernel
theorem dL_lays_104 : decode cL_lays 104 = .ok (.iconst 2, 1) := by decide +kernel
theorem dL_lays_105 : decode cL_lays 105 = .ok (.idiv, 1) := by decide +kernel
theorem dL_lays_106 : decode cL_lays 106 = .ok (.if_icmp .ge 8, 3) := by decide +kernel
theorem dL_lays_109 : decode cL_lays 109 = .ok (.iload 9, 2) := by decide +kernel
theorem dL_lays_111 : decode cL_lays 111 = .ok (.goto 10, 3) := by decide +kernel
theorem dL_lays_114 : decode cL_lays 114 = .ok (.iload 7, 2) := by decide +kernel
theorem dL_lays_116 : decode cL_lays 116 = .ok (.iconst 1, 1) := by decide +kernel
theorem dL_lays_117 : decode cL_lays 117 = .ok (.isub, 1) := by decide +kernel
theorem dL_lays_118 : decode cL_lays 118 = .ok (.iload 9, 2) := by decide +kernel
theorem dL_lays_120 : decode cL_lays 120 = .ok (.isub, 1) := by decide +kernel
theorem dL_lays_121 : decode cL_lays 121 = .ok (.istore 10, 2) := by decide +kernel
theorem dL_lays_123 : decode cL_lays 123 = .ok (.iload 4, 2) := by decide +kernel
theorem dL_lays_125 : decode cL_lays 125 = .ok (.ifCond .lt 8, 3) := by decide +kernel
theorem dL_lays_128 : decode cL_lays 128 = .ok (.iload 7, 2) := by decide +kernel
theorem dL_lays_130 : decode cL_lays 130 = .ok (.goto 7, 3) := by decide +kernel
theorem dL_lays_133 : decode cL_lays 133 = .ok (.iload 7, 2) := by decide +kernel
theorem dL_lays_135 : decode cL_lays 135 = .ok (.iconst 2, 1) := by decide +kernel
theorem dL_lays_136 : decode cL_lays 136 = .ok (.idiv, 1) := by decide +kernel
theorem dL_lays_137 : decode cL_lays 137 = .ok (.istore 11, 2) := by decide +kernel
theorem dL_lays_139 : decode cL_lays 139 = .ok (.iload 4, 2) := by decide +kernel
theorem dL_lays_141 : decode cL_lays 141 = .ok (.ifCond .lt 8, 3) := by decide +kernel
theorem dL_lays_144 : decode cL_lays 144 = .ok (.iload 8, 2) := by decide +kernel
theorem dL_lays_146 : decode cL_lays 146 = .ok (.goto 7, 3) := by decide +kernel
theorem dL_lays_149 : decode cL_lays 149 = .ok (.iload 8, 2) := by decide +kernel
theorem dL_lays_151 : decode cL_lays 151 = .ok (.iconst 2, 1) := by decide +kernel
theorem dL_lays_152 : decode cL_lays 152 = .ok (.idiv, 1) := by decide +kernel
theorem dL_lays_153 : decode cL_lays 153 = .ok (.istore 12, 2) := by decide +kernel
theorem dL_lays_155 : decode cL_lays 155 = .ok (.iload 10, 2) := by decide +kernel
theorem dL_lays_157 : decode cL_lays 157 = .ok (.iload 11, 2) := by decide +kernel
theorem dL_lays_159 : decode cL_lays 159 = .ok (.if_icmp .lt 19, 3) := by decide +kernel
theorem dL_lays_162 : decode cL_lays 162 = .ok (.iload 8, 2) := by decide +kernel
theorem dL_lays_164 : decode cL_lays 164 = .ok (.iconst 2, 1) := by decide +kernel
theorem dL_lays_165 : decode cL_lays 165 = .ok (.irem, 1) := by decide +kernel
theorem dL_lays_166 : decode cL_lays 166 = .ok (.iconst 1, 1) := by decide +kernel
theorem dL_lays_167 : decode cL_lays 167 = .ok (.if_icmp .ne 7, 3) := by decide +kernel
theorem dL_lays_170 : decode cL_lays 170 = .ok (.iconst 1, 1) := by decide +kernel
theorem dL_lays_171 : decode cL_lays 171 = .ok (.goto 33, 3) := by decide +kernel
theorem dL_lays_174 : decode cL_lays 174 = .ok (.iconst 0, 1) := by decide +kernel
theorem dL_lays_175 : decode cL_lays 175 = .ok (.goto 29, 3) := by decide +kernel
theorem dL_lays_178 : decode cL_lays 178 = .ok (.iload 10, 2) := by decide +kernel
theorem dL_lays_180 : decode cL_lays 180 = .ok (.iconst 1, 1) := by decide +kernel
theorem dL_lays_181 : decode cL_lays 181 = .ok (.iadd, 1) := by decide +kernel
theorem dL_lays_182 : decode cL_lays 182 = .ok (.iload 12, 2) := by decide +kernel
theorem dL_lays_184 : decode cL_lays 184 = .ok (.imul, 1) := by decide +kernel
theorem dL_lays_185 : decode cL_lays 185 = .ok (.iload 11, 2) := by decide +kernel
theorem dL_lays_187 : decode cL_lays 187 = .ok (.idiv, 1) := by decide +kernel
theorem dL_lays_188 : decode cL_lays 188 = .ok (.iload 10, 2) := by decide +kernel
theorem dL_lays_190 : decode cL_lays 190 = .ok (.iload 12, 2) := by decide +kernel
theorem dL_lays_192 : decode cL_lays 192 = .ok (.imul, 1) := by decide +kernel
theorem dL_lays_193 : decode cL_lays 193 = .ok (.iload 11, 2) := by decide +kernel
theorem dL_lays_195 : decode cL_lays 195 = .ok (.idiv, 1) := by decide +kernel
theorem dL_lays_196 : decode cL_lays 196 = .ok (.if_icmp .eq 7, 3) := by decide +kernel
theorem dL_lays_199 : decode cL_lays 199 = .ok (.iconst 1, 1) := by decide +kernel
theorem dL_lays_200 : decode cL_lays 200 = .ok (.goto 4, 3) := by decide +kernel
theorem dL_lays_203 : decode cL_lays 203 = .ok (.iconst 0, 1) := by decide +kernel
theorem dL_lays_204 : decode cL_lays 204 = .ok (.istore 13, 2) := by decide +kernel
theorem dL_lays_206 : decode cL_lays 206 = .ok (.aload_n 2, 1) := by decide +kernel
theorem dL_lays_207 : decode cL_lays 207 = .ok (.iconst 4, 1) := by decide +kernel
theorem dL_lays_208 : decode cL_lays 208 = .ok (.iload 5, 2) := by decide +kernel
theorem dL_lays_210 : decode cL_lays 210 = .ok (.imul, 1) := by decide +kernel
theorem dL_lays_211 : decode cL_lays 211 = .ok (.iload 9, 2) := by decide +kernel
theorem dL_lays_213 : decode cL_lays 213 = .ok (.bipush 32, 2) := by decide +kernel
theorem dL_lays_215 : decode cL_lays 215 = .ok (.idiv, 1) := by decide +kernel
theorem dL_lays_216 : decode cL_lays 216 = .ok (.iadd, 1) := by decide +kernel
theorem dL_lays_217 : decode cL_lays 217 = .ok (.dup2, 1) := by decide +kernel
theorem dL_lays_218 : decode cL_lays 218 = .ok (.laload, 1) := by decide +kernel
theorem dL_lays_219 : decode cL_lays 219 = .ok (.iload 13, 2) := by decide +kernel
theorem dL_lays_221 : decode cL_lays 221 = .ok (.ifCond .eq 19, 3) := by decide +kernel
theorem dL_lays_224 : decode cL_lays 224 = .ok (.iload_n 3, 1) := by decide +kernel
theorem dL_lays_225 : decode cL_lays 225 = .ok (.iload 6, 2) := by decide +kernel
theorem dL_lays_227 : decode cL_lays 227 = .ok (.if_icmp .ge 9, 3) := by decide +kernel
theorem dL_lays_230 : decode cL_lays 230 = .ok (.ldc2_w 57, 3) := by decide +kernel
theorem dL_lays_233 : decode cL_lays 233 = .ok (.goto 8, 3) := by decide +kernel
theorem dL_lays_236 : decode cL_lays 236 = .ok (.lconst 1, 1) := by decide +kernel
theorem dL_lays_237 : decode cL_lays 237 = .ok (.goto 4, 3) := by decide +kernel
theorem dL_lays_240 : decode cL_lays 240 = .ok (.lconst 0, 1) := by decide +kernel
theorem dL_lays_241 : decode cL_lays 241 = .ok (.iload 9, 2) := by decide +kernel
theorem dL_lays_243 : decode cL_lays 243 = .ok (.bipush 32, 2) := by decide +kernel
theorem dL_lays_245 : decode cL_lays 245 = .ok (.irem, 1) := by decide +kernel
theorem dL_lays_246 : decode cL_lays 246 = .ok (.iconst 2, 1) := by decide +kernel
theorem dL_lays_247 : decode cL_lays 247 = .ok (.imul, 1) := by decide +kernel
theorem dL_lays_248 : decode cL_lays 248 = .ok (.lshl, 1) := by decide +kernel
theorem dL_lays_249 : decode cL_lays 249 = .ok (.lor, 1) := by decide +kernel
theorem dL_lays_250 : decode cL_lays 250 = .ok (.lastore, 1) := by decide +kernel
theorem dL_lays_251 : decode cL_lays 251 = .ok (.iinc 9 1, 3) := by decide +kernel
theorem dL_lays_254 : decode cL_lays 254 = .ok (.goto (-177), 3) := by decide +kernel
theorem dL_lays_257 : decode cL_lays 257 = .ok (.aload_n 1, 1) := by decide +kernel
theorem dL_lays_258 : decode cL_lays 258 = .ok (.iload 5, 2) := by decide +kernel
theorem dL_lays_260 : decode cL_lays 260 = .ok (.iload 7, 2) := by decide +kernel
theorem dL_lays_262 : decode cL_lays 262 = .ok (.iastore, 1) := by decide +kernel
theorem dL_lays_263 : decode cL_lays 263 = .ok (.return_, 1) := by decide +kernel
set_option maxRecDepth 20000 in
theorem ggL_best_L_total : GoodIn wsL_best wsL_total := goodIn_r _ [4, 5, 6, 3, 7, 8] (by decide +kernel) (by decide +kernel)
set_option maxRecDepth 20000 in
theorem gL_best_L_total : GoodIn wsL_best (va_wsS RL 53 yL_total wsL_total) := goodIn_app (goodIn_of _ (by decide +kernel)) ggL_best_L_total
set_option maxRecDepth 20000 in
theorem ggL_best_L_lays : GoodIn wsL_best wsL_lays := goodIn_r _ [11, 12, 1, 2, 3, 4, 5, 6, 7, 8] (by decide +kernel) (by decide +kernel)
set_option maxRecDepth 20000 in
theorem gL_best_L_lays : GoodIn wsL_best (va_wsS RL 59 yL_lays wsL_lays) := goodIn_app (goodIn_of _ (by decide +kernel)) ggL_best_L_lays
set_option maxRecDepth 20000 in
theorem ggL_best_L_stacked : GoodIn wsL_best wsL_stacked := goodIn_r _ [15, 5, 6, 3, 7, 8, 16, 17, 18] (by decide +kernel) (by decide +kernel)
set_option maxRecDepth 20000 in
theorem gL_best_L_stacked : GoodIn wsL_best (va_wsS RL 63 yL_stacked wsL_stacked) := goodIn_app (goodIn_of _ (by decide +kernel)) ggL_best_L_stacked
theorem dL_best_0 : decode cL_best 0 = .ok (.aload_n 1, 1) := by decide +kernel
theorem dL_best_1 : decode cL_best 1 = .ok (.aload_n 2, 1) := by decide +kernel
theorem dL_best_2 : decode cL_best 2 = .ok (.aload_n 0, 1) := by decide +kernel
theorem dL_best_3 : decode cL_best 3 = .ok (.iconst 0, 1) := by decide +kernel
theorem dL_best_4 : decode cL_best 4 = .ok (.iaload, 1) := by decide +kernel
theorem dL_best_5 : decode cL_best 5 = .ok (.iconst 1, 1) := by decide +kernel
theorem dL_best_6 : decode cL_best 6 = .ok (.isub, 1) := by decide +kernel
theorem dL_best_7 : decode cL_best 7 = .ok (.invokestatic 53, 3) := by decide +kernel
theorem dL_best_10 : decode cL_best 10 = .ok (.istore 4, 2) := by decide +kernel
theorem dL_best_12 : decode cL_best 12 = .ok (.iconst 0, 1) := by decide +kernel
theorem dL_best_13 : decode cL_best 13 = .ok (.istore 5, 2) := by decide +kernel
theorem dL_best_15 : decode cL_best 15 = .ok (.sipush 999, 3) := by decide +kernel
theorem dL_best_18 : decode cL_best 18 = .ok (.istore 6, 2) := by decide +kernel
theorem dL_best_20 : decode cL_best 20 = .ok (.iconst 0, 1) := by decide +kernel
theorem dL_best_21 : decode cL_best 21 = .ok (.istore 7, 2) := by decide +kernel
theorem dL_best_23 : decode cL_best 23 = .ok (.iload 7, 2) := by decide +kernel
theorem dL_best_25 : decode cL_best 25 = .ok (.iload_n 3, 1) := by decide +kernel
theorem dL_best_26 : decode cL_best 26 = .ok (.iload 4, 2) := by decide +kernel
theorem dL_best_28 : decode cL_best 28 = .ok (.if_icmp .ge 7, 3) := by decide +kernel
theorem dL_best_31 : decode cL_best 31 = .ok (.iload_n 3, 1) := by decide +kernel
theorem dL_best_32 : decode cL_best 32 = .ok (.goto 5, 3) := by decide +kernel
theorem dL_best_35 : decode cL_best 35 = .ok (.iload 4, 2) := by decide +kernel
theorem dL_best_37 : decode cL_best 37 = .ok (.if_icmp .ge 65, 3) := by decide +kernel
theorem dL_best_40 : decode cL_best 40 = .ok (.iload 6, 2) := by decide +kernel
theorem dL_best_42 : decode cL_best 42 = .ok (.ifCond .le 60, 3) := by decide +kernel
theorem dL_best_45 : decode cL_best 45 = .ok (.aload_n 0, 1) := by decide +kernel
theorem dL_best_46 : decode cL_best 46 = .ok (.aload_n 1, 1) := by decide +kernel
theorem dL_best_47 : decode cL_best 47 = .ok (.aload_n 2, 1) := by decide +kernel
theorem dL_best_48 : decode cL_best 48 = .ok (.iload_n 3, 1) := by decide +kernel
theorem dL_best_49 : decode cL_best 49 = .ok (.iload 7, 2) := by decide +kernel
theorem dL_best_51 : decode cL_best 51 = .ok (.invokestatic 59, 3) := by decide +kernel
theorem dL_best_54 : decode cL_best 54 = .ok (.aload_n 1, 1) := by decide +kernel
theorem dL_best_55 : decode cL_best 55 = .ok (.aload_n 2, 1) := by decide +kernel
theorem dL_best_56 : decode cL_best 56 = .ok (.aload_n 0, 1) := by decide +kernel
theorem dL_best_57 : decode cL_best 57 = .ok (.iconst 0, 1) := by decide +kernel
theorem dL_best_58 : decode cL_best 58 = .ok (.iaload, 1) := by decide +kernel
theorem dL_best_59 : decode cL_best 59 = .ok (.invokestatic 63, 3) := by decide +kernel
theorem dL_best_62 : decode cL_best 62 = .ok (.istore 8, 2) := by decide +kernel
theorem dL_best_64 : decode cL_best 64 = .ok (.iload 8, 2) := by decide +kernel
theorem dL_best_66 : decode cL_best 66 = .ok (.iload 6, 2) := by decide +kernel
theorem dL_best_68 : decode cL_best 68 = .ok (.if_icmp .ge 8, 3) := by decide +kernel
theorem dL_best_71 : decode cL_best 71 = .ok (.iload 7, 2) := by decide +kernel
theorem dL_best_73 : decode cL_best 73 = .ok (.goto 5, 3) := by decide +kernel
theorem dL_best_76 : decode cL_best 76 = .ok (.iload 5, 2) := by decide +kernel
theorem dL_best_78 : decode cL_best 78 = .ok (.istore 5, 2) := by decide +kernel
theorem dL_best_80 : decode cL_best 80 = .ok (.iload 8, 2) := by decide +kernel
theorem dL_best_82 : decode cL_best 82 = .ok (.iload 6, 2) := by decide +kernel
theorem dL_best_84 : decode cL_best 84 = .ok (.if_icmp .ge 8, 3) := by decide +kernel
theorem dL_best_87 : decode cL_best 87 = .ok (.iload 8, 2) := by decide +kernel
theorem dL_best_89 : decode cL_best 89 = .ok (.goto 5, 3) := by decide +kernel
theorem dL_best_92 : decode cL_best 92 = .ok (.iload 6, 2) := by decide +kernel
theorem dL_best_94 : decode cL_best 94 = .ok (.istore 6, 2) := by decide +kernel
theorem dL_best_96 : decode cL_best 96 = .ok (.iinc 7 1, 3) := by decide +kernel
theorem dL_best_99 : decode cL_best 99 = .ok (.goto (-76), 3) := by decide +kernel
theorem dL_best_102 : decode cL_best 102 = .ok (.aload_n 0, 1) := by decide +kernel
theorem dL_best_103 : decode cL_best 103 = .ok (.aload_n 1, 1) := by decide +kernel
theorem dL_best_104 : decode cL_best 104 = .ok (.aload_n 2, 1) := by decide +kernel
theorem dL_best_105 : decode cL_best 105 = .ok (.iload_n 3, 1) := by decide +kernel
theorem dL_best_106 : decode cL_best 106 = .ok (.iload 5, 2) := by decide +kernel
theorem dL_best_108 : decode cL_best 108 = .ok (.invokestatic 59, 3) := by decide +kernel
theorem dL_best_111 : decode cL_best 111 = .ok (.aload_n 0, 1) := by decide +kernel
theorem dL_best_112 : decode cL_best 112 = .ok (.iconst 0, 1) := by decide +kernel
theorem dL_best_113 : decode cL_best 113 = .ok (.dup2, 1) := by decide +kernel
theorem dL_best_114 : decode cL_best 114 = .ok (.iaload, 1) := by decide +kernel
theorem dL_best_115 : decode cL_best 115 = .ok (.iconst 1, 1) := by decide +kernel
theorem dL_best_116 : decode cL_best 116 = .ok (.iadd, 1) := by decide +kernel
theorem dL_best_117 : decode cL_best 117 = .ok (.iastore, 1) := by decide +kernel
theorem dL_best_118 : decode cL_best 118 = .ok (.iload 5, 2) := by decide +kernel
theorem dL_best_120 : decode cL_best 120 = .ok (.ireturn, 1) := by decide +kernel
theorem dL_goal_0 : decode cL_goal 0 = .ok (.aload_n 0, 1) := by decide +kernel
theorem dL_goal_1 : decode cL_goal 1 = .ok (.iconst 0, 1) := by decide +kernel
theorem dL_goal_2 : decode cL_goal 2 = .ok (.iaload, 1) := by decide +kernel
theorem dL_goal_3 : decode cL_goal 3 = .ok (.istore 4, 2) := by decide +kernel
theorem dL_goal_5 : decode cL_goal 5 = .ok (.iload_n 1, 1) := by decide +kernel
theorem dL_goal_6 : decode cL_goal 6 = .ok (.iconst 2, 1) := by decide +kernel
theorem dL_goal_7 : decode cL_goal 7 = .ok (.if_icmp .ne 35, 3) := by decide +kernel
theorem dL_goal_10 : decode cL_goal 10 = .ok (.iconst 0, 1) := by decide +kernel
theorem dL_goal_11 : decode cL_goal 11 = .ok (.istore 5, 2) := by decide +kernel
theorem dL_goal_13 : decode cL_goal 13 = .ok (.iload 5, 2) := by decide +kernel
theorem dL_goal_15 : decode cL_goal 15 = .ok (.iload_n 3, 1) := by decide +kernel
theorem dL_goal_16 : decode cL_goal 16 = .ok (.if_icmp .ge 23, 3) := by decide +kernel
theorem dL_goal_19 : decode cL_goal 19 = .ok (.iload 4, 2) := by decide +kernel
theorem dL_goal_21 : decode cL_goal 21 = .ok (.bipush 120, 2) := by decide +kernel
theorem dL_goal_23 : decode cL_goal 23 = .ok (.if_icmp .ge 16, 3) := by decide +kernel
theorem dL_goal_26 : decode cL_goal 26 = .ok (.iload 4, 2) := by decide +kernel
theorem dL_goal_28 : decode cL_goal 28 = .ok (.iload 4, 2) := by decide +kernel
theorem dL_goal_30 : decode cL_goal 30 = .ok (.iadd, 1) := by decide +kernel
theorem dL_goal_31 : decode cL_goal 31 = .ok (.istore 4, 2) := by decide +kernel
theorem dL_goal_33 : decode cL_goal 33 = .ok (.iinc 5 1, 3) := by decide +kernel
theorem dL_goal_36 : decode cL_goal 36 = .ok (.goto (-23), 3) := by decide +kernel
theorem dL_goal_39 : decode cL_goal 39 = .ok (.goto 71, 3) := by decide +kernel
theorem dL_goal_42 : decode cL_goal 42 = .ok (.iload_n 1, 1) := by decide +kernel
theorem dL_goal_43 : decode cL_goal 43 = .ok (.iconst 3, 1) := by decide +kernel
theorem dL_goal_44 : decode cL_goal 44 = .ok (.if_icmp .ne 14, 3) := by decide +kernel
theorem dL_goal_47 : decode cL_goal 47 = .ok (.iload 4, 2) := by decide +kernel
theorem dL_goal_49 : decode cL_goal 49 = .ok (.iload_n 3, 1) := by decide +kernel
theorem dL_goal_50 : decode cL_goal 50 = .ok (.iload_n 2, 1) := by decide +kernel
theorem dL_goal_51 : decode cL_goal 51 = .ok (.imul, 1) := by decide +kernel
theorem dL_goal_52 : decode cL_goal 52 = .ok (.iadd, 1) := by decide +kernel
theorem dL_goal_53 : decode cL_goal 53 = .ok (.istore 4, 2) := by decide +kernel
theorem dL_goal_55 : decode cL_goal 55 = .ok (.goto 55, 3) := by decide +kernel
theorem dL_goal_58 : decode cL_goal 58 = .ok (.iload_n 1, 1) := by decide +kernel
theorem dL_goal_59 : decode cL_goal 59 = .ok (.ifCond .le 12, 3) := by decide +kernel
theorem dL_goal_62 : decode cL_goal 62 = .ok (.iload_n 2, 1) := by decide +kernel
theorem dL_goal_63 : decode cL_goal 63 = .ok (.iload_n 3, 1) := by decide +kernel
theorem dL_goal_64 : decode cL_goal 64 = .ok (.if_icmp .gt 7, 3) := by decide +kernel
theorem dL_goal_67 : decode cL_goal 67 = .ok (.iload_n 2, 1) := by decide +kernel
theorem dL_goal_68 : decode cL_goal 68 = .ok (.goto 6, 3) := by decide +kernel
theorem dL_goal_71 : decode cL_goal 71 = .ok (.iload_n 3, 1) := by decide +kernel
theorem dL_goal_72 : decode cL_goal 72 = .ok (.iconst 1, 1) := by decide +kernel
theorem dL_goal_73 : decode cL_goal 73 = .ok (.iadd, 1) := by decide +kernel
theorem dL_goal_74 : decode cL_goal 74 = .ok (.istore 5, 2) := by decide +kernel
theorem dL_goal_76 : decode cL_goal 76 = .ok (.iload_n 1, 1) := by decide +kernel
theorem dL_goal_77 : decode cL_goal 77 = .ok (.iconst 1, 1) := by decide +kernel
theorem dL_goal_78 : decode cL_goal 78 = .ok (.if_icmp .ne 21, 3) := by decide +kernel
theorem dL_goal_81 : decode cL_goal 81 = .ok (.iconst 3, 1) := by decide +kernel
theorem dL_goal_82 : decode cL_goal 82 = .ok (.iload_n 2, 1) := by decide +kernel
theorem dL_goal_83 : decode cL_goal 83 = .ok (.imul, 1) := by decide +kernel
theorem dL_goal_84 : decode cL_goal 84 = .ok (.iload_n 3, 1) := by decide +kernel
theorem dL_goal_85 : decode cL_goal 85 = .ok (.isub, 1) := by decide +kernel
theorem dL_goal_86 : decode cL_goal 86 = .ok (.iload 5, 2) := by decide +kernel
theorem dL_goal_88 : decode cL_goal 88 = .ok (.if_icmp .ge 11, 3) := by decide +kernel
theorem dL_goal_91 : decode cL_goal 91 = .ok (.iconst 3, 1) := by decide +kernel
theorem dL_goal_92 : decode cL_goal 92 = .ok (.iload_n 2, 1) := by decide +kernel
theorem dL_goal_93 : decode cL_goal 93 = .ok (.imul, 1) := by decide +kernel
theorem dL_goal_94 : decode cL_goal 94 = .ok (.iload_n 3, 1) := by decide +kernel
theorem dL_goal_95 : decode cL_goal 95 = .ok (.isub, 1) := by decide +kernel
theorem dL_goal_96 : decode cL_goal 96 = .ok (.goto 5, 3) := by decide +kernel
theorem dL_goal_99 : decode cL_goal 99 = .ok (.iload 5, 2) := by decide +kernel
theorem dL_goal_101 : decode cL_goal 101 = .ok (.istore 5, 2) := by decide +kernel
theorem dL_goal_103 : decode cL_goal 103 = .ok (.iload 4, 2) := by decide +kernel
theorem dL_goal_105 : decode cL_goal 105 = .ok (.iload 5, 2) := by decide +kernel
theorem dL_goal_107 : decode cL_goal 107 = .ok (.imul, 1) := by decide +kernel
theorem dL_goal_108 : decode cL_goal 108 = .ok (.istore 4, 2) := by decide +kernel
theorem dL_goal_110 : decode cL_goal 110 = .ok (.iload 4, 2) := by decide +kernel
theorem dL_goal_112 : decode cL_goal 112 = .ok (.bipush 120, 2) := by decide +kernel
theorem dL_goal_114 : decode cL_goal 114 = .ok (.if_icmp .le 8, 3) := by decide +kernel
theorem dL_goal_117 : decode cL_goal 117 = .ok (.bipush 120, 2) := by decide +kernel
theorem dL_goal_119 : decode cL_goal 119 = .ok (.goto 15, 3) := by decide +kernel
theorem dL_goal_122 : decode cL_goal 122 = .ok (.iload 4, 2) := by decide +kernel
theorem dL_goal_124 : decode cL_goal 124 = .ok (.iconst 3, 1) := by decide +kernel
theorem dL_goal_125 : decode cL_goal 125 = .ok (.if_icmp .ge 7, 3) := by decide +kernel
theorem dL_goal_128 : decode cL_goal 128 = .ok (.iconst 3, 1) := by decide +kernel
theorem dL_goal_129 : decode cL_goal 129 = .ok (.goto 5, 3) := by decide +kernel
theorem dL_goal_132 : decode cL_goal 132 = .ok (.iload 4, 2) := by decide +kernel
theorem dL_goal_134 : decode cL_goal 134 = .ok (.ireturn, 1) := by decide +kernel
