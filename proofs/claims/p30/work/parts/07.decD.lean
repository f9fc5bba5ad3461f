set_option maxRecDepth 20000 in
theorem ggL_acts_L_low : GoodIn wsL_acts wsL_low := goodIn_r _ [5, 6] (by decide +kernel) (by decide +kernel)
set_option maxRecDepth 20000 in
theorem gL_acts_L_low : GoodIn wsL_acts (va_wsS RL 67 yL_low wsL_low) := goodIn_app (goodIn_of _ (by decide +kernel)) ggL_acts_L_low
set_option maxRecDepth 20000 in
theorem ggL_acts_L_total : GoodIn wsL_acts wsL_total := goodIn_r _ [9, 10, 11, 4, 12, 13] (by decide +kernel) (by decide +kernel)
set_option maxRecDepth 20000 in
theorem gL_acts_L_total : GoodIn wsL_acts (va_wsS RL 53 yL_total wsL_total) := goodIn_app (goodIn_of _ (by decide +kernel)) ggL_acts_L_total
set_option maxRecDepth 20000 in
theorem ggL_acts_L_begins : GoodIn wsL_acts wsL_begins := goodIn_ca (goodIn_r _ [16, 17, 18, 19, 20, 21, 22, 23, 24, 25, 26, 27, 28, 29, 30, 31, 32, 33, 34, 35, 36, 37, 38, 39, 40, 41, 42, 43, 44, 45, 46, 47, 48, 49, 50, 51, 52, 53, 54, 55, 56, 57, 58, 59, 60, 61, 62, 63, 64, 65, 66, 67, 68, 69, 70, 71, 72, 73, 74, 75, 76, 77, 78, 79, 80, 81, 82, 83, 84, 85, 86, 87, 88, 89, 90, 91, 272, 273, 274, 275, 276, 277, 278, 279, 280, 281, 282, 283, 284, 285, 286] (by decide +kernel) (by decide +kernel)) (goodIn_sub (fun _ h => List.mem_cons_of_mem _ (List.mem_append_left _ (List.mem_append_left _ (List.mem_append_right _ h)))) (by decide +kernel))
set_option maxRecDepth 20000 in
theorem gL_acts_L_begins : GoodIn wsL_acts (va_wsS RL 70 yL_begins wsL_begins) := goodIn_app (goodIn_of _ (by decide +kernel)) ggL_acts_L_begins
set_option maxRecDepth 20000 in
theorem ggL_acts_L_yarns : GoodIn wsL_acts wsL_yarns := goodIn_ca (goodIn_r _ [94, 17, 95, 96, 97, 21, 98, 25, 23, 99, 26, 27, 28, 29, 30, 31, 32, 33, 34, 35, 36, 37, 38, 39, 40, 41, 42, 43, 44, 45, 46, 47, 48, 49, 50, 51, 52, 53, 54, 55, 56, 57, 58, 59, 60, 61, 62, 63, 64, 65, 66, 67, 68, 69, 70, 71, 72, 100, 101, 272, 273, 274, 275, 276, 277, 278, 279, 280, 281, 282, 283, 284, 285, 286] (by decide +kernel) (by decide +kernel)) (goodIn_sub (fun _ h => List.mem_cons_of_mem _ (List.mem_append_left _ (List.mem_append_left _ (List.mem_append_right _ h)))) (by decide +kernel))
set_option maxRecDepth 20000 in
theorem gL_acts_L_yarns : GoodIn wsL_acts (va_wsS RL 74 yL_yarns wsL_yarns) := goodIn_app (goodIn_of _ (by decide +kernel)) ggL_acts_L_yarns
set_option maxRecDepth 20000 in
theorem ggL_acts_X6_setSpiral : GoodIn wsL_acts wsX6_setSpiral := goodIn_r _ [105, 25, 23, 106, 31, 32, 33, 34, 35, 36, 37, 38, 39, 40, 41, 42, 43, 44, 45, 46, 47, 48, 49, 50, 51, 52, 53, 54, 55, 56, 57, 58, 59, 60, 61, 62, 63, 64, 65, 66, 67, 68, 69, 70, 71, 72, 272, 273, 274, 275, 276, 277, 278, 279, 280, 281, 282, 283, 284, 285, 286] (by decide +kernel) (by decide +kernel)
set_option maxRecDepth 20000 in
theorem gL_acts_X6_setSpiral : GoodIn wsL_acts (wsV RL 78 RX6 yX6_setSpiral wsX6_setSpiral) := goodIn_app (goodIn_of _ (by decide +kernel)) ggL_acts_X6_setSpiral
set_option maxRecDepth 20000 in
theorem ggL_acts_L_rips : GoodIn wsL_acts wsL_rips := goodIn_ca (goodIn_ca (goodIn_r _ [109, 17, 110, 111, 112, 113, 21, 114, 23, 24, 25, 26, 27, 28, 29, 30, 115, 116, 117, 118, 119, 31, 32, 33, 34, 35, 36, 37, 38, 39, 40, 41, 42, 43, 44, 45, 46, 47, 48, 49, 50, 51, 52, 53, 54, 55, 56, 57, 58, 59, 60, 61, 62, 63, 64, 65, 66, 67, 68, 69, 70, 71, 72, 120, 121, 122, 123, 272, 273, 274, 275, 276, 277, 278, 279, 280, 281, 282, 283, 284, 285, 286] (by decide +kernel) (by decide +kernel)) (goodIn_sub (fun _ h => List.mem_cons_of_mem _ (List.mem_append_left _ (List.mem_append_left _ (List.mem_append_right _ h)))) (by decide +kernel))) (goodIn_sub (fun _ h => List.mem_cons_of_mem _ (List.mem_append_left _ (List.mem_append_right _ h))) (by decide +kernel))
set_option maxRecDepth 20000 in
theorem gL_acts_L_rips : GoodIn wsL_acts (va_wsS RL 82 yL_rips wsL_rips) := goodIn_app (goodIn_of _ (by decide +kernel)) ggL_acts_L_rips
set_option maxRecDepth 20000 in
theorem ggL_acts_L_goal : GoodIn wsL_acts wsL_goal := goodIn_r _ [126] (by decide +kernel) (by decide +kernel)
set_option maxRecDepth 20000 in
theorem gL_acts_L_goal : GoodIn wsL_acts (va_wsS RL 85 yL_goal wsL_goal) := goodIn_app (goodIn_of _ (by decide +kernel)) ggL_acts_L_goal
set_option maxRecDepth 20000 in
theorem ggL_acts_L_canBe : GoodIn wsL_acts wsL_canBe := goodIn_r _ [129] (by decide +kernel) (by decide +kernel)
set_option maxRecDepth 20000 in
theorem gL_acts_L_canBe : GoodIn wsL_acts (va_wsS RL 89 yL_canBe wsL_canBe) := goodIn_app (goodIn_of _ (by decide +kernel)) ggL_acts_L_canBe
set_option maxRecDepth 20000 in
theorem ggL_acts_L_best : GoodIn wsL_acts wsL_best := goodIn_r _ [132, 7, 8, 4, 9, 10, 11, 12, 13, 133, 134, 135, 136, 137, 138, 139, 140, 141, 142] (by decide +kernel) (by decide +kernel)
set_option maxRecDepth 20000 in
theorem gL_acts_L_best : GoodIn wsL_acts (va_wsS RL 93 yL_best wsL_best) := goodIn_app (goodIn_of _ (by decide +kernel)) ggL_acts_L_best
set_option maxRecDepth 20000 in
theorem ggL_acts_L_shapes : GoodIn wsL_acts wsL_shapes := goodIn_ca (goodIn_r _ [145, 17, 146, 147, 148, 21, 149, 25, 23, 24, 150, 151, 152, 153, 154, 155, 156, 26, 27, 28, 29, 30, 31, 32, 33, 34, 35, 36, 37, 38, 39, 40, 41, 42, 43, 44, 45, 46, 47, 48, 49, 50, 51, 52, 53, 54, 55, 56, 57, 58, 59, 60, 61, 62, 63, 64, 65, 66, 67, 68, 69, 70, 71, 72, 157, 158, 159, 160, 161, 162, 163, 164, 165, 100, 166, 167, 168, 169, 170, 171, 120, 121, 122, 123, 172, 173, 174, 175, 176, 177, 178, 179, 180, 181, 182, 183, 184, 185, 186, 187, 188, 189, 190, 191, 192, 193, 194, 195, 196, 197, 198, 199, 200, 201, 202, 203, 204, 86, 87, 205, 206, 207, 208, 209, 210, 211, 212, 213, 214, 215, 216, 217, 218, 219, 220, 221, 222, 223, 78, 79, 80, 81, 224, 83, 84, 85, 225, 89, 90, 91, 272, 273, 274, 275, 276, 277, 278, 279, 280, 281, 282, 283, 284, 285, 286, 287, 288, 289, 290, 291] (by decide +kernel) (by decide +kernel)) (goodIn_sub (fun _ h => List.mem_cons_of_mem _ (List.mem_append_left _ (List.mem_append_left _ (List.mem_append_right _ h)))) (by decide +kernel))
set_option maxRecDepth 20000 in
theorem gL_acts_L_shapes : GoodIn wsL_acts (va_wsS RL 97 yL_shapes wsL_shapes) := goodIn_app (goodIn_of _ (by decide +kernel)) ggL_acts_L_shapes
set_option maxRecDepth 20000 in
theorem ggL_acts_L_adds : GoodIn wsL_acts wsL_adds := goodIn_ca (goodIn_ca (goodIn_ca (goodIn_r _ [228, 17, 110, 229, 230, 231, 232, 21, 233, 150, 23, 25, 234, 235, 236, 26, 27, 28, 29, 30, 237, 238, 239, 240, 24, 115, 116, 117, 118, 119, 120, 121, 122, 50, 123, 55, 52, 72, 64, 65, 61, 66, 67, 172, 173, 174, 175, 176, 177, 178, 179, 180, 181, 182, 183, 184, 185, 186, 187, 188, 189, 69, 70, 71, 241, 242, 243, 244, 245, 31, 32, 33, 34, 35, 36, 37, 38, 39, 40, 41, 42, 43, 44, 45, 46, 47, 48, 49, 51, 53, 54, 56, 57, 58, 59, 60, 62, 63, 68, 190, 191, 192, 193, 194, 195, 196, 197, 198, 199, 200, 201, 202, 203, 204, 86, 87, 205, 206, 207, 208, 209, 210, 211, 212, 213, 214, 215, 216, 217, 218, 219, 220, 221, 222, 223, 78, 79, 80, 81, 100, 224, 83, 84, 85, 225, 89, 90, 91, 272, 273, 274, 275, 276, 277, 278, 279, 280, 281, 282, 286, 287, 288, 289, 290, 283, 284, 285, 291] (by decide +kernel) (by decide +kernel)) (goodIn_sub (fun _ h => List.mem_cons_of_mem _ (List.mem_append_left _ (List.mem_append_left _ (List.mem_append_right _ h)))) (by decide +kernel))) (goodIn_sub (fun _ h => List.mem_cons_of_mem _ (List.mem_append_left _ (List.mem_append_right _ h))) (by decide +kernel))) (goodIn_sub (fun _ h => List.mem_cons_of_mem _ (List.mem_append_right _ h)) (by decide +kernel))
set_option maxRecDepth 20000 in
theorem gL_acts_L_adds : GoodIn wsL_acts (va_wsS RL 101 yL_adds wsL_adds) := goodIn_app (goodIn_of _ (by decide +kernel)) ggL_acts_L_adds
set_option maxRecDepth 20000 in
theorem ggL_acts_L_shifts : GoodIn wsL_acts wsL_shifts := goodIn_ca (goodIn_ca (goodIn_ca (goodIn_r _ [248, 17, 110, 229, 249, 250, 251, 21, 252, 150, 23, 25, 234, 235, 236, 253, 254, 255, 26, 27, 28, 29, 30, 237, 238, 239, 240, 24, 115, 116, 117, 118, 119, 120, 121, 122, 50, 123, 55, 52, 72, 64, 65, 61, 66, 67, 172, 173, 174, 175, 176, 177, 178, 179, 180, 181, 182, 183, 184, 185, 186, 187, 188, 189, 69, 70, 71, 241, 242, 243, 244, 245, 31, 32, 33, 34, 35, 36, 37, 38, 39, 40, 41, 42, 43, 44, 45, 46, 47, 48, 49, 51, 53, 54, 56, 57, 58, 59, 60, 62, 63, 68, 256, 257, 258, 259, 194, 222, 221, 195, 196, 197, 198, 199, 200, 201, 202, 203, 204, 86, 87, 260, 212, 213, 214, 215, 216, 217, 218, 219, 220, 223, 78, 79, 80, 81, 100, 224, 83, 84, 85, 225, 89, 90, 91, 272, 273, 274, 275, 276, 277, 278, 279, 280, 281, 282, 286, 287, 288, 289, 290, 283, 284, 285, 291] (by decide +kernel) (by decide +kernel)) (goodIn_sub (fun _ h => List.mem_cons_of_mem _ (List.mem_append_left _ (List.mem_append_left _ (List.mem_append_right _ h)))) (by decide +kernel))) (goodIn_sub (fun _ h => List.mem_cons_of_mem _ (List.mem_append_left _ (List.mem_append_right _ h))) (by decide +kernel))) (goodIn_sub (fun _ h => List.mem_cons_of_mem _ (List.mem_append_right _ h)) (by decide +kernel))
set_option maxRecDepth 20000 in
theorem gL_acts_L_shifts : GoodIn wsL_acts (va_wsS RL 104 yL_shifts wsL_shifts) := goodIn_app (goodIn_of _ (by decide +kernel)) ggL_acts_L_shifts
set_option maxRecDepth 20000 in
theorem ggL_acts_L_mirrors : GoodIn wsL_acts wsL_mirrors := goodIn_ca (goodIn_ca (goodIn_ca (goodIn_r _ [263, 17, 110, 229, 264, 265, 266, 21, 267, 150, 23, 25, 234, 235, 236, 26, 27, 28, 29, 30, 237, 238, 239, 240, 24, 115, 116, 117, 118, 119, 120, 121, 122, 50, 123, 55, 52, 72, 64, 65, 61, 66, 67, 268, 269, 270, 175, 271, 177, 179, 178, 184, 180, 181, 182, 183, 185, 186, 187, 188, 189, 69, 70, 71, 241, 242, 243, 244, 245, 31, 32, 33, 34, 35, 36, 37, 38, 39, 40, 41, 42, 43, 44, 45, 46, 47, 48, 49, 51, 53, 54, 56, 57, 58, 59, 60, 62, 63, 68, 256, 257, 258, 259, 194, 222, 221, 195, 196, 197, 198, 199, 200, 201, 202, 203, 204, 86, 87, 260, 212, 213, 214, 215, 216, 217, 218, 219, 220, 223, 78, 79, 80, 81, 100, 224, 83, 84, 85, 225, 89, 90, 91, 272, 273, 274, 275, 276, 277, 278, 279, 280, 281, 282, 286, 287, 288, 289, 290, 283, 284, 285, 291] (by decide +kernel) (by decide +kernel)) (goodIn_sub (fun _ h => List.mem_cons_of_mem _ (List.mem_append_left _ (List.mem_append_left _ (List.mem_append_right _ h)))) (by decide +kernel))) (goodIn_sub (fun _ h => List.mem_cons_of_mem _ (List.mem_append_left _ (List.mem_append_right _ h))) (by decide +kernel))) (goodIn_sub (fun _ h => List.mem_cons_of_mem _ (List.mem_append_right _ h)) (by decide +kernel))
set_option maxRecDepth 20000 in
theorem gL_acts_L_mirrors : GoodIn wsL_acts (va_wsS RL 107 yL_mirrors wsL_mirrors) := goodIn_app (goodIn_of _ (by decide +kernel)) ggL_acts_L_mirrors
set_option maxRecDepth 20000 in
theorem ggL_acts_L_lays : GoodIn wsL_acts wsL_lays := goodIn_r _ [135, 136, 7, 8, 4, 9, 10, 11, 12, 13] (by decide +kernel) (by decide +kernel)
set_option maxRecDepth 20000 in
theorem gL_acts_L_lays : GoodIn wsL_acts (va_wsS RL 59 yL_lays wsL_lays) := goodIn_app (goodIn_of _ (by decide +kernel)) ggL_acts_L_lays
set_option maxRecDepth 20000 in
theorem ggL_acts_L_stacked : GoodIn wsL_acts wsL_stacked := goodIn_r _ [139, 10, 11, 4, 12, 13, 140, 141, 142] (by decide +kernel) (by decide +kernel)
set_option maxRecDepth 20000 in
theorem gL_acts_L_stacked : GoodIn wsL_acts (va_wsS RL 63 yL_stacked wsL_stacked) := goodIn_app (goodIn_of _ (by decide +kernel)) ggL_acts_L_stacked
theorem dL_acts_0 : decode cL_acts 0 = .ok (.iload 4, 2) := by decide +kernel
theorem dL_acts_2 : decode cL_acts 2 = .ok (.iconst 5, 1) := by decide +kernel
theorem dL_acts_3 : decode cL_acts 3 = .ok (.ishr, 1) := by decide +kernel
theorem dL_acts_4 : decode cL_acts 4 = .ok (.ldc 66, 2) := by decide +kernel
theorem dL_acts_6 : decode cL_acts 6 = .ok (.invokestatic 67, 3) := by decide +kernel
theorem dL_acts_9 : decode cL_acts 9 = .ok (.istore 5, 2) := by decide +kernel
theorem dL_acts_11 : decode cL_acts 11 = .ok (.iload 4, 2) := by decide +kernel
theorem dL_acts_13 : decode cL_acts 13 = .ok (.bipush 20, 2) := by decide +kernel
theorem dL_acts_15 : decode cL_acts 15 = .ok (.invokestatic 67, 3) := by decide +kernel
theorem dL_acts_18 : decode cL_acts 18 = .ok (.istore 6, 2) := by decide +kernel
theorem dL_acts_20 : decode cL_acts 20 = .ok (.aload_n 2, 1) := by decide +kernel
theorem dL_acts_21 : decode cL_acts 21 = .ok (.aload_n 3, 1) := by decide +kernel
theorem dL_acts_22 : decode cL_acts 22 = .ok (.aload_n 1, 1) := by decide +kernel
theorem dL_acts_23 : decode cL_acts 23 = .ok (.iconst 0, 1) := by decide +kernel
theorem dL_acts_24 : decode cL_acts 24 = .ok (.iaload, 1) := by decide +kernel
theorem dL_acts_25 : decode cL_acts 25 = .ok (.iconst 1, 1) := by decide +kernel
theorem dL_acts_26 : decode cL_acts 26 = .ok (.isub, 1) := by decide +kernel
theorem dL_acts_27 : decode cL_acts 27 = .ok (.invokestatic 53, 3) := by decide +kernel
theorem dL_acts_30 : decode cL_acts 30 = .ok (.istore 7, 2) := by decide +kernel
theorem dL_acts_32 : decode cL_acts 32 = .ok (.iload 5, 2) := by decide +kernel
theorem dL_acts_34 : decode cL_acts 34 = .ok (.iconst 3, 1) := by decide +kernel
theorem dL_acts_35 : decode cL_acts 35 = .ok (.irem, 1) := by decide +kernel
theorem dL_acts_36 : decode cL_acts 36 = .ok (.ifCond .ne 15, 3) := by decide +kernel
theorem dL_acts_39 : decode cL_acts 39 = .ok (.iconst 3, 1) := by decide +kernel
theorem dL_acts_40 : decode cL_acts 40 = .ok (.iload 5, 2) := by decide +kernel
theorem dL_acts_42 : decode cL_acts 42 = .ok (.iconst 3, 1) := by decide +kernel
theorem dL_acts_43 : decode cL_acts 43 = .ok (.idiv, 1) := by decide +kernel
theorem dL_acts_44 : decode cL_acts 44 = .ok (.bipush 118, 2) := by decide +kernel
theorem dL_acts_46 : decode cL_acts 46 = .ok (.irem, 1) := by decide +kernel
theorem dL_acts_47 : decode cL_acts 47 = .ok (.iadd, 1) := by decide +kernel
theorem dL_acts_48 : decode cL_acts 48 = .ok (.goto 16, 3) := by decide +kernel
theorem dL_acts_51 : decode cL_acts 51 = .ok (.iload 7, 2) := by decide +kernel
theorem dL_acts_53 : decode cL_acts 53 = .ok (.iload 5, 2) := by decide +kernel
theorem dL_acts_55 : decode cL_acts 55 = .ok (.iconst 3, 1) := by decide +kernel
theorem dL_acts_56 : decode cL_acts 56 = .ok (.idiv, 1) := by decide +kernel
theorem dL_acts_57 : decode cL_acts 57 = .ok (.bipush 13, 2) := by decide +kernel
theorem dL_acts_59 : decode cL_acts 59 = .ok (.irem, 1) := by decide +kernel
theorem dL_acts_60 : decode cL_acts 60 = .ok (.iadd, 1) := by decide +kernel
theorem dL_acts_61 : decode cL_acts 61 = .ok (.bipush 6, 2) := by decide +kernel
theorem dL_acts_63 : decode cL_acts 63 = .ok (.isub, 1) := by decide +kernel
theorem dL_acts_64 : decode cL_acts 64 = .ok (.istore 8, 2) := by decide +kernel
theorem dL_acts_66 : decode cL_acts 66 = .ok (.iload 8, 2) := by decide +kernel
theorem dL_acts_68 : decode cL_acts 68 = .ok (.iconst 3, 1) := by decide +kernel
theorem dL_acts_69 : decode cL_acts 69 = .ok (.if_icmp .ge 7, 3) := by decide +kernel
theorem dL_acts_72 : decode cL_acts 72 = .ok (.iconst 3, 1) := by decide +kernel
theorem dL_acts_73 : decode cL_acts 73 = .ok (.goto 17, 3) := by decide +kernel
theorem dL_acts_76 : decode cL_acts 76 = .ok (.iload 8, 2) := by decide +kernel
theorem dL_acts_78 : decode cL_acts 78 = .ok (.bipush 120, 2) := by decide +kernel
theorem dL_acts_80 : decode cL_acts 80 = .ok (.if_icmp .le 8, 3) := by decide +kernel
theorem dL_acts_83 : decode cL_acts 83 = .ok (.bipush 120, 2) := by decide +kernel
theorem dL_acts_85 : decode cL_acts 85 = .ok (.goto 5, 3) := by decide +kernel
theorem dL_acts_88 : decode cL_acts 88 = .ok (.iload 8, 2) := by decide +kernel
theorem dL_acts_90 : decode cL_acts 90 = .ok (.istore 8, 2) := by decide +kernel
theorem dL_acts_92 : decode cL_acts 92 = .ok (.iload 6, 2) := by decide +kernel
theorem dL_acts_94 : decode cL_acts 94 = .ok (.ifCond .ne 63, 3) := by decide +kernel
theorem dL_acts_97 : decode cL_acts 97 = .ok (.iconst 3, 1) := by decide +kernel
theorem dL_acts_98 : decode cL_acts 98 = .ok (.iload 5, 2) := by decide +kernel
theorem dL_acts_100 : decode cL_acts 100 = .ok (.bipush 10, 2) := by decide +kernel
theorem dL_acts_102 : decode cL_acts 102 = .ok (.irem, 1) := by decide +kernel
theorem dL_acts_103 : decode cL_acts 103 = .ok (.iadd, 1) := by decide +kernel
theorem dL_acts_104 : decode cL_acts 104 = .ok (.istore 9, 2) := by decide +kernel
theorem dL_acts_106 : decode cL_acts 106 = .ok (.aload_n 1, 1) := by decide +kernel
theorem dL_acts_107 : decode cL_acts 107 = .ok (.iconst 0, 1) := by decide +kernel
theorem dL_acts_108 : decode cL_acts 108 = .ok (.iaload, 1) := by decide +kernel
theorem dL_acts_109 : decode cL_acts 109 = .ok (.istore 10, 2) := by decide +kernel
theorem dL_acts_111 : decode cL_acts 111 = .ok (.aload_n 1, 1) := by decide +kernel
theorem dL_acts_112 : decode cL_acts 112 = .ok (.iconst 0, 1) := by decide +kernel
theorem dL_acts_113 : decode cL_acts 113 = .ok (.iconst 1, 1) := by decide +kernel
theorem dL_acts_114 : decode cL_acts 114 = .ok (.iastore, 1) := by decide +kernel
theorem dL_acts_115 : decode cL_acts 115 = .ok (.aload_n 2, 1) := by decide +kernel
theorem dL_acts_116 : decode cL_acts 116 = .ok (.iconst 0, 1) := by decide +kernel
theorem dL_acts_117 : decode cL_acts 117 = .ok (.iload 9, 2) := by decide +kernel
theorem dL_acts_119 : decode cL_acts 119 = .ok (.iastore, 1) := by decide +kernel
theorem dL_acts_120 : decode cL_acts 120 = .ok (.iconst 0, 1) := by decide +kernel
theorem dL_acts_121 : decode cL_acts 121 = .ok (.istore 11, 2) := by decide +kernel
theorem dL_acts_123 : decode cL_acts 123 = .ok (.iload 11, 2) := by decide +kernel
theorem dL_acts_125 : decode cL_acts 125 = .ok (.iconst 4, 1) := by decide +kernel
theorem dL_acts_126 : decode cL_acts 126 = .ok (.if_icmp .ge 14, 3) := by decide +kernel
theorem dL_acts_129 : decode cL_acts 129 = .ok (.aload_n 3, 1) := by decide +kernel
theorem dL_acts_130 : decode cL_acts 130 = .ok (.iload 11, 2) := by decide +kernel
theorem dL_acts_132 : decode cL_acts 132 = .ok (.lconst 0, 1) := by decide +kernel
theorem dL_acts_133 : decode cL_acts 133 = .ok (.lastore, 1) := by decide +kernel
theorem dL_acts_134 : decode cL_acts 134 = .ok (.iinc 11 1, 3) := by decide +kernel
theorem dL_acts_137 : decode cL_acts 137 = .ok (.goto (-14), 3) := by decide +kernel
theorem dL_acts_140 : decode cL_acts 140 = .ok (.aload_n 0, 1) := by decide +kernel
theorem dL_acts_141 : decode cL_acts 141 = .ok (.iload 9, 2) := by decide +kernel
theorem dL_acts_143 : decode cL_acts 143 = .ok (.invokestatic 70, 3) := by decide +kernel
theorem dL_acts_146 : decode cL_acts 146 = .ok (.iload 10, 2) := by decide +kernel
theorem dL_acts_148 : decode cL_acts 148 = .ok (.if_icmp .ne 7, 3) := by decide +kernel
theorem dL_acts_151 : decode cL_acts 151 = .ok (.iconst 1, 1) := by decide +kernel
theorem dL_acts_152 : decode cL_acts 152 = .ok (.goto 4, 3) := by decide +kernel
theorem dL_acts_155 : decode cL_acts 155 = .ok (.iconst 0, 1) := by decide +kernel
theorem dL_acts_156 : decode cL_acts 156 = .ok (.ireturn, 1) := by decide +kernel
theorem dL_acts_157 : decode cL_acts 157 = .ok (.iload 6, 2) := by decide +kernel
theorem dL_acts_159 : decode cL_acts 159 = .ok (.iconst 1, 1) := by decide +kernel
theorem dL_acts_160 : decode cL_acts 160 = .ok (.if_icmp .ne 55, 3) := by decide +kernel
theorem dL_acts_163 : decode cL_acts 163 = .ok (.iload 5, 2) := by decide +kernel
theorem dL_acts_165 : decode cL_acts 165 = .ok (.iconst 3, 1) := by decide +kernel
theorem dL_acts_166 : decode cL_acts 166 = .ok (.irem, 1) := by decide +kernel
theorem dL_acts_167 : decode cL_acts 167 = .ok (.istore 9, 2) := by decide +kernel
theorem dL_acts_169 : decode cL_acts 169 = .ok (.aload_n 1, 1) := by decide +kernel
theorem dL_acts_170 : decode cL_acts 170 = .ok (.iconst 2, 1) := by decide +kernel
theorem dL_acts_171 : decode cL_acts 171 = .ok (.iload 9, 2) := by decide +kernel
theorem dL_acts_173 : decode cL_acts 173 = .ok (.iadd, 1) := by decide +kernel
theorem dL_acts_174 : decode cL_acts 174 = .ok (.iaload, 1) := by decide +kernel
theorem dL_acts_175 : decode cL_acts 175 = .ok (.istore 10, 2) := by decide +kernel
theorem dL_acts_177 : decode cL_acts 177 = .ok (.aload_n 1, 1) := by decide +kernel
theorem dL_acts_178 : decode cL_acts 178 = .ok (.iconst 2, 1) := by decide +kernel
theorem dL_acts_179 : decode cL_acts 179 = .ok (.iload 9, 2) := by decide +kernel
theorem dL_acts_181 : decode cL_acts 181 = .ok (.iadd, 1) := by decide +kernel
theorem dL_acts_182 : decode cL_acts 182 = .ok (.iconst 1, 1) := by decide +kernel
theorem dL_acts_183 : decode cL_acts 183 = .ok (.iload 5, 2) := by decide +kernel
theorem dL_acts_185 : decode cL_acts 185 = .ok (.iconst 3, 1) := by decide +kernel
theorem dL_acts_186 : decode cL_acts 186 = .ok (.idiv, 1) := by decide +kernel
theorem dL_acts_187 : decode cL_acts 187 = .ok (.bipush 60, 2) := by decide +kernel
theorem dL_acts_189 : decode cL_acts 189 = .ok (.irem, 1) := by decide +kernel
theorem dL_acts_190 : decode cL_acts 190 = .ok (.iadd, 1) := by decide +kernel
theorem dL_acts_191 : decode cL_acts 191 = .ok (.iastore, 1) := by decide +kernel
theorem dL_acts_192 : decode cL_acts 192 = .ok (.aload_n 0, 1) := by decide +kernel
theorem dL_acts_193 : decode cL_acts 193 = .ok (.iload 9, 2) := by decide +kernel
theorem dL_acts_195 : decode cL_acts 195 = .ok (.aload_n 1, 1) := by decide +kernel
theorem dL_acts_196 : decode cL_acts 196 = .ok (.iconst 2, 1) := by decide +kernel
theorem dL_acts_197 : decode cL_acts 197 = .ok (.iload 9, 2) := by decide +kernel
theorem dL_acts_199 : decode cL_acts 199 = .ok (.iadd, 1) := by decide +kernel
theorem dL_acts_200 : decode cL_acts 200 = .ok (.iaload, 1) := by decide +kernel
theorem dL_acts_201 : decode cL_acts 201 = .ok (.invokestatic 74, 3) := by decide +kernel
theorem dL_acts_204 : decode cL_acts 204 = .ok (.iload 10, 2) := by decide +kernel
theorem dL_acts_206 : decode cL_acts 206 = .ok (.if_icmp .ne 7, 3) := by decide +kernel
theorem dL_acts_209 : decode cL_acts 209 = .ok (.iconst 1, 1) := by decide +kernel
theorem dL_acts_210 : decode cL_acts 210 = .ok (.goto 4, 3) := by decide +kernel
theorem dL_acts_213 : decode cL_acts 213 = .ok (.iconst 0, 1) := by decide +kernel
theorem dL_acts_214 : decode cL_acts 214 = .ok (.ireturn, 1) := by decide +kernel
theorem dL_acts_215 : decode cL_acts 215 = .ok (.iload 6, 2) := by decide +kernel
theorem dL_acts_217 : decode cL_acts 217 = .ok (.iconst 2, 1) := by decide +kernel
theorem dL_acts_218 : decode cL_acts 218 = .ok (.if_icmp .ne 52, 3) := by decide +kernel
theorem dL_acts_221 : decode cL_acts 221 = .ok (.aload_n 1, 1) := by decide +kernel
theorem dL_acts_222 : decode cL_acts 222 = .ok (.iconst 1, 1) := by decide +kernel
theorem dL_acts_223 : decode cL_acts 223 = .ok (.iaload, 1) := by decide +kernel
theorem dL_acts_224 : decode cL_acts 224 = .ok (.iconst 1, 1) := by decide +kernel
theorem dL_acts_225 : decode cL_acts 225 = .ok (.if_icmp .ne 7, 3) := by decide +kernel
theorem dL_acts_228 : decode cL_acts 228 = .ok (.iconst 1, 1) := by decide +kernel
theorem dL_acts_229 : decode cL_acts 229 = .ok (.goto 4, 3) := by decide +kernel
theorem dL_acts_232 : decode cL_acts 232 = .ok (.iconst 0, 1) := by decide +kernel
theorem dL_acts_233 : decode cL_acts 233 = .ok (.istore 9, 2) := by decide +kernel
theorem dL_acts_235 : decode cL_acts 235 = .ok (.aload_n 1, 1) := by decide +kernel
theorem dL_acts_236 : decode cL_acts 236 = .ok (.iconst 1, 1) := by decide +kernel
theorem dL_acts_237 : decode cL_acts 237 = .ok (.iload 5, 2) := by decide +kernel
theorem dL_acts_239 : decode cL_acts 239 = .ok (.iconst 2, 1) := by decide +kernel
theorem dL_acts_240 : decode cL_acts 240 = .ok (.irem, 1) := by decide +kernel
theorem dL_acts_241 : decode cL_acts 241 = .ok (.iastore, 1) := by decide +kernel
theorem dL_acts_242 : decode cL_acts 242 = .ok (.aload_n 0, 1) := by decide +kernel
theorem dL_acts_243 : decode cL_acts 243 = .ok (.iload 5, 2) := by decide +kernel
theorem dL_acts_245 : decode cL_acts 245 = .ok (.iconst 2, 1) := by decide +kernel
theorem dL_acts_246 : decode cL_acts 246 = .ok (.irem, 1) := by decide +kernel
theorem dL_acts_247 : decode cL_acts 247 = .ok (.iconst 1, 1) := by decide +kernel
theorem dL_acts_248 : decode cL_acts 248 = .ok (.if_icmp .ne 7, 3) := by decide +kernel
theorem dL_acts_251 : decode cL_acts 251 = .ok (.iconst 1, 1) := by decide +kernel
theorem dL_acts_252 : decode cL_acts 252 = .ok (.goto 4, 3) := by decide +kernel
theorem dL_acts_255 : decode cL_acts 255 = .ok (.iconst 0, 1) := by decide +kernel
theorem dL_acts_256 : decode cL_acts 256 = .ok (.invokevirtual 78, 3) := by decide +kernel
theorem dL_acts_259 : decode cL_acts 259 = .ok (.iload 9, 2) := by decide +kernel
theorem dL_acts_261 : decode cL_acts 261 = .ok (.if_icmp .ne 7, 3) := by decide +kernel
theorem dL_acts_264 : decode cL_acts 264 = .ok (.iconst 1, 1) := by decide +kernel
theorem dL_acts_265 : decode cL_acts 265 = .ok (.goto 4, 3) := by decide +kernel
theorem dL_acts_268 : decode cL_acts 268 = .ok (.iconst 0, 1) := by decide +kernel
theorem dL_acts_269 : decode cL_acts 269 = .ok (.ireturn, 1) := by decide +kernel
theorem dL_acts_270 : decode cL_acts 270 = .ok (.iload 6, 2) := by decide +kernel
theorem dL_acts_272 : decode cL_acts 272 = .ok (.iconst 5, 1) := by decide +kernel
theorem dL_acts_273 : decode cL_acts 273 = .ok (.if_icmp .lt 11, 3) := by decide +kernel
theorem dL_acts_276 : decode cL_acts 276 = .ok (.aload_n 1, 1) := by decide +kernel
theorem dL_acts_277 : decode cL_acts 277 = .ok (.iconst 0, 1) := by decide +kernel
theorem dL_acts_278 : decode cL_acts 278 = .ok (.iaload, 1) := by decide +kernel
theorem dL_acts_279 : decode cL_acts 279 = .ok (.bipush 11, 2) := by decide +kernel
theorem dL_acts_281 : decode cL_acts 281 = .ok (.if_icmp .le 83, 3) := by decide +kernel
theorem dL_acts_284 : decode cL_acts 284 = .ok (.iconst 1, 1) := by decide +kernel
theorem dL_acts_285 : decode cL_acts 285 = .ok (.iload 5, 2) := by decide +kernel
theorem dL_acts_287 : decode cL_acts 287 = .ok (.aload_n 1, 1) := by decide +kernel
theorem dL_acts_288 : decode cL_acts 288 = .ok (.iconst 0, 1) := by decide +kernel
theorem dL_acts_289 : decode cL_acts 289 = .ok (.iaload, 1) := by decide +kernel
theorem dL_acts_290 : decode cL_acts 290 = .ok (.bipush 8, 2) := by decide +kernel
theorem dL_acts_292 : decode cL_acts 292 = .ok (.if_icmp .le 8, 3) := by decide +kernel
theorem dL_acts_295 : decode cL_acts 295 = .ok (.bipush 9, 2) := by decide +kernel
theorem dL_acts_297 : decode cL_acts 297 = .ok (.goto 4, 3) := by decide +kernel
theorem dL_acts_300 : decode cL_acts 300 = .ok (.iconst 3, 1) := by decide +kernel
theorem dL_acts_301 : decode cL_acts 301 = .ok (.irem, 1) := by decide +kernel
theorem dL_acts_302 : decode cL_acts 302 = .ok (.iadd, 1) := by decide +kernel
theorem dL_acts_303 : decode cL_acts 303 = .ok (.istore 9, 2) := by decide +kernel
theorem dL_acts_305 : decode cL_acts 305 = .ok (.iload 9, 2) := by decide +kernel
theorem dL_acts_307 : decode cL_acts 307 = .ok (.aload_n 1, 1) := by decide +kernel
theorem dL_acts_308 : decode cL_acts 308 = .ok (.iconst 0, 1) := by decide +kernel
theorem dL_acts_309 : decode cL_acts 309 = .ok (.iaload, 1) := by decide +kernel
theorem dL_acts_310 : decode cL_acts 310 = .ok (.if_icmp .lt 21, 3) := by decide +kernel
theorem dL_acts_313 : decode cL_acts 313 = .ok (.aload_n 0, 1) := by decide +kernel
theorem dL_acts_314 : decode cL_acts 314 = .ok (.iload 9, 2) := by decide +kernel
theorem dL_acts_316 : decode cL_acts 316 = .ok (.invokestatic 82, 3) := by decide +kernel
theorem dL_acts_319 : decode cL_acts 319 = .ok (.sipush (-30002), 3) := by decide +kernel
theorem dL_acts_322 : decode cL_acts 322 = .ok (.if_icmp .ne 7, 3) := by decide +kernel
theorem dL_acts_325 : decode cL_acts 325 = .ok (.iconst 1, 1) := by decide +kernel
theorem dL_acts_326 : decode cL_acts 326 = .ok (.goto 4, 3) := by decide +kernel
theorem dL_acts_329 : decode cL_acts 329 = .ok (.iconst 0, 1) := by decide +kernel
theorem dL_acts_330 : decode cL_acts 330 = .ok (.ireturn, 1) := by decide +kernel
theorem dL_acts_331 : decode cL_acts 331 = .ok (.aload_n 1, 1) := by decide +kernel
theorem dL_acts_332 : decode cL_acts 332 = .ok (.iconst 0, 1) := by decide +kernel
theorem dL_acts_333 : decode cL_acts 333 = .ok (.dup2, 1) := by decide +kernel
theorem dL_acts_334 : decode cL_acts 334 = .ok (.iaload, 1) := by decide +kernel
theorem dL_acts_335 : decode cL_acts 335 = .ok (.iload 9, 2) := by decide +kernel
theorem dL_acts_337 : decode cL_acts 337 = .ok (.isub, 1) := by decide +kernel
theorem dL_acts_338 : decode cL_acts 338 = .ok (.iastore, 1) := by decide +kernel
theorem dL_acts_339 : decode cL_acts 339 = .ok (.aload_n 0, 1) := by decide +kernel
theorem dL_acts_340 : decode cL_acts 340 = .ok (.iload 9, 2) := by decide +kernel
theorem dL_acts_342 : decode cL_acts 342 = .ok (.invokestatic 82, 3) := by decide +kernel
theorem dL_acts_345 : decode cL_acts 345 = .ok (.aload_n 2, 1) := by decide +kernel
theorem dL_acts_346 : decode cL_acts 346 = .ok (.aload_n 3, 1) := by decide +kernel
theorem dL_acts_347 : decode cL_acts 347 = .ok (.aload_n 1, 1) := by decide +kernel
theorem dL_acts_348 : decode cL_acts 348 = .ok (.iconst 0, 1) := by decide +kernel
theorem dL_acts_349 : decode cL_acts 349 = .ok (.iaload, 1) := by decide +kernel
theorem dL_acts_350 : decode cL_acts 350 = .ok (.iconst 1, 1) := by decide +kernel
theorem dL_acts_351 : decode cL_acts 351 = .ok (.isub, 1) := by decide +kernel
theorem dL_acts_352 : decode cL_acts 352 = .ok (.invokestatic 53, 3) := by decide +kernel
theorem dL_acts_355 : decode cL_acts 355 = .ok (.if_icmp .ne 7, 3) := by decide +kernel
theorem dL_acts_358 : decode cL_acts 358 = .ok (.iconst 1, 1) := by decide +kernel
theorem dL_acts_359 : decode cL_acts 359 = .ok (.goto 4, 3) := by decide +kernel
theorem dL_acts_362 : decode cL_acts 362 = .ok (.iconst 0, 1) := by decide +kernel
theorem dL_acts_363 : decode cL_acts 363 = .ok (.ireturn, 1) := by decide +kernel
theorem dL_acts_364 : decode cL_acts 364 = .ok (.iload 6, 2) := by decide +kernel
theorem dL_acts_366 : decode cL_acts 366 = .ok (.iconst 5, 1) := by decide +kernel
theorem dL_acts_367 : decode cL_acts 367 = .ok (.if_icmp .ne 121, 3) := by decide +kernel
theorem dL_acts_370 : decode cL_acts 370 = .ok (.iload 5, 2) := by decide +kernel
theorem dL_acts_372 : decode cL_acts 372 = .ok (.iconst 5, 1) := by decide +kernel
theorem dL_acts_373 : decode cL_acts 373 = .ok (.irem, 1) := by decide +kernel
theorem dL_acts_374 : decode cL_acts 374 = .ok (.istore 9, 2) := by decide +kernel
theorem dL_acts_376 : decode cL_acts 376 = .ok (.iconst 1, 1) := by decide +kernel
theorem dL_acts_377 : decode cL_acts 377 = .ok (.iload 5, 2) := by decide +kernel
theorem dL_acts_379 : decode cL_acts 379 = .ok (.iconst 5, 1) := by decide +kernel
theorem dL_acts_380 : decode cL_acts 380 = .ok (.idiv, 1) := by decide +kernel
theorem dL_acts_381 : decode cL_acts 381 = .ok (.bipush 20, 2) := by decide +kernel
theorem dL_acts_383 : decode cL_acts 383 = .ok (.irem, 1) := by decide +kernel
theorem dL_acts_384 : decode cL_acts 384 = .ok (.iadd, 1) := by decide +kernel
theorem dL_acts_385 : decode cL_acts 385 = .ok (.istore 10, 2) := by decide +kernel
theorem dL_acts_387 : decode cL_acts 387 = .ok (.iconst 1, 1) := by decide +kernel
theorem dL_acts_388 : decode cL_acts 388 = .ok (.iload 5, 2) := by decide +kernel
theorem dL_acts_390 : decode cL_acts 390 = .ok (.bipush 100, 2) := by decide +kernel
theorem dL_acts_392 : decode cL_acts 392 = .ok (.idiv, 1) := by decide +kernel
theorem dL_acts_393 : decode cL_acts 393 = .ok (.iconst 3, 1) := by decide +kernel
theorem dL_acts_394 : decode cL_acts 394 = .ok (.irem, 1) := by decide +kernel
theorem dL_acts_395 : decode cL_acts 395 = .ok (.iadd, 1) := by decide +kernel
theorem dL_acts_396 : decode cL_acts 396 = .ok (.istore 11, 2) := by decide +kernel
theorem dL_acts_398 : decode cL_acts 398 = .ok (.iconst 0, 1) := by decide +kernel
theorem dL_acts_399 : decode cL_acts 399 = .ok (.istore 12, 2) := by decide +kernel
theorem dL_acts_401 : decode cL_acts 401 = .ok (.iconst 0, 1) := by decide +kernel
theorem dL_acts_402 : decode cL_acts 402 = .ok (.istore 13, 2) := by decide +kernel
theorem dL_acts_404 : decode cL_acts 404 = .ok (.iload 13, 2) := by decide +kernel
theorem dL_acts_406 : decode cL_acts 406 = .ok (.iload 11, 2) := by decide +kernel
theorem dL_acts_408 : decode cL_acts 408 = .ok (.if_icmp .ge 59, 3) := by decide +kernel
theorem dL_acts_411 : decode cL_acts 411 = .ok (.aload_n 2, 1) := by decide +kernel
theorem dL_acts_412 : decode cL_acts 412 = .ok (.iload 9, 2) := by decide +kernel
theorem dL_acts_414 : decode cL_acts 414 = .ok (.iload 10, 2) := by decide +kernel
theorem dL_acts_416 : decode cL_acts 416 = .ok (.aload_n 1, 1) := by decide +kernel
theorem dL_acts_417 : decode cL_acts 417 = .ok (.iconst 0, 1) := by decide +kernel
theorem dL_acts_418 : decode cL_acts 418 = .ok (.iaload, 1) := by decide +kernel
theorem dL_acts_419 : decode cL_acts 419 = .ok (.invokestatic 85, 3) := by decide +kernel
theorem dL_acts_422 : decode cL_acts 422 = .ok (.istore 14, 2) := by decide +kernel
theorem dL_acts_424 : decode cL_acts 424 = .ok (.iload 12, 2) := by decide +kernel
theorem dL_acts_426 : decode cL_acts 426 = .ok (.iload 13, 2) := by decide +kernel
theorem dL_acts_428 : decode cL_acts 428 = .ok (.if_icmp .ne 33, 3) := by decide +kernel
theorem dL_acts_431 : decode cL_acts 431 = .ok (.iload 14, 2) := by decide +kernel
theorem dL_acts_433 : decode cL_acts 433 = .ok (.aload_n 2, 1) := by decide +kernel
theorem dL_acts_434 : decode cL_acts 434 = .ok (.aload_n 3, 1) := by decide +kernel
theorem dL_acts_435 : decode cL_acts 435 = .ok (.aload_n 1, 1) := by decide +kernel
theorem dL_acts_436 : decode cL_acts 436 = .ok (.iconst 0, 1) := by decide +kernel
theorem dL_acts_437 : decode cL_acts 437 = .ok (.iaload, 1) := by decide +kernel
theorem dL_acts_438 : decode cL_acts 438 = .ok (.iconst 1, 1) := by decide +kernel
theorem dL_acts_439 : decode cL_acts 439 = .ok (.isub, 1) := by decide +kernel
theorem dL_acts_440 : decode cL_acts 440 = .ok (.invokestatic 53, 3) := by decide +kernel
theorem dL_acts_443 : decode cL_acts 443 = .ok (.invokestatic 89, 3) := by decide +kernel
theorem dL_acts_446 : decode cL_acts 446 = .ok (.ifCond .eq 15, 3) := by decide +kernel
theorem dL_acts_449 : decode cL_acts 449 = .ok (.aload_n 1, 1) := by decide +kernel
theorem dL_acts_450 : decode cL_acts 450 = .ok (.aload_n 2, 1) := by decide +kernel
theorem dL_acts_451 : decode cL_acts 451 = .ok (.aload_n 3, 1) := by decide +kernel
theorem dL_acts_452 : decode cL_acts 452 = .ok (.iload 14, 2) := by decide +kernel
theorem dL_acts_454 : decode cL_acts 454 = .ok (.invokestatic 93, 3) := by decide +kernel
theorem dL_acts_457 : decode cL_acts 457 = .ok (.pop, 1) := by decide +kernel
theorem dL_acts_458 : decode cL_acts 458 = .ok (.iinc 12 1, 3) := by decide +kernel
theorem dL_acts_461 : decode cL_acts 461 = .ok (.iinc 13 1, 3) := by decide +kernel
theorem dL_acts_464 : decode cL_acts 464 = .ok (.goto (-60), 3) := by decide +kernel
theorem dL_acts_467 : decode cL_acts 467 = .ok (.aload_n 0, 1) := by decide +kernel
theorem dL_acts_468 : decode cL_acts 468 = .ok (.iload 9, 2) := by decide +kernel
theorem dL_acts_470 : decode cL_acts 470 = .ok (.iload 10, 2) := by decide +kernel
theorem dL_acts_472 : decode cL_acts 472 = .ok (.iload 11, 2) := by decide +kernel
theorem dL_acts_474 : decode cL_acts 474 = .ok (.invokestatic 97, 3) := by decide +kernel
theorem dL_acts_477 : decode cL_acts 477 = .ok (.iload 12, 2) := by decide +kernel
theorem dL_acts_479 : decode cL_acts 479 = .ok (.if_icmp .ne 7, 3) := by decide +kernel
theorem dL_acts_482 : decode cL_acts 482 = .ok (.iconst 1, 1) := by decide +kernel
theorem dL_acts_483 : decode cL_acts 483 = .ok (.goto 4, 3) := by decide +kernel
theorem dL_acts_486 : decode cL_acts 486 = .ok (.iconst 0, 1) := by decide +kernel
theorem dL_acts_487 : decode cL_acts 487 = .ok (.ireturn, 1) := by decide +kernel
theorem dL_acts_488 : decode cL_acts 488 = .ok (.iload 8, 2) := by decide +kernel
theorem dL_acts_490 : decode cL_acts 490 = .ok (.iload 7, 2) := by decide +kernel
theorem dL_acts_492 : decode cL_acts 492 = .ok (.invokestatic 89, 3) := by decide +kernel
theorem dL_acts_495 : decode cL_acts 495 = .ok (.ifCond .ne 46, 3) := by decide +kernel
theorem dL_acts_498 : decode cL_acts 498 = .ok (.aload_n 0, 1) := by decide +kernel
theorem dL_acts_499 : decode cL_acts 499 = .ok (.iload 8, 2) := by decide +kernel
theorem dL_acts_501 : decode cL_acts 501 = .ok (.invokestatic 101, 3) := by decide +kernel
theorem dL_acts_504 : decode cL_acts 504 = .ok (.sipush (-30003), 3) := by decide +kernel
theorem dL_acts_507 : decode cL_acts 507 = .ok (.if_icmp .ne 32, 3) := by decide +kernel
theorem dL_acts_510 : decode cL_acts 510 = .ok (.aload_n 0, 1) := by decide +kernel
theorem dL_acts_511 : decode cL_acts 511 = .ok (.iload 8, 2) := by decide +kernel
theorem dL_acts_513 : decode cL_acts 513 = .ok (.iconst 1, 1) := by decide +kernel
theorem dL_acts_514 : decode cL_acts 514 = .ok (.invokestatic 104, 3) := by decide +kernel
theorem dL_acts_517 : decode cL_acts 517 = .ok (.sipush (-30003), 3) := by decide +kernel
theorem dL_acts_520 : decode cL_acts 520 = .ok (.if_icmp .ne 19, 3) := by decide +kernel
theorem dL_acts_523 : decode cL_acts 523 = .ok (.aload_n 0, 1) := by decide +kernel
theorem dL_acts_524 : decode cL_acts 524 = .ok (.iload 8, 2) := by decide +kernel
theorem dL_acts_526 : decode cL_acts 526 = .ok (.invokestatic 107, 3) := by decide +kernel
theorem dL_acts_529 : decode cL_acts 529 = .ok (.sipush (-30003), 3) := by decide +kernel
theorem dL_acts_532 : decode cL_acts 532 = .ok (.if_icmp .ne 7, 3) := by decide +kernel
theorem dL_acts_535 : decode cL_acts 535 = .ok (.iconst 1, 1) := by decide +kernel
theorem dL_acts_536 : decode cL_acts 536 = .ok (.goto 4, 3) := by decide +kernel
theorem dL_acts_539 : decode cL_acts 539 = .ok (.iconst 0, 1) := by decide +kernel
theorem dL_acts_540 : decode cL_acts 540 = .ok (.ireturn, 1) := by decide +kernel
theorem dL_acts_541 : decode cL_acts 541 = .ok (.iload 6, 2) := by decide +kernel
theorem dL_acts_543 : decode cL_acts 543 = .ok (.bipush 9, 2) := by decide +kernel
theorem dL_acts_545 : decode cL_acts 545 = .ok (.if_icmp .ge 72, 3) := by decide +kernel
theorem dL_acts_548 : decode cL_acts 548 = .ok (.iload 5, 2) := by decide +kernel
theorem dL_acts_550 : decode cL_acts 550 = .ok (.bipush 50, 2) := by decide +kernel
theorem dL_acts_552 : decode cL_acts 552 = .ok (.idiv, 1) := by decide +kernel
theorem dL_acts_553 : decode cL_acts 553 = .ok (.bipush 120, 2) := by decide +kernel
theorem dL_acts_555 : decode cL_acts 555 = .ok (.irem, 1) := by decide +kernel
theorem dL_acts_556 : decode cL_acts 556 = .ok (.istore 9, 2) := by decide +kernel
theorem dL_acts_558 : decode cL_acts 558 = .ok (.aload_n 1, 1) := by decide +kernel
theorem dL_acts_559 : decode cL_acts 559 = .ok (.aload_n 2, 1) := by decide +kernel
theorem dL_acts_560 : decode cL_acts 560 = .ok (.aload_n 3, 1) := by decide +kernel
theorem dL_acts_561 : decode cL_acts 561 = .ok (.iload 8, 2) := by decide +kernel
theorem dL_acts_563 : decode cL_acts 563 = .ok (.iload 9, 2) := by decide +kernel
theorem dL_acts_565 : decode cL_acts 565 = .ok (.iload 8, 2) := by decide +kernel
theorem dL_acts_567 : decode cL_acts 567 = .ok (.iload 7, 2) := by decide +kernel
theorem dL_acts_569 : decode cL_acts 569 = .ok (.if_icmp .ge 8, 3) := by decide +kernel
theorem dL_acts_572 : decode cL_acts 572 = .ok (.iload 8, 2) := by decide +kernel
theorem dL_acts_574 : decode cL_acts 574 = .ok (.goto 5, 3) := by decide +kernel
theorem dL_acts_577 : decode cL_acts 577 = .ok (.iload 7, 2) := by decide +kernel
theorem dL_acts_579 : decode cL_acts 579 = .ok (.irem, 1) := by decide +kernel
theorem dL_acts_580 : decode cL_acts 580 = .ok (.invokestatic 59, 3) := by decide +kernel
theorem dL_acts_583 : decode cL_acts 583 = .ok (.aload_n 1, 1) := by decide +kernel
theorem dL_acts_584 : decode cL_acts 584 = .ok (.iconst 0, 1) := by decide +kernel
theorem dL_acts_585 : decode cL_acts 585 = .ok (.dup2, 1) := by decide +kernel
theorem dL_acts_586 : decode cL_acts 586 = .ok (.iaload, 1) := by decide +kernel
theorem dL_acts_587 : decode cL_acts 587 = .ok (.iconst 1, 1) := by decide +kernel
theorem dL_acts_588 : decode cL_acts 588 = .ok (.iadd, 1) := by decide +kernel
theorem dL_acts_589 : decode cL_acts 589 = .ok (.iastore, 1) := by decide +kernel
theorem dL_acts_590 : decode cL_acts 590 = .ok (.aload_n 0, 1) := by decide +kernel
theorem dL_acts_591 : decode cL_acts 591 = .ok (.iload 8, 2) := by decide +kernel
theorem dL_acts_593 : decode cL_acts 593 = .ok (.iload 9, 2) := by decide +kernel
theorem dL_acts_595 : decode cL_acts 595 = .ok (.invokestatic 104, 3) := by decide +kernel
theorem dL_acts_598 : decode cL_acts 598 = .ok (.aload_n 2, 1) := by decide +kernel
theorem dL_acts_599 : decode cL_acts 599 = .ok (.aload_n 3, 1) := by decide +kernel
theorem dL_acts_600 : decode cL_acts 600 = .ok (.aload_n 1, 1) := by decide +kernel
theorem dL_acts_601 : decode cL_acts 601 = .ok (.iconst 0, 1) := by decide +kernel
theorem dL_acts_602 : decode cL_acts 602 = .ok (.iaload, 1) := by decide +kernel
theorem dL_acts_603 : decode cL_acts 603 = .ok (.iconst 1, 1) := by decide +kernel
theorem dL_acts_604 : decode cL_acts 604 = .ok (.isub, 1) := by decide +kernel
theorem dL_acts_605 : decode cL_acts 605 = .ok (.invokestatic 63, 3) := by decide +kernel
theorem dL_acts_608 : decode cL_acts 608 = .ok (.if_icmp .ne 7, 3) := by decide +kernel
theorem dL_acts_611 : decode cL_acts 611 = .ok (.iconst 1, 1) := by decide +kernel
theorem dL_acts_612 : decode cL_acts 612 = .ok (.goto 4, 3) := by decide +kernel
theorem dL_acts_615 : decode cL_acts 615 = .ok (.iconst 0, 1) := by decide +kernel
theorem dL_acts_616 : decode cL_acts 616 = .ok (.ireturn, 1) := by decide +kernel
theorem dL_acts_617 : decode cL_acts 617 = .ok (.iload 6, 2) := by decide +kernel
theorem dL_acts_619 : decode cL_acts 619 = .ok (.bipush 12, 2) := by decide +kernel
theorem dL_acts_621 : decode cL_acts 621 = .ok (.if_icmp .ge 95, 3) := by decide +kernel
theorem dL_acts_624 : decode cL_acts 624 = .ok (.iload 8, 2) := by decide +kernel
theorem dL_acts_626 : decode cL_acts 626 = .ok (.iload 7, 2) := by decide +kernel
theorem dL_acts_628 : decode cL_acts 628 = .ok (.if_icmp .ge 8, 3) := by decide +kernel
theorem dL_acts_631 : decode cL_acts 631 = .ok (.iload 8, 2) := by decide +kernel
theorem dL_acts_633 : decode cL_acts 633 = .ok (.goto 5, 3) := by decide +kernel
theorem dL_acts_636 : decode cL_acts 636 = .ok (.iload 7, 2) := by decide +kernel
theorem dL_acts_638 : decode cL_acts 638 = .ok (.istore 9, 2) := by decide +kernel
theorem dL_acts_640 : decode cL_acts 640 = .ok (.iload 8, 2) := by decide +kernel
theorem dL_acts_642 : decode cL_acts 642 = .ok (.iload 7, 2) := by decide +kernel
theorem dL_acts_644 : decode cL_acts 644 = .ok (.isub, 1) := by decide +kernel
theorem dL_acts_645 : decode cL_acts 645 = .ok (.iconst 2, 1) := by decide +kernel
theorem dL_acts_646 : decode cL_acts 646 = .ok (.irem, 1) := by decide +kernel
theorem dL_acts_647 : decode cL_acts 647 = .ok (.ifCond .eq 28, 3) := by decide +kernel
theorem dL_acts_650 : decode cL_acts 650 = .ok (.iload 9, 2) := by decide +kernel
theorem dL_acts_652 : decode cL_acts 652 = .ok (.iconst 2, 1) := by decide +kernel
theorem dL_acts_653 : decode cL_acts 653 = .ok (.irem, 1) := by decide +kernel
theorem dL_acts_654 : decode cL_acts 654 = .ok (.ifCond .ne 21, 3) := by decide +kernel
theorem dL_acts_657 : decode cL_acts 657 = .ok (.aload_n 0, 1) := by decide +kernel
theorem dL_acts_658 : decode cL_acts 658 = .ok (.iload 8, 2) := by decide +kernel
theorem dL_acts_660 : decode cL_acts 660 = .ok (.invokestatic 107, 3) := by decide +kernel
theorem dL_acts_663 : decode cL_acts 663 = .ok (.sipush (-30003), 3) := by decide +kernel
theorem dL_acts_666 : decode cL_acts 666 = .ok (.if_icmp .ne 7, 3) := by decide +kernel
theorem dL_acts_669 : decode cL_acts 669 = .ok (.iconst 1, 1) := by decide +kernel
theorem dL_acts_670 : decode cL_acts 670 = .ok (.goto 4, 3) := by decide +kernel
theorem dL_acts_673 : decode cL_acts 673 = .ok (.iconst 0, 1) := by decide +kernel
theorem dL_acts_674 : decode cL_acts 674 = .ok (.ireturn, 1) := by decide +kernel
theorem dL_acts_675 : decode cL_acts 675 = .ok (.aload_n 1, 1) := by decide +kernel
theorem dL_acts_676 : decode cL_acts 676 = .ok (.aload_n 2, 1) := by decide +kernel
theorem dL_acts_677 : decode cL_acts 677 = .ok (.aload_n 3, 1) := by decide +kernel
theorem dL_acts_678 : decode cL_acts 678 = .ok (.iload 8, 2) := by decide +kernel
theorem dL_acts_680 : decode cL_acts 680 = .ok (.iconst (-1), 1) := by decide +kernel
theorem dL_acts_681 : decode cL_acts 681 = .ok (.invokestatic 59, 3) := by decide +kernel
theorem dL_acts_684 : decode cL_acts 684 = .ok (.aload_n 1, 1) := by decide +kernel
theorem dL_acts_685 : decode cL_acts 685 = .ok (.iconst 0, 1) := by decide +kernel
theorem dL_acts_686 : decode cL_acts 686 = .ok (.dup2, 1) := by decide +kernel
theorem dL_acts_687 : decode cL_acts 687 = .ok (.iaload, 1) := by decide +kernel
theorem dL_acts_688 : decode cL_acts 688 = .ok (.iconst 1, 1) := by decide +kernel
theorem dL_acts_689 : decode cL_acts 689 = .ok (.iadd, 1) := by decide +kernel
theorem dL_acts_690 : decode cL_acts 690 = .ok (.iastore, 1) := by decide +kernel
theorem dL_acts_691 : decode cL_acts 691 = .ok (.aload_n 0, 1) := by decide +kernel
theorem dL_acts_692 : decode cL_acts 692 = .ok (.iload 8, 2) := by decide +kernel
theorem dL_acts_694 : decode cL_acts 694 = .ok (.invokestatic 107, 3) := by decide +kernel
theorem dL_acts_697 : decode cL_acts 697 = .ok (.aload_n 2, 1) := by decide +kernel
theorem dL_acts_698 : decode cL_acts 698 = .ok (.aload_n 3, 1) := by decide +kernel
theorem dL_acts_699 : decode cL_acts 699 = .ok (.aload_n 1, 1) := by decide +kernel
theorem dL_acts_700 : decode cL_acts 700 = .ok (.iconst 0, 1) := by decide +kernel
theorem dL_acts_701 : decode cL_acts 701 = .ok (.iaload, 1) := by decide +kernel
theorem dL_acts_702 : decode cL_acts 702 = .ok (.iconst 1, 1) := by decide +kernel
theorem dL_acts_703 : decode cL_acts 703 = .ok (.isub, 1) := by decide +kernel
theorem dL_acts_704 : decode cL_acts 704 = .ok (.invokestatic 63, 3) := by decide +kernel
theorem dL_acts_707 : decode cL_acts 707 = .ok (.if_icmp .ne 7, 3) := by decide +kernel
theorem dL_acts_710 : decode cL_acts 710 = .ok (.iconst 1, 1) := by decide +kernel
theorem dL_acts_711 : decode cL_acts 711 = .ok (.goto 4, 3) := by decide +kernel
theorem dL_acts_714 : decode cL_acts 714 = .ok (.iconst 0, 1) := by decide +kernel
theorem dL_acts_715 : decode cL_acts 715 = .ok (.ireturn, 1) := by decide +kernel
theorem dL_acts_716 : decode cL_acts 716 = .ok (.aload_n 1, 1) := by decide +kernel
theorem dL_acts_717 : decode cL_acts 717 = .ok (.aload_n 2, 1) := by decide +kernel
theorem dL_acts_718 : decode cL_acts 718 = .ok (.aload_n 3, 1) := by decide +kernel
theorem dL_acts_719 : decode cL_acts 719 = .ok (.iload 8, 2) := by decide +kernel
theorem dL_acts_721 : decode cL_acts 721 = .ok (.invokestatic 93, 3) := by decide +kernel
theorem dL_acts_724 : decode cL_acts 724 = .ok (.istore 9, 2) := by decide +kernel
theorem dL_acts_726 : decode cL_acts 726 = .ok (.aload_n 0, 1) := by decide +kernel
theorem dL_acts_727 : decode cL_acts 727 = .ok (.iload 8, 2) := by decide +kernel
theorem dL_acts_729 : decode cL_acts 729 = .ok (.invokestatic 101, 3) := by decide +kernel
theorem dL_acts_732 : decode cL_acts 732 = .ok (.iload 9, 2) := by decide +kernel
theorem dL_acts_734 : decode cL_acts 734 = .ok (.if_icmp .ne 7, 3) := by decide +kernel
theorem dL_acts_737 : decode cL_acts 737 = .ok (.iconst 1, 1) := by decide +kernel
theorem dL_acts_738 : decode cL_acts 738 = .ok (.goto 4, 3) := by decide +kernel
theorem dL_acts_741 : decode cL_acts 741 = .ok (.iconst 0, 1) := by decide +kernel
theorem dL_acts_742 : decode cL_acts 742 = .ok (.ireturn, 1) := by decide +kernel
