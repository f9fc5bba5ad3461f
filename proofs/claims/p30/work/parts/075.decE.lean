set_option maxRecDepth 20000 in
theorem ggL_roundOf_X6_round : GoodIn wsL_roundOf wsX6_round := goodIn_ca (goodIn_ca (goodIn_r _ [7, 8, 9, 10, 11, 6, 12, 13, 14, 15, 16, 17, 18, 19, 20, 21, 22, 23, 24, 25, 26, 27, 28, 29, 30, 31, 32, 33, 34, 35, 36, 37, 38, 39, 40, 41, 42, 43, 44, 45, 46, 47, 48, 49, 50, 51, 52, 53, 54, 55, 56, 57, 58, 59, 60, 61, 62, 63, 64, 65, 66, 67, 68, 69, 70, 71, 72, 73, 74, 75, 76, 77, 78, 79, 80, 81, 82, 83, 84, 85, 86, 87, 88, 89, 90, 91, 92, 93, 94, 95, 96, 97, 98, 99, 100, 101, 102, 103, 104, 105, 106] (by decide +kernel) (by decide +kernel)) (goodIn_sub (fun _ h => List.mem_cons_of_mem _ (List.mem_append_left _ (List.mem_append_right _ h))) (by decide +kernel))) (goodIn_sub (fun _ h => List.mem_cons_of_mem _ (List.mem_append_right _ h)) (by decide +kernel))
set_option maxRecDepth 20000 in
theorem gL_roundOf_X6_round : GoodIn wsL_roundOf (wsV RL 110 RX6 yX6_round wsX6_round) := goodIn_app (goodIn_of _ (by decide +kernel)) ggL_roundOf_X6_round
theorem dL_roundOf_0 : decode cL_roundOf 0 = .ok (.aload_n 0, 1) := by decide +kernel
theorem dL_roundOf_1 : decode cL_roundOf 1 = .ok (.iload_n 1, 1) := by decide +kernel
theorem dL_roundOf_2 : decode cL_roundOf 2 = .ok (.iload_n 2, 1) := by decide +kernel
theorem dL_roundOf_3 : decode cL_roundOf 3 = .ok (.invokevirtual 110, 3) := by decide +kernel
theorem dL_roundOf_6 : decode cL_roundOf 6 = .ok (.ireturn, 1) := by decide +kernel
theorem dL_roundOf_7 : decode cL_roundOf 7 = .ok (.astore_n 3, 1) := by decide +kernel
theorem dL_roundOf_8 : decode cL_roundOf 8 = .ok (.sipush (-30004), 3) := by decide +kernel
theorem dL_roundOf_11 : decode cL_roundOf 11 = .ok (.ireturn, 1) := by decide +kernel
theorem dL_roundOf_12 : decode cL_roundOf 12 = .ok (.astore_n 3, 1) := by decide +kernel
theorem dL_roundOf_13 : decode cL_roundOf 13 = .ok (.sipush (-30001), 3) := by decide +kernel
theorem dL_roundOf_16 : decode cL_roundOf 16 = .ok (.ireturn, 1) := by decide +kernel
set_option maxRecDepth 20000 in
theorem ggL_workOf_X6_work : GoodIn wsL_workOf wsX6_work := goodIn_ca (goodIn_r _ [6, 7, 8, 9, 10, 11, 5, 12, 13, 14, 15, 16, 17, 18, 19, 20, 21, 22, 23, 24, 25, 26, 27, 28, 29, 30, 31, 32, 33, 34, 35, 36, 37, 38, 39] (by decide +kernel) (by decide +kernel)) (goodIn_sub (fun _ h => List.mem_cons_of_mem _ (List.mem_append_right _ h)) (by decide +kernel))
set_option maxRecDepth 20000 in
theorem gL_workOf_X6_work : GoodIn wsL_workOf (wsV RL 115 RX6 yX6_work wsX6_work) := goodIn_app (goodIn_of _ (by decide +kernel)) ggL_workOf_X6_work
theorem dL_workOf_0 : decode cL_workOf 0 = .ok (.aload_n 0, 1) := by decide +kernel
theorem dL_workOf_1 : decode cL_workOf 1 = .ok (.iload_n 1, 1) := by decide +kernel
theorem dL_workOf_2 : decode cL_workOf 2 = .ok (.iload_n 2, 1) := by decide +kernel
theorem dL_workOf_3 : decode cL_workOf 3 = .ok (.invokevirtual 115, 3) := by decide +kernel
theorem dL_workOf_6 : decode cL_workOf 6 = .ok (.ireturn, 1) := by decide +kernel
theorem dL_workOf_7 : decode cL_workOf 7 = .ok (.astore_n 3, 1) := by decide +kernel
theorem dL_workOf_8 : decode cL_workOf 8 = .ok (.sipush (-30004), 3) := by decide +kernel
theorem dL_workOf_11 : decode cL_workOf 11 = .ok (.ireturn, 1) := by decide +kernel
set_option maxRecDepth 20000 in
theorem ggL_valueOf_X6_value : GoodIn wsL_valueOf wsX6_value := goodIn_ca (goodIn_r _ [6, 7, 8, 9, 10, 11, 5, 12, 13, 14, 15, 16, 17, 18, 19, 20, 21, 22, 23, 24, 25, 26, 27, 28, 29, 30, 31, 32, 33, 34, 35, 36, 37, 38, 39, 40, 41, 42, 43, 44, 45, 46, 47, 48, 49, 50, 51, 52, 53, 54, 55, 56, 57, 58, 59, 60, 61, 62, 63, 64, 65, 66, 67, 68, 69, 70, 71, 72, 73, 74, 75, 76, 77, 78, 79, 80, 81, 82, 83, 84, 85, 86, 87, 88, 89, 90, 91, 92, 93, 94, 95, 96, 97, 98, 99, 100, 101, 102, 103, 104, 105, 106, 107, 108, 109, 110, 111, 112, 113, 114, 115] (by decide +kernel) (by decide +kernel)) (goodIn_sub (fun _ h => List.mem_cons_of_mem _ (List.mem_append_right _ h)) (by decide +kernel))
set_option maxRecDepth 20000 in
theorem gL_valueOf_X6_value : GoodIn wsL_valueOf (wsV RL 118 RX6 yX6_value wsX6_value) := goodIn_app (goodIn_of _ (by decide +kernel)) ggL_valueOf_X6_value
theorem dL_valueOf_0 : decode cL_valueOf 0 = .ok (.aload_n 0, 1) := by decide +kernel
theorem dL_valueOf_1 : decode cL_valueOf 1 = .ok (.iload_n 1, 1) := by decide +kernel
theorem dL_valueOf_2 : decode cL_valueOf 2 = .ok (.invokevirtual 118, 3) := by decide +kernel
theorem dL_valueOf_5 : decode cL_valueOf 5 = .ok (.ireturn, 1) := by decide +kernel
theorem dL_valueOf_6 : decode cL_valueOf 6 = .ok (.astore_n 2, 1) := by decide +kernel
theorem dL_valueOf_7 : decode cL_valueOf 7 = .ok (.sipush (-30001), 3) := by decide +kernel
theorem dL_valueOf_10 : decode cL_valueOf 10 = .ok (.ireturn, 1) := by decide +kernel
set_option maxRecDepth 20000 in
theorem ggL_isRound_L_total : GoodIn wsL_isRound wsL_total := goodIn_r _ [4, 5, 6, 3, 7, 8] (by decide +kernel) (by decide +kernel)
set_option maxRecDepth 20000 in
theorem gL_isRound_L_total : GoodIn wsL_isRound (va_wsS RL 53 yL_total wsL_total) := goodIn_app (goodIn_of _ (by decide +kernel)) ggL_isRound_L_total
set_option maxRecDepth 20000 in
theorem ggL_isRound_L_kind : GoodIn wsL_isRound wsL_kind := goodIn_r _ [7, 8] (by decide +kernel) (by decide +kernel)
set_option maxRecDepth 20000 in
theorem gL_isRound_L_kind : GoodIn wsL_isRound (va_wsS RL 43 yL_kind wsL_kind) := goodIn_app (goodIn_of _ (by decide +kernel)) ggL_isRound_L_kind
set_option maxRecDepth 20000 in
theorem ggL_isRound_L_workOf : GoodIn wsL_isRound wsL_workOf := goodIn_ca (goodIn_r _ [11, 12, 13, 14, 15, 16, 17, 18, 19, 20, 21, 22, 23, 24, 25, 26, 27, 28, 29, 30, 31, 32, 33, 34, 35, 36, 37, 38, 119, 120, 121, 122, 123, 124, 125, 126, 127, 128, 129, 130] (by decide +kernel) (by decide +kernel)) (goodIn_sub (fun _ h => List.mem_cons_of_mem _ (List.mem_append_left _ (List.mem_append_right _ h))) (by decide +kernel))
set_option maxRecDepth 20000 in
theorem gL_isRound_L_workOf : GoodIn wsL_isRound (va_wsS RL 121 yL_workOf wsL_workOf) := goodIn_app (goodIn_of _ (by decide +kernel)) ggL_isRound_L_workOf
set_option maxRecDepth 20000 in
theorem ggL_isRound_L_roundOf : GoodIn wsL_isRound wsL_roundOf := goodIn_ca (goodIn_ca (goodIn_r _ [41, 12, 42, 43, 44, 45, 16, 46, 18, 19, 21, 22, 23, 24, 25, 47, 48, 49, 50, 51, 52, 53, 54, 55, 56, 20, 26, 27, 28, 29, 30, 31, 57, 58, 59, 35, 60, 61, 38, 62, 33, 34, 36, 37, 63, 64, 65, 66, 67, 68, 69, 70, 71, 72, 73, 74, 75, 76, 77, 78, 79, 80, 81, 82, 83, 84, 85, 86, 87, 88, 89, 90, 91, 92, 93, 94, 95, 96, 97, 98, 99, 100, 101, 102, 103, 104, 105, 106, 107, 108, 109, 110, 111, 112, 119, 120, 121, 122, 123, 124, 125, 126, 127, 128, 129, 130, 131] (by decide +kernel) (by decide +kernel)) (goodIn_sub (fun _ h => List.mem_cons_of_mem _ (List.mem_append_left _ (List.mem_append_right _ h))) (by decide +kernel))) (goodIn_sub (fun _ h => List.mem_cons_of_mem _ (List.mem_append_right _ h)) (by decide +kernel))
set_option maxRecDepth 20000 in
theorem gL_isRound_L_roundOf : GoodIn wsL_isRound (va_wsS RL 124 yL_roundOf wsL_roundOf) := goodIn_app (goodIn_of _ (by decide +kernel)) ggL_isRound_L_roundOf
set_option maxRecDepth 20000 in
theorem ggL_isRound_L_stacked : GoodIn wsL_isRound wsL_stacked := goodIn_r _ [115, 5, 6, 3, 7, 8, 116, 117, 118] (by decide +kernel) (by decide +kernel)
set_option maxRecDepth 20000 in
theorem gL_isRound_L_stacked : GoodIn wsL_isRound (va_wsS RL 63 yL_stacked wsL_stacked) := goodIn_app (goodIn_of _ (by decide +kernel)) ggL_isRound_L_stacked
theorem dL_isRound_0 : decode cL_isRound 0 = .ok (.aload_n 2, 1) := by decide +kernel
theorem dL_isRound_1 : decode cL_isRound 1 = .ok (.aload_n 3, 1) := by decide +kernel
theorem dL_isRound_2 : decode cL_isRound 2 = .ok (.iload 4, 2) := by decide +kernel
theorem dL_isRound_4 : decode cL_isRound 4 = .ok (.invokestatic 53, 3) := by decide +kernel
theorem dL_isRound_7 : decode cL_isRound 7 = .ok (.istore 5, 2) := by decide +kernel
theorem dL_isRound_9 : decode cL_isRound 9 = .ok (.iconst 0, 1) := by decide +kernel
theorem dL_isRound_10 : decode cL_isRound 10 = .ok (.istore 6, 2) := by decide +kernel
theorem dL_isRound_12 : decode cL_isRound 12 = .ok (.iconst 0, 1) := by decide +kernel
theorem dL_isRound_13 : decode cL_isRound 13 = .ok (.istore 7, 2) := by decide +kernel
theorem dL_isRound_15 : decode cL_isRound 15 = .ok (.iconst (-1), 1) := by decide +kernel
theorem dL_isRound_16 : decode cL_isRound 16 = .ok (.istore 8, 2) := by decide +kernel
theorem dL_isRound_18 : decode cL_isRound 18 = .ok (.iconst (-1), 1) := by decide +kernel
theorem dL_isRound_19 : decode cL_isRound 19 = .ok (.istore 9, 2) := by decide +kernel
theorem dL_isRound_21 : decode cL_isRound 21 = .ok (.iconst 0, 1) := by decide +kernel
theorem dL_isRound_22 : decode cL_isRound 22 = .ok (.istore 10, 2) := by decide +kernel
theorem dL_isRound_24 : decode cL_isRound 24 = .ok (.sipush 999, 3) := by decide +kernel
theorem dL_isRound_27 : decode cL_isRound 27 = .ok (.istore 11, 2) := by decide +kernel
theorem dL_isRound_29 : decode cL_isRound 29 = .ok (.iconst 1, 1) := by decide +kernel
theorem dL_isRound_30 : decode cL_isRound 30 = .ok (.istore 12, 2) := by decide +kernel
theorem dL_isRound_32 : decode cL_isRound 32 = .ok (.iconst 1, 1) := by decide +kernel
theorem dL_isRound_33 : decode cL_isRound 33 = .ok (.istore 13, 2) := by decide +kernel
theorem dL_isRound_35 : decode cL_isRound 35 = .ok (.iconst 0, 1) := by decide +kernel
theorem dL_isRound_36 : decode cL_isRound 36 = .ok (.istore 14, 2) := by decide +kernel
theorem dL_isRound_38 : decode cL_isRound 38 = .ok (.iload 14, 2) := by decide +kernel
theorem dL_isRound_40 : decode cL_isRound 40 = .ok (.aload_n 2, 1) := by decide +kernel
theorem dL_isRound_41 : decode cL_isRound 41 = .ok (.iload 4, 2) := by decide +kernel
theorem dL_isRound_43 : decode cL_isRound 43 = .ok (.iaload, 1) := by decide +kernel
theorem dL_isRound_44 : decode cL_isRound 44 = .ok (.if_icmp .ge 185, 3) := by decide +kernel
theorem dL_isRound_47 : decode cL_isRound 47 = .ok (.iload 13, 2) := by decide +kernel
theorem dL_isRound_49 : decode cL_isRound 49 = .ok (.ifCond .eq 180, 3) := by decide +kernel
theorem dL_isRound_52 : decode cL_isRound 52 = .ok (.aload_n 3, 1) := by decide +kernel
theorem dL_isRound_53 : decode cL_isRound 53 = .ok (.iload 4, 2) := by decide +kernel
theorem dL_isRound_55 : decode cL_isRound 55 = .ok (.iload 14, 2) := by decide +kernel
theorem dL_isRound_57 : decode cL_isRound 57 = .ok (.invokestatic 43, 3) := by decide +kernel
theorem dL_isRound_60 : decode cL_isRound 60 = .ok (.istore 15, 2) := by decide +kernel
theorem dL_isRound_62 : decode cL_isRound 62 = .ok (.iload 6, 2) := by decide +kernel
theorem dL_isRound_64 : decode cL_isRound 64 = .ok (.iload 15, 2) := by decide +kernel
theorem dL_isRound_66 : decode cL_isRound 66 = .ok (.iconst 1, 1) := by decide +kernel
theorem dL_isRound_67 : decode cL_isRound 67 = .ok (.if_icmp .ne 7, 3) := by decide +kernel
theorem dL_isRound_70 : decode cL_isRound 70 = .ok (.iconst 1, 1) := by decide +kernel
theorem dL_isRound_71 : decode cL_isRound 71 = .ok (.goto 4, 3) := by decide +kernel
theorem dL_isRound_74 : decode cL_isRound 74 = .ok (.iconst 0, 1) := by decide +kernel
theorem dL_isRound_75 : decode cL_isRound 75 = .ok (.iadd, 1) := by decide +kernel
theorem dL_isRound_76 : decode cL_isRound 76 = .ok (.istore 6, 2) := by decide +kernel
theorem dL_isRound_78 : decode cL_isRound 78 = .ok (.iload 7, 2) := by decide +kernel
theorem dL_isRound_80 : decode cL_isRound 80 = .ok (.iload 15, 2) := by decide +kernel
theorem dL_isRound_82 : decode cL_isRound 82 = .ok (.iconst 2, 1) := by decide +kernel
theorem dL_isRound_83 : decode cL_isRound 83 = .ok (.if_icmp .ne 7, 3) := by decide +kernel
theorem dL_isRound_86 : decode cL_isRound 86 = .ok (.iconst 1, 1) := by decide +kernel
theorem dL_isRound_87 : decode cL_isRound 87 = .ok (.goto 4, 3) := by decide +kernel
theorem dL_isRound_90 : decode cL_isRound 90 = .ok (.iconst 0, 1) := by decide +kernel
theorem dL_isRound_91 : decode cL_isRound 91 = .ok (.iadd, 1) := by decide +kernel
theorem dL_isRound_92 : decode cL_isRound 92 = .ok (.istore 7, 2) := by decide +kernel
theorem dL_isRound_94 : decode cL_isRound 94 = .ok (.iload 12, 2) := by decide +kernel
theorem dL_isRound_96 : decode cL_isRound 96 = .ok (.ifCond .eq 27, 3) := by decide +kernel
theorem dL_isRound_99 : decode cL_isRound 99 = .ok (.iload 15, 2) := by decide +kernel
theorem dL_isRound_101 : decode cL_isRound 101 = .ok (.aload_n 3, 1) := by decide +kernel
theorem dL_isRound_102 : decode cL_isRound 102 = .ok (.iload 4, 2) := by decide +kernel
theorem dL_isRound_104 : decode cL_isRound 104 = .ok (.aload_n 2, 1) := by decide +kernel
theorem dL_isRound_105 : decode cL_isRound 105 = .ok (.iload 4, 2) := by decide +kernel
theorem dL_isRound_107 : decode cL_isRound 107 = .ok (.iaload, 1) := by decide +kernel
theorem dL_isRound_108 : decode cL_isRound 108 = .ok (.iconst 1, 1) := by decide +kernel
theorem dL_isRound_109 : decode cL_isRound 109 = .ok (.isub, 1) := by decide +kernel
theorem dL_isRound_110 : decode cL_isRound 110 = .ok (.iload 14, 2) := by decide +kernel
theorem dL_isRound_112 : decode cL_isRound 112 = .ok (.isub, 1) := by decide +kernel
theorem dL_isRound_113 : decode cL_isRound 113 = .ok (.invokestatic 43, 3) := by decide +kernel
theorem dL_isRound_116 : decode cL_isRound 116 = .ok (.if_icmp .ne 7, 3) := by decide +kernel
theorem dL_isRound_119 : decode cL_isRound 119 = .ok (.iconst 1, 1) := by decide +kernel
theorem dL_isRound_120 : decode cL_isRound 120 = .ok (.goto 4, 3) := by decide +kernel
theorem dL_isRound_123 : decode cL_isRound 123 = .ok (.iconst 0, 1) := by decide +kernel
theorem dL_isRound_124 : decode cL_isRound 124 = .ok (.istore 12, 2) := by decide +kernel
theorem dL_isRound_126 : decode cL_isRound 126 = .ok (.iload 15, 2) := by decide +kernel
theorem dL_isRound_128 : decode cL_isRound 128 = .ok (.ifCond .le 75, 3) := by decide +kernel
theorem dL_isRound_131 : decode cL_isRound 131 = .ok (.iload 9, 2) := by decide +kernel
theorem dL_isRound_133 : decode cL_isRound 133 = .ok (.ifCond .lt 21, 3) := by decide +kernel
theorem dL_isRound_136 : decode cL_isRound 136 = .ok (.iload 14, 2) := by decide +kernel
theorem dL_isRound_138 : decode cL_isRound 138 = .ok (.iload 9, 2) := by decide +kernel
theorem dL_isRound_140 : decode cL_isRound 140 = .ok (.isub, 1) := by decide +kernel
theorem dL_isRound_141 : decode cL_isRound 141 = .ok (.iload 10, 2) := by decide +kernel
theorem dL_isRound_143 : decode cL_isRound 143 = .ok (.if_icmp .le 11, 3) := by decide +kernel
theorem dL_isRound_146 : decode cL_isRound 146 = .ok (.iload 14, 2) := by decide +kernel
theorem dL_isRound_148 : decode cL_isRound 148 = .ok (.iload 9, 2) := by decide +kernel
theorem dL_isRound_150 : decode cL_isRound 150 = .ok (.isub, 1) := by decide +kernel
theorem dL_isRound_151 : decode cL_isRound 151 = .ok (.goto 5, 3) := by decide +kernel
theorem dL_isRound_154 : decode cL_isRound 154 = .ok (.iload 10, 2) := by decide +kernel
theorem dL_isRound_156 : decode cL_isRound 156 = .ok (.istore 10, 2) := by decide +kernel
theorem dL_isRound_158 : decode cL_isRound 158 = .ok (.iload 9, 2) := by decide +kernel
theorem dL_isRound_160 : decode cL_isRound 160 = .ok (.ifCond .lt 21, 3) := by decide +kernel
theorem dL_isRound_163 : decode cL_isRound 163 = .ok (.iload 14, 2) := by decide +kernel
theorem dL_isRound_165 : decode cL_isRound 165 = .ok (.iload 9, 2) := by decide +kernel
theorem dL_isRound_167 : decode cL_isRound 167 = .ok (.isub, 1) := by decide +kernel
theorem dL_isRound_168 : decode cL_isRound 168 = .ok (.iload 11, 2) := by decide +kernel
theorem dL_isRound_170 : decode cL_isRound 170 = .ok (.if_icmp .ge 11, 3) := by decide +kernel
theorem dL_isRound_173 : decode cL_isRound 173 = .ok (.iload 14, 2) := by decide +kernel
theorem dL_isRound_175 : decode cL_isRound 175 = .ok (.iload 9, 2) := by decide +kernel
theorem dL_isRound_177 : decode cL_isRound 177 = .ok (.isub, 1) := by decide +kernel
theorem dL_isRound_178 : decode cL_isRound 178 = .ok (.goto 5, 3) := by decide +kernel
theorem dL_isRound_181 : decode cL_isRound 181 = .ok (.iload 11, 2) := by decide +kernel
theorem dL_isRound_183 : decode cL_isRound 183 = .ok (.istore 11, 2) := by decide +kernel
theorem dL_isRound_185 : decode cL_isRound 185 = .ok (.iload 8, 2) := by decide +kernel
theorem dL_isRound_187 : decode cL_isRound 187 = .ok (.ifCond .ge 8, 3) := by decide +kernel
theorem dL_isRound_190 : decode cL_isRound 190 = .ok (.iload 14, 2) := by decide +kernel
theorem dL_isRound_192 : decode cL_isRound 192 = .ok (.goto 5, 3) := by decide +kernel
theorem dL_isRound_195 : decode cL_isRound 195 = .ok (.iload 8, 2) := by decide +kernel
theorem dL_isRound_197 : decode cL_isRound 197 = .ok (.istore 8, 2) := by decide +kernel
theorem dL_isRound_199 : decode cL_isRound 199 = .ok (.iload 14, 2) := by decide +kernel
theorem dL_isRound_201 : decode cL_isRound 201 = .ok (.istore 9, 2) := by decide +kernel
theorem dL_isRound_203 : decode cL_isRound 203 = .ok (.aload_n 0, 1) := by decide +kernel
theorem dL_isRound_204 : decode cL_isRound 204 = .ok (.iload 4, 2) := by decide +kernel
theorem dL_isRound_206 : decode cL_isRound 206 = .ok (.iload 14, 2) := by decide +kernel
theorem dL_isRound_208 : decode cL_isRound 208 = .ok (.invokestatic 121, 3) := by decide +kernel
theorem dL_isRound_211 : decode cL_isRound 211 = .ok (.iload 15, 2) := by decide +kernel
theorem dL_isRound_213 : decode cL_isRound 213 = .ok (.if_icmp .ne 7, 3) := by decide +kernel
theorem dL_isRound_216 : decode cL_isRound 216 = .ok (.iconst 1, 1) := by decide +kernel
theorem dL_isRound_217 : decode cL_isRound 217 = .ok (.goto 4, 3) := by decide +kernel
theorem dL_isRound_220 : decode cL_isRound 220 = .ok (.iconst 0, 1) := by decide +kernel
theorem dL_isRound_221 : decode cL_isRound 221 = .ok (.istore 13, 2) := by decide +kernel
theorem dL_isRound_223 : decode cL_isRound 223 = .ok (.iinc 14 1, 3) := by decide +kernel
theorem dL_isRound_226 : decode cL_isRound 226 = .ok (.goto (-188), 3) := by decide +kernel
theorem dL_isRound_229 : decode cL_isRound 229 = .ok (.iload 8, 2) := by decide +kernel
theorem dL_isRound_231 : decode cL_isRound 231 = .ok (.aload_n 2, 1) := by decide +kernel
theorem dL_isRound_232 : decode cL_isRound 232 = .ok (.iload 4, 2) := by decide +kernel
theorem dL_isRound_234 : decode cL_isRound 234 = .ok (.iaload, 1) := by decide +kernel
theorem dL_isRound_235 : decode cL_isRound 235 = .ok (.iadd, 1) := by decide +kernel
theorem dL_isRound_236 : decode cL_isRound 236 = .ok (.iload 9, 2) := by decide +kernel
theorem dL_isRound_238 : decode cL_isRound 238 = .ok (.isub, 1) := by decide +kernel
theorem dL_isRound_239 : decode cL_isRound 239 = .ok (.istore 14, 2) := by decide +kernel
theorem dL_isRound_241 : decode cL_isRound 241 = .ok (.iload 6, 2) := by decide +kernel
theorem dL_isRound_243 : decode cL_isRound 243 = .ok (.iload 7, 2) := by decide +kernel
theorem dL_isRound_245 : decode cL_isRound 245 = .ok (.iadd, 1) := by decide +kernel
theorem dL_isRound_246 : decode cL_isRound 246 = .ok (.iconst 1, 1) := by decide +kernel
theorem dL_isRound_247 : decode cL_isRound 247 = .ok (.if_icmp .le 7, 3) := by decide +kernel
theorem dL_isRound_250 : decode cL_isRound 250 = .ok (.iconst 1, 1) := by decide +kernel
theorem dL_isRound_251 : decode cL_isRound 251 = .ok (.goto 4, 3) := by decide +kernel
theorem dL_isRound_254 : decode cL_isRound 254 = .ok (.iconst 0, 1) := by decide +kernel
theorem dL_isRound_255 : decode cL_isRound 255 = .ok (.istore 15, 2) := by decide +kernel
theorem dL_isRound_257 : decode cL_isRound 257 = .ok (.iload 15, 2) := by decide +kernel
theorem dL_isRound_259 : decode cL_isRound 259 = .ok (.ifCond .ne 7, 3) := by decide +kernel
theorem dL_isRound_262 : decode cL_isRound 262 = .ok (.iconst 0, 1) := by decide +kernel
theorem dL_isRound_263 : decode cL_isRound 263 = .ok (.goto 17, 3) := by decide +kernel
theorem dL_isRound_266 : decode cL_isRound 266 = .ok (.iload 14, 2) := by decide +kernel
theorem dL_isRound_268 : decode cL_isRound 268 = .ok (.iload 10, 2) := by decide +kernel
theorem dL_isRound_270 : decode cL_isRound 270 = .ok (.if_icmp .le 8, 3) := by decide +kernel
theorem dL_isRound_273 : decode cL_isRound 273 = .ok (.iload 14, 2) := by decide +kernel
theorem dL_isRound_275 : decode cL_isRound 275 = .ok (.goto 5, 3) := by decide +kernel
theorem dL_isRound_278 : decode cL_isRound 278 = .ok (.iload 10, 2) := by decide +kernel
theorem dL_isRound_280 : decode cL_isRound 280 = .ok (.istore 10, 2) := by decide +kernel
theorem dL_isRound_282 : decode cL_isRound 282 = .ok (.iload 15, 2) := by decide +kernel
theorem dL_isRound_284 : decode cL_isRound 284 = .ok (.ifCond .ne 7, 3) := by decide +kernel
theorem dL_isRound_287 : decode cL_isRound 287 = .ok (.iconst 0, 1) := by decide +kernel
theorem dL_isRound_288 : decode cL_isRound 288 = .ok (.goto 17, 3) := by decide +kernel
theorem dL_isRound_291 : decode cL_isRound 291 = .ok (.iload 14, 2) := by decide +kernel
theorem dL_isRound_293 : decode cL_isRound 293 = .ok (.iload 11, 2) := by decide +kernel
theorem dL_isRound_295 : decode cL_isRound 295 = .ok (.if_icmp .ge 8, 3) := by decide +kernel
theorem dL_isRound_298 : decode cL_isRound 298 = .ok (.iload 14, 2) := by decide +kernel
theorem dL_isRound_300 : decode cL_isRound 300 = .ok (.goto 5, 3) := by decide +kernel
theorem dL_isRound_303 : decode cL_isRound 303 = .ok (.iload 11, 2) := by decide +kernel
theorem dL_isRound_305 : decode cL_isRound 305 = .ok (.istore 11, 2) := by decide +kernel
theorem dL_isRound_307 : decode cL_isRound 307 = .ok (.aload_n 2, 1) := by decide +kernel
theorem dL_isRound_308 : decode cL_isRound 308 = .ok (.iload 4, 2) := by decide +kernel
theorem dL_isRound_310 : decode cL_isRound 310 = .ok (.iaload, 1) := by decide +kernel
theorem dL_isRound_311 : decode cL_isRound 311 = .ok (.iload 6, 2) := by decide +kernel
theorem dL_isRound_313 : decode cL_isRound 313 = .ok (.isub, 1) := by decide +kernel
theorem dL_isRound_314 : decode cL_isRound 314 = .ok (.iload 7, 2) := by decide +kernel
theorem dL_isRound_316 : decode cL_isRound 316 = .ok (.isub, 1) := by decide +kernel
theorem dL_isRound_317 : decode cL_isRound 317 = .ok (.istore 16, 2) := by decide +kernel
theorem dL_isRound_319 : decode cL_isRound 319 = .ok (.iload 16, 2) := by decide +kernel
theorem dL_isRound_321 : decode cL_isRound 321 = .ok (.aload_n 1, 1) := by decide +kernel
theorem dL_isRound_322 : decode cL_isRound 322 = .ok (.iconst 2, 1) := by decide +kernel
theorem dL_isRound_323 : decode cL_isRound 323 = .ok (.iaload, 1) := by decide +kernel
theorem dL_isRound_324 : decode cL_isRound 324 = .ok (.imul, 1) := by decide +kernel
theorem dL_isRound_325 : decode cL_isRound 325 = .ok (.iload 6, 2) := by decide +kernel
theorem dL_isRound_327 : decode cL_isRound 327 = .ok (.aload_n 1, 1) := by decide +kernel
theorem dL_isRound_328 : decode cL_isRound 328 = .ok (.iconst 3, 1) := by decide +kernel
theorem dL_isRound_329 : decode cL_isRound 329 = .ok (.iaload, 1) := by decide +kernel
theorem dL_isRound_330 : decode cL_isRound 330 = .ok (.imul, 1) := by decide +kernel
theorem dL_isRound_331 : decode cL_isRound 331 = .ok (.iadd, 1) := by decide +kernel
theorem dL_isRound_332 : decode cL_isRound 332 = .ok (.iload 7, 2) := by decide +kernel
theorem dL_isRound_334 : decode cL_isRound 334 = .ok (.aload_n 1, 1) := by decide +kernel
theorem dL_isRound_335 : decode cL_isRound 335 = .ok (.iconst 4, 1) := by decide +kernel
theorem dL_isRound_336 : decode cL_isRound 336 = .ok (.iaload, 1) := by decide +kernel
theorem dL_isRound_337 : decode cL_isRound 337 = .ok (.imul, 1) := by decide +kernel
theorem dL_isRound_338 : decode cL_isRound 338 = .ok (.iadd, 1) := by decide +kernel
theorem dL_isRound_339 : decode cL_isRound 339 = .ok (.istore 17, 2) := by decide +kernel
theorem dL_isRound_341 : decode cL_isRound 341 = .ok (.iload 4, 2) := by decide +kernel
theorem dL_isRound_343 : decode cL_isRound 343 = .ok (.ifCond .eq 25, 3) := by decide +kernel
theorem dL_isRound_346 : decode cL_isRound 346 = .ok (.iload 16, 2) := by decide +kernel
theorem dL_isRound_348 : decode cL_isRound 348 = .ok (.iload 6, 2) := by decide +kernel
theorem dL_isRound_350 : decode cL_isRound 350 = .ok (.iadd, 1) := by decide +kernel
theorem dL_isRound_351 : decode cL_isRound 351 = .ok (.iconst 2, 1) := by decide +kernel
theorem dL_isRound_352 : decode cL_isRound 352 = .ok (.iload 7, 2) := by decide +kernel
theorem dL_isRound_354 : decode cL_isRound 354 = .ok (.imul, 1) := by decide +kernel
theorem dL_isRound_355 : decode cL_isRound 355 = .ok (.iadd, 1) := by decide +kernel
theorem dL_isRound_356 : decode cL_isRound 356 = .ok (.aload_n 2, 1) := by decide +kernel
theorem dL_isRound_357 : decode cL_isRound 357 = .ok (.aload_n 3, 1) := by decide +kernel
theorem dL_isRound_358 : decode cL_isRound 358 = .ok (.iload 4, 2) := by decide +kernel
theorem dL_isRound_360 : decode cL_isRound 360 = .ok (.iconst 1, 1) := by decide +kernel
theorem dL_isRound_361 : decode cL_isRound 361 = .ok (.isub, 1) := by decide +kernel
theorem dL_isRound_362 : decode cL_isRound 362 = .ok (.invokestatic 53, 3) := by decide +kernel
theorem dL_isRound_365 : decode cL_isRound 365 = .ok (.if_icmp .ne 7, 3) := by decide +kernel
theorem dL_isRound_368 : decode cL_isRound 368 = .ok (.iconst 1, 1) := by decide +kernel
theorem dL_isRound_369 : decode cL_isRound 369 = .ok (.goto 4, 3) := by decide +kernel
theorem dL_isRound_372 : decode cL_isRound 372 = .ok (.iconst 0, 1) := by decide +kernel
theorem dL_isRound_373 : decode cL_isRound 373 = .ok (.istore 18, 2) := by decide +kernel
theorem dL_isRound_375 : decode cL_isRound 375 = .ok (.iload 13, 2) := by decide +kernel
theorem dL_isRound_377 : decode cL_isRound 377 = .ok (.ifCond .eq 203, 3) := by decide +kernel
theorem dL_isRound_380 : decode cL_isRound 380 = .ok (.iload 18, 2) := by decide +kernel
theorem dL_isRound_382 : decode cL_isRound 382 = .ok (.ifCond .eq 198, 3) := by decide +kernel
theorem dL_isRound_385 : decode cL_isRound 385 = .ok (.aload_n 0, 1) := by decide +kernel
theorem dL_isRound_386 : decode cL_isRound 386 = .ok (.iload 4, 2) := by decide +kernel
theorem dL_isRound_388 : decode cL_isRound 388 = .ok (.iconst 0, 1) := by decide +kernel
theorem dL_isRound_389 : decode cL_isRound 389 = .ok (.invokestatic 124, 3) := by decide +kernel
theorem dL_isRound_392 : decode cL_isRound 392 = .ok (.iload 5, 2) := by decide +kernel
theorem dL_isRound_394 : decode cL_isRound 394 = .ok (.if_icmp .ne 186, 3) := by decide +kernel
theorem dL_isRound_397 : decode cL_isRound 397 = .ok (.aload_n 0, 1) := by decide +kernel
theorem dL_isRound_398 : decode cL_isRound 398 = .ok (.iload 4, 2) := by decide +kernel
theorem dL_isRound_400 : decode cL_isRound 400 = .ok (.iconst 1, 1) := by decide +kernel
theorem dL_isRound_401 : decode cL_isRound 401 = .ok (.invokestatic 124, 3) := by decide +kernel
theorem dL_isRound_404 : decode cL_isRound 404 = .ok (.aload_n 2, 1) := by decide +kernel
theorem dL_isRound_405 : decode cL_isRound 405 = .ok (.iload 4, 2) := by decide +kernel
theorem dL_isRound_407 : decode cL_isRound 407 = .ok (.iaload, 1) := by decide +kernel
theorem dL_isRound_408 : decode cL_isRound 408 = .ok (.if_icmp .ne 172, 3) := by decide +kernel
theorem dL_isRound_411 : decode cL_isRound 411 = .ok (.aload_n 0, 1) := by decide +kernel
theorem dL_isRound_412 : decode cL_isRound 412 = .ok (.iload 4, 2) := by decide +kernel
theorem dL_isRound_414 : decode cL_isRound 414 = .ok (.iconst 2, 1) := by decide +kernel
theorem dL_isRound_415 : decode cL_isRound 415 = .ok (.invokestatic 124, 3) := by decide +kernel
theorem dL_isRound_418 : decode cL_isRound 418 = .ok (.iload 16, 2) := by decide +kernel
theorem dL_isRound_420 : decode cL_isRound 420 = .ok (.if_icmp .ne 160, 3) := by decide +kernel
theorem dL_isRound_423 : decode cL_isRound 423 = .ok (.aload_n 0, 1) := by decide +kernel
theorem dL_isRound_424 : decode cL_isRound 424 = .ok (.iload 4, 2) := by decide +kernel
theorem dL_isRound_426 : decode cL_isRound 426 = .ok (.iconst 3, 1) := by decide +kernel
theorem dL_isRound_427 : decode cL_isRound 427 = .ok (.invokestatic 124, 3) := by decide +kernel
theorem dL_isRound_430 : decode cL_isRound 430 = .ok (.iload 6, 2) := by decide +kernel
theorem dL_isRound_432 : decode cL_isRound 432 = .ok (.if_icmp .ne 148, 3) := by decide +kernel
theorem dL_isRound_435 : decode cL_isRound 435 = .ok (.aload_n 0, 1) := by decide +kernel
theorem dL_isRound_436 : decode cL_isRound 436 = .ok (.iload 4, 2) := by decide +kernel
theorem dL_isRound_438 : decode cL_isRound 438 = .ok (.iconst 4, 1) := by decide +kernel
theorem dL_isRound_439 : decode cL_isRound 439 = .ok (.invokestatic 124, 3) := by decide +kernel
theorem dL_isRound_442 : decode cL_isRound 442 = .ok (.iload 7, 2) := by decide +kernel
theorem dL_isRound_444 : decode cL_isRound 444 = .ok (.if_icmp .ne 136, 3) := by decide +kernel
theorem dL_isRound_447 : decode cL_isRound 447 = .ok (.aload_n 0, 1) := by decide +kernel
theorem dL_isRound_448 : decode cL_isRound 448 = .ok (.iload 4, 2) := by decide +kernel
theorem dL_isRound_450 : decode cL_isRound 450 = .ok (.iconst 5, 1) := by decide +kernel
theorem dL_isRound_451 : decode cL_isRound 451 = .ok (.invokestatic 124, 3) := by decide +kernel
theorem dL_isRound_454 : decode cL_isRound 454 = .ok (.aload_n 2, 1) := by decide +kernel
theorem dL_isRound_455 : decode cL_isRound 455 = .ok (.aload_n 3, 1) := by decide +kernel
theorem dL_isRound_456 : decode cL_isRound 456 = .ok (.iload 4, 2) := by decide +kernel
theorem dL_isRound_458 : decode cL_isRound 458 = .ok (.invokestatic 63, 3) := by decide +kernel
theorem dL_isRound_461 : decode cL_isRound 461 = .ok (.if_icmp .ne 119, 3) := by decide +kernel
theorem dL_isRound_464 : decode cL_isRound 464 = .ok (.aload_n 0, 1) := by decide +kernel
theorem dL_isRound_465 : decode cL_isRound 465 = .ok (.iload 4, 2) := by decide +kernel
theorem dL_isRound_467 : decode cL_isRound 467 = .ok (.bipush 6, 2) := by decide +kernel
theorem dL_isRound_469 : decode cL_isRound 469 = .ok (.invokestatic 124, 3) := by decide +kernel
theorem dL_isRound_472 : decode cL_isRound 472 = .ok (.iload 12, 2) := by decide +kernel
theorem dL_isRound_474 : decode cL_isRound 474 = .ok (.ifCond .eq 7, 3) := by decide +kernel
theorem dL_isRound_477 : decode cL_isRound 477 = .ok (.iconst 1, 1) := by decide +kernel
theorem dL_isRound_478 : decode cL_isRound 478 = .ok (.goto 4, 3) := by decide +kernel
theorem dL_isRound_481 : decode cL_isRound 481 = .ok (.iconst 0, 1) := by decide +kernel
theorem dL_isRound_482 : decode cL_isRound 482 = .ok (.if_icmp .ne 98, 3) := by decide +kernel
theorem dL_isRound_485 : decode cL_isRound 485 = .ok (.aload_n 0, 1) := by decide +kernel
theorem dL_isRound_486 : decode cL_isRound 486 = .ok (.iload 4, 2) := by decide +kernel
theorem dL_isRound_488 : decode cL_isRound 488 = .ok (.bipush 7, 2) := by decide +kernel
theorem dL_isRound_490 : decode cL_isRound 490 = .ok (.invokestatic 124, 3) := by decide +kernel
theorem dL_isRound_493 : decode cL_isRound 493 = .ok (.iload 17, 2) := by decide +kernel
theorem dL_isRound_495 : decode cL_isRound 495 = .ok (.if_icmp .ne 85, 3) := by decide +kernel
theorem dL_isRound_498 : decode cL_isRound 498 = .ok (.aload_n 0, 1) := by decide +kernel
theorem dL_isRound_499 : decode cL_isRound 499 = .ok (.iload 4, 2) := by decide +kernel
theorem dL_isRound_501 : decode cL_isRound 501 = .ok (.bipush 8, 2) := by decide +kernel
theorem dL_isRound_503 : decode cL_isRound 503 = .ok (.invokestatic 124, 3) := by decide +kernel
theorem dL_isRound_506 : decode cL_isRound 506 = .ok (.iload 10, 2) := by decide +kernel
theorem dL_isRound_508 : decode cL_isRound 508 = .ok (.if_icmp .ne 72, 3) := by decide +kernel
theorem dL_isRound_511 : decode cL_isRound 511 = .ok (.aload_n 0, 1) := by decide +kernel
theorem dL_isRound_512 : decode cL_isRound 512 = .ok (.iload 4, 2) := by decide +kernel
theorem dL_isRound_514 : decode cL_isRound 514 = .ok (.bipush 9, 2) := by decide +kernel
theorem dL_isRound_516 : decode cL_isRound 516 = .ok (.invokestatic 124, 3) := by decide +kernel
theorem dL_isRound_519 : decode cL_isRound 519 = .ok (.iload 11, 2) := by decide +kernel
theorem dL_isRound_521 : decode cL_isRound 521 = .ok (.if_icmp .ne 59, 3) := by decide +kernel
theorem dL_isRound_524 : decode cL_isRound 524 = .ok (.aload_n 0, 1) := by decide +kernel
theorem dL_isRound_525 : decode cL_isRound 525 = .ok (.iload 4, 2) := by decide +kernel
theorem dL_isRound_527 : decode cL_isRound 527 = .ok (.bipush 10, 2) := by decide +kernel
theorem dL_isRound_529 : decode cL_isRound 529 = .ok (.invokestatic 124, 3) := by decide +kernel
theorem dL_isRound_532 : decode cL_isRound 532 = .ok (.iload 5, 2) := by decide +kernel
theorem dL_isRound_534 : decode cL_isRound 534 = .ok (.aload_n 2, 1) := by decide +kernel
theorem dL_isRound_535 : decode cL_isRound 535 = .ok (.iconst 0, 1) := by decide +kernel
theorem dL_isRound_536 : decode cL_isRound 536 = .ok (.iaload, 1) := by decide +kernel
theorem dL_isRound_537 : decode cL_isRound 537 = .ok (.iload 4, 2) := by decide +kernel
theorem dL_isRound_539 : decode cL_isRound 539 = .ok (.iconst 1, 1) := by decide +kernel
theorem dL_isRound_540 : decode cL_isRound 540 = .ok (.iadd, 1) := by decide +kernel
theorem dL_isRound_541 : decode cL_isRound 541 = .ok (.imul, 1) := by decide +kernel
theorem dL_isRound_542 : decode cL_isRound 542 = .ok (.isub, 1) := by decide +kernel
theorem dL_isRound_543 : decode cL_isRound 543 = .ok (.if_icmp .ne 37, 3) := by decide +kernel
theorem dL_isRound_546 : decode cL_isRound 546 = .ok (.aload_n 0, 1) := by decide +kernel
theorem dL_isRound_547 : decode cL_isRound 547 = .ok (.iload 4, 2) := by decide +kernel
theorem dL_isRound_549 : decode cL_isRound 549 = .ok (.aload_n 2, 1) := by decide +kernel
theorem dL_isRound_550 : decode cL_isRound 550 = .ok (.iload 4, 2) := by decide +kernel
theorem dL_isRound_552 : decode cL_isRound 552 = .ok (.iaload, 1) := by decide +kernel
theorem dL_isRound_553 : decode cL_isRound 553 = .ok (.invokestatic 121, 3) := by decide +kernel
theorem dL_isRound_556 : decode cL_isRound 556 = .ok (.sipush (-30004), 3) := by decide +kernel
theorem dL_isRound_559 : decode cL_isRound 559 = .ok (.if_icmp .ne 21, 3) := by decide +kernel
theorem dL_isRound_562 : decode cL_isRound 562 = .ok (.aload_n 0, 1) := by decide +kernel
theorem dL_isRound_563 : decode cL_isRound 563 = .ok (.iload 4, 2) := by decide +kernel
theorem dL_isRound_565 : decode cL_isRound 565 = .ok (.bipush 11, 2) := by decide +kernel
theorem dL_isRound_567 : decode cL_isRound 567 = .ok (.invokestatic 124, 3) := by decide +kernel
theorem dL_isRound_570 : decode cL_isRound 570 = .ok (.sipush (-30001), 3) := by decide +kernel
theorem dL_isRound_573 : decode cL_isRound 573 = .ok (.if_icmp .ne 7, 3) := by decide +kernel
theorem dL_isRound_576 : decode cL_isRound 576 = .ok (.iconst 1, 1) := by decide +kernel
theorem dL_isRound_577 : decode cL_isRound 577 = .ok (.goto 4, 3) := by decide +kernel
theorem dL_isRound_580 : decode cL_isRound 580 = .ok (.iconst 0, 1) := by decide +kernel
theorem dL_isRound_581 : decode cL_isRound 581 = .ok (.ireturn, 1) := by decide +kernel
set_option maxRecDepth 20000 in
theorem gx_L_isSo_L_isRound_c : GoodIn wsL_isSo [Cond.code yL_isRound cL_isRound 19 (some .boolean)] := goodIn_sub (fun w h => (List.mem_singleton.mp h) ▸ List.mem_of_getElem? (i := 4) (a := Cond.code yL_isRound cL_isRound 19 (some .boolean)) rfl) (by decide +kernel)
set_option maxRecDepth 20000 in
theorem gx_L_isSo_L_isRound_r1_0 : GoodIn wsL_isSo [Cond.methodLink RL 53 yL_total, Cond.static yL_total, Cond.initialized RL, Cond.code yL_total cL_total 5 (some .int), Cond.methodLink RL 43 yL_kind, Cond.static yL_kind, Cond.code yL_kind cL_kind 3 (some .int), Cond.constantLong RL 41 (3), Cond.methodLink RL 121 yL_workOf, Cond.static yL_workOf, Cond.codeWith yL_workOf cL_workOf 4 (some .int) [(0, 6, 7, 113)], Cond.classLink RL 113 "java/lang/IndexOutOfBoundsException"] := goodIn_r _ [5, 6, 3, 7, 8, 9, 10, 11, 12, 13, 14, 15] (by decide +kernel) (by decide +kernel)
set_option maxRecDepth 20000 in
theorem gx_L_isSo_L_isRound_r1_1 : GoodIn wsL_isSo [Cond.methodLink RL 115 yX6_work, Cond.instanceMethod yX6_work, Cond.selects RX6 yX6_work yX6_work, Cond.initialized RX6, Cond.code yX6_work cX6_work 3 (some .int), Cond.fieldLink RX6 10 "CrochetRounds" "piece" "LCrochetRounds$Piece;", Cond.fieldLink RX6 62 "CrochetRounds$Piece" "rounds" "I", Cond.fieldLink RX6 128 "CrochetRounds$Piece" "works" "LCrochetRounds$Numbers;", Cond.methodLink RX6 121 yX6_checkIndex, Cond.static yX6_checkIndex, Cond.code yX6_checkIndex cX6_checkIndex 2 none, Cond.classLink RX6 234 "java/lang/IndexOutOfBoundsException"] := goodIn_r _ [16, 17, 18, 19, 20, 21, 22, 23, 24, 25, 26, 27] (by decide +kernel) (by decide +kernel)
theorem gx_L_isSo_L_isRound_r1 : GoodIn wsL_isSo wsL_isRound_r1 := goodIn_app gx_L_isSo_L_isRound_r1_0 gx_L_isSo_L_isRound_r1_1
set_option maxRecDepth 20000 in
theorem gx_L_isSo_L_isRound_r2_0 : GoodIn wsL_isSo [Cond.initialized "java/lang/IndexOutOfBoundsException", Cond.methodLink RX6 114 yX2_at, Cond.instanceMethod yX2_at, Cond.selects RX2 yX2_at yX2_at, Cond.initialized RX2, Cond.code yX2_at cX2_at 2 (some .int), Cond.fieldLink RX2 7 "CrochetRounds$Numbers" "held" "[I", Cond.methodLink RX6 131 yX4_kindOf, Cond.instanceMethod yX4_kindOf, Cond.selects RX4 yX4_kindOf yX4_kindOf, Cond.initialized RX4, Cond.code yX4_kindOf cX4_kindOf 3 (some .int)] := goodIn_r _ [28, 29, 30, 31, 32, 33, 34, 35, 36, 37, 38, 39] (by decide +kernel) (by decide +kernel)
set_option maxRecDepth 20000 in
theorem gx_L_isSo_L_isRound_r2_1 : GoodIn wsL_isSo [Cond.fieldLink RX4 14 "CrochetRounds$Piece" "kinds" "LCrochetRounds$Numbers;", Cond.methodLink RX4 41 yX2_at, Cond.methodLink RL 124 yL_roundOf, Cond.static yL_roundOf, Cond.codeWith yL_roundOf cL_roundOf 4 (some .int) [(0, 6, 7, 113), (0, 6, 12, 15)], Cond.classLink RL 15 "java/lang/IllegalArgumentException", Cond.methodLink RL 110 yX6_round, Cond.instanceMethod yX6_round, Cond.selects RX6 yX6_round yX6_round, Cond.code yX6_round cX6_round 3 (some .int), Cond.methodLink RX6 58 yX6_checkArgument, Cond.static yX6_checkArgument] := goodIn_r _ [40, 41, 42, 43, 44, 45, 46, 47, 48, 49, 50, 51] (by decide +kernel) (by decide +kernel)
theorem gx_L_isSo_L_isRound_r2 : GoodIn wsL_isSo wsL_isRound_r2 := goodIn_app gx_L_isSo_L_isRound_r2_0 gx_L_isSo_L_isRound_r2_1
set_option maxRecDepth 20000 in
theorem gx_L_isSo_L_isRound_r3_0 : GoodIn wsL_isSo [Cond.code yX6_checkArgument cX6_checkArgument 1 none, Cond.classLink RX6 217 "java/lang/IllegalArgumentException", Cond.initialized "java/lang/IllegalArgumentException", Cond.methodLink RX6 124 yX6_ofRound, Cond.instanceMethod yX6_ofRound, Cond.selects RX6 yX6_ofRound yX6_ofRound, Cond.code yX6_ofRound cX6_ofRound 3 (some .int), Cond.fieldLink RX6 146 "CrochetRounds$Piece" "totals" "LCrochetRounds$Numbers;", Cond.methodLink RX6 267 yX4_countOf, Cond.instanceMethod yX4_countOf, Cond.selects RX4 yX4_countOf yX4_countOf, Cond.code yX4_countOf cX4_countOf 6 (some .int)] := goodIn_r _ [52, 53, 54, 55, 56, 57, 58, 59, 60, 61, 62, 63] (by decide +kernel) (by decide +kernel)
set_option maxRecDepth 20000 in
theorem gx_L_isSo_L_isRound_r3_1 : GoodIn wsL_isSo [Cond.fieldLink RX4 20 "CrochetRounds$Piece" "works" "LCrochetRounds$Numbers;", Cond.methodLink RX4 61 yX4_kindOf, Cond.methodLink RX6 270 yX6_stackedOf, Cond.instanceMethod yX6_stackedOf, Cond.selects RX6 yX6_stackedOf yX6_stackedOf, Cond.code yX6_stackedOf cX6_stackedOf 2 (some .int), Cond.fieldLink RX6 40 "CrochetRounds" "makers" "LCrochetRounds$Makers;", Cond.fieldLink RX6 279 "CrochetRounds$Piece" "kinds" "LCrochetRounds$Numbers;", Cond.methodLink RX6 155 yX1_load, Cond.instanceMethod yX1_load, Cond.selects RX1 yX1_load yX1_load, Cond.initialized RX1] := goodIn_r _ [64, 65, 66, 67, 68, 69, 70, 71, 72, 73, 74, 75] (by decide +kernel) (by decide +kernel)
theorem gx_L_isSo_L_isRound_r3 : GoodIn wsL_isSo wsL_isRound_r3 := goodIn_app gx_L_isSo_L_isRound_r3_0 gx_L_isSo_L_isRound_r3_1
set_option maxRecDepth 20000 in
theorem gx_L_isSo_L_isRound_r4_0 : GoodIn wsL_isSo [Cond.code yX1_load cX1_load 7 none, Cond.fieldLink RX1 20 "CrochetRounds$Piece" "works" "LCrochetRounds$Numbers;", Cond.fieldLink RX1 29 "CrochetRounds$Piece" "kinds" "LCrochetRounds$Numbers;", Cond.fieldLink RX1 14 "CrochetRounds$Makers" "kinds" "LCrochetRounds$Numbers;", Cond.methodLink RX1 25 yX2_at, Cond.methodLink RX1 30 yX2_put, Cond.instanceMethod yX2_put, Cond.selects RX2 yX2_put yX2_put, Cond.code yX2_put cX2_put 3 none, Cond.static yX6_madeBy, Cond.code yX6_madeBy cX6_madeBy 1 (some .int), Cond.methodLink RX6 164 yX1_stackedIn] := goodIn_r _ [76, 77, 78, 79, 80, 81, 82, 83, 84, 85, 86, 87] (by decide +kernel) (by decide +kernel)
set_option maxRecDepth 20000 in
theorem gx_L_isSo_L_isRound_r4_1 : GoodIn wsL_isSo [Cond.instanceMethod yX1_stackedIn, Cond.selects RX1 yX1_stackedIn yX1_stackedIn, Cond.code yX1_stackedIn cX1_stackedIn 11 (some .int), Cond.static yX6_usedBy, Cond.code yX6_usedBy cX6_usedBy 1 (some .int), Cond.methodLink RX6 273 yX4_isMirrored, Cond.instanceMethod yX4_isMirrored, Cond.selects RX4 yX4_isMirrored yX4_isMirrored, Cond.code yX4_isMirrored cX4_isMirrored 4 (some .boolean), Cond.methodLink RX6 276 yX4_yarnOf, Cond.instanceMethod yX4_yarnOf, Cond.selects RX4 yX4_yarnOf yX4_yarnOf] := goodIn_r _ [88, 89, 90, 91, 92, 93, 94, 95, 96, 97, 98, 99] (by decide +kernel) (by decide +kernel)
theorem gx_L_isSo_L_isRound_r4 : GoodIn wsL_isSo wsL_isRound_r4 := goodIn_app gx_L_isSo_L_isRound_r4_0 gx_L_isSo_L_isRound_r4_1
set_option maxRecDepth 20000 in
theorem gx_L_isSo_L_isRound_r5_0 : GoodIn wsL_isSo [Cond.code yX4_yarnOf cX4_yarnOf 5 (some .int), Cond.fieldLink RX4 26 "CrochetRounds$Piece" "yarn" "LCrochetRounds$Numbers;", Cond.methodLink RX6 174 yX4_distance, Cond.instanceMethod yX4_distance, Cond.selects RX4 yX4_distance yX4_distance, Cond.code yX4_distance cX4_distance 8 (some .int), Cond.methodLink RX4 71 yX4_further, Cond.static yX4_further, Cond.code yX4_further cX4_further 3 (some .int), Cond.methodLink RX4 75 Lib.Math.max.name, Cond.static Lib.Math.max.name, Cond.initialized "java/lang/Math"] := goodIn_r _ [100, 101, 102, 103, 104, 105, 106, 107, 108, 109, 110, 111] (by decide +kernel) (by decide +kernel)
set_option maxRecDepth 20000 in
theorem gx_L_isSo_L_isRound_r5_1 : GoodIn wsL_isSo [Cond.code Lib.Math.max.name Lib.Math.max.code 2 (some .int), Cond.methodLink RX4 80 Lib.Math.min.name, Cond.static Lib.Math.min.name, Cond.code Lib.Math.min.name Lib.Math.min.code 2 (some .int), Cond.methodLink RL 63 yL_stacked, Cond.static yL_stacked, Cond.code yL_stacked cL_stacked 7 (some .int), Cond.methodLink RL 49 yL_isMade, Cond.static yL_isMade, Cond.code yL_isMade cL_isMade 8 (some .boolean)] := goodIn_r _ [112, 113, 114, 115, 116, 117, 118, 119, 120, 121] (by decide +kernel) (by decide +kernel)
theorem gx_L_isSo_L_isRound_r5 : GoodIn wsL_isSo wsL_isRound_r5 := goodIn_app gx_L_isSo_L_isRound_r5_0 gx_L_isSo_L_isRound_r5_1
theorem gx_L_isSo_L_isRound_X6 : GoodIn wsL_isSo wsX60 := goodIn_sub (by decide +kernel) (by decide +kernel)
theorem gx_L_isSo_L_isRound_X4 : GoodIn wsL_isSo wsX40 := goodIn_sub (by decide +kernel) (by decide +kernel)
theorem gx_L_isSo_L_isRound_X2 : GoodIn wsL_isSo wsX20 := goodIn_sub (by decide +kernel) (by decide +kernel)
theorem gx_L_isSo_L_isRound_X1 : GoodIn wsL_isSo wsX10 := goodIn_sub (by decide +kernel) (by decide +kernel)
theorem goodIn_k1_gx_L_isSo_L_isRound {big a : List Cond} {c : Cond} (hc : GoodIn big [c]) (ha : GoodIn big a) : GoodIn big (c :: a) := fun w h => (List.mem_cons.mp h).elim (fun e => hc w (List.mem_singleton.mpr e)) (ha w)
theorem ggL_isSo_L_isRound : GoodIn wsL_isSo wsL_isRound := goodIn_k1_gx_L_isSo_L_isRound gx_L_isSo_L_isRound_c (goodIn_app (goodIn_app (goodIn_app (goodIn_app (goodIn_app (goodIn_app (goodIn_app gx_L_isSo_L_isRound_r1 (goodIn_app gx_L_isSo_L_isRound_r2 (goodIn_app gx_L_isSo_L_isRound_r3 (goodIn_app gx_L_isSo_L_isRound_r4 gx_L_isSo_L_isRound_r5)))) gx_L_isSo_L_isRound_X6) gx_L_isSo_L_isRound_X4) gx_L_isSo_L_isRound_X2) gx_L_isSo_L_isRound_X1) (goodIn_sub (fun _ h => List.mem_cons_of_mem _ (List.mem_append_left _ (List.mem_append_right _ h))) (by decide +kernel))) (goodIn_sub (fun _ h => List.mem_cons_of_mem _ (List.mem_append_right _ h)) (by decide +kernel)))
set_option maxRecDepth 20000 in
theorem gL_isSo_L_isRound : GoodIn wsL_isSo (va_wsS RL 127 yL_isRound wsL_isRound) := goodIn_app (goodIn_of _ (by decide +kernel)) ggL_isSo_L_isRound
set_option maxRecDepth 20000 in
theorem ggL_isSo_L_total : GoodIn wsL_isSo wsL_total := goodIn_r _ [7, 8, 9, 3, 10, 11] (by decide +kernel) (by decide +kernel)
set_option maxRecDepth 20000 in
theorem gL_isSo_L_total : GoodIn wsL_isSo (va_wsS RL 53 yL_total wsL_total) := goodIn_app (goodIn_of _ (by decide +kernel)) ggL_isSo_L_total
set_option maxRecDepth 20000 in
theorem ggL_isSo_L_roundOf : GoodIn wsL_isSo wsL_roundOf := goodIn_ca (goodIn_ca (goodIn_r _ [44, 15, 45, 46, 47, 48, 19, 49, 21, 22, 24, 25, 26, 27, 28, 50, 51, 52, 53, 54, 55, 56, 57, 58, 59, 23, 29, 30, 31, 32, 33, 34, 60, 61, 62, 38, 63, 64, 41, 65, 36, 37, 39, 40, 66, 67, 68, 69, 70, 71, 72, 73, 74, 75, 76, 77, 78, 79, 80, 81, 82, 83, 84, 85, 86, 87, 88, 89, 90, 91, 92, 93, 94, 95, 96, 97, 98, 99, 100, 101, 102, 103, 104, 105, 106, 107, 108, 109, 110, 111, 112, 113, 114, 115, 144, 145, 146, 147, 148, 149, 150, 151, 152, 153, 154, 155, 156] (by decide +kernel) (by decide +kernel)) (goodIn_sub (fun _ h => List.mem_cons_of_mem _ (List.mem_append_left _ (List.mem_append_right _ h))) (by decide +kernel))) (goodIn_sub (fun _ h => List.mem_cons_of_mem _ (List.mem_append_right _ h)) (by decide +kernel))
set_option maxRecDepth 20000 in
theorem gL_isSo_L_roundOf : GoodIn wsL_isSo (va_wsS RL 124 yL_roundOf wsL_roundOf) := goodIn_app (goodIn_of _ (by decide +kernel)) ggL_isSo_L_roundOf
set_option maxRecDepth 20000 in
theorem ggL_isSo_L_stacked : GoodIn wsL_isSo wsL_stacked := goodIn_r _ [118, 8, 9, 3, 10, 11, 119, 120, 121] (by decide +kernel) (by decide +kernel)
set_option maxRecDepth 20000 in
theorem gL_isSo_L_stacked : GoodIn wsL_isSo (va_wsS RL 63 yL_stacked wsL_stacked) := goodIn_app (goodIn_of _ (by decide +kernel)) ggL_isSo_L_stacked
set_option maxRecDepth 20000 in
theorem ggL_isSo_L_valueOf : GoodIn wsL_isSo wsL_valueOf := goodIn_ca (goodIn_r _ [124, 45, 125, 126, 127, 19, 128, 21, 22, 129, 50, 51, 52, 53, 54, 130, 131, 132, 38, 133, 134, 135, 41, 30, 31, 32, 33, 34, 136, 137, 138, 139, 55, 56, 57, 58, 59, 23, 29, 60, 61, 62, 63, 64, 65, 36, 37, 39, 40, 66, 67, 68, 69, 70, 71, 72, 73, 74, 75, 76, 77, 78, 79, 80, 81, 82, 83, 84, 85, 86, 87, 88, 89, 90, 91, 92, 93, 94, 95, 96, 97, 98, 99, 100, 101, 102, 103, 104, 105, 106, 107, 108, 109, 110, 111, 112, 113, 114, 115, 140, 141, 142, 143, 144, 145, 146, 147, 148, 149, 150, 151, 152, 153, 154, 155, 156] (by decide +kernel) (by decide +kernel)) (goodIn_sub (fun _ h => List.mem_cons_of_mem _ (List.mem_append_right _ h)) (by decide +kernel))
set_option maxRecDepth 20000 in
theorem gL_isSo_L_valueOf : GoodIn wsL_isSo (va_wsS RL 131 yL_valueOf wsL_valueOf) := goodIn_app (goodIn_of _ (by decide +kernel)) ggL_isSo_L_valueOf
theorem dL_isSo_0 : decode cL_isSo 0 = .ok (.iconst 1, 1) := by decide +kernel
theorem dL_isSo_1 : decode cL_isSo 1 = .ok (.istore 4, 2) := by decide +kernel
theorem dL_isSo_3 : decode cL_isSo 3 = .ok (.iconst 0, 1) := by decide +kernel
theorem dL_isSo_4 : decode cL_isSo 4 = .ok (.istore 5, 2) := by decide +kernel
theorem dL_isSo_6 : decode cL_isSo 6 = .ok (.iconst 0, 1) := by decide +kernel
theorem dL_isSo_7 : decode cL_isSo 7 = .ok (.istore 6, 2) := by decide +kernel
theorem dL_isSo_9 : decode cL_isSo 9 = .ok (.iconst 0, 1) := by decide +kernel
theorem dL_isSo_10 : decode cL_isSo 10 = .ok (.istore 7, 2) := by decide +kernel
theorem dL_isSo_12 : decode cL_isSo 12 = .ok (.iconst 0, 1) := by decide +kernel
theorem dL_isSo_13 : decode cL_isSo 13 = .ok (.istore 8, 2) := by decide +kernel
theorem dL_isSo_15 : decode cL_isSo 15 = .ok (.iconst 0, 1) := by decide +kernel
theorem dL_isSo_16 : decode cL_isSo 16 = .ok (.istore 9, 2) := by decide +kernel
theorem dL_isSo_18 : decode cL_isSo 18 = .ok (.iconst 0, 1) := by decide +kernel
theorem dL_isSo_19 : decode cL_isSo 19 = .ok (.istore 10, 2) := by decide +kernel
theorem dL_isSo_21 : decode cL_isSo 21 = .ok (.iload 10, 2) := by decide +kernel
theorem dL_isSo_23 : decode cL_isSo 23 = .ok (.aload_n 1, 1) := by decide +kernel
theorem dL_isSo_24 : decode cL_isSo 24 = .ok (.iconst 0, 1) := by decide +kernel
theorem dL_isSo_25 : decode cL_isSo 25 = .ok (.iaload, 1) := by decide +kernel
theorem dL_isSo_26 : decode cL_isSo 26 = .ok (.if_icmp .ge 100, 3) := by decide +kernel
theorem dL_isSo_29 : decode cL_isSo 29 = .ok (.iload 4, 2) := by decide +kernel
theorem dL_isSo_31 : decode cL_isSo 31 = .ok (.ifCond .eq 95, 3) := by decide +kernel
theorem dL_isSo_34 : decode cL_isSo 34 = .ok (.aload_n 0, 1) := by decide +kernel
theorem dL_isSo_35 : decode cL_isSo 35 = .ok (.aload_n 1, 1) := by decide +kernel
theorem dL_isSo_36 : decode cL_isSo 36 = .ok (.aload_n 2, 1) := by decide +kernel
theorem dL_isSo_37 : decode cL_isSo 37 = .ok (.aload_n 3, 1) := by decide +kernel
theorem dL_isSo_38 : decode cL_isSo 38 = .ok (.iload 10, 2) := by decide +kernel
theorem dL_isSo_40 : decode cL_isSo 40 = .ok (.invokestatic 127, 3) := by decide +kernel
theorem dL_isSo_43 : decode cL_isSo 43 = .ok (.istore 4, 2) := by decide +kernel
theorem dL_isSo_45 : decode cL_isSo 45 = .ok (.aload_n 2, 1) := by decide +kernel
theorem dL_isSo_46 : decode cL_isSo 46 = .ok (.aload_n 3, 1) := by decide +kernel
theorem dL_isSo_47 : decode cL_isSo 47 = .ok (.iload 10, 2) := by decide +kernel
theorem dL_isSo_49 : decode cL_isSo 49 = .ok (.invokestatic 53, 3) := by decide +kernel
theorem dL_isSo_52 : decode cL_isSo 52 = .ok (.istore 11, 2) := by decide +kernel
theorem dL_isSo_54 : decode cL_isSo 54 = .ok (.iload 5, 2) := by decide +kernel
theorem dL_isSo_56 : decode cL_isSo 56 = .ok (.iload 11, 2) := by decide +kernel
theorem dL_isSo_58 : decode cL_isSo 58 = .ok (.iadd, 1) := by decide +kernel
theorem dL_isSo_59 : decode cL_isSo 59 = .ok (.istore 5, 2) := by decide +kernel
theorem dL_isSo_61 : decode cL_isSo 61 = .ok (.iload 6, 2) := by decide +kernel
theorem dL_isSo_63 : decode cL_isSo 63 = .ok (.aload_n 0, 1) := by decide +kernel
theorem dL_isSo_64 : decode cL_isSo 64 = .ok (.iload 10, 2) := by decide +kernel
theorem dL_isSo_66 : decode cL_isSo 66 = .ok (.bipush 7, 2) := by decide +kernel
theorem dL_isSo_68 : decode cL_isSo 68 = .ok (.invokestatic 124, 3) := by decide +kernel
theorem dL_isSo_71 : decode cL_isSo 71 = .ok (.iadd, 1) := by decide +kernel
theorem dL_isSo_72 : decode cL_isSo 72 = .ok (.istore 6, 2) := by decide +kernel
theorem dL_isSo_74 : decode cL_isSo 74 = .ok (.iload 7, 2) := by decide +kernel
theorem dL_isSo_76 : decode cL_isSo 76 = .ok (.aload_n 2, 1) := by decide +kernel
theorem dL_isSo_77 : decode cL_isSo 77 = .ok (.aload_n 3, 1) := by decide +kernel
theorem dL_isSo_78 : decode cL_isSo 78 = .ok (.iload 10, 2) := by decide +kernel
theorem dL_isSo_80 : decode cL_isSo 80 = .ok (.invokestatic 63, 3) := by decide +kernel
theorem dL_isSo_83 : decode cL_isSo 83 = .ok (.iadd, 1) := by decide +kernel
theorem dL_isSo_84 : decode cL_isSo 84 = .ok (.istore 7, 2) := by decide +kernel
theorem dL_isSo_86 : decode cL_isSo 86 = .ok (.iload 8, 2) := by decide +kernel
theorem dL_isSo_88 : decode cL_isSo 88 = .ok (.aload_n 0, 1) := by decide +kernel
theorem dL_isSo_89 : decode cL_isSo 89 = .ok (.iload 10, 2) := by decide +kernel
theorem dL_isSo_91 : decode cL_isSo 91 = .ok (.bipush 6, 2) := by decide +kernel
theorem dL_isSo_93 : decode cL_isSo 93 = .ok (.invokestatic 124, 3) := by decide +kernel
theorem dL_isSo_96 : decode cL_isSo 96 = .ok (.iadd, 1) := by decide +kernel
theorem dL_isSo_97 : decode cL_isSo 97 = .ok (.istore 8, 2) := by decide +kernel
theorem dL_isSo_99 : decode cL_isSo 99 = .ok (.iload 11, 2) := by decide +kernel
theorem dL_isSo_101 : decode cL_isSo 101 = .ok (.aload_n 2, 1) := by decide +kernel
theorem dL_isSo_102 : decode cL_isSo 102 = .ok (.aload_n 3, 1) := by decide +kernel
theorem dL_isSo_103 : decode cL_isSo 103 = .ok (.iload 9, 2) := by decide +kernel
theorem dL_isSo_105 : decode cL_isSo 105 = .ok (.invokestatic 53, 3) := by decide +kernel
theorem dL_isSo_108 : decode cL_isSo 108 = .ok (.if_icmp .le 8, 3) := by decide +kernel
theorem dL_isSo_111 : decode cL_isSo 111 = .ok (.iload 10, 2) := by decide +kernel
theorem dL_isSo_113 : decode cL_isSo 113 = .ok (.goto 5, 3) := by decide +kernel
theorem dL_isSo_116 : decode cL_isSo 116 = .ok (.iload 9, 2) := by decide +kernel
theorem dL_isSo_118 : decode cL_isSo 118 = .ok (.istore 9, 2) := by decide +kernel
theorem dL_isSo_120 : decode cL_isSo 120 = .ok (.iinc 10 1, 3) := by decide +kernel
theorem dL_isSo_123 : decode cL_isSo 123 = .ok (.goto (-102), 3) := by decide +kernel
theorem dL_isSo_126 : decode cL_isSo 126 = .ok (.iload 4, 2) := by decide +kernel
theorem dL_isSo_128 : decode cL_isSo 128 = .ok (.ifCond .eq 125, 3) := by decide +kernel
theorem dL_isSo_131 : decode cL_isSo 131 = .ok (.aload_n 0, 1) := by decide +kernel
theorem dL_isSo_132 : decode cL_isSo 132 = .ok (.aload_n 1, 1) := by decide +kernel
theorem dL_isSo_133 : decode cL_isSo 133 = .ok (.iconst 0, 1) := by decide +kernel
theorem dL_isSo_134 : decode cL_isSo 134 = .ok (.iaload, 1) := by decide +kernel
theorem dL_isSo_135 : decode cL_isSo 135 = .ok (.iconst 0, 1) := by decide +kernel
theorem dL_isSo_136 : decode cL_isSo 136 = .ok (.invokestatic 124, 3) := by decide +kernel
theorem dL_isSo_139 : decode cL_isSo 139 = .ok (.sipush (-30004), 3) := by decide +kernel
theorem dL_isSo_142 : decode cL_isSo 142 = .ok (.if_icmp .ne 111, 3) := by decide +kernel
theorem dL_isSo_145 : decode cL_isSo 145 = .ok (.aload_n 0, 1) := by decide +kernel
theorem dL_isSo_146 : decode cL_isSo 146 = .ok (.iconst (-1), 1) := by decide +kernel
theorem dL_isSo_147 : decode cL_isSo 147 = .ok (.iconst 0, 1) := by decide +kernel
theorem dL_isSo_148 : decode cL_isSo 148 = .ok (.invokestatic 124, 3) := by decide +kernel
theorem dL_isSo_151 : decode cL_isSo 151 = .ok (.sipush (-30004), 3) := by decide +kernel
theorem dL_isSo_154 : decode cL_isSo 154 = .ok (.if_icmp .ne 99, 3) := by decide +kernel
theorem dL_isSo_157 : decode cL_isSo 157 = .ok (.aload_n 0, 1) := by decide +kernel
theorem dL_isSo_158 : decode cL_isSo 158 = .ok (.iconst 0, 1) := by decide +kernel
theorem dL_isSo_159 : decode cL_isSo 159 = .ok (.invokestatic 131, 3) := by decide +kernel
theorem dL_isSo_162 : decode cL_isSo 162 = .ok (.aload_n 1, 1) := by decide +kernel
theorem dL_isSo_163 : decode cL_isSo 163 = .ok (.iconst 0, 1) := by decide +kernel
theorem dL_isSo_164 : decode cL_isSo 164 = .ok (.iaload, 1) := by decide +kernel
theorem dL_isSo_165 : decode cL_isSo 165 = .ok (.if_icmp .ne 88, 3) := by decide +kernel
theorem dL_isSo_168 : decode cL_isSo 168 = .ok (.aload_n 0, 1) := by decide +kernel
theorem dL_isSo_169 : decode cL_isSo 169 = .ok (.iconst 1, 1) := by decide +kernel
theorem dL_isSo_170 : decode cL_isSo 170 = .ok (.invokestatic 131, 3) := by decide +kernel
theorem dL_isSo_173 : decode cL_isSo 173 = .ok (.aload_n 2, 1) := by decide +kernel
theorem dL_isSo_174 : decode cL_isSo 174 = .ok (.aload_n 3, 1) := by decide +kernel
theorem dL_isSo_175 : decode cL_isSo 175 = .ok (.aload_n 1, 1) := by decide +kernel
theorem dL_isSo_176 : decode cL_isSo 176 = .ok (.iconst 0, 1) := by decide +kernel
theorem dL_isSo_177 : decode cL_isSo 177 = .ok (.iaload, 1) := by decide +kernel
theorem dL_isSo_178 : decode cL_isSo 178 = .ok (.iconst 1, 1) := by decide +kernel
theorem dL_isSo_179 : decode cL_isSo 179 = .ok (.isub, 1) := by decide +kernel
theorem dL_isSo_180 : decode cL_isSo 180 = .ok (.invokestatic 53, 3) := by decide +kernel
theorem dL_isSo_183 : decode cL_isSo 183 = .ok (.if_icmp .ne 70, 3) := by decide +kernel
theorem dL_isSo_186 : decode cL_isSo 186 = .ok (.aload_n 0, 1) := by decide +kernel
theorem dL_isSo_187 : decode cL_isSo 187 = .ok (.iconst 2, 1) := by decide +kernel
theorem dL_isSo_188 : decode cL_isSo 188 = .ok (.invokestatic 131, 3) := by decide +kernel
theorem dL_isSo_191 : decode cL_isSo 191 = .ok (.iload 5, 2) := by decide +kernel
theorem dL_isSo_193 : decode cL_isSo 193 = .ok (.if_icmp .ne 60, 3) := by decide +kernel
theorem dL_isSo_196 : decode cL_isSo 196 = .ok (.aload_n 0, 1) := by decide +kernel
theorem dL_isSo_197 : decode cL_isSo 197 = .ok (.iconst 3, 1) := by decide +kernel
theorem dL_isSo_198 : decode cL_isSo 198 = .ok (.invokestatic 131, 3) := by decide +kernel
theorem dL_isSo_201 : decode cL_isSo 201 = .ok (.iload 6, 2) := by decide +kernel
theorem dL_isSo_203 : decode cL_isSo 203 = .ok (.if_icmp .ne 50, 3) := by decide +kernel
theorem dL_isSo_206 : decode cL_isSo 206 = .ok (.aload_n 0, 1) := by decide +kernel
theorem dL_isSo_207 : decode cL_isSo 207 = .ok (.iconst 4, 1) := by decide +kernel
theorem dL_isSo_208 : decode cL_isSo 208 = .ok (.invokestatic 131, 3) := by decide +kernel
theorem dL_isSo_211 : decode cL_isSo 211 = .ok (.iload 7, 2) := by decide +kernel
theorem dL_isSo_213 : decode cL_isSo 213 = .ok (.if_icmp .ne 40, 3) := by decide +kernel
theorem dL_isSo_216 : decode cL_isSo 216 = .ok (.aload_n 0, 1) := by decide +kernel
theorem dL_isSo_217 : decode cL_isSo 217 = .ok (.iconst 5, 1) := by decide +kernel
theorem dL_isSo_218 : decode cL_isSo 218 = .ok (.invokestatic 131, 3) := by decide +kernel
theorem dL_isSo_221 : decode cL_isSo 221 = .ok (.iload 8, 2) := by decide +kernel
theorem dL_isSo_223 : decode cL_isSo 223 = .ok (.if_icmp .ne 30, 3) := by decide +kernel
theorem dL_isSo_226 : decode cL_isSo 226 = .ok (.aload_n 0, 1) := by decide +kernel
theorem dL_isSo_227 : decode cL_isSo 227 = .ok (.bipush 6, 2) := by decide +kernel
theorem dL_isSo_229 : decode cL_isSo 229 = .ok (.invokestatic 131, 3) := by decide +kernel
theorem dL_isSo_232 : decode cL_isSo 232 = .ok (.iload 9, 2) := by decide +kernel
theorem dL_isSo_234 : decode cL_isSo 234 = .ok (.if_icmp .ne 19, 3) := by decide +kernel
theorem dL_isSo_237 : decode cL_isSo 237 = .ok (.aload_n 0, 1) := by decide +kernel
theorem dL_isSo_238 : decode cL_isSo 238 = .ok (.bipush 7, 2) := by decide +kernel
theorem dL_isSo_240 : decode cL_isSo 240 = .ok (.invokestatic 131, 3) := by decide +kernel
theorem dL_isSo_243 : decode cL_isSo 243 = .ok (.aload_n 1, 1) := by decide +kernel
theorem dL_isSo_244 : decode cL_isSo 244 = .ok (.iconst 1, 1) := by decide +kernel
theorem dL_isSo_245 : decode cL_isSo 245 = .ok (.iaload, 1) := by decide +kernel
theorem dL_isSo_246 : decode cL_isSo 246 = .ok (.if_icmp .ne 7, 3) := by decide +kernel
theorem dL_isSo_249 : decode cL_isSo 249 = .ok (.iconst 1, 1) := by decide +kernel
theorem dL_isSo_250 : decode cL_isSo 250 = .ok (.goto 4, 3) := by decide +kernel
theorem dL_isSo_253 : decode cL_isSo 253 = .ok (.iconst 0, 1) := by decide +kernel
theorem dL_isSo_254 : decode cL_isSo 254 = .ok (.ireturn, 1) := by decide +kernel
set_option maxRecDepth 20000 in
theorem ggL_law_X6_init : GoodIn wsL_law wsX6_init := goodIn_r _ [7, 8, 9, 10, 11, 12, 13, 14, 15, 16, 17, 18, 19, 20, 21, 22, 23, 24, 25, 26, 27, 28, 29, 30, 31, 32, 33, 34, 35, 36, 37, 38, 39, 40, 41, 42, 43, 44, 45, 3, 46, 47, 48, 49, 50, 51, 52, 53, 54, 55, 56, 57, 58, 59, 60, 61, 62, 63, 64, 65, 66, 67, 68, 69, 70, 71, 72, 73, 74, 75, 76, 77, 78, 79, 80, 81, 82, 83, 84, 85, 86, 87, 88, 89, 90, 91, 92, 93, 94, 95, 2, 96, 97, 98, 99, 100, 414, 415, 416, 417, 418, 419, 409, 410, 411, 412, 413, 420, 421, 422, 423, 424, 425, 426, 427, 428, 429, 430, 431, 432, 433, 434, 435, 436, 437, 438] (by decide +kernel) (by decide +kernel)
set_option maxRecDepth 20000 in
theorem gL_law_X6_init : GoodIn wsL_law (wsX6_init) := ggL_law_X6_init
set_option maxRecDepth 20000 in
theorem gx_L_law_L_isSo_c : GoodIn wsL_law [Cond.code yL_isSo cL_isSo 12 (some .boolean)] := goodIn_sub (fun w h => (List.mem_singleton.mp h) ▸ List.mem_of_getElem? (i := 104) (a := Cond.code yL_isSo cL_isSo 12 (some .boolean)) rfl) (by decide +kernel)
set_option maxRecDepth 20000 in
theorem gx_L_law_L_isSo_r1_0 : GoodIn wsL_law [Cond.methodLink RL 127 yL_isRound, Cond.static yL_isRound, Cond.initialized RL] := goodIn_r _ [105, 106, 103] (by decide +kernel) (by decide +kernel)
set_option maxRecDepth 20000 in
theorem gx_L_law_L_isSo_r1_1 : GoodIn wsL_law [Cond.code yL_isRound cL_isRound 19 (some .boolean)] := goodIn_sub (fun w h => (List.mem_singleton.mp h) ▸ List.mem_of_getElem? (i := 107) (a := Cond.code yL_isRound cL_isRound 19 (some .boolean)) rfl) (by decide +kernel)
set_option maxRecDepth 20000 in
theorem gx_L_law_L_isSo_r1_2 : GoodIn wsL_law [Cond.methodLink RL 53 yL_total, Cond.static yL_total, Cond.code yL_total cL_total 5 (some .int), Cond.methodLink RL 43 yL_kind, Cond.static yL_kind, Cond.code yL_kind cL_kind 3 (some .int), Cond.constantLong RL 41 (3), Cond.methodLink RL 121 yL_workOf, Cond.static yL_workOf, Cond.codeWith yL_workOf cL_workOf 4 (some .int) [(0, 6, 7, 113)], Cond.classLink RL 113 "java/lang/IndexOutOfBoundsException", Cond.methodLink RL 115 yX6_work] := goodIn_r _ [108, 109, 110, 111, 112, 113, 114, 115, 116, 117, 118, 119] (by decide +kernel) (by decide +kernel)
set_option maxRecDepth 20000 in
theorem gx_L_law_L_isSo_r1_3 : GoodIn wsL_law [Cond.instanceMethod yX6_work, Cond.selects RX6 yX6_work yX6_work, Cond.initialized RX6, Cond.code yX6_work cX6_work 3 (some .int), Cond.fieldLink RX6 10 "CrochetRounds" "piece" "LCrochetRounds$Piece;", Cond.fieldLink RX6 62 "CrochetRounds$Piece" "rounds" "I", Cond.fieldLink RX6 128 "CrochetRounds$Piece" "works" "LCrochetRounds$Numbers;", Cond.methodLink RX6 121 yX6_checkIndex] := goodIn_r _ [120, 121, 2, 122, 14, 123, 124, 125] (by decide +kernel) (by decide +kernel)
theorem gx_L_law_L_isSo_r1 : GoodIn wsL_law wsL_isSo_r1 := goodIn_app gx_L_law_L_isSo_r1_0 (goodIn_app gx_L_law_L_isSo_r1_1 (goodIn_app gx_L_law_L_isSo_r1_2 gx_L_law_L_isSo_r1_3))
set_option maxRecDepth 20000 in
theorem gx_L_law_L_isSo_r2_0 : GoodIn wsL_law [Cond.static yX6_checkIndex, Cond.code yX6_checkIndex cX6_checkIndex 2 none, Cond.classLink RX6 234 "java/lang/IndexOutOfBoundsException", Cond.initialized "java/lang/IndexOutOfBoundsException", Cond.methodLink RX6 114 yX2_at, Cond.instanceMethod yX2_at, Cond.selects RX2 yX2_at yX2_at, Cond.initialized RX2, Cond.code yX2_at cX2_at 2 (some .int), Cond.fieldLink RX2 7 "CrochetRounds$Numbers" "held" "[I", Cond.methodLink RX6 131 yX4_kindOf, Cond.instanceMethod yX4_kindOf] := goodIn_r _ [126, 127, 128, 129, 130, 92, 93, 37, 94, 46, 131, 132] (by decide +kernel) (by decide +kernel)
set_option maxRecDepth 20000 in
theorem gx_L_law_L_isSo_r2_1 : GoodIn wsL_law [Cond.selects RX4 yX4_kindOf yX4_kindOf, Cond.initialized RX4, Cond.code yX4_kindOf cX4_kindOf 3 (some .int), Cond.fieldLink RX4 14 "CrochetRounds$Piece" "kinds" "LCrochetRounds$Numbers;", Cond.methodLink RX4 41 yX2_at, Cond.methodLink RL 124 yL_roundOf, Cond.static yL_roundOf, Cond.codeWith yL_roundOf cL_roundOf 4 (some .int) [(0, 6, 7, 113), (0, 6, 12, 15)], Cond.classLink RL 15 "java/lang/IllegalArgumentException", Cond.methodLink RL 110 yX6_round, Cond.instanceMethod yX6_round, Cond.selects RX6 yX6_round yX6_round] := goodIn_r _ [133, 13, 134, 38, 91, 135, 136, 137, 138, 139, 140, 141] (by decide +kernel) (by decide +kernel)
theorem gx_L_law_L_isSo_r2 : GoodIn wsL_law wsL_isSo_r2 := goodIn_app gx_L_law_L_isSo_r2_0 gx_L_law_L_isSo_r2_1
set_option maxRecDepth 20000 in
theorem gx_L_law_L_isSo_r3_0 : GoodIn wsL_law [Cond.code yX6_round cX6_round 3 (some .int), Cond.methodLink RX6 58 yX6_checkArgument, Cond.static yX6_checkArgument, Cond.code yX6_checkArgument cX6_checkArgument 1 none, Cond.classLink RX6 217 "java/lang/IllegalArgumentException", Cond.initialized "java/lang/IllegalArgumentException", Cond.methodLink RX6 124 yX6_ofRound, Cond.instanceMethod yX6_ofRound, Cond.selects RX6 yX6_ofRound yX6_ofRound, Cond.code yX6_ofRound cX6_ofRound 3 (some .int), Cond.fieldLink RX6 146 "CrochetRounds$Piece" "totals" "LCrochetRounds$Numbers;", Cond.methodLink RX6 267 yX4_countOf] := goodIn_r _ [142, 143, 144, 145, 146, 147, 148, 149, 150, 151, 152, 153] (by decide +kernel) (by decide +kernel)
set_option maxRecDepth 20000 in
theorem gx_L_law_L_isSo_r3_1 : GoodIn wsL_law [Cond.instanceMethod yX4_countOf, Cond.selects RX4 yX4_countOf yX4_countOf, Cond.code yX4_countOf cX4_countOf 6 (some .int), Cond.fieldLink RX4 20 "CrochetRounds$Piece" "works" "LCrochetRounds$Numbers;", Cond.methodLink RX4 61 yX4_kindOf, Cond.methodLink RX6 270 yX6_stackedOf, Cond.instanceMethod yX6_stackedOf, Cond.selects RX6 yX6_stackedOf yX6_stackedOf, Cond.code yX6_stackedOf cX6_stackedOf 2 (some .int), Cond.fieldLink RX6 40 "CrochetRounds" "makers" "LCrochetRounds$Makers;", Cond.fieldLink RX6 279 "CrochetRounds$Piece" "kinds" "LCrochetRounds$Numbers;", Cond.methodLink RX6 155 yX1_load] := goodIn_r _ [154, 155, 156, 39, 157, 158, 159, 160, 161, 30, 162, 163] (by decide +kernel) (by decide +kernel)
theorem gx_L_law_L_isSo_r3 : GoodIn wsL_law wsL_isSo_r3 := goodIn_app gx_L_law_L_isSo_r3_0 gx_L_law_L_isSo_r3_1
set_option maxRecDepth 20000 in
theorem gx_L_law_L_isSo_r4_0 : GoodIn wsL_law [Cond.instanceMethod yX1_load, Cond.selects RX1 yX1_load yX1_load, Cond.initialized RX1, Cond.code yX1_load cX1_load 7 none, Cond.fieldLink RX1 20 "CrochetRounds$Piece" "works" "LCrochetRounds$Numbers;", Cond.fieldLink RX1 29 "CrochetRounds$Piece" "kinds" "LCrochetRounds$Numbers;", Cond.fieldLink RX1 14 "CrochetRounds$Makers" "kinds" "LCrochetRounds$Numbers;", Cond.methodLink RX1 25 yX2_at, Cond.methodLink RX1 30 yX2_put, Cond.instanceMethod yX2_put, Cond.selects RX2 yX2_put yX2_put, Cond.code yX2_put cX2_put 3 none] := goodIn_r _ [164, 165, 29, 166, 167, 168, 71, 169, 170, 74, 75, 76] (by decide +kernel) (by decide +kernel)
set_option maxRecDepth 20000 in
theorem gx_L_law_L_isSo_r4_1 : GoodIn wsL_law [Cond.static yX6_madeBy, Cond.code yX6_madeBy cX6_madeBy 1 (some .int), Cond.methodLink RX6 164 yX1_stackedIn, Cond.instanceMethod yX1_stackedIn, Cond.selects RX1 yX1_stackedIn yX1_stackedIn, Cond.code yX1_stackedIn cX1_stackedIn 11 (some .int), Cond.static yX6_usedBy, Cond.code yX6_usedBy cX6_usedBy 1 (some .int), Cond.methodLink RX6 273 yX4_isMirrored, Cond.instanceMethod yX4_isMirrored, Cond.selects RX4 yX4_isMirrored yX4_isMirrored, Cond.code yX4_isMirrored cX4_isMirrored 4 (some .boolean)] := goodIn_r _ [95, 96, 171, 172, 173, 174, 175, 176, 177, 178, 179, 180] (by decide +kernel) (by decide +kernel)
theorem gx_L_law_L_isSo_r4 : GoodIn wsL_law wsL_isSo_r4 := goodIn_app gx_L_law_L_isSo_r4_0 gx_L_law_L_isSo_r4_1
set_option maxRecDepth 20000 in
theorem gx_L_law_L_isSo_r5_0 : GoodIn wsL_law [Cond.methodLink RX6 276 yX4_yarnOf, Cond.instanceMethod yX4_yarnOf, Cond.selects RX4 yX4_yarnOf yX4_yarnOf, Cond.code yX4_yarnOf cX4_yarnOf 5 (some .int), Cond.fieldLink RX4 26 "CrochetRounds$Piece" "yarn" "LCrochetRounds$Numbers;", Cond.methodLink RX6 174 yX4_distance, Cond.instanceMethod yX4_distance, Cond.selects RX4 yX4_distance yX4_distance, Cond.code yX4_distance cX4_distance 8 (some .int), Cond.methodLink RX4 71 yX4_further, Cond.static yX4_further, Cond.code yX4_further cX4_further 3 (some .int)] := goodIn_r _ [181, 182, 183, 184, 41, 185, 186, 187, 188, 189, 190, 191] (by decide +kernel) (by decide +kernel)
set_option maxRecDepth 20000 in
theorem gx_L_law_L_isSo_r5_1 : GoodIn wsL_law [Cond.methodLink RX4 75 Lib.Math.max.name, Cond.static Lib.Math.max.name, Cond.initialized "java/lang/Math", Cond.code Lib.Math.max.name Lib.Math.max.code 2 (some .int), Cond.methodLink RX4 80 Lib.Math.min.name, Cond.static Lib.Math.min.name, Cond.code Lib.Math.min.name Lib.Math.min.code 2 (some .int), Cond.methodLink RL 63 yL_stacked, Cond.static yL_stacked, Cond.code yL_stacked cL_stacked 7 (some .int), Cond.methodLink RL 49 yL_isMade, Cond.static yL_isMade] := goodIn_r _ [192, 193, 194, 195, 196, 197, 198, 199, 200, 201, 202, 203] (by decide +kernel) (by decide +kernel)
theorem gx_L_law_L_isSo_r5 : GoodIn wsL_law wsL_isSo_r5 := goodIn_app gx_L_law_L_isSo_r5_0 gx_L_law_L_isSo_r5_1
set_option maxRecDepth 20000 in
theorem gx_L_law_L_isSo_r6_0 : GoodIn wsL_law [Cond.code yL_isMade cL_isMade 8 (some .boolean), Cond.methodLink RL 131 yL_valueOf, Cond.static yL_valueOf, Cond.codeWith yL_valueOf cL_valueOf 3 (some .int) [(0, 5, 6, 15)], Cond.methodLink RL 118 yX6_value, Cond.instanceMethod yX6_value, Cond.selects RX6 yX6_value yX6_value, Cond.code yX6_value cX6_value 2 (some .int), Cond.fieldLink RX6 117 "CrochetRounds$Piece" "spiral" "Z", Cond.methodLink RX6 77 yX4_lastTotal, Cond.instanceMethod yX4_lastTotal, Cond.selects RX4 yX4_lastTotal yX4_lastTotal] := goodIn_r _ [204, 205, 206, 207, 208, 209, 210, 211, 212, 213, 214, 215] (by decide +kernel) (by decide +kernel)
set_option maxRecDepth 20000 in
theorem gx_L_law_L_isSo_r6_1 : GoodIn wsL_law [Cond.code yX4_lastTotal cX4_lastTotal 1 (some .int), Cond.fieldLink RX4 23 "CrochetRounds$Piece" "totals" "LCrochetRounds$Numbers;", Cond.fieldLink RX4 29 "CrochetRounds$Piece" "rounds" "I", Cond.methodLink RX6 149 yX6_sumOverRounds, Cond.instanceMethod yX6_sumOverRounds, Cond.selects RX6 yX6_sumOverRounds yX6_sumOverRounds, Cond.code yX6_sumOverRounds cX6_sumOverRounds 4 (some .int), Cond.methodLink RX6 152 yX4_widest, Cond.instanceMethod yX4_widest, Cond.selects RX4 yX4_widest yX4_widest, Cond.code yX4_widest cX4_widest 3 (some .int)] := goodIn_r _ [216, 40, 81, 217, 218, 219, 220, 221, 222, 223, 224] (by decide +kernel) (by decide +kernel)
theorem gx_L_law_L_isSo_r6 : GoodIn wsL_law wsL_isSo_r6 := goodIn_app gx_L_law_L_isSo_r6_0 gx_L_law_L_isSo_r6_1
theorem gx_L_law_L_isSo_X6 : GoodIn wsL_law wsX60 := goodIn_sub (by decide +kernel) (by decide +kernel)
theorem gx_L_law_L_isSo_X4 : GoodIn wsL_law wsX40 := goodIn_sub (by decide +kernel) (by decide +kernel)
theorem gx_L_law_L_isSo_X2 : GoodIn wsL_law wsX20 := goodIn_sub (by decide +kernel) (by decide +kernel)
theorem gx_L_law_L_isSo_X1 : GoodIn wsL_law wsX10 := goodIn_sub (by decide +kernel) (by decide +kernel)
theorem goodIn_k1_gx_L_law_L_isSo {big a : List Cond} {c : Cond} (hc : GoodIn big [c]) (ha : GoodIn big a) : GoodIn big (c :: a) := fun w h => (List.mem_cons.mp h).elim (fun e => hc w (List.mem_singleton.mpr e)) (ha w)
theorem ggL_law_L_isSo : GoodIn wsL_law wsL_isSo := goodIn_k1_gx_L_law_L_isSo gx_L_law_L_isSo_c (goodIn_app (goodIn_app (goodIn_app (goodIn_app (goodIn_app (goodIn_app (goodIn_app gx_L_law_L_isSo_r1 (goodIn_app gx_L_law_L_isSo_r2 (goodIn_app gx_L_law_L_isSo_r3 (goodIn_app gx_L_law_L_isSo_r4 (goodIn_app gx_L_law_L_isSo_r5 gx_L_law_L_isSo_r6))))) gx_L_law_L_isSo_X6) gx_L_law_L_isSo_X4) gx_L_law_L_isSo_X2) gx_L_law_L_isSo_X1) (goodIn_sub (fun _ h => List.mem_append_left _ (List.mem_append_left _ (List.mem_append_left _ (List.mem_append_right _ h)))) (by decide +kernel))) (goodIn_sub (fun _ h => List.mem_append_left _ (List.mem_append_left _ (List.mem_append_right _ h))) (by decide +kernel)))
set_option maxRecDepth 20000 in
theorem gL_law_L_isSo : GoodIn wsL_law (va_wsS RL 135 yL_isSo wsL_isSo) := goodIn_app (goodIn_of _ (by decide +kernel)) ggL_law_L_isSo
set_option maxRecDepth 20000 in
theorem ggL_law_L_cell : GoodIn wsL_law wsL_cell := goodIn_r _ [227, 228] (by decide +kernel) (by decide +kernel)
set_option maxRecDepth 20000 in
theorem gL_law_L_cell : GoodIn wsL_law (va_wsS RL 139 yL_cell wsL_cell) := goodIn_app (goodIn_of _ (by decide +kernel)) ggL_law_L_cell
set_option maxRecDepth 20000 in
theorem ggL_law_L_low : GoodIn wsL_law wsL_low := goodIn_r _ [231, 232] (by decide +kernel) (by decide +kernel)
set_option maxRecDepth 20000 in
theorem gL_law_L_low : GoodIn wsL_law (va_wsS RL 67 yL_low wsL_low) := goodIn_app (goodIn_of _ (by decide +kernel)) ggL_law_L_low
set_option maxRecDepth 20000 in
theorem gx_L_law_L_acts_c : GoodIn wsL_law [Cond.code yL_acts cL_acts 15 (some .boolean)] := goodIn_sub (fun w h => (List.mem_singleton.mp h) ▸ List.mem_of_getElem? (i := 235) (a := Cond.code yL_acts cL_acts 15 (some .boolean)) rfl) (by decide +kernel)
set_option maxRecDepth 20000 in
theorem gx_L_law_L_acts_r1_0 : GoodIn wsL_law [Cond.constant RL 66 (10000000), Cond.methodLink RL 67 yL_low, Cond.static yL_low, Cond.initialized RL, Cond.code yL_low cL_low 2 (some .int), Cond.constant RL 8 (2147483647), Cond.methodLink RL 53 yL_total, Cond.static yL_total, Cond.code yL_total cL_total 5 (some .int), Cond.methodLink RL 43 yL_kind, Cond.static yL_kind, Cond.code yL_kind cL_kind 3 (some .int)] := goodIn_r _ [236, 229, 230, 103, 231, 232, 108, 109, 110, 111, 112, 113] (by decide +kernel) (by decide +kernel)
set_option maxRecDepth 20000 in
theorem gx_L_law_L_acts_r1_1 : GoodIn wsL_law [Cond.constantLong RL 41 (3), Cond.methodLink RL 70 yL_begins, Cond.static yL_begins, Cond.codeWith yL_begins cL_begins 3 (some .int) [(0, 5, 6, 15)], Cond.classLink RL 15 "java/lang/IllegalArgumentException", Cond.methodLink RL 9 yX6_begin, Cond.instanceMethod yX6_begin, Cond.selects RX6 yX6_begin yX6_begin, Cond.initialized RX6, Cond.code yX6_begin cX6_begin 3 (some .int), Cond.fieldLink RX6 10 "CrochetRounds" "piece" "LCrochetRounds$Piece;", Cond.fieldLink RX6 62 "CrochetRounds$Piece" "rounds" "I"] := goodIn_r _ [114, 237, 238, 239, 138, 240, 241, 242, 2, 243, 14, 123] (by decide +kernel) (by decide +kernel)
theorem gx_L_law_L_acts_r1 : GoodIn wsL_law wsL_acts_r1 := goodIn_app gx_L_law_L_acts_r1_0 gx_L_law_L_acts_r1_1
set_option maxRecDepth 20000 in
theorem gx_L_law_L_acts_r2_0 : GoodIn wsL_law [Cond.fieldLink RX6 19 "CrochetRounds" "history" "LCrochetRounds$History;", Cond.methodLink RX6 58 yX6_checkArgument, Cond.static yX6_checkArgument, Cond.code yX6_checkArgument cX6_checkArgument 1 none, Cond.classLink RX6 217 "java/lang/IllegalArgumentException", Cond.initialized "java/lang/IllegalArgumentException", Cond.methodLink RX6 66 yX0_keep, Cond.instanceMethod yX0_keep, Cond.selects RX0 yX0_keep yX0_keep, Cond.initialized RX0, Cond.code yX0_keep cX0_keep 3 none, Cond.fieldLink RX0 18 "CrochetRounds$History" "next" "I"] := goodIn_r _ [18, 143, 144, 145, 146, 147, 244, 245, 246, 17, 247, 248] (by decide +kernel) (by decide +kernel)
set_option maxRecDepth 20000 in
theorem gx_L_law_L_acts_r2_1 : GoodIn wsL_law [Cond.fieldLink RX0 30 "CrochetRounds$History" "size" "I", Cond.methodLink RX0 33 Lib.Math.min.name, Cond.static Lib.Math.min.name, Cond.initialized "java/lang/Math", Cond.code Lib.Math.min.name Lib.Math.min.code 2 (some .int), Cond.methodLink RX0 22 yX0_slotAt, Cond.instanceMethod yX0_slotAt, Cond.selects RX0 yX0_slotAt yX0_slotAt, Cond.code yX0_slotAt cX0_slotAt 2 (some (.object "CrochetRounds$Piece")), Cond.fieldLink RX0 11 "CrochetRounds$History" "slots" "[LCrochetRounds$Piece;", Cond.methodLink RX0 26 yX4_takeOver, Cond.instanceMethod yX4_takeOver] := goodIn_r _ [249, 250, 197, 194, 198, 251, 252, 253, 254, 52, 255, 256] (by decide +kernel) (by decide +kernel)
theorem gx_L_law_L_acts_r2 : GoodIn wsL_law wsL_acts_r2 := goodIn_app gx_L_law_L_acts_r2_0 gx_L_law_L_acts_r2_1
set_option maxRecDepth 20000 in
theorem gx_L_law_L_acts_r3_0 : GoodIn wsL_law [Cond.selects RX4 yX4_takeOver yX4_takeOver, Cond.initialized RX4, Cond.code yX4_takeOver cX4_takeOver 3 none, Cond.fieldLink RX4 29 "CrochetRounds$Piece" "rounds" "I", Cond.fieldLink RX4 33 "CrochetRounds$Piece" "spiral" "Z", Cond.fieldLink RX4 20 "CrochetRounds$Piece" "works" "LCrochetRounds$Numbers;", Cond.fieldLink RX4 23 "CrochetRounds$Piece" "totals" "LCrochetRounds$Numbers;", Cond.fieldLink RX4 26 "CrochetRounds$Piece" "yarn" "LCrochetRounds$Numbers;", Cond.fieldLink RX4 14 "CrochetRounds$Piece" "kinds" "LCrochetRounds$Numbers;", Cond.methodLink RX4 37 yX2_take, Cond.instanceMethod yX2_take, Cond.selects RX2 yX2_take yX2_take] := goodIn_r _ [257, 13, 258, 81, 259, 39, 40, 41, 38, 260, 261, 262] (by decide +kernel) (by decide +kernel)
set_option maxRecDepth 20000 in
theorem gx_L_law_L_acts_r3_1 : GoodIn wsL_law [Cond.initialized RX2, Cond.code yX2_take cX2_take 5 none, Cond.methodLink RX2 13 yX2_at, Cond.instanceMethod yX2_at, Cond.selects RX2 yX2_at yX2_at, Cond.code yX2_at cX2_at 2 (some .int), Cond.fieldLink RX2 7 "CrochetRounds$Numbers" "held" "[I", Cond.methodLink RX2 17 yX2_put, Cond.instanceMethod yX2_put, Cond.selects RX2 yX2_put yX2_put, Cond.code yX2_put cX2_put 3 none, Cond.methodLink RX4 41 yX2_at] := goodIn_r _ [37, 263, 264, 92, 93, 94, 46, 265, 74, 75, 76, 91] (by decide +kernel) (by decide +kernel)
theorem gx_L_law_L_acts_r3 : GoodIn wsL_law wsL_acts_r3 := goodIn_app gx_L_law_L_acts_r3_0 gx_L_law_L_acts_r3_1
set_option maxRecDepth 20000 in
theorem gx_L_law_L_acts_r4_0 : GoodIn wsL_law [Cond.methodLink RX6 54 yX4_startRing, Cond.instanceMethod yX4_startRing, Cond.selects RX4 yX4_startRing yX4_startRing, Cond.code yX4_startRing cX4_startRing 3 none, Cond.methodLink RX4 45 yX4_openRound, Cond.instanceMethod yX4_openRound, Cond.selects RX4 yX4_openRound yX4_openRound, Cond.code yX4_openRound cX4_openRound 1 none, Cond.methodLink RX4 54 yX2_put, Cond.methodLink RX4 48 yX4_addWork, Cond.instanceMethod yX4_addWork, Cond.selects RX4 yX4_addWork yX4_addWork] := goodIn_r _ [77, 78, 79, 80, 82, 83, 84, 85, 86, 87, 88, 89] (by decide +kernel) (by decide +kernel)
set_option maxRecDepth 20000 in
theorem gx_L_law_L_acts_r4_1 : GoodIn wsL_law [Cond.code yX4_addWork cX4_addWork 3 none, Cond.static yX6_madeBy, Cond.code yX6_madeBy cX6_madeBy 1 (some .int), Cond.methodLink RX4 51 yX4_closeRound, Cond.instanceMethod yX4_closeRound, Cond.selects RX4 yX4_closeRound yX4_closeRound, Cond.code yX4_closeRound cX4_closeRound 1 none, Cond.methodLink RL 74 yL_yarns, Cond.static yL_yarns, Cond.codeWith yL_yarns cL_yarns 4 (some .int) [(0, 6, 7, 15)], Cond.methodLink RL 38 yX6_setYarn, Cond.instanceMethod yX6_setYarn] := goodIn_r _ [90, 95, 96, 97, 98, 99, 100, 266, 267, 268, 269, 270] (by decide +kernel) (by decide +kernel)
theorem gx_L_law_L_acts_r4 : GoodIn wsL_law wsL_acts_r4 := goodIn_app gx_L_law_L_acts_r4_0 gx_L_law_L_acts_r4_1
set_option maxRecDepth 20000 in
theorem gx_L_law_L_acts_r5_0 : GoodIn wsL_law [Cond.selects RX6 yX6_setYarn yX6_setYarn, Cond.code yX6_setYarn cX6_setYarn 4 (some .int), Cond.fieldLink RX6 44 "CrochetRounds$Piece" "yarn" "LCrochetRounds$Numbers;", Cond.methodLink RX6 114 yX2_at, Cond.methodLink RX6 48 yX2_put, Cond.methodLink RL 78 yX6_setSpiral, Cond.instanceMethod yX6_setSpiral, Cond.selects RX6 yX6_setSpiral yX6_setSpiral, Cond.code yX6_setSpiral cX6_setSpiral 3 (some .boolean), Cond.fieldLink RX6 117 "CrochetRounds$Piece" "spiral" "Z", Cond.methodLink RL 82 yL_rips, Cond.static yL_rips] := goodIn_r _ [271, 272, 31, 130, 73, 273, 274, 275, 276, 212, 277, 278] (by decide +kernel) (by decide +kernel)
set_option maxRecDepth 20000 in
theorem gx_L_law_L_acts_r5_1 : GoodIn wsL_law [Cond.codeWith yL_rips cL_rips 3 (some .int) [(0, 5, 6, 15), (0, 5, 11, 20)], Cond.classLink RL 20 "java/lang/IllegalStateException", Cond.methodLink RL 35 yX6_rip, Cond.instanceMethod yX6_rip, Cond.selects RX6 yX6_rip yX6_rip, Cond.code yX6_rip cX6_rip 2 (some .int), Cond.methodLink RX6 111 yX6_checkState, Cond.static yX6_checkState, Cond.code yX6_checkState cX6_checkState 1 none, Cond.classLink RX6 224 "java/lang/IllegalStateException", Cond.initialized "java/lang/IllegalStateException", Cond.methodLink RX6 77 yX4_lastTotal] := goodIn_r _ [279, 280, 281, 282, 283, 284, 285, 286, 287, 288, 289, 213] (by decide +kernel) (by decide +kernel)
theorem gx_L_law_L_acts_r5 : GoodIn wsL_law wsL_acts_r5 := goodIn_app gx_L_law_L_acts_r5_0 gx_L_law_L_acts_r5_1
set_option maxRecDepth 20000 in
theorem gx_L_law_L_acts_r6_0 : GoodIn wsL_law [Cond.instanceMethod yX4_lastTotal, Cond.selects RX4 yX4_lastTotal yX4_lastTotal, Cond.code yX4_lastTotal cX4_lastTotal 1 (some .int), Cond.methodLink RL 85 yL_goal, Cond.static yL_goal, Cond.code yL_goal cL_goal 6 (some .int), Cond.methodLink RL 89 yL_canBe, Cond.static yL_canBe, Cond.code yL_canBe cL_canBe 2 (some .boolean), Cond.methodLink RL 93 yL_best, Cond.static yL_best, Cond.code yL_best cL_best 9 (some .int)] := goodIn_r _ [214, 215, 216, 290, 291, 292, 293, 294, 295, 296, 297, 298] (by decide +kernel) (by decide +kernel)
set_option maxRecDepth 20000 in
theorem gx_L_law_L_acts_r6_1 : GoodIn wsL_law [Cond.methodLink RL 59 yL_lays, Cond.static yL_lays, Cond.code yL_lays cL_lays 14 none, Cond.constantLong RL 57 (2), Cond.methodLink RL 63 yL_stacked, Cond.static yL_stacked, Cond.code yL_stacked cL_stacked 7 (some .int), Cond.methodLink RL 49 yL_isMade, Cond.static yL_isMade, Cond.code yL_isMade cL_isMade 8 (some .boolean), Cond.methodLink RL 97 yL_shapes, Cond.static yL_shapes] := goodIn_r _ [299, 300, 301, 302, 199, 200, 201, 202, 203, 204, 303, 304] (by decide +kernel) (by decide +kernel)
theorem gx_L_law_L_acts_r6 : GoodIn wsL_law wsL_acts_r6 := goodIn_app gx_L_law_L_acts_r6_0 gx_L_law_L_acts_r6_1
set_option maxRecDepth 20000 in
theorem gx_L_law_L_acts_r7_0 : GoodIn wsL_law [Cond.codeWith yL_shapes cL_shapes 5 (some .int) [(0, 7, 8, 15)], Cond.methodLink RL 31 yX6_addShape, Cond.instanceMethod yX6_addShape, Cond.selects RX6 yX6_addShape yX6_addShape, Cond.code yX6_addShape cX6_addShape 6 (some .int), Cond.fieldLink RX6 33 "CrochetRounds" "plan" "LCrochetRounds$Plan;", Cond.methodLink RX6 101 yX6_isShape, Cond.static yX6_isShape, Cond.code yX6_isShape cX6_isShape 1 (some .boolean), Cond.methodLink RX6 104 yX6_isSize, Cond.static yX6_isSize, Cond.code yX6_isSize cX6_isSize 1 (some .boolean)] := goodIn_r _ [305, 306, 307, 308, 309, 26, 310, 311, 312, 313, 314, 315] (by decide +kernel) (by decide +kernel)
set_option maxRecDepth 20000 in
theorem gx_L_law_L_acts_r7_1 : GoodIn wsL_law [Cond.methodLink RX6 107 yX6_shapeGoal, Cond.instanceMethod yX6_shapeGoal, Cond.selects RX6 yX6_shapeGoal yX6_shapeGoal, Cond.code yX6_shapeGoal cX6_shapeGoal 5 (some .int), Cond.fieldLink RX6 146 "CrochetRounds$Piece" "totals" "LCrochetRounds$Numbers;", Cond.methodLink RX6 286 Lib.Math.min.name, Cond.methodLink RX6 291 Lib.Math.max.name, Cond.static Lib.Math.max.name, Cond.code Lib.Math.max.name Lib.Math.max.code 2 (some .int), Cond.methodLink RX6 282 yX6_rawGoal, Cond.static yX6_rawGoal, Cond.code yX6_rawGoal cX6_rawGoal 4 (some .int)] := goodIn_r _ [316, 317, 318, 319, 152, 320, 321, 193, 195, 322, 323, 324] (by decide +kernel) (by decide +kernel)
theorem gx_L_law_L_acts_r7 : GoodIn wsL_law wsL_acts_r7 := goodIn_app gx_L_law_L_acts_r7_0 gx_L_law_L_acts_r7_1
set_option maxRecDepth 20000 in
theorem gx_L_law_L_acts_r8_0 : GoodIn wsL_law [Cond.methodLink RX6 294 yX6_doubled, Cond.static yX6_doubled, Cond.code yX6_doubled cX6_doubled 4 (some .int), Cond.methodLink RX6 81 yX5_spread, Cond.instanceMethod yX5_spread, Cond.selects RX5 yX5_spread yX5_spread, Cond.initialized RX5, Cond.code yX5_spread cX5_spread 4 (some .boolean), Cond.fieldLink RX5 24 "CrochetRounds$Plan" "works" "I", Cond.fieldLink RX5 14 "CrochetRounds$Plan" "row" "LCrochetRounds$Numbers;", Cond.fieldLink RX5 28 "CrochetRounds$Plan" "shaped" "I", Cond.methodLink RX5 20 yX5_measure] := goodIn_r _ [325, 326, 327, 328, 329, 330, 25, 331, 332, 65, 333, 334] (by decide +kernel) (by decide +kernel)
set_option maxRecDepth 20000 in
theorem gx_L_law_L_acts_r8_1 : GoodIn wsL_law [Cond.instanceMethod yX5_measure, Cond.selects RX5 yX5_measure yX5_measure, Cond.code yX5_measure cX5_measure 3 (some .boolean), Cond.fieldLink RX5 39 "CrochetRounds$Plan" "kind" "I", Cond.methodLink RX5 31 yX5_spreadKind, Cond.instanceMethod yX5_spreadKind, Cond.selects RX5 yX5_spreadKind yX5_spreadKind, Cond.code yX5_spreadKind cX5_spreadKind 4 (some .int), Cond.methodLink RX5 35 yX2_put, Cond.methodLink RX6 88 yX6_addBest, Cond.instanceMethod yX6_addBest, Cond.selects RX6 yX6_addBest yX6_addBest] := goodIn_r _ [335, 336, 337, 338, 339, 340, 341, 342, 343, 344, 345, 346] (by decide +kernel) (by decide +kernel)
theorem gx_L_law_L_acts_r8 : GoodIn wsL_law wsL_acts_r8 := goodIn_app gx_L_law_L_acts_r8_0 gx_L_law_L_acts_r8_1
set_option maxRecDepth 20000 in
theorem gx_L_law_L_acts_r9_0 : GoodIn wsL_law [Cond.code yX6_addBest cX6_addBest 2 (some .int), Cond.fieldLink RX6 40 "CrochetRounds" "makers" "LCrochetRounds$Makers;", Cond.methodLink RX6 155 yX1_load, Cond.instanceMethod yX1_load, Cond.selects RX1 yX1_load yX1_load, Cond.initialized RX1, Cond.code yX1_load cX1_load 7 none, Cond.fieldLink RX1 20 "CrochetRounds$Piece" "works" "LCrochetRounds$Numbers;", Cond.fieldLink RX1 29 "CrochetRounds$Piece" "kinds" "LCrochetRounds$Numbers;", Cond.fieldLink RX1 14 "CrochetRounds$Makers" "kinds" "LCrochetRounds$Numbers;", Cond.methodLink RX1 25 yX2_at, Cond.methodLink RX1 30 yX2_put] := goodIn_r _ [347, 30, 163, 164, 165, 29, 166, 167, 168, 71, 169, 170] (by decide +kernel) (by decide +kernel)
set_option maxRecDepth 20000 in
theorem gx_L_law_L_acts_r9_1 : GoodIn wsL_law [Cond.methodLink RX6 239 yX1_bestShift, Cond.instanceMethod yX1_bestShift, Cond.selects RX1 yX1_bestShift yX1_bestShift, Cond.code yX1_bestShift cX1_bestShift 6 (some .int), Cond.fieldLink RX1 40 "CrochetRounds$Plan" "row" "LCrochetRounds$Numbers;", Cond.fieldLink RX1 45 "CrochetRounds$Plan" "works" "I", Cond.methodLink RX1 48 yX1_stackedIn, Cond.instanceMethod yX1_stackedIn, Cond.selects RX1 yX1_stackedIn yX1_stackedIn, Cond.code yX1_stackedIn cX1_stackedIn 11 (some .int), Cond.static yX6_usedBy, Cond.code yX6_usedBy cX6_usedBy 1 (some .int)] := goodIn_r _ [348, 349, 350, 351, 352, 353, 354, 172, 173, 174, 175, 176] (by decide +kernel) (by decide +kernel)
theorem gx_L_law_L_acts_r9 : GoodIn wsL_law wsL_acts_r9 := goodIn_app gx_L_law_L_acts_r9_0 gx_L_law_L_acts_r9_1
set_option maxRecDepth 20000 in
theorem gx_L_law_L_acts_r10_0 : GoodIn wsL_law [Cond.methodLink RX6 243 yX6_addRow, Cond.instanceMethod yX6_addRow, Cond.selects RX6 yX6_addRow yX6_addRow, Cond.code yX6_addRow cX6_addRow 4 none, Cond.fieldLink RX6 162 "CrochetRounds$Plan" "works" "I", Cond.fieldLink RX6 159 "CrochetRounds$Plan" "row" "LCrochetRounds$Numbers;", Cond.methodLink RX6 246 yX4_openRound, Cond.methodLink RX6 249 yX4_addWork, Cond.methodLink RX6 252 yX4_closeRound, Cond.methodLink RL 101 yL_adds, Cond.static yL_adds, Cond.codeWith yL_adds cL_adds 3 (some .int) [(0, 5, 6, 15), (0, 5, 11, 20), (0, 5, 16, 22)]] := goodIn_r _ [355, 356, 357, 358, 359, 360, 361, 362, 363, 364, 365, 366] (by decide +kernel) (by decide +kernel)
set_option maxRecDepth 20000 in
theorem gx_L_law_L_acts_r10_1 : GoodIn wsL_law [Cond.classLink RL 22 "java/lang/UnsupportedOperationException", Cond.methodLink RL 17 yX6_addRound, Cond.instanceMethod yX6_addRound, Cond.selects RX6 yX6_addRound yX6_addRound, Cond.code yX6_addRound cX6_addRound 2 (some .int), Cond.methodLink RX6 70 yX6_isGoal, Cond.static yX6_isGoal, Cond.code yX6_isGoal cX6_isGoal 1 (some .boolean), Cond.methodLink RX6 74 yX6_checkRoom, Cond.instanceMethod yX6_checkRoom, Cond.selects RX6 yX6_checkRoom yX6_checkRoom, Cond.code yX6_checkRoom cX6_checkRoom 1 none] := goodIn_r _ [367, 368, 369, 370, 371, 372, 373, 374, 375, 376, 377, 378] (by decide +kernel) (by decide +kernel)
theorem gx_L_law_L_acts_r10 : GoodIn wsL_law wsL_acts_r10 := goodIn_app gx_L_law_L_acts_r10_0 gx_L_law_L_acts_r10_1
set_option maxRecDepth 20000 in
theorem gx_L_law_L_acts_r11_0 : GoodIn wsL_law [Cond.methodLink RX6 85 yX6_checkPossible, Cond.static yX6_checkPossible, Cond.code yX6_checkPossible cX6_checkPossible 1 none, Cond.classLink RX6 229 "java/lang/UnsupportedOperationException", Cond.initialized "java/lang/UnsupportedOperationException", Cond.methodLink RL 104 yL_shifts, Cond.static yL_shifts, Cond.codeWith yL_shifts cL_shifts 4 (some .int) [(0, 6, 7, 15), (0, 6, 12, 20), (0, 6, 17, 22)], Cond.methodLink RL 24 yX6_addShifted, Cond.instanceMethod yX6_addShifted, Cond.selects RX6 yX6_addShifted yX6_addShifted, Cond.code yX6_addShifted cX6_addShifted 3 (some .int)] := goodIn_r _ [379, 380, 381, 382, 383, 384, 385, 386, 387, 388, 389, 390] (by decide +kernel) (by decide +kernel)
set_option maxRecDepth 20000 in
theorem gx_L_law_L_acts_r11_1 : GoodIn wsL_law [Cond.methodLink RX6 91 yX6_isShift, Cond.static yX6_isShift, Cond.code yX6_isShift cX6_isShift 1 (some .boolean), Cond.methodLink RX6 94 yX6_addPlanned, Cond.instanceMethod yX6_addPlanned, Cond.selects RX6 yX6_addPlanned yX6_addPlanned, Cond.code yX6_addPlanned cX6_addPlanned 3 (some .int), Cond.methodLink RX6 164 yX1_stackedIn, Cond.methodLink RL 107 yL_mirrors, Cond.static yL_mirrors, Cond.codeWith yL_mirrors cL_mirrors 3 (some .int) [(0, 5, 6, 15), (0, 5, 11, 20), (0, 5, 16, 22)], Cond.methodLink RL 28 yX6_addMirrored] := goodIn_r _ [391, 392, 393, 394, 395, 396, 397, 171, 398, 399, 400, 401] (by decide +kernel) (by decide +kernel)
theorem gx_L_law_L_acts_r11 : GoodIn wsL_law wsL_acts_r11 := goodIn_app gx_L_law_L_acts_r11_0 gx_L_law_L_acts_r11_1
set_option maxRecDepth 20000 in
theorem gx_L_law_L_acts_r12_0 : GoodIn wsL_law [Cond.instanceMethod yX6_addMirrored, Cond.selects RX6 yX6_addMirrored yX6_addMirrored, Cond.code yX6_addMirrored cX6_addMirrored 2 (some .int), Cond.methodLink RX6 98 yX5_mirror, Cond.instanceMethod yX5_mirror, Cond.selects RX5 yX5_mirror yX5_mirror, Cond.code yX5_mirror cX5_mirror 8 (some .boolean)] := goodIn_r _ [402, 403, 404, 405, 406, 407, 408] (by decide +kernel) (by decide +kernel)
theorem gx_L_law_L_acts_r12 : GoodIn wsL_law wsL_acts_r12 := gx_L_law_L_acts_r12_0
theorem gx_L_law_L_acts_X6 : GoodIn wsL_law wsX60 := goodIn_sub (by decide +kernel) (by decide +kernel)
theorem gx_L_law_L_acts_X4 : GoodIn wsL_law wsX40 := goodIn_sub (by decide +kernel) (by decide +kernel)
theorem gx_L_law_L_acts_X0 : GoodIn wsL_law wsX00 := goodIn_sub (by decide +kernel) (by decide +kernel)
theorem gx_L_law_L_acts_X2 : GoodIn wsL_law wsX20 := goodIn_sub (by decide +kernel) (by decide +kernel)
theorem gx_L_law_L_acts_X5 : GoodIn wsL_law wsX50 := goodIn_sub (by decide +kernel) (by decide +kernel)
theorem gx_L_law_L_acts_X1 : GoodIn wsL_law wsX10 := goodIn_sub (by decide +kernel) (by decide +kernel)
theorem goodIn_k1_gx_L_law_L_acts {big a : List Cond} {c : Cond} (hc : GoodIn big [c]) (ha : GoodIn big a) : GoodIn big (c :: a) := fun w h => (List.mem_cons.mp h).elim (fun e => hc w (List.mem_singleton.mpr e)) (ha w)
theorem ggL_law_L_acts : GoodIn wsL_law wsL_acts := goodIn_k1_gx_L_law_L_acts gx_L_law_L_acts_c (goodIn_app (goodIn_app (goodIn_app (goodIn_app (goodIn_app (goodIn_app (goodIn_app (goodIn_app (goodIn_app (goodIn_app gx_L_law_L_acts_r1 (goodIn_app gx_L_law_L_acts_r2 (goodIn_app gx_L_law_L_acts_r3 (goodIn_app gx_L_law_L_acts_r4 (goodIn_app gx_L_law_L_acts_r5 (goodIn_app gx_L_law_L_acts_r6 (goodIn_app gx_L_law_L_acts_r7 (goodIn_app gx_L_law_L_acts_r8 (goodIn_app gx_L_law_L_acts_r9 (goodIn_app gx_L_law_L_acts_r10 (goodIn_app gx_L_law_L_acts_r11 gx_L_law_L_acts_r12))))))))))) gx_L_law_L_acts_X6) gx_L_law_L_acts_X4) gx_L_law_L_acts_X0) gx_L_law_L_acts_X2) gx_L_law_L_acts_X5) gx_L_law_L_acts_X1) (goodIn_sub (fun _ h => List.mem_append_left _ (List.mem_append_left _ (List.mem_append_right _ h))) (by decide +kernel))) (goodIn_sub (fun _ h => List.mem_append_left _ (List.mem_append_right _ h)) (by decide +kernel))) (goodIn_sub (fun _ h => List.mem_append_right _ h) (by decide +kernel)))
set_option maxRecDepth 20000 in
theorem gL_law_L_acts : GoodIn wsL_law (va_wsS RL 143 yL_acts wsL_acts) := goodIn_app (goodIn_of _ (by decide +kernel)) ggL_law_L_acts
set_option maxRecDepth 20000 in
theorem ggL_law_L_valueOf : GoodIn wsL_law wsL_valueOf := goodIn_ca (goodIn_r _ [207, 138, 208, 209, 210, 2, 211, 14, 123, 212, 143, 144, 145, 146, 147, 213, 214, 215, 13, 216, 40, 81, 91, 92, 93, 37, 94, 46, 217, 218, 219, 220, 148, 149, 150, 151, 152, 124, 130, 153, 154, 155, 156, 39, 157, 132, 133, 134, 38, 158, 159, 160, 161, 30, 162, 163, 164, 165, 29, 166, 167, 168, 71, 169, 170, 74, 75, 76, 95, 96, 171, 172, 173, 174, 175, 176, 177, 178, 179, 180, 181, 182, 183, 184, 41, 185, 186, 187, 188, 189, 190, 191, 192, 193, 194, 195, 196, 197, 198, 221, 222, 223, 224, 409, 410, 411, 412, 413, 414, 415, 416, 417, 418, 419, 438, 437] (by decide +kernel) (by decide +kernel)) (goodIn_sub (fun _ h => List.mem_append_left _ (List.mem_append_left _ (List.mem_append_right _ h))) (by decide +kernel))
set_option maxRecDepth 20000 in
theorem gL_law_L_valueOf : GoodIn wsL_law (va_wsS RL 131 yL_valueOf wsL_valueOf) := goodIn_app (goodIn_of _ (by decide +kernel)) ggL_law_L_valueOf
theorem dL_law_0 : decode cL_law 0 = .ok (.new 10, 3) := by decide +kernel
theorem dL_law_3 : decode cL_law 3 = .ok (.dup, 1) := by decide +kernel
theorem dL_law_4 : decode cL_law 4 = .ok (.invokespecial 134, 3) := by decide +kernel
theorem dL_law_7 : decode cL_law 7 = .ok (.astore_n 1, 1) := by decide +kernel
theorem dL_law_8 : decode cL_law 8 = .ok (.iconst 5, 1) := by decide +kernel
theorem dL_law_9 : decode cL_law 9 = .ok (.newarray .int, 2) := by decide +kernel
theorem dL_law_11 : decode cL_law 11 = .ok (.astore_n 2, 1) := by decide +kernel
theorem dL_law_12 : decode cL_law 12 = .ok (.bipush 16, 2) := by decide +kernel
theorem dL_law_14 : decode cL_law 14 = .ok (.newarray .int, 2) := by decide +kernel
theorem dL_law_16 : decode cL_law 16 = .ok (.astore_n 3, 1) := by decide +kernel
theorem dL_law_17 : decode cL_law 17 = .ok (.bipush 64, 2) := by decide +kernel
theorem dL_law_19 : decode cL_law 19 = .ok (.newarray .long, 2) := by decide +kernel
theorem dL_law_21 : decode cL_law 21 = .ok (.astore 4, 2) := by decide +kernel
theorem dL_law_23 : decode cL_law 23 = .ok (.aload_n 2, 1) := by decide +kernel
theorem dL_law_24 : decode cL_law 24 = .ok (.iconst 0, 1) := by decide +kernel
theorem dL_law_25 : decode cL_law 25 = .ok (.iconst 1, 1) := by decide +kernel
theorem dL_law_26 : decode cL_law 26 = .ok (.iastore, 1) := by decide +kernel
theorem dL_law_27 : decode cL_law 27 = .ok (.aload_n 2, 1) := by decide +kernel
theorem dL_law_28 : decode cL_law 28 = .ok (.iconst 2, 1) := by decide +kernel
theorem dL_law_29 : decode cL_law 29 = .ok (.bipush 10, 2) := by decide +kernel
theorem dL_law_31 : decode cL_law 31 = .ok (.iastore, 1) := by decide +kernel
theorem dL_law_32 : decode cL_law 32 = .ok (.aload_n 2, 1) := by decide +kernel
theorem dL_law_33 : decode cL_law 33 = .ok (.iconst 3, 1) := by decide +kernel
theorem dL_law_34 : decode cL_law 34 = .ok (.bipush 20, 2) := by decide +kernel
theorem dL_law_36 : decode cL_law 36 = .ok (.iastore, 1) := by decide +kernel
theorem dL_law_37 : decode cL_law 37 = .ok (.aload_n 2, 1) := by decide +kernel
theorem dL_law_38 : decode cL_law 38 = .ok (.iconst 4, 1) := by decide +kernel
theorem dL_law_39 : decode cL_law 39 = .ok (.bipush 13, 2) := by decide +kernel
theorem dL_law_41 : decode cL_law 41 = .ok (.iastore, 1) := by decide +kernel
theorem dL_law_42 : decode cL_law 42 = .ok (.aload_n 3, 1) := by decide +kernel
theorem dL_law_43 : decode cL_law 43 = .ok (.iconst 0, 1) := by decide +kernel
theorem dL_law_44 : decode cL_law 44 = .ok (.bipush 6, 2) := by decide +kernel
theorem dL_law_46 : decode cL_law 46 = .ok (.iastore, 1) := by decide +kernel
theorem dL_law_47 : decode cL_law 47 = .ok (.aload_n 1, 1) := by decide +kernel
theorem dL_law_48 : decode cL_law 48 = .ok (.aload_n 2, 1) := by decide +kernel
theorem dL_law_49 : decode cL_law 49 = .ok (.aload_n 3, 1) := by decide +kernel
theorem dL_law_50 : decode cL_law 50 = .ok (.aload 4, 2) := by decide +kernel
theorem dL_law_52 : decode cL_law 52 = .ok (.invokestatic 135, 3) := by decide +kernel
theorem dL_law_55 : decode cL_law 55 = .ok (.istore 5, 2) := by decide +kernel
theorem dL_law_57 : decode cL_law 57 = .ok (.bipush 8, 2) := by decide +kernel
theorem dL_law_59 : decode cL_law 59 = .ok (.aload_n 0, 1) := by decide +kernel
theorem dL_law_60 : decode cL_law 60 = .ok (.iconst 0, 1) := by decide +kernel
theorem dL_law_61 : decode cL_law 61 = .ok (.invokestatic 139, 3) := by decide +kernel
theorem dL_law_64 : decode cL_law 64 = .ok (.bipush 40, 2) := by decide +kernel
theorem dL_law_66 : decode cL_law 66 = .ok (.invokestatic 67, 3) := by decide +kernel
theorem dL_law_69 : decode cL_law 69 = .ok (.iadd, 1) := by decide +kernel
theorem dL_law_70 : decode cL_law 70 = .ok (.istore 6, 2) := by decide +kernel
theorem dL_law_72 : decode cL_law 72 = .ok (.iconst 0, 1) := by decide +kernel
theorem dL_law_73 : decode cL_law 73 = .ok (.istore 7, 2) := by decide +kernel
theorem dL_law_75 : decode cL_law 75 = .ok (.iload 7, 2) := by decide +kernel
theorem dL_law_77 : decode cL_law 77 = .ok (.iload 6, 2) := by decide +kernel
theorem dL_law_79 : decode cL_law 79 = .ok (.if_icmp .ge 58, 3) := by decide +kernel
theorem dL_law_82 : decode cL_law 82 = .ok (.iload 5, 2) := by decide +kernel
theorem dL_law_84 : decode cL_law 84 = .ok (.ifCond .eq 53, 3) := by decide +kernel
theorem dL_law_87 : decode cL_law 87 = .ok (.aload_n 1, 1) := by decide +kernel
theorem dL_law_88 : decode cL_law 88 = .ok (.aload_n 2, 1) := by decide +kernel
theorem dL_law_89 : decode cL_law 89 = .ok (.aload_n 3, 1) := by decide +kernel
theorem dL_law_90 : decode cL_law 90 = .ok (.aload 4, 2) := by decide +kernel
theorem dL_law_92 : decode cL_law 92 = .ok (.aload_n 0, 1) := by decide +kernel
theorem dL_law_93 : decode cL_law 93 = .ok (.iconst 1, 1) := by decide +kernel
theorem dL_law_94 : decode cL_law 94 = .ok (.iload 7, 2) := by decide +kernel
theorem dL_law_96 : decode cL_law 96 = .ok (.iadd, 1) := by decide +kernel
theorem dL_law_97 : decode cL_law 97 = .ok (.invokestatic 139, 3) := by decide +kernel
theorem dL_law_100 : decode cL_law 100 = .ok (.sipush 7919, 3) := by decide +kernel
theorem dL_law_103 : decode cL_law 103 = .ok (.iload 7, 2) := by decide +kernel
theorem dL_law_105 : decode cL_law 105 = .ok (.imul, 1) := by decide +kernel
theorem dL_law_106 : decode cL_law 106 = .ok (.ixor, 1) := by decide +kernel
theorem dL_law_107 : decode cL_law 107 = .ok (.invokestatic 143, 3) := by decide +kernel
theorem dL_law_110 : decode cL_law 110 = .ok (.ifCond .eq 18, 3) := by decide +kernel
theorem dL_law_113 : decode cL_law 113 = .ok (.aload_n 1, 1) := by decide +kernel
theorem dL_law_114 : decode cL_law 114 = .ok (.aload_n 2, 1) := by decide +kernel
theorem dL_law_115 : decode cL_law 115 = .ok (.aload_n 3, 1) := by decide +kernel
theorem dL_law_116 : decode cL_law 116 = .ok (.aload 4, 2) := by decide +kernel
theorem dL_law_118 : decode cL_law 118 = .ok (.invokestatic 135, 3) := by decide +kernel
theorem dL_law_121 : decode cL_law 121 = .ok (.ifCond .eq 7, 3) := by decide +kernel
theorem dL_law_124 : decode cL_law 124 = .ok (.iconst 1, 1) := by decide +kernel
theorem dL_law_125 : decode cL_law 125 = .ok (.goto 4, 3) := by decide +kernel
theorem dL_law_128 : decode cL_law 128 = .ok (.iconst 0, 1) := by decide +kernel
theorem dL_law_129 : decode cL_law 129 = .ok (.istore 5, 2) := by decide +kernel
theorem dL_law_131 : decode cL_law 131 = .ok (.iinc 7 1, 3) := by decide +kernel
theorem dL_law_134 : decode cL_law 134 = .ok (.goto (-59), 3) := by decide +kernel
theorem dL_law_137 : decode cL_law 137 = .ok (.iload 5, 2) := by decide +kernel
theorem dL_law_139 : decode cL_law 139 = .ok (.ifCond .eq 30, 3) := by decide +kernel
theorem dL_law_142 : decode cL_law 142 = .ok (.aload_n 1, 1) := by decide +kernel
theorem dL_law_143 : decode cL_law 143 = .ok (.iconst (-1), 1) := by decide +kernel
theorem dL_law_144 : decode cL_law 144 = .ok (.invokestatic 131, 3) := by decide +kernel
theorem dL_law_147 : decode cL_law 147 = .ok (.sipush (-30001), 3) := by decide +kernel
theorem dL_law_150 : decode cL_law 150 = .ok (.if_icmp .ne 19, 3) := by decide +kernel
theorem dL_law_153 : decode cL_law 153 = .ok (.aload_n 1, 1) := by decide +kernel
theorem dL_law_154 : decode cL_law 154 = .ok (.bipush 8, 2) := by decide +kernel
theorem dL_law_156 : decode cL_law 156 = .ok (.invokestatic 131, 3) := by decide +kernel
theorem dL_law_159 : decode cL_law 159 = .ok (.sipush (-30001), 3) := by decide +kernel
theorem dL_law_162 : decode cL_law 162 = .ok (.if_icmp .ne 7, 3) := by decide +kernel
theorem dL_law_165 : decode cL_law 165 = .ok (.iconst 1, 1) := by decide +kernel
theorem dL_law_166 : decode cL_law 166 = .ok (.goto 4, 3) := by decide +kernel
theorem dL_law_169 : decode cL_law 169 = .ok (.iconst 0, 1) := by decide +kernel
theorem dL_law_170 : decode cL_law 170 = .ok (.ireturn, 1) := by decide +kernel
