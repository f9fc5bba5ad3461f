set_option maxRecDepth 20000 in
theorem ggL_roundOf_X6_round : GoodIn wsL_roundOf wsX6_round := goodIn_ca (goodIn_ca (goodIn_r _ [7, 8, 9, 10, 11, 6, 12, 13, 14, 15, 16, 17, 18, 19, 20, 21, 22, 23, 24, 25, 26, 27, 28, 29, 30, 31, 32, 33, 34, 35, 36, 37, 38, 39, 40, 41, 42, 43, 44, 45, 46, 47, 48, 49, 50, 51, 52, 53, 54, 55, 56, 57, 58, 59, 60, 61, 62, 63, 64, 65, 66, 67, 68, 69, 70, 71, 72, 73, 74, 75, 76, 77, 78, 79, 80, 81, 82, 83, 84, 85, 86, 87, 88, 89, 90, 91, 92, 93, 94, 95, 96, 97, 98, 99, 100, 101, 102, 103, 104, 105, 106] (by decide +kernel) (by decide +kernel)) (goodIn_sub (fun _ h => List.mem_cons_of_mem _ (List.mem_append_left _ (List.mem_append_right _ h))) (by decide +kernel))) (goodIn_sub (fun _ h => List.mem_cons_of_mem _ (List.mem_append_right _ h)) (by decide +kernel))
set_option maxRecDepth 20000 in
theorem gL_roundOf_X6_round : GoodIn wsL_roundOf (wsV RL 110 RX6 yX6_round wsX6_round) := goodIn_app (goodIn_of _ (by decide +kernel)) ggL_roundOf_X6_round
theorem dL_roundOf_0 : decode cL_roundOf 0 = .ok (.aload_n 0, 1) := by decide +kernel
theorem dL_roundOf_1 : decode cL_roundOf 1 = .ok (.iload_n 1, 1) := by decide +kernel
theorem dL_roundOf_2 : decode cL_roundOf 2 = .ok (.iload_n 2, 1) := by decide +kernel
theorem dL_roundOf_3 : decode cL_roundOf 3 = .ok (.invokevirtual 110, 3) := by decide +kernel
theorem dL_roundOf_6 : decode cL_roundOf 6 = .ok (.ireturn, 1) := by decide +kernel
theorem dL_roundOf_7 : decode cL_roundOf 7 = .ok (.astore_n 3, 1) := by decide +kernel
theorem dL_roundOf_8 : decode cL_roundOf 8 = .ok (.sipush (-30004), 3) := by decide +kernel
theorem dL_roundOf_11 : decode cL_roundOf 11 = .ok (.ireturn, 1) := by decide +kernel
theorem dL_roundOf_12 : decode cL_roundOf 12 = .ok (.astore_n 3, 1) := by decide +kernel
theorem dL_roundOf_13 : decode cL_roundOf 13 = .ok (.sipush (-30001), 3) := by decide +kernel
theorem dL_roundOf_16 : decode cL_roundOf 16 = .ok (.ireturn, 1) := by decide +kernel
set_option maxRecDepth 20000 in
theorem ggL_workOf_X6_work : GoodIn wsL_workOf wsX6_work := goodIn_ca (goodIn_r _ [6, 7, 8, 9, 10, 11, 5, 12, 13, 14, 15, 16, 17, 18, 19, 20, 21, 22, 23, 24, 25, 26, 27, 28, 29, 30, 31, 32, 33, 34, 35, 36, 37, 38, 39] (by decide +kernel) (by decide +kernel)) (goodIn_sub (fun _ h => List.mem_cons_of_mem _ (List.mem_append_right _ h)) (by decide +kernel))
set_option maxRecDepth 20000 in
theorem gL_workOf_X6_work : GoodIn wsL_workOf (wsV RL 115 RX6 yX6_work wsX6_work) := goodIn_app (goodIn_of _ (by decide +kernel)) ggL_workOf_X6_work
theorem dL_workOf_0 : decode cL_workOf 0 = .ok (.aload_n 0, 1) := by decide +kernel
theorem dL_workOf_1 : decode cL_workOf 1 = .ok (.iload_n 1, 1) := by decide +kernel
theorem dL_workOf_2 : decode cL_workOf 2 = .ok (.iload_n 2, 1) := by decide +kernel
theorem dL_workOf_3 : decode cL_workOf 3 = .ok (.invokevirtual 115, 3) := by decide +kernel
theorem dL_workOf_6 : decode cL_workOf 6 = .ok (.ireturn, 1) := by decide +kernel
theorem dL_workOf_7 : decode cL_workOf 7 = .ok (.astore_n 3, 1) := by decide +kernel
theorem dL_workOf_8 : decode cL_workOf 8 = .ok (.sipush (-30004), 3) := by decide +kernel
theorem dL_workOf_11 : decode cL_workOf 11 = .ok (.ireturn, 1) := by decide +kernel
set_option maxRecDepth 20000 in
theorem ggL_valueOf_X6_value : GoodIn wsL_valueOf wsX6_value := goodIn_ca (goodIn_r _ [6, 7, 8, 9, 10, 11, 5, 12, 13, 14, 15, 16, 17, 18, 19, 20, 21, 22, 23, 24, 25, 26, 27, 28, 29, 30, 31, 32, 33, 34, 35, 36, 37, 38, 39, 40, 41, 42, 43, 44, 45, 46, 47, 48, 49, 50, 51, 52, 53, 54, 55, 56, 57, 58, 59, 60, 61, 62, 63, 64, 65, 66, 67, 68, 69, 70, 71, 72, 73, 74, 75, 76, 77, 78, 79, 80, 81, 82, 83, 84, 85, 86, 87, 88, 89, 90, 91, 92, 93, 94, 95, 96, 97, 98, 99, 100, 101, 102, 103, 104, 105, 106, 107, 108, 109, 110, 111, 112, 113, 114, 115] (by decide +kernel) (by decide +kernel)) (goodIn_sub (fun _ h => List.mem_cons_of_mem _ (List.mem_append_right _ h)) (by decide +kernel))
set_option maxRecDepth 20000 in
theorem gL_valueOf_X6_value : GoodIn wsL_valueOf (wsV RL 118 RX6 yX6_value wsX6_value) := goodIn_app (goodIn_of _ (by decide +kernel)) ggL_valueOf_X6_value
theorem dL_valueOf_0 : decode cL_valueOf 0 = .ok (.aload_n 0, 1) := by decide +kernel
theorem dL_valueOf_1 : decode cL_valueOf 1 = .ok (.iload_n 1, 1) := by decide +kernel
theorem dL_valueOf_2 : decode cL_valueOf 2 = .ok (.invokevirtual 118, 3) := by decide +kernel
theorem dL_valueOf_5 : decode cL_valueOf 5 = .ok (.ireturn, 1) := by decide +kernel
theorem dL_valueOf_6 : decode cL_valueOf 6 = .ok (.astore_n 2, 1) := by decide +kernel
theorem dL_valueOf_7 : decode cL_valueOf 7 = .ok (.sipush (-30001), 3) := by decide +kernel
theorem dL_valueOf_10 : decode cL_valueOf 10 = .ok (.ireturn, 1) := by decide +kernel
set_option maxRecDepth 20000 in
theorem ggL_isRound_L_total : GoodIn wsL_isRound wsL_total := goodIn_r _ [4, 5, 6, 3, 7, 8] (by decide +kernel) (by decide +kernel)
set_option maxRecDepth 20000 in
theorem gL_isRound_L_total : GoodIn wsL_isRound (va_wsS RL 53 yL_total wsL_total) := goodIn_app (goodIn_of _ (by decide +kernel)) ggL_isRound_L_total
set_option maxRecDepth 20000 in
theorem ggL_isRound_L_kind : GoodIn wsL_isRound wsL_kind := goodIn_r _ [7, 8] (by decide +kernel) (by decide +kernel)
set_option maxRecDepth 20000 in
theorem gL_isRound_L_kind : GoodIn wsL_isRound (va_wsS RL 43 yL_kind wsL_kind) := goodIn_app (goodIn_of _ (by decide +kernel)) ggL_isRound_L_kind
set_option maxRecDepth 20000 in
theorem ggL_isRound_L_workOf : GoodIn wsL_isRound wsL_workOf := goodIn_ca (goodIn_r _ [11, 12, 13, 14, 15, 16, 17, 18, 19, 20, 21, 22, 23, 24, 25, 26, 27, 28, 29, 30, 31, 32, 33, 34, 35, 36, 37, 38, 119, 120, 121, 122, 123, 124, 125, 126, 127, 128, 129, 130] (by decide +kernel) (by decide +kernel)) (goodIn_sub (fun _ h => List.mem_cons_of_mem _ (List.mem_append_left _ (List.mem_append_right _ h))) (by decide +kernel))
set_option maxRecDepth 20000 in
theorem gL_isRound_L_workOf : GoodIn wsL_isRound (va_wsS RL 121 yL_workOf wsL_workOf) := goodIn_app (goodIn_of _ (by decide +kernel)) ggL_isRound_L_workOf
set_option maxRecDepth 20000 in
theorem ggL_isRound_L_roundOf : GoodIn wsL_isRound wsL_roundOf := goodIn_ca (goodIn_ca (goodIn_r _ [41, 12, 42, 43, 44, 45, 16, 46, 18, 19, 21, 22, 23, 24, 25, 47, 48, 49, 50, 51, 52, 53, 54, 55, 56, 20, 26, 27, 28, 29, 30, 31, 57, 58, 59, 35, 60, 61, 38, 62, 33, 34, 36, 37, 63, 64, 65, 66, 67, 68, 69, 70, 71, 72, 73, 74, 75, 76, 77, 78, 79, 80, 81, 82, 83, 84, 85, 86, 87, 88, 89, 90, 91, 92, 93, 94, 95, 96, 97, 98, 99, 100, 101, 102, 103, 104, 105, 106, 107, 108, 109, 110, 111, 112, 119, 120, 121, 122, 123, 124, 125, 126, 127, 128, 129, 130, 131] (by decide +kernel) (by decide +kernel)) (goodIn_sub (fun _ h => List.mem_cons_of_mem _ (List.mem_append_left _ (List.mem_append_right _ h))) (by decide +kernel))) (goodIn_sub (fun _ h => List.mem_cons_of_mem _ (List.mem_append_right _ h)) (by decide +kernel))
set_option maxRecDepth 20000 in
theorem gL_isRound_L_roundOf : GoodIn wsL_isRound (va_wsS RL 124 yL_roundOf wsL_roundOf) := goodIn_app (goodIn_of _ (by decide +kernel)) ggL_isRound_L_roundOf
set_option maxRecDepth 20000 in
theorem ggL_isRound_L_stacked : GoodIn wsL_isRound wsL_stacked := goodIn_r _ [115, 5, 6, 3, 7, 8, 116, 117, 118] (by decide +kernel) (by decide +kernel)
set_option maxRecDepth 20000 in
theorem gL_isRound_L_stacked : GoodIn wsL_isRound (va_wsS RL 63 yL_stacked wsL_stacked) := goodIn_app (goodIn_of _ (by decide +kernel)) ggL_isRound_L_stacked
theorem dL_isRound_0 : decode cL_isRound 0 = .ok (.aload_n 2, 1) := by decide +kernel
theorem dL_isRound_1 : decode cL_isRound 1 = .ok (.aload_n 3, 1) := by decide +kernel
theorem dL_isRound_2 : decode cL_isRound 2 = .ok (.iload 4, 2) := by decide +kernel
theorem dL_isRound_4 : decode cL_isRound 4 = .ok (.invokestatic 53, 3) := by decide +kernel
theorem dL_isRound_7 : decode cL_isRound 7 = .ok (.istore 5, 2) := by decide +kernel
theorem dL_isRound_9 : decode cL_isRound 9 = .ok (.iconst 0, 1) := by decide +kernel
theorem dL_isRound_10 : decode cL_isRound 10 = .ok (.istore 6, 2) := by decide +kernel
theorem dL_isRound_12 : decode cL_isRound 12 = .ok (.iconst 0, 1) := by decide +kernel
theorem dL_isRound_13 : decode cL_isRound 13 = .ok (.istore 7, 2) := by decide +kernel
theorem dL_isRound_15 : decode cL_isRound 15 = .ok (.iconst (-1), 1) := by decide +kernel
theorem dL_isRound_16 : decode cL_isRound 16 = .ok (.istore 8, 2) := by decide +kernel
theorem dL_isRound_18 : decode cL_isRound 18 = .ok (.iconst (-1), 1) := by decide +kernel
theorem dL_isRound_19 : decode cL_isRound 19 = .ok (.istore 9, 2) := by decide +kernel
theorem dL_isRound_21 : decode cL_isRound 21 = .ok (.iconst 0, 1) := by decide +kernel
theorem dL_isRound_22 : decode cL_isRound 22 = .ok (.istore 10, 2) := by decide +kernel
theorem dL_isRound_24 : decode cL_isRound 24 = .ok (.sipush 999, 3) := by decide +kernel
theorem dL_isRound_27 : decode cL_isRound 27 = .ok (.istore 11, 2) := by decide +kernel
theorem dL_isRound_29 : decode cL_isRound 29 = .ok (.iconst 1, 1) := by decide +kernel
theorem dL_isRound_30 : decode cL_isRound 30 = .ok (.istore 12, 2) := by decide +kernel
theorem dL_isRound_32 : decode cL_isRound 32 = .ok (.iconst 1, 1) := by decide +kernel
theorem dL_isRound_33 : decode cL_isRound 33 = .ok (.istore 13, 2) := by decide +kernel
theorem dL_isRound_35 : decode cL_isRound 35 = .ok (.iconst 0, 1) := by decide +kernel
theorem dL_isRound_36 : decode cL_isRound 36 = .ok (.istore 14, 2) := by decide +kernel
theorem dL_isRound_38 : decode cL_isRound 38 = .ok (.iload 14, 2) := by decide +kernel
theorem dL_isRound_40 : decode cL_isRound 40 = .ok (.aload_n 2, 1) := by decide +kernel
theorem dL_isRound_41 : decode cL_isRound 41 = .ok (.iload 4, 2) := by decide +kernel
theorem dL_isRound_43 : decode cL_isRound 43 = .ok (.iaload, 1) := by decide +kernel
theorem dL_isRound_44 : decode cL_isRound 44 = .ok (.if_icmp .ge 185, 3) := by decide +kernel
theorem dL_isRound_47 : decode cL_isRound 47 = .ok (.iload 13, 2) := by decide +kernel
theorem dL_isRound_49 : decode cL_isRound 49 = .ok (.ifCond .eq 180, 3) := by decide +kernel
theorem dL_isRound_52 : decode cL_isRound 52 = .ok (.aload_n 3, 1) := by decide +kernel
theorem dL_isRound_53 : decode cL_isRound 53 = .ok (.iload 4, 2) := by decide +kernel
theorem dL_isRound_55 : decode cL_isRound 55 = .ok (.iload 14, 2) := by decide +kernel
theorem dL_isRound_57 : decode cL_isRound 57 = .ok (.invokestatic 43, 3) := by decide +kernel
theorem dL_isRound_60 : decode cL_isRound 60 = .ok (.istore 15, 2) := by decide +kernel
theorem dL_isRound_62 : decode cL_isRound 62 = .ok (.iload 6, 2) := by decide +kernel
theorem dL_isRound_64 : decode cL_isRound 64 = .ok (.iload 15, 2) := by decide +kernel
theorem dL_isRound_66 : decode cL_isRound 66 = .ok (.iconst 1, 1) := by decide +kernel
theorem dL_isRound_67 : decode cL_isRound 67 = .ok (.if_icmp .ne 7, 3) := by decide +kernel
theorem dL_isRound_70 : decode cL_isRound 70 = .ok (.iconst 1, 1) := by decide +kernel
theorem dL_isRound_71 : decode cL_isRound 71 = .ok (.goto 4, 3) := by decide +kernel
theorem dL_isRound_74 : decode cL_isRound 74 = .ok (.iconst 0, 1) := by decide +kernel
theorem dL_isRound_75 : decode cL_isRound 75 = .ok (.iadd, 1) := by decide +kernel
theorem dL_isRound_76 : decode cL_isRound 76 = .ok (.istore 6, 2) := by decide +kernel
theorem dL_isRound_78 : decode cL_isRound 78 = .ok (.iload 7, 2) := by decide +kernel
theorem dL_isRound_80 : decode cL_isRound 80 = .ok (.iload 15, 2) := by decide +kernel
theorem dL_isRound_82 : decode cL_isRound 82 = .ok (.iconst 2, 1) := by decide +kernel
theorem dL_isRound_83 : decode cL_isRound 83 = .ok (.if_icmp .ne 7, 3) := by decide +kernel
theorem dL_isRound_86 : decode cL_isRound 86 = .ok (.iconst 1, 1) := by decide +kernel
theorem dL_isRound_87 : decode cL_isRound 87 = .ok (.goto 4, 3) := by decide +kernel
theorem dL_isRound_90 : decode cL_isRound 90 = .ok (.iconst 0, 1) := by decide +kernel
theorem dL_isRound_91 : decode cL_isRound 91 = .ok (.iadd, 1) := by decide +kernel
theorem dL_isRound_92 : decode cL_isRound 92 = .ok (.istore 7, 2) := by decide +kernel
theorem dL_isRound_94 : decode cL_isRound 94 = .ok (.iload 12, 2) := by decide +kernel
theorem dL_isRound_96 : decode cL_isRound 96 = .ok (.ifCond .eq 27, 3) := by decide +kernel
theorem dL_isRound_99 : decode cL_isRound 99 = .ok (.iload 15, 2) := by decide +kernel
theorem dL_isRound_101 : decode cL_isRound 101 = .ok (.aload_n 3, 1) := by decide +kernel
theorem dL_isRound_102 : decode cL_isRound 102 = .ok (.iload 4, 2) := by decide +kernel
theorem dL_isRound_104 : decode cL_isRound 104 = .ok (.aload_n 2, 1) := by decide +kernel
theorem dL_isRound_105 : decode cL_isRound 105 = .ok (.iload 4, 2) := by decide +kernel
theorem dL_isRound_107 : decode cL_isRound 107 = .ok (.iaload, 1) := by decide +kernel
theorem dL_isRound_108 : decode cL_isRound 108 = .ok (.iconst 1, 1) := by decide +kernel
theorem dL_isRound_109 : decode cL_isRound 109 = .ok (.isub, 1) := by decide +kernel
theorem dL_isRound_110 : decode cL_isRound 110 = .ok (.iload 14, 2) := by decide +kernel
theorem dL_isRound_112 : decode cL_isRound 112 = .ok (.isub, 1) := by decide +kernel
theorem dL_isRound_113 : decode cL_isRound 113 = .ok (.invokestatic 43, 3) := by decide +kernel
theorem dL_isRound_116 : decode cL_isRound 116 = .ok (.if_icmp .ne 7, 3) := by decide +kernel
theorem dL_isRound_119 : decode cL_isRound 119 = .ok (.iconst 1, 1) := by decide +kernel
theorem dL_isRound_120 : decode cL_isRound 120 = .ok (.goto 4, 3) := by decide +kernel
theorem dL_isRound_123 : decode cL_isRound 123 = .ok (.iconst 0, 1) := by decide +kernel
theorem dL_isRound_124 : decode cL_isRound 124 = .ok (.istore 12, 2) := by decide +kernel
theorem dL_isRound_126 : decode cL_isRound 126 = .ok (.iload 15, 2) := by decide +kernel
theorem dL_isRound_128 : decode cL_isRound 128 = .ok (.ifCond .le 75, 3) := by decide +kernel
theorem dL_isRound_131 : decode cL_isRound 131 = .ok (.iload 9, 2) := by decide +kernel
theorem dL_isRound_133 : decode cL_isRound 133 = .ok (.ifCond .lt 21, 3) := by decide +kernel
theorem dL_isRound_136 : decode cL_isRound 136 = .ok (.iload 14, 2) := by decide +kernel
theorem dL_isRound_138 : decode cL_isRound 138 = .ok (.iload 9, 2) := by decide +kernel
theorem dL_isRound_140 : decode cL_isRound 140 = .ok (.isub, 1) := by decide +kernel
theorem dL_isRound_141 : decode cL_isRound 141 = .ok (.iload 10, 2) := by decide +kernel
theorem dL_isRound_143 : decode cL_isRound 143 = .ok (.if_icmp .le 11, 3) := by decide +kernel
theorem dL_isRound_146 : decode cL_isRound 146 = .ok (.iload 14, 2) := by decide +kernel
theorem dL_isRound_148 : decode cL_isRound 148 = .ok (.iload 9, 2) := by decide +kernel
theorem dL_isRound_150 : decode cL_isRound 150 = .ok (.isub, 1) := by decide +kernel
theorem dL_isRound_151 : decode cL_isRound 151 = .ok (.goto 5, 3) := by decide +kernel
theorem dL_isRound_154 : decode cL_isRound 154 = .ok (.iload 10, 2) := by decide +kernel
theorem dL_isRound_156 : decode cL_isRound 156 = .ok (.istore 10, 2) := by decide +kernel
theorem dL_isRound_158 : decode cL_isRound 158 = .ok (.iload 9, 2) := by decide +kernel
theorem dL_isRound_160 : decode cL_isRound 160 = .ok (.ifCond .lt 21, 3) := by decide +kernel
theorem dL_isRound_163 : decode cL_isRound 163 = .ok (.iload 14, 2) := by decide +kernel
theorem dL_isRound_165 : decode cL_isRound 165 = .ok (.iload 9, 2) := by decide +kernel
theorem dL_isRound_167 : decode cL_isRound 167 = .ok (.isub, 1) := by decide +kernel
theorem dL_isRound_168 : decode cL_isRound 168 = .ok (.iload 11, 2) := by decide +kernel
theorem dL_isRound_170 : decode cL_isRound 170 = .ok (.if_icmp .ge 11, 3) := by decide +kernel
theorem dL_isRound_173 : decode cL_isRound 173 = .ok (.iload 14, 2) := by decide +kernel
theorem dL_isRound_175 : decode cL_isRound 175 = .ok (.iload 9, 2) := by decide +kernel
theorem dL_isRound_177 : decode cL_isRound 177 = .ok (.isub, 1) := by decide +kernel
theorem dL_isRound_178 : decode cL_isRound 178 = .ok (.goto 5, 3) := by decide +kernel
theorem dL_isRound_181 : decode cL_isRound 181 = .ok (.iload 11, 2) := by decide +kernel
theorem dL_isRound_183 : decode cL_isRound 183 = .ok (.istore 11, 2) := by decide +kernel
theorem dL_isRound_185 : decode cL_isRound 185 = .ok (.iload 8, 2) := by decide +kernel
theorem dL_isRound_187 : decode cL_isRound 187 = .ok (.ifCond .ge 8, 3) := by decide +kernel
theorem dL_isRound_190 : decode cL_isRound 190 = .ok (.iload 14, 2) := by decide +kernel
theorem dL_isRound_192 : decode cL_isRound 192 = .ok (.goto 5, 3) := by decide +kernel
theorem dL_isRound_195 : decode cL_isRound 195 = .ok (.iload 8, 2) := by decide +kernel
theorem dL_isRound_197 : decode cL_isRound 197 = .ok (.istore 8, 2) := by decide +kernel
theorem dL_isRound_199 : decode cL_isRound 199 = .ok (.iload 14, 2) := by decide +kernel
theorem dL_isRound_201 : decode cL_isRound 201 = .ok (.istore 9, 2) := by decide +kernel
theorem dL_isRound_203 : decode cL_isRound 203 = .ok (.aload_n 0, 1) := by decide +kernel
theorem dL_isRound_204 : decode cL_isRound 204 = .ok (.iload 4, 2) := by decide +kernel
theorem dL_isRound_206 : decode cL_isRound 206 = .ok (.iload 14, 2) := by decide +kernel
theorem dL_isRound_208 : decode cL_isRound 208 = .ok (.invokestatic 121, 3) := by decide +kernel
theorem dL_isRound_211 : decode cL_isRound 211 = .ok (.iload 15, 2) := by decide +kernel
theorem dL_isRound_213 : decode cL_isRound 213 = .ok (.if_icmp .ne 7, 3) := by decide +kernel
theorem dL_isRound_216 : decode cL_isRound 216 = .ok (.iconst 1, 1) := by decide +kernel
theorem dL_isRound_217 : decode cL_isRound 217 = .ok (.goto 4, 3) := by decide +kernel
theorem dL_isRound_220 : decode cL_isRound 220 = .ok (.iconst 0, 1) := by decide +kernel
theorem dL_isRound_221 : decode cL_isRound 221 = .ok (.istore 13, 2) := by decide +kernel
theorem dL_isRound_223 : decode cL_isRound 223 = .ok (.iinc 14 1, 3) := by decide +kernel
theorem dL_isRound_226 : decode cL_isRound 226 = .ok (.goto (-188), 3) := by decide +kernel
theorem dL_isRound_229 : decode cL_isRound 229 = .ok (.iload 8, 2) := by decide +kernel
theorem dL_isRound_231 : decode cL_isRound 231 = .ok (.aload_n 2, 1) := by decide +kernel
theorem dL_isRound_232 : decode cL_isRound 232 = .ok (.iload 4, 2) := by decide +kernel
theorem dL_isRound_234 : decode cL_isRound 234 = .ok (.iaload, 1) := by decide +kernel
theorem dL_isRound_235 : decode cL_isRound 235 = .ok (.iadd, 1) := by decide +kernel
theorem dL_isRound_236 : decode cL_isRound 236 = .ok (.iload 9, 2) := by decide +kernel
theorem dL_isRound_238 : decode cL_isRound 238 = .ok (.isub, 1) := by decide +kernel
theorem dL_isRound_239 : decode cL_isRound 239 = .ok (.istore 14, 2) := by decide +kernel
theorem dL_isRound_241 : decode cL_isRound 241 = .ok (.iload 6, 2) := by decide +kernel
theorem dL_isRound_243 : decode cL_isRound 243 = .ok (.iload 7, 2) := by decide +kernel
theorem dL_isRound_245 : decode cL_isRound 245 = .ok (.iadd, 1) := by decide +kernel
theorem dL_isRound_246 : decode cL_isRound 246 = .ok (.iconst 1, 1) := by decide +kernel
theorem dL_isRound_247 : decode cL_isRound 247 = .ok (.if_icmp .le 7, 3) := by decide +kernel
theorem dL_isRound_250 : decode cL_isRound 250 = .ok (.iconst 1, 1) := by decide +kernel
theorem dL_isRound_251 : decode cL_isRound 251 = .ok (.goto 4, 3) := by decide +kernel
theorem dL_isRound_254 : decode cL_isRound 254 = .ok (.iconst 0, 1) := by decide +kernel
theorem dL_isRound_255 : decode cL_isRound 255 = .ok (.istore 15, 2) := by decide +kernel
theorem dL_isRound_257 : decode cL_isRound 257 = .ok (.iload 15, 2) := by decide +kernel
theorem dL_isRound_259 : decode cL_isRound 259 = .ok (.ifCond .ne 7, 3) := by decide +kernel
theorem dL_isRound_262 : decode cL_isRound 262 = .ok (.iconst 0, 1) := by decide +kernel
theorem dL_isRound_263 : decode cL_isRound 263 = .ok (.goto 17, 3) := by decide +kernel
theorem dL_isRound_266 : decode cL_isRound 266 = .ok (.iload 14, 2) := by decide +kernel
theorem dL_isRound_268 : decode cL_isRound 268 = .ok (.iload 10, 2) := by decide +kernel
theorem dL_isRound_270 : decode cL_isRound 270 = .ok (.if_icmp .le 8, 3) := by decide +kernel
theorem dL_isRound_273 : decode cL_isRound 273 = .ok (.iload 14, 2) := by decide +kernel
theorem dL_isRound_275 : decode cL_isRound 275 = .ok (.goto 5, 3) := by decide +kernel
theorem dL_isRound_278 : decode cL_isRound 278 = .ok (.iload 10, 2) := by decide +kernel
theorem dL_isRound_280 : decode cL_isRound 280 = .ok (.istore 10, 2) := by decide +kernel
theorem dL_isRound_282 : decode cL_isRound 282 = .ok (.iload 15, 2) := by decide +kernel
theorem dL_isRound_284 : decode cL_isRound 284 = .ok (.ifCond .ne 7, 3) := by decide +kernel
theorem dL_isRound_287 : decode cL_isRound 287 = .ok (.iconst 0, 1) := by decide +kernel
theorem dL_isRound_288 : decode cL_isRound 288 = .ok (.goto 17, 3) := by decide +kernel
theorem dL_isRound_291 : decode cL_isRound 291 = .ok (.iload 14, 2) := by decide +kernel
theorem dL_isRound_293 : decode cL_isRound 293 = .ok (.iload 11, 2) := by decide +kernel
theorem dL_isRound_295 : decode cL_isRound 295 = .ok (.if_icmp .ge 8, 3) := by decide +kernel
theorem dL_isRound_298 : decode cL_isRound 298 = .ok (.iload 14, 2) := by decide +kernel
theorem dL_isRound_300 : decode cL_isRound 300 = .ok (.goto 5, 3) := by decide +kernel
theorem dL_isRound_303 : decode cL_isRound 303 = .ok (.iload 11, 2) := by decide +kernel
theorem dL_isRound_305 : decode cL_isRound 305 = .ok (.istore 11, 2) := by decide +kernel
theorem dL_isRound_307 : decode cL_isRound 307 = .ok (.aload_n 2, 1) := by decide +kernel
theorem dL_isRound_308 : decode cL_isRound 308 = .ok (.iload 4, 2) := by decide +kernel
theorem dL_isRound_310 : decode cL_isRound 310 = .ok (.iaload, 1) := by decide +kernel
theorem dL_isRound_311 : decode cL_isRound 311 = .ok (.iload 6, 2) := by decide +kernel
theorem dL_isRound_313 : decode cL_isRound 313 = .ok (.isub, 1) := by decide +kernel
theorem dL_isRound_314 : decode cL_isRound 314 = .ok (.iload 7, 2) := by decide +kernel
theorem dL_isRound_316 : decode cL_isRound 316 = .ok (.isub, 1) := by decide +kernel
theorem dL_isRound_317 : decode cL_isRound 317 = .ok (.istore 16, 2) := by decide +kernel
theorem dL_isRound_319 : decode cL_isRound 319 = .ok (.iload 16, 2) := by decide +kernel
theorem dL_isRound_321 : decode cL_isRound 321 = .ok (.aload_n 1, 1) := by decide +kernel
theorem dL_isRound_322 : decode cL_isRound 322 = .ok (.iconst 2, 1) := by decide +kernel
theorem dL_isRound_323 : decode cL_isRound 323 = .ok (.iaload, 1) := by decide +kernel
theorem dL_isRound_324 : decode cL_isRound 324 = .ok (.imul, 1) := by decide +kernel
theorem dL_isRound_325 : decode cL_isRound 325 = .ok (.iload 6, 2) := by decide +kernel
theorem dL_isRound_327 : decode cL_isRound 327 = .ok (.aload_n 1, 1) := by decide +kernel
theorem dL_isRound_328 : decode cL_isRound 328 = .ok (.iconst 3, 1) := by decide +kernel
theorem dL_isRound_329 : decode cL_isRound 329 = .ok (.iaload, 1) := by decide +kernel
theorem dL_isRound_330 : decode cL_isRound 330 = .ok (.imul, 1) := by decide +kernel
theorem dL_isRound_331 : decode cL_isRound 331 = .ok (.iadd, 1) := by decide +kernel
theorem dL_isRound_332 : decode cL_isRound 332 = .ok (.iload 7, 2) := by decide +kernel
theorem dL_isRound_334 : decode cL_isRound 334 = .ok (.aload_n 1, 1) := by decide +kernel
theorem dL_isRound_335 : decode cL_isRound 335 = .ok (.iconst 4, 1) := by decide +kernel
theorem dL_isRound_336 : decode cL_isRound 336 = .ok (.iaload, 1) := by decide +kernel
theorem dL_isRound_337 : decode cL_isRound 337 = .ok (.imul, 1) := by decide +kernel
theorem dL_isRound_338 : decode cL_isRound 338 = .ok (.iadd, 1) := by decide +kernel
theorem dL_isRound_339 : decode cL_isRound 339 = .ok (.istore 17, 2) := by decide +kernel
theorem dL_isRound_341 : decode cL_isRound 341 = .ok (.iload 4, 2) := by decide +kernel
theorem dL_isRound_343 : decode cL_isRound 343 = .ok (.ifCond .eq 25, 3) := by decide +kernel
theorem dL_isRound_346 : decode cL_isRound 346 = .ok (.iload 16, 2) := by decide +kernel
theorem dL_isRound_348 : decode cL_isRound 348 = .ok (.iload 6, 2) := by decide +kernel
theorem dL_isRound_350 : decode cL_isRound 350 = .ok (.iadd, 1) := by decide +kernel
theorem dL_isRound_351 : decode cL_isRound 351 = .ok (.iconst 2, 1) := by decide +kernel
theorem dL_isRound_352 : decode cL_isRound 352 = .ok (.iload 7, 2) := by decide +kernel
theorem dL_isRound_354 : decode cL_isRound 354 = .ok (.imul, 1) := by decide +kernel
theorem dL_isRound_355 : decode cL_isRound 355 = .ok (.iadd, 1) := by decide +kernel
theorem dL_isRound_356 : decode cL_isRound 356 = .ok (.aload_n 2, 1) := by decide +kernel
theorem dL_isRound_357 : decode cL_isRound 357 = .ok (.aload_n 3, 1) := by decide +kernel
theorem dL_isRound_358 : decode cL_isRound 358 = .ok (.iload 4, 2) := by decide +kernel
theorem dL_isRound_360 : decode cL_isRound 360 = .ok (.iconst 1, 1) := by decide +kernel
theorem dL_isRound_361 : decode cL_isRound 361 = .ok (.isub, 1) := by decide +kernel
theorem dL_isRound_362 : decode cL_isRound 362 = .ok (.invokestatic 53, 3) := by decide +kernel
theorem dL_isRound_365 : decode cL_isRound 365 = .ok (.if_icmp .ne 7, 3) := by decide +kernel
theorem dL_isRound_368 : decode cL_isRound 368 = .ok (.iconst 1, 1) := by decide +kernel
theorem dL_isRound_369 : decode cL_isRound 369 = .ok (.goto 4, 3) := by decide +kernel
theorem dL_isRound_372 : decode cL_isRound 372 = .ok (.iconst 0, 1) := by decide +kernel
theorem dL_isRound_373 : decode cL_isRound 373 = .ok (.istore 18, 2) := by decide +kernel
theorem dL_isRound_375 : decode cL_isRound 375 = .ok (.iload 13, 2) := by decide +kernel
theorem dL_isRound_377 : decode cL_isRound 377 = .ok (.ifCond .eq 203, 3) := by decide +kernel
theorem dL_isRound_380 : decode cL_isRound 380 = .ok (.iload 18, 2) := by decide +kernel
theorem dL_isRound_382 : decode cL_isRound 382 = .ok (.ifCond .eq 198, 3) := by decide +kernel
theorem dL_isRound_385 : decode cL_isRound 385 = .ok (.aload_n 0, 1) := by decide +kernel
theorem dL_isRound_386 : decode cL_isRound 386 = .ok (.iload 4, 2) := by decide +kernel
theorem dL_isRound_388 : decode cL_isRound 388 = .ok (.iconst 0, 1) := by decide +kernel
theorem dL_isRound_389 : decode cL_isRound 389 = .ok (.invokestatic 124, 3) := by decide +kernel
theorem dL_isRound_392 : decode cL_isRound 392 = .ok (.iload 5, 2) := by decide +kernel
theorem dL_isRound_394 : decode cL_isRound 394 = .ok (.if_icmp .ne 186, 3) := by decide +kernel
theorem dL_isRound_397 : decode cL_isRound 397 = .ok (.aload_n 0, 1) := by decide +kernel
theorem dL_isRound_398 : decode cL_isRound 398 = .ok (.iload 4, 2) := by decide +kernel
theorem dL_isRound_400 : decode cL_isRound 400 = .ok (.iconst 1, 1) := by decide +kernel
theorem dL_isRound_401 : decode cL_isRound 401 = .ok (.invokestatic 124, 3) := by decide +kernel
theorem dL_isRound_404 : decode cL_isRound 404 = .ok (.aload_n 2, 1) := by decide +kernel
theorem dL_isRound_405 : decode cL_isRound 405 = .ok (.iload 4, 2) := by decide +kernel
theorem dL_isRound_407 : decode cL_isRound 407 = .ok (.iaload, 1) := by decide +kernel
theorem dL_isRound_408 : decode cL_isRound 408 = .ok (.if_icmp .ne 172, 3) := by decide +kernel
theorem dL_isRound_411 : decode cL_isRound 411 = .ok (.aload_n 0, 1) := by decide +kernel
theorem dL_isRound_412 : decode cL_isRound 412 = .ok (.iload 4, 2) := by decide +kernel
theorem dL_isRound_414 : decode cL_isRound 414 = .ok (.iconst 2, 1) := by decide +kernel
theorem dL_isRound_415 : decode cL_isRound 415 = .ok (.invokestatic 124, 3) := by decide +kernel
theorem dL_isRound_418 : decode cL_isRound 418 = .ok (.iload 16, 2) := by decide +kernel
theorem dL_isRound_420 : decode cL_isRound 420 = .ok (.if_icmp .ne 160, 3) := by decide +kernel
theorem dL_isRound_423 : decode cL_isRound 423 = .ok (.aload_n 0, 1) := by decide +kernel
theorem dL_isRound_424 : decode cL_isRound 424 = .ok (.iload 4, 2) := by decide +kernel
theorem dL_isRound_426 : decode cL_isRound 426 = .ok (.iconst 3, 1) := by decide +kernel
theorem dL_isRound_427 : decode cL_isRound 427 = .ok (.invokestatic 124, 3) := by decide +kernel
theorem dL_isRound_430 : decode cL_isRound 430 = .ok (.iload 6, 2) := by decide +kernel
theorem dL_isRound_432 : decode cL_isRound 432 = .ok (.if_icmp .ne 148, 3) := by decide +kernel
theorem dL_isRound_435 : decode cL_isRound 435 = .ok (.aload_n 0, 1) := by decide +kernel
theorem dL_isRound_436 : decode cL_isRound 436 = .ok (.iload 4, 2) := by decide +kernel
theorem dL_isRound_438 : decode cL_isRound 438 = .ok (.iconst 4, 1) := by decide +kernel
theorem dL_isRound_439 : decode cL_isRound 439 = .ok (.invokestatic 124, 3) := by decide +kernel
theorem dL_isRound_442 : decode cL_isRound 442 = .ok (.iload 7, 2) := by decide +kernel
theorem dL_isRound_444 : decode cL_isRound 444 = .ok (.if_icmp .ne 136, 3) := by decide +kernel
theorem dL_isRound_447 : decode cL_isRound 447 = .ok (.aload_n 0, 1) := by decide +kernel
theorem dL_isRound_448 : decode cL_isRound 448 = .ok (.iload 4, 2) := by decide +kernel
theorem dL_isRound_450 : decode cL_isRound 450 = .ok (.iconst 5, 1) := by decide +kernel
theorem dL_isRound_451 : decode cL_isRound 451 = .ok (.invokestatic 124, 3) := by decide +kernel
theorem dL_isRound_454 : decode cL_isRound 454 = .ok (.aload_n 2, 1) := by decide +kernel
theorem dL_isRound_455 : decode cL_isRound 455 = .ok (.aload_n 3, 1) := by decide +kernel
theorem dL_isRound_456 : decode cL_isRound 456 = .ok (.iload 4, 2) := by decide +kernel
theorem dL_isRound_458 : decode cL_isRound 458 = .ok (.invokestatic 63, 3) := by decide +kernel
theorem dL_isRound_461 : decode cL_isRound 461 = .ok (.if_icmp .ne 119, 3) := by decide +kernel
theorem dL_isRound_464 : decode cL_isRound 464 = .ok (.aload_n 0, 1) := by decide +kernel
theorem dL_isRound_465 : decode cL_isRound 465 = .ok (.iload 4, 2) := by decide +kernel
theorem dL_isRound_467 : decode cL_isRound 467 = .ok (.bipush 6, 2) := by decide +kernel
theorem dL_isRound_469 : decode cL_isRound 469 = .ok (.invokestatic 124, 3) := by decide +kernel
theorem dL_isRound_472 : decode cL_isRound 472 = .ok (.iload 12, 2) := by decide +kernel
theorem dL_isRound_474 : decode cL_isRound 474 = .ok (.ifCond .eq 7, 3) := by decide +kernel
theorem dL_isRound_477 : decode cL_isRound 477 = .ok (.iconst 1, 1) := by decide +kernel
theorem dL_isRound_478 : decode cL_isRound 478 = .ok (.goto 4, 3) := by decide +kernel
theorem dL_isRound_481 : decode cL_isRound 481 = .ok (.iconst 0, 1) := by decide +kernel
theorem dL_isRound_482 : decode cL_isRound 482 = .ok (.if_icmp .ne 98, 3) := by decide +kernel
theorem dL_isRound_485 : decode cL_isRound 485 = .ok (.aload_n 0, 1) := by decide +kernel
theorem dL_isRound_486 : decode cL_isRound 486 = .ok (.iload 4, 2) := by decide +kernel
theorem dL_isRound_488 : decode cL_isRound 488 = .ok (.bipush 7, 2) := by decide +kernel
theorem dL_isRound_490 : decode cL_isRound 490 = .ok (.invokestatic 124, 3) := by decide +kernel
theorem dL_isRound_493 : decode cL_isRound 493 = .ok (.iload 17, 2) := by decide +kernel
theorem dL_isRound_495 : decode cL_isRound 495 = .ok (.if_icmp .ne 85, 3) := by decide +kernel
theorem dL_isRound_498 : decode cL_isRound 498 = .ok (.aload_n 0, 1) := by decide +kernel
theorem dL_isRound_499 : decode cL_isRound 499 = .ok (.iload 4, 2) := by decide +kernel
theorem dL_isRound_501 : decode cL_isRound 501 = .ok (.bipush 8, 2) := by decide +kernel
theorem dL_isRound_503 : decode cL_isRound 503 = .ok (.invokestatic 124, 3) := by decide +kernel
theorem dL_isRound_506 : decode cL_isRound 506 = .ok (.iload 10, 2) := by decide +kernel
theorem dL_isRound_508 : decode cL_isRound 508 = .ok (.if_icmp .ne 72, 3) := by decide +kernel
theorem dL_isRound_511 : decode cL_isRound 511 = .ok (.aload_n 0, 1) := by decide +kernel
theorem dL_isRound_512 : decode cL_isRound 512 = .ok (.iload 4, 2) := by decide +kernel
theorem dL_isRound_514 : decode cL_isRound 514 = .ok (.bipush 9, 2) := by decide +kernel
theorem dL_isRound_516 : decode cL_isRound 516 = .ok (.invokestatic 124, 3) := by decide +kernel
theorem dL_isRound_519 : decode cL_isRound 519 = .ok (.iload 11, 2) := by decide +kernel
theorem dL_isRound_521 : decode cL_isRound 521 = .ok (.if_icmp .ne 59, 3) := by decide +kernel
theorem dL_isRound_524 : decode cL_isRound 524 = .ok (.aload_n 0, 1) := by decide +kernel
theorem dL_isRound_525 : decode cL_isRound 525 = .ok (.iload 4, 2) := by decide +kernel
theorem dL_isRound_527 : decode cL_isRound 527 = .ok (.bipush 10, 2) := by decide +kernel
theorem dL_isRound_529 : decode cL_isRound 529 = .ok (.invokestatic 124, 3) := by decide +kernel
theorem dL_isRound_532 : decode cL_isRound 532 = .ok (.iload 5, 2) := by decide +kernel
theorem dL_isRound_534 : decode cL_isRound 534 = .ok (.aload_n 2, 1) := by decide +kernel
theorem dL_isRound_535 : decode cL_isRound 535 = .ok (.iconst 0, 1) := by decide +kernel
theorem dL_isRound_536 : decode cL_isRound 536 = .ok (.iaload, 1) := by decide +kernel
theorem dL_isRound_537 : decode cL_isRound 537 = .ok (.iload 4, 2) := by decide +kernel
theorem dL_isRound_539 : decode cL_isRound 539 = .ok (.iconst 1, 1) := by decide +kernel
theorem dL_isRound_540 : decode cL_isRound 540 = .ok (.iadd, 1) := by decide +kernel
theorem dL_isRound_541 : decode cL_isRound 541 = .ok (.imul, 1) := by decide +kernel
theorem dL_isRound_542 : decode cL_isRound 542 = .ok (.isub, 1) := by decide +kernel
theorem dL_isRound_543 : decode cL_isRound 543 = .ok (.if_icmp .ne 37, 3) := by decide +kernel
theorem dL_isRound_546 : decode cL_isRound 546 = .ok (.aload_n 0, 1) := by decide +kernel
theorem dL_isRound_547 : decode cL_isRound 547 = .ok (.iload 4, 2) := by decide +kernel
theorem dL_isRound_549 : decode cL_isRound 549 = .ok (.aload_n 2, 1) := by decide +kernel
theorem dL_isRound_550 : decode cL_isRound 550 = .ok (.iload 4, 2) := by decide +kernel
theorem dL_isRound_552 : decode cL_isRound 552 = .ok (.iaload, 1) := by decide +kernel
theorem dL_isRound_553 : decode cL_isRound 553 = .ok (.invokestatic 121, 3) := by decide +kernel
theorem dL_isRound_556 : decode cL_isRound 556 = .ok (.sipush (-30004), 3) := by decide +kernel
theorem dL_isRound_559 : decode cL_isRound 559 = .ok (.if_icmp .ne 21, 3) := by decide +kernel
theorem dL_isRound_562 : decode cL_isRound 562 = .ok (.aload_n 0, 1) := by decide +kernel
theorem dL_isRound_563 : decode cL_isRound 563 = .ok (.iload 4, 2) := by decide +kernel
theorem dL_isRound_565 : decode cL_isRound 565 = .ok (.bipush 11, 2) := by decide +kernel
theorem dL_isRound_567 : decode cL_isRound 567 = .ok (.invokestatic 124, 3) := by decide +kernel
theorem dL_isRound_570 : decode cL_isRound 570 = .ok (.sipush (-30001), 3) := by decide +kernel
theorem dL_isRound_573 : decode cL_isRound 573 = .ok (.if_icmp .ne 7, 3) := by decide +kernel
theorem dL_isRound_576 : decode cL_isRound 576 = .ok (.iconst 1, 1) := by decide +kernel
theorem dL_isRound_577 : decode cL_isRound 577 = .ok (.goto 4, 3) := by decide +kernel
theorem dL_isRound_580 : decode cL_isRound 580 = .ok (.iconst 0, 1) := by decide +kernel
theorem dL_isRound_581 : decode cL_isRound 581 = .ok (.ireturn, 1) := by decide +kernel
set_option maxRecDepth 20000 in
theorem ggL_isSo_L_isRound : GoodIn wsL_isSo wsL_isRound := goodIn_ca (goodIn_ca (goodIn_r _ [4, 5, 6, 3, 7, 8, 9, 10, 11, 12, 13, 14, 15, 16, 17, 18, 19, 20, 21, 22, 23, 24, 25, 26, 27, 28, 29, 30, 31, 32, 33, 34, 35, 36, 37, 38, 39, 40, 41, 42, 43, 44, 45, 46, 47, 48, 49, 50, 51, 52, 53, 54, 55, 56, 57, 58, 59, 60, 61, 62, 63, 64, 65, 66, 67, 68, 69, 70, 71, 72, 73, 74, 75, 76, 77, 78, 79, 80, 81, 82, 83, 84, 85, 86, 87, 88, 89, 90, 91, 92, 93, 94, 95, 96, 97, 98, 99, 100, 101, 102, 103, 104, 105, 106, 107, 108, 109, 110, 111, 112, 113, 114, 115, 116, 117, 118, 119, 120, 121, 144, 145, 146, 147, 148, 149, 150, 151, 152, 153, 154, 155, 156] (by decide +kernel) (by decide +kernel)) (goodIn_sub (fun _ h => List.mem_cons_of_mem _ (List.mem_append_left _ (List.mem_append_right _ h))) (by decide +kernel))) (goodIn_sub (fun _ h => List.mem_cons_of_mem _ (List.mem_append_right _ h)) (by decide +kernel))
set_option maxRecDepth 20000 in
theorem gL_isSo_L_isRound : GoodIn wsL_isSo (va_wsS RL 127 yL_isRound wsL_isRound) := goodIn_app (goodIn_of _ (by decide +kernel)) ggL_isSo_L_isRound
set_option maxRecDepth 20000 in
theorem ggL_isSo_L_total : GoodIn wsL_isSo wsL_total := goodIn_r _ [7, 8, 9, 3, 10, 11] (by decide +kernel) (by decide +kernel)
set_option maxRecDepth 20000 in
theorem gL_isSo_L_total : GoodIn wsL_isSo (va_wsS RL 53 yL_total wsL_total) := goodIn_app (goodIn_of _ (by decide +kernel)) ggL_isSo_L_total
set_option maxRecDepth 20000 in
theorem ggL_isSo_L_roundOf : GoodIn wsL_isSo wsL_roundOf := goodIn_ca (goodIn_ca (goodIn_r _ [44, 15, 45, 46, 47, 48, 19, 49, 21, 22, 24, 25, 26, 27, 28, 50, 51, 52, 53, 54, 55, 56, 57, 58, 59, 23, 29, 30, 31, 32, 33, 34, 60, 61, 62, 38, 63, 64, 41, 65, 36, 37, 39, 40, 66, 67, 68, 69, 70, 71, 72, 73, 74, 75, 76, 77, 78, 79, 80, 81, 82, 83, 84, 85, 86, 87, 88, 89, 90, 91, 92, 93, 94, 95, 96, 97, 98, 99, 100, 101, 102, 103, 104, 105, 106, 107, 108, 109, 110, 111, 112, 113, 114, 115, 144, 145, 146, 147, 148, 149, 150, 151, 152, 153, 154, 155, 156] (by decide +kernel) (by decide +kernel)) (goodIn_sub (fun _ h => List.mem_cons_of_mem _ (List.mem_append_left _ (List.mem_append_right _ h))) (by decide +kernel))) (goodIn_sub (fun _ h => List.mem_cons_of_mem _ (List.mem_append_right _ h)) (by decide +kernel))
set_option maxRecDepth 20000 in
theorem gL_isSo_L_roundOf : GoodIn wsL_isSo (va_wsS RL 124 yL_roundOf wsL_roundOf) := goodIn_app (goodIn_of _ (by decide +kernel)) ggL_isSo_L_roundOf
set_option maxRecDepth 20000 in
theorem ggL_isSo_L_stacked : GoodIn wsL_isSo wsL_stacked := goodIn_r _ [118, 8, 9, 3, 10, 11, 119, 120, 121] (by decide +kernel) (by decide +kernel)
set_option maxRecDepth 20000 in
theorem gL_isSo_L_stacked : GoodIn wsL_isSo (va_wsS RL 63 yL_stacked wsL_stacked) := goodIn_app (goodIn_of _ (by decide +kernel)) ggL_isSo_L_stacked
set_option maxRecDepth 20000 in
theorem ggL_isSo_L_valueOf : GoodIn wsL_isSo wsL_valueOf := goodIn_ca (goodIn_r _ [124, 45, 125, 126, 127, 19, 128, 21, 22, 129, 50, 51, 52, 53, 54, 130, 131, 132, 38, 133, 134, 135, 41, 30, 31, 32, 33, 34, 136, 137, 138, 139, 55, 56, 57, 58, 59, 23, 29, 60, 61, 62, 63, 64, 65, 36, 37, 39, 40, 66, 67, 68, 69, 70, 71, 72, 73, 74, 75, 76, 77, 78, 79, 80, 81, 82, 83, 84, 85, 86, 87, 88, 89, 90, 91, 92, 93, 94, 95, 96, 97, 98, 99, 100, 101, 102, 103, 104, 105, 106, 107, 108, 109, 110, 111, 112, 113, 114, 115, 140, 141, 142, 143, 144, 145, 146, 147, 148, 149, 150, 151, 152, 153, 154, 155, 156] (by decide +kernel) (by decide +kernel)) (goodIn_sub (fun _ h => List.mem_cons_of_mem _ (List.mem_append_right _ h)) (by decide +kernel))
set_option maxRecDepth 20000 in
theorem gL_isSo_L_valueOf : GoodIn wsL_isSo (va_wsS RL 131 yL_valueOf wsL_valueOf) := goodIn_app (goodIn_of _ (by decide +kernel)) ggL_isSo_L_valueOf
theorem dL_isSo_0 : decode cL_isSo 0 = .ok (.iconst 1, 1) := by decide +kernel
theorem dL_isSo_1 : decode cL_isSo 1 = .ok (.istore 4, 2) := by decide +kernel
theorem dL_isSo_3 : decode cL_isSo 3 = .ok (.iconst 0, 1) := by decide +kernel
theorem dL_isSo_4 : decode cL_isSo 4 = .ok (.istore 5, 2) := by decide +kernel
theorem dL_isSo_6 : decode cL_isSo 6 = .ok (.iconst 0, 1) := by decide +kernel
theorem dL_isSo_7 : decode cL_isSo 7 = .ok (.istore 6, 2) := by decide +kernel
theorem dL_isSo_9 : decode cL_isSo 9 = .ok (.iconst 0, 1) := by decide +kernel
theorem dL_isSo_10 : decode cL_isSo 10 = .ok (.istore 7, 2) := by decide +kernel
theorem dL_isSo_12 : decode cL_isSo 12 = .ok (.iconst 0, 1) := by decide +kernel
theorem dL_isSo_13 : decode cL_isSo 13 = .ok (.istore 8, 2) := by decide +kernel
theorem dL_isSo_15 : decode cL_isSo 15 = .ok (.iconst 0, 1) := by decide +kernel
theorem dL_isSo_16 : decode cL_isSo 16 = .ok (.istore 9, 2) := by decide +kernel
theorem dL_isSo_18 : decode cL_isSo 18 = .ok (.iconst 0, 1) := by decide +kernel
theorem dL_isSo_19 : decode cL_isSo 19 = .ok (.istore 10, 2) := by decide +kernel
theorem dL_isSo_21 : decode cL_isSo 21 = .ok (.iload 10, 2) := by decide +kernel
theorem dL_isSo_23 : decode cL_isSo 23 = .ok (.aload_n 1, 1) := by decide +kernel
theorem dL_isSo_24 : decode cL_isSo 24 = .ok (.iconst 0, 1) := by decide +kernel
theorem dL_isSo_25 : decode cL_isSo 25 = .ok (.iaload, 1) := by decide +kernel
theorem dL_isSo_26 : decode cL_isSo 26 = .ok (.if_icmp .ge 100, 3) := by decide +kernel
theorem dL_isSo_29 : decode cL_isSo 29 = .ok (.iload 4, 2) := by decide +kernel
theorem dL_isSo_31 : decode cL_isSo 31 = .ok (.ifCond .eq 95, 3) := by decide +kernel
theorem dL_isSo_34 : decode cL_isSo 34 = .ok (.aload_n 0, 1) := by decide +kernel
theorem dL_isSo_35 : decode cL_isSo 35 = .ok (.aload_n 1, 1) := by decide +kernel
theorem dL_isSo_36 : decode cL_isSo 36 = .ok (.aload_n 2, 1) := by decide +kernel
theorem dL_isSo_37 : decode cL_isSo 37 = .ok (.aload_n 3, 1) := by decide +kernel
theorem dL_isSo_38 : decode cL_isSo 38 = .ok (.iload 10, 2) := by decide +kernel
theorem dL_isSo_40 : decode cL_isSo 40 = .ok (.invokestatic 127, 3) := by decide +kernel
theorem dL_isSo_43 : decode cL_isSo 43 = .ok (.istore 4, 2) := by decide +kernel
theorem dL_isSo_45 : decode cL_isSo 45 = .ok (.aload_n 2, 1) := by decide +kernel
theorem dL_isSo_46 : decode cL_isSo 46 = .ok (.aload_n 3, 1) := by decide +kernel
theorem dL_isSo_47 : decode cL_isSo 47 = .ok (.iload 10, 2) := by decide +kernel
theorem dL_isSo_49 : decode cL_isSo 49 = .ok (.invokestatic 53, 3) := by decide +kernel
theorem dL_isSo_52 : decode cL_isSo 52 = .ok (.istore 11, 2) := by decide +kernel
theorem dL_isSo_54 : decode cL_isSo 54 = .ok (.iload 5, 2) := by decide +kernel
theorem dL_isSo_56 : decode cL_isSo 56 = .ok (.iload 11, 2) := by decide +kernel
theorem dL_isSo_58 : decode cL_isSo 58 = .ok (.iadd, 1) := by decide +kernel
theorem dL_isSo_59 : decode cL_isSo 59 = .ok (.istore 5, 2) := by decide +kernel
theorem dL_isSo_61 : decode cL_isSo 61 = .ok (.iload 6, 2) := by decide +kernel
theorem dL_isSo_63 : decode cL_isSo 63 = .ok (.aload_n 0, 1) := by decide +kernel
theorem dL_isSo_64 : decode cL_isSo 64 = .ok (.iload 10, 2) := by decide +kernel
theorem dL_isSo_66 : decode cL_isSo 66 = .ok (.bipush 7, 2) := by decide +kernel
theorem dL_isSo_68 : decode cL_isSo 68 = .ok (.invokestatic 124, 3) := by decide +kernel
theorem dL_isSo_71 : decode cL_isSo 71 = .ok (.iadd, 1) := by decide +kernel
theorem dL_isSo_72 : decode cL_isSo 72 = .ok (.istore 6, 2) := by decide +kernel
theorem dL_isSo_74 : decode cL_isSo 74 = .ok (.iload 7, 2) := by decide +kernel
theorem dL_isSo_76 : decode cL_isSo 76 = .ok (.aload_n 2, 1) := by decide +kernel
theorem dL_isSo_77 : decode cL_isSo 77 = .ok (.aload_n 3, 1) := by decide +kernel
theorem dL_isSo_78 : decode cL_isSo 78 = .ok (.iload 10, 2) := by decide +kernel
theorem dL_isSo_80 : decode cL_isSo 80 = .ok (.invokestatic 63, 3) := by decide +kernel
theorem dL_isSo_83 : decode cL_isSo 83 = .ok (.iadd, 1) := by decide +kernel
theorem dL_isSo_84 : decode cL_isSo 84 = .ok (.istore 7, 2) := by decide +kernel
theorem dL_isSo_86 : decode cL_isSo 86 = .ok (.iload 8, 2) := by decide +kernel
theorem dL_isSo_88 : decode cL_isSo 88 = .ok (.aload_n 0, 1) := by decide +kernel
theorem dL_isSo_89 : decode cL_isSo 89 = .ok (.iload 10, 2) := by decide +kernel
theorem dL_isSo_91 : decode cL_isSo 91 = .ok (.bipush 6, 2) := by decide +kernel
theorem dL_isSo_93 : decode cL_isSo 93 = .ok (.invokestatic 124, 3) := by decide +kernel
theorem dL_isSo_96 : decode cL_isSo 96 = .ok (.iadd, 1) := by decide +kernel
theorem dL_isSo_97 : decode cL_isSo 97 = .ok (.istore 8, 2) := by decide +kernel
theorem dL_isSo_99 : decode cL_isSo 99 = .ok (.iload 11, 2) := by decide +kernel
theorem dL_isSo_101 : decode cL_isSo 101 = .ok (.aload_n 2, 1) := by decide +kernel
theorem dL_isSo_102 : decode cL_isSo 102 = .ok (.aload_n 3, 1) := by decide +kernel
theorem dL_isSo_103 : decode cL_isSo 103 = .ok (.iload 9, 2) := by decide +kernel
theorem dL_isSo_105 : decode cL_isSo 105 = .ok (.invokestatic 53, 3) := by decide +kernel
theorem dL_isSo_108 : decode cL_isSo 108 = .ok (.if_icmp .le 8, 3) := by decide +kernel
theorem dL_isSo_111 : decode cL_isSo 111 = .ok (.iload 10, 2) := by decide +kernel
theorem dL_isSo_113 : decode cL_isSo 113 = .ok (.goto 5, 3) := by decide +kernel
theorem dL_isSo_116 : decode cL_isSo 116 = .ok (.iload 9, 2) := by decide +kernel
theorem dL_isSo_118 : decode cL_isSo 118 = .ok (.istore 9, 2) := by decide +kernel
theorem dL_isSo_120 : decode cL_isSo 120 = .ok (.iinc 10 1, 3) := by decide +kernel
theorem dL_isSo_123 : decode cL_isSo 123 = .ok (.goto (-102), 3) := by decide +kernel
theorem dL_isSo_126 : decode cL_isSo 126 = .ok (.iload 4, 2) := by decide +kernel
theorem dL_isSo_128 : decode cL_isSo 128 = .ok (.ifCond .eq 125, 3) := by decide +kernel
theorem dL_isSo_131 : decode cL_isSo 131 = .ok (.aload_n 0, 1) := by decide +kernel
theorem dL_isSo_132 : decode cL_isSo 132 = .ok (.aload_n 1, 1) := by decide +kernel
theorem dL_isSo_133 : decode cL_isSo 133 = .ok (.iconst 0, 1) := by decide +kernel
theorem dL_isSo_134 : decode cL_isSo 134 = .ok (.iaload, 1) := by decide +kernel
theorem dL_isSo_135 : decode cL_isSo 135 = .ok (.iconst 0, 1) := by decide +kernel
theorem dL_isSo_136 : decode cL_isSo 136 = .ok (.invokestatic 124, 3) := by decide +kernel
theorem dL_isSo_139 : decode cL_isSo 139 = .ok (.sipush (-30004), 3) := by decide +kernel
theorem dL_isSo_142 : decode cL_isSo 142 = .ok (.if_icmp .ne 111, 3) := by decide +kernel
theorem dL_isSo_145 : decode cL_isSo 145 = .ok (.aload_n 0, 1) := by decide +kernel
theorem dL_isSo_146 : decode cL_isSo 146 = .ok (.iconst (-1), 1) := by decide +kernel
theorem dL_isSo_147 : decode cL_isSo 147 = .ok (.iconst 0, 1) := by decide +kernel
theorem dL_isSo_148 : decode cL_isSo 148 = .ok (.invokestatic 124, 3) := by decide +kernel
theorem dL_isSo_151 : decode cL_isSo 151 = .ok (.sipush (-30004), 3) := by decide +kernel
theorem dL_isSo_154 : decode cL_isSo 154 = .ok (.if_icmp .ne 99, 3) := by decide +kernel
theorem dL_isSo_157 : decode cL_isSo 157 = .ok (.aload_n 0, 1) := by decide +kernel
theorem dL_isSo_158 : decode cL_isSo 158 = .ok (.iconst 0, 1) := by decide +kernel
theorem dL_isSo_159 : decode cL_isSo 159 = .ok (.invokestatic 131, 3) := by decide +kernel
theorem dL_isSo_162 : decode cL_isSo 162 = .ok (.aload_n 1, 1) := by decide +kernel
theorem dL_isSo_163 : decode cL_isSo 163 = .ok (.iconst 0, 1) := by decide +kernel
theorem dL_isSo_164 : decode cL_isSo 164 = .ok (.iaload, 1) := by decide +kernel
theorem dL_isSo_165 : decode cL_isSo 165 = .ok (.if_icmp .ne 88, 3) := by decide +kernel
theorem dL_isSo_168 : decode cL_isSo 168 = .ok (.aload_n 0, 1) := by decide +kernel
theorem dL_isSo_169 : decode cL_isSo 169 = .ok (.iconst 1, 1) := by decide +kernel
theorem dL_isSo_170 : decode cL_isSo 170 = .ok (.invokestatic 131, 3) := by decide +kernel
theorem dL_isSo_173 : decode cL_isSo 173 = .ok (.aload_n 2, 1) := by decide +kernel
theorem dL_isSo_174 : decode cL_isSo 174 = .ok (.aload_n 3, 1) := by decide +kernel
theorem dL_isSo_175 : decode cL_isSo 175 = .ok (.aload_n 1, 1) := by decide +kernel
theorem dL_isSo_176 : decode cL_isSo 176 = .ok (.iconst 0, 1) := by decide +kernel
theorem dL_isSo_177 : decode cL_isSo 177 = .ok (.iaload, 1) := by decide +kernel
theorem dL_isSo_178 : decode cL_isSo 178 = .ok (.iconst 1, 1) := by decide +kernel
theorem dL_isSo_179 : decode cL_isSo 179 = .ok (.isub, 1) := by decide +kernel
theorem dL_isSo_180 : decode cL_isSo 180 = .ok (.invokestatic 53, 3) := by decide +kernel
theorem dL_isSo_183 : decode cL_isSo 183 = .ok (.if_icmp .ne 70, 3) := by decide +kernel
theorem dL_isSo_186 : decode cL_isSo 186 = .ok (.aload_n 0, 1) := by decide +kernel
theorem dL_isSo_187 : decode cL_isSo 187 = .ok (.iconst 2, 1) := by decide +kernel
theorem dL_isSo_188 : decode cL_isSo 188 = .ok (.invokestatic 131, 3) := by decide +kernel
theorem dL_isSo_191 : decode cL_isSo 191 = .ok (.iload 5, 2) := by decide +kernel
theorem dL_isSo_193 : decode cL_isSo 193 = .ok (.if_icmp .ne 60, 3) := by decide +kernel
theorem dL_isSo_196 : decode cL_isSo 196 = .ok (.aload_n 0, 1) := by decide +kernel
theorem dL_isSo_197 : decode cL_isSo 197 = .ok (.iconst 3, 1) := by decide +kernel
theorem dL_isSo_198 : decode cL_isSo 198 = .ok (.invokestatic 131, 3) := by decide +kernel
theorem dL_isSo_201 : decode cL_isSo 201 = .ok (.iload 6, 2) := by decide +kernel
theorem dL_isSo_203 : decode cL_isSo 203 = .ok (.if_icmp .ne 50, 3) := by decide +kernel
theorem dL_isSo_206 : decode cL_isSo 206 = .ok (.aload_n 0, 1) := by decide +kernel
theorem dL_isSo_207 : decode cL_isSo 207 = .ok (.iconst 4, 1) := by decide +kernel
theorem dL_isSo_208 : decode cL_isSo 208 = .ok (.invokestatic 131, 3) := by decide +kernel
theorem dL_isSo_211 : decode cL_isSo 211 = .ok (.iload 7, 2) := by decide +kernel
theorem dL_isSo_213 : decode cL_isSo 213 = .ok (.if_icmp .ne 40, 3) := by decide +kernel
theorem dL_isSo_216 : decode cL_isSo 216 = .ok (.aload_n 0, 1) := by decide +kernel
theorem dL_isSo_217 : decode cL_isSo 217 = .ok (.iconst 5, 1) := by decide +kernel
theorem dL_isSo_218 : decode cL_isSo 218 = .ok (.invokestatic 131, 3) := by decide +kernel
theorem dL_isSo_221 : decode cL_isSo 221 = .ok (.iload 8, 2) := by decide +kernel
theorem dL_isSo_223 : decode cL_isSo 223 = .ok (.if_icmp .ne 30, 3) := by decide +kernel
theorem dL_isSo_226 : decode cL_isSo 226 = .ok (.aload_n 0, 1) := by decide +kernel
theorem dL_isSo_227 : decode cL_isSo 227 = .ok (.bipush 6, 2) := by decide +kernel
theorem dL_isSo_229 : decode cL_isSo 229 = .ok (.invokestatic 131, 3) := by decide +kernel
theorem dL_isSo_232 : decode cL_isSo 232 = .ok (.iload 9, 2) := by decide +kernel
theorem dL_isSo_234 : decode cL_isSo 234 = .ok (.if_icmp .ne 19, 3) := by decide +kernel
theorem dL_isSo_237 : decode cL_isSo 237 = .ok (.aload_n 0, 1) := by decide +kernel
theorem dL_isSo_238 : decode cL_isSo 238 = .ok (.bipush 7, 2) := by decide +kernel
theorem dL_isSo_240 : decode cL_isSo 240 = .ok (.invokestatic 131, 3) := by decide +kernel
theorem dL_isSo_243 : decode cL_isSo 243 = .ok (.aload_n 1, 1) := by decide +kernel
theorem dL_isSo_244 : decode cL_isSo 244 = .ok (.iconst 1, 1) := by decide +kernel
theorem dL_isSo_245 : decode cL_isSo 245 = .ok (.iaload, 1) := by decide +kernel
theorem dL_isSo_246 : decode cL_isSo 246 = .ok (.if_icmp .ne 7, 3) := by decide +kernel
theorem dL_isSo_249 : decode cL_isSo 249 = .ok (.iconst 1, 1) := by decide +kernel
theorem dL_isSo_250 : decode cL_isSo 250 = .ok (.goto 4, 3) := by decide +kernel
theorem dL_isSo_253 : decode cL_isSo 253 = .ok (.iconst 0, 1) := by decide +kernel
theorem dL_isSo_254 : decode cL_isSo 254 = .ok (.ireturn, 1) := by decide +kernel
set_option maxRecDepth 20000 in
theorem ggL_law_X6_init : GoodIn wsL_law wsX6_init := goodIn_r _ [7, 8, 9, 10, 11, 12, 13, 14, 15, 16, 17, 18, 19, 20, 21, 22, 23, 24, 25, 26, 27, 28, 29, 30, 31, 32, 33, 34, 35, 36, 37, 38, 39, 40, 41, 42, 43, 44, 45, 3, 46, 47, 48, 49, 50, 51, 52, 53, 54, 55, 56, 57, 58, 59, 60, 61, 62, 63, 64, 65, 66, 67, 68, 69, 70, 71, 72, 73, 74, 75, 76, 77, 78, 79, 80, 81, 82, 83, 84, 85, 86, 87, 88, 89, 90, 91, 92, 93, 94, 95, 2, 96, 97, 98, 99, 100, 414, 415, 416, 417, 418, 419, 409, 410, 411, 412, 413, 420, 421, 422, 423, 424, 425, 426, 427, 428, 429, 430, 431, 432, 433, 434, 435, 436, 437, 438] (by decide +kernel) (by decide +kernel)
set_option maxRecDepth 20000 in
theorem gL_law_X6_init : GoodIn wsL_law (wsX6_init) := ggL_law_X6_init
set_option maxRecDepth 20000 in
theorem ggL_law_L_isSo : GoodIn wsL_law wsL_isSo := goodIn_ca (goodIn_ca (goodIn_r _ [104, 105, 106, 103, 107, 108, 109, 110, 111, 112, 113, 114, 115, 116, 117, 118, 119, 120, 121, 2, 122, 14, 123, 124, 125, 126, 127, 128, 129, 130, 92, 93, 37, 94, 46, 131, 132, 133, 13, 134, 38, 91, 135, 136, 137, 138, 139, 140, 141, 142, 143, 144, 145, 146, 147, 148, 149, 150, 151, 152, 153, 154, 155, 156, 39, 157, 158, 159, 160, 161, 30, 162, 163, 164, 165, 29, 166, 167, 168, 71, 169, 170, 74, 75, 76, 95, 96, 171, 172, 173, 174, 175, 176, 177, 178, 179, 180, 181, 182, 183, 184, 41, 185, 186, 187, 188, 189, 190, 191, 192, 193, 194, 195, 196, 197, 198, 199, 200, 201, 202, 203, 204, 205, 206, 207, 208, 209, 210, 211, 212, 213, 214, 215, 216, 40, 81, 217, 218, 219, 220, 221, 222, 223, 224, 409, 410, 411, 412, 413, 414, 415, 416, 417, 418, 419, 438, 437] (by decide +kernel) (by decide +kernel)) (goodIn_sub (fun _ h => List.mem_append_left _ (List.mem_append_left _ (List.mem_append_left _ (List.mem_append_right _ h)))) (by decide +kernel))) (goodIn_sub (fun _ h => List.mem_append_left _ (List.mem_append_left _ (List.mem_append_right _ h))) (by decide +kernel))
set_option maxRecDepth 20000 in
theorem gL_law_L_isSo : GoodIn wsL_law (va_wsS RL 135 yL_isSo wsL_isSo) := goodIn_app (goodIn_of _ (by decide +kernel)) ggL_law_L_isSo
set_option maxRecDepth 20000 in
theorem ggL_law_L_cell : GoodIn wsL_law wsL_cell := goodIn_r _ [227, 228] (by decide +kernel) (by decide +kernel)
set_option maxRecDepth 20000 in
theorem gL_law_L_cell : GoodIn wsL_law (va_wsS RL 139 yL_cell wsL_cell) := goodIn_app (goodIn_of _ (by decide +kernel)) ggL_law_L_cell
set_option maxRecDepth 20000 in
theorem ggL_law_L_low : GoodIn wsL_law wsL_low := goodIn_r _ [231, 232] (by decide +kernel) (by decide +kernel)
set_option maxRecDepth 20000 in
theorem gL_law_L_low : GoodIn wsL_law (va_wsS RL 67 yL_low wsL_low) := goodIn_app (goodIn_of _ (by decide +kernel)) ggL_law_L_low
set_option maxRecDepth 20000 in
theorem ggL_law_L_acts : GoodIn wsL_law wsL_acts := goodIn_ca (goodIn_ca (goodIn_ca (goodIn_r _ [235, 236, 229, 230, 103, 231, 232, 108, 109, 110, 111, 112, 113, 114, 237, 238, 239, 138, 240, 241, 242, 2, 243, 14, 123, 18, 143, 144, 145, 146, 147, 244, 245, 246, 17, 247, 248, 249, 250, 197, 194, 198, 251, 252, 253, 254, 52, 255, 256, 257, 13, 258, 81, 259, 39, 40, 41, 38, 260, 261, 262, 37, 263, 264, 92, 93, 94, 46, 265, 74, 75, 76, 91, 77, 78, 79, 80, 82, 83, 84, 85, 86, 87, 88, 89, 90, 95, 96, 97, 98, 99, 100, 266, 267, 268, 269, 270, 271, 272, 31, 130, 73, 273, 274, 275, 276, 212, 277, 278, 279, 280, 281, 282, 283, 284, 285, 286, 287, 288, 289, 213, 214, 215, 216, 290, 291, 292, 293, 294, 295, 296, 297, 298, 299, 300, 301, 302, 199, 200, 201, 202, 203, 204, 303, 304, 305, 306, 307, 308, 309, 26, 310, 311, 312, 313, 314, 315, 316, 317, 318, 319, 152, 320, 321, 193, 195, 322, 323, 324, 325, 326, 327, 328, 329, 330, 25, 331, 332, 65, 333, 334, 335, 336, 337, 338, 339, 340, 341, 342, 343, 344, 345, 346, 347, 30, 163, 164, 165, 29, 166, 167, 168, 71, 169, 170, 348, 349, 350, 351, 352, 353, 354, 172, 173, 174, 175, 176, 355, 356, 357, 358, 359, 360, 361, 362, 363, 364, 365, 366, 367, 368, 369, 370, 371, 372, 373, 374, 375, 376, 377, 378, 379, 380, 381, 382, 383, 384, 385, 386, 387, 388, 389, 390, 391, 392, 393, 394, 395, 396, 397, 171, 398, 399, 400, 401, 402, 403, 404, 405, 406, 407, 408, 409, 410, 411, 412, 413, 414, 415, 416, 417, 418, 419, 420, 421, 422, 438, 433, 434, 435, 436, 437] (by decide +kernel) (by decide +kernel)) (goodIn_sub (fun _ h => List.mem_append_left _ (List.mem_append_left _ (List.mem_append_right _ h))) (by decide +kernel))) (goodIn_sub (fun _ h => List.mem_append_left _ (List.mem_append_right _ h)) (by decide +kernel))) (goodIn_sub (fun _ h => List.mem_append_right _ h) (by decide +kernel))
set_option maxRecDepth 20000 in
theorem gL_law_L_acts : GoodIn wsL_law (va_wsS RL 143 yL_acts wsL_acts) := goodIn_app (goodIn_of _ (by decide +kernel)) ggL_law_L_acts
set_option maxRecDepth 20000 in
theorem ggL_law_L_valueOf : GoodIn wsL_law wsL_valueOf := goodIn_ca (goodIn_r _ [207, 138, 208, 209, 210, 2, 211, 14, 123, 212, 143, 144, 145, 146, 147, 213, 214, 215, 13, 216, 40, 81, 91, 92, 93, 37, 94, 46, 217, 218, 219, 220, 148, 149, 150, 151, 152, 124, 130, 153, 154, 155, 156, 39, 157, 132, 133, 134, 38, 158, 159, 160, 161, 30, 162, 163, 164, 165, 29, 166, 167, 168, 71, 169, 170, 74, 75, 76, 95, 96, 171, 172, 173, 174, 175, 176, 177, 178, 179, 180, 181, 182, 183, 184, 41, 185, 186, 187, 188, 189, 190, 191, 192, 193, 194, 195, 196, 197, 198, 221, 222, 223, 224, 409, 410, 411, 412, 413, 414, 415, 416, 417, 418, 419, 438, 437] (by decide +kernel) (by decide +kernel)) (goodIn_sub (fun _ h => List.mem_append_left _ (List.mem_append_left _ (List.mem_append_right _ h))) (by decide +kernel))
set_option maxRecDepth 20000 in
theorem gL_law_L_valueOf : GoodIn wsL_law (va_wsS RL 131 yL_valueOf wsL_valueOf) := goodIn_app (goodIn_of _ (by decide +kernel)) ggL_law_L_valueOf
theorem dL_law_0 : decode cL_law 0 = .ok (.new 10, 3) := by decide +kernel
theorem dL_law_3 : decode cL_law 3 = .ok (.dup, 1) := by decide +kernel
theorem dL_law_4 : decode cL_law 4 = .ok (.invokespecial 134, 3) := by decide +kernel
theorem dL_law_7 : decode cL_law 7 = .ok (.astore_n 1, 1) := by decide +kernel
theorem dL_law_8 : decode cL_law 8 = .ok (.iconst 5, 1) := by decide +kernel
theorem dL_law_9 : decode cL_law 9 = .ok (.newarray .int, 2) := by decide +kernel
theorem dL_law_11 : decode cL_law 11 = .ok (.astore_n 2, 1) := by decide +kernel
theorem dL_law_12 : decode cL_law 12 = .ok (.bipush 16, 2) := by decide +kernel
theorem dL_law_14 : decode cL_law 14 = .ok (.newarray .int, 2) := by decide +kernel
theorem dL_law_16 : decode cL_law 16 = .ok (.astore_n 3, 1) := by decide +kernel
theorem dL_law_17 : decode cL_law 17 = .ok (.bipush 64, 2) := by decide +kernel
theorem dL_law_19 : decode cL_law 19 = .ok (.newarray .long, 2) := by decide +kernel
theorem dL_law_21 : decode cL_law 21 = .ok (.astore 4, 2) := by decide +kernel
theorem dL_law_23 : decode cL_law 23 = .ok (.aload_n 2, 1) := by decide +kernel
theorem dL_law_24 : decode cL_law 24 = .ok (.iconst 0, 1) := by decide +kernel
theorem dL_law_25 : decode cL_law 25 = .ok (.iconst 1, 1) := by decide +kernel
theorem dL_law_26 : decode cL_law 26 = .ok (.iastore, 1) := by decide +kernel
theorem dL_law_27 : decode cL_law 27 = .ok (.aload_n 2, 1) := by decide +kernel
theorem dL_law_28 : decode cL_law 28 = .ok (.iconst 2, 1) := by decide +kernel
theorem dL_law_29 : decode cL_law 29 = .ok (.bipush 10, 2) := by decide +kernel
theorem dL_law_31 : decode cL_law 31 = .ok (.iastore, 1) := by decide +kernel
theorem dL_law_32 : decode cL_law 32 = .ok (.aload_n 2, 1) := by decide +kernel
theorem dL_law_33 : decode cL_law 33 = .ok (.iconst 3, 1) := by decide +kernel
theorem dL_law_34 : decode cL_law 34 = .ok (.bipush 20, 2) := by decide +kernel
theorem dL_law_36 : decode cL_law 36 = .ok (.iastore, 1) := by decide +kernel
theorem dL_law_37 : decode cL_law 37 = .ok (.aload_n 2, 1) := by decide +kernel
theorem dL_law_38 : decode cL_law 38 = .ok (.iconst 4, 1) := by decide +kernel
theorem dL_law_39 : decode cL_law 39 = .ok (.bipush 13, 2) := by decide +kernel
theorem dL_law_41 : decode cL_law 41 = .ok (.iastore, 1) := by decide +kernel
theorem dL_law_42 : decode cL_law 42 = .ok (.aload_n 3, 1) := by decide +kernel
theorem dL_law_43 : decode cL_law 43 = .ok (.iconst 0, 1) := by decide +kernel
theorem dL_law_44 : decode cL_law 44 = .ok (.bipush 6, 2) := by decide +kernel
theorem dL_law_46 : decode cL_law 46 = .ok (.iastore, 1) := by decide +kernel
theorem dL_law_47 : decode cL_law 47 = .ok (.aload_n 1, 1) := by decide +kernel
theorem dL_law_48 : decode cL_law 48 = .ok (.aload_n 2, 1) := by decide +kernel
theorem dL_law_49 : decode cL_law 49 = .ok (.aload_n 3, 1) := by decide +kernel
theorem dL_law_50 : decode cL_law 50 = .ok (.aload 4, 2) := by decide +kernel
theorem dL_law_52 : decode cL_law 52 = .ok (.invokestatic 135, 3) := by decide +kernel
theorem dL_law_55 : decode cL_law 55 = .ok (.istore 5, 2) := by decide +kernel
theorem dL_law_57 : decode cL_law 57 = .ok (.bipush 8, 2) := by decide +kernel
theorem dL_law_59 : decode cL_law 59 = .ok (.aload_n 0, 1) := by decide +kernel
theorem dL_law_60 : decode cL_law 60 = .ok (.iconst 0, 1) := by decide +kernel
theorem dL_law_61 : decode cL_law 61 = .ok (.invokestatic 139, 3) := by decide +kernel
theorem dL_law_64 : decode cL_law 64 = .ok (.bipush 40, 2) := by decide +kernel
theorem dL_law_66 : decode cL_law 66 = .ok (.invokestatic 67, 3) := by decide +kernel
theorem dL_law_69 : decode cL_law 69 = .ok (.iadd, 1) := by decide +kernel
theorem dL_law_70 : decode cL_law 70 = .ok (.istore 6, 2) := by decide +kernel
theorem dL_law_72 : decode cL_law 72 = .ok (.iconst 0, 1) := by decide +kernel
theorem dL_law_73 : decode cL_law 73 = .ok (.istore 7, 2) := by decide +kernel
theorem dL_law_75 : decode cL_law 75 = .ok (.iload 7, 2) := by decide +kernel
theorem dL_law_77 : decode cL_law 77 = .ok (.iload 6, 2) := by decide +kernel
theorem dL_law_79 : decode cL_law 79 = .ok (.if_icmp .ge 58, 3) := by decide +kernel
theorem dL_law_82 : decode cL_law 82 = .ok (.iload 5, 2) := by decide +kernel
theorem dL_law_84 : decode cL_law 84 = .ok (.ifCond .eq 53, 3) := by decide +kernel
theorem dL_law_87 : decode cL_law 87 = .ok (.aload_n 1, 1) := by decide +kernel
theorem dL_law_88 : decode cL_law 88 = .ok (.aload_n 2, 1) := by decide +kernel
theorem dL_law_89 : decode cL_law 89 = .ok (.aload_n 3, 1) := by decide +kernel
theorem dL_law_90 : decode cL_law 90 = .ok (.aload 4, 2) := by decide +kernel
theorem dL_law_92 : decode cL_law 92 = .ok (.aload_n 0, 1) := by decide +kernel
theorem dL_law_93 : decode cL_law 93 = .ok (.iconst 1, 1) := by decide +kernel
theorem dL_law_94 : decode cL_law 94 = .ok (.iload 7, 2) := by decide +kernel
theorem dL_law_96 : decode cL_law 96 = .ok (.iadd, 1) := by decide +kernel
theorem dL_law_97 : decode cL_law 97 = .ok (.invokestatic 139, 3) := by decide +kernel
theorem dL_law_100 : decode cL_law 100 = .ok (.sipush 7919, 3) := by decide +kernel
theorem dL_law_103 : decode cL_law 103 = .ok (.iload 7, 2) := by decide +kernel
theorem dL_law_105 : decode cL_law 105 = .ok (.imul, 1) := by decide +kernel
theorem dL_law_106 : decode cL_law 106 = .ok (.ixor, 1) := by decide +kernel
theorem dL_law_107 : decode cL_law 107 = .ok (.invokestatic 143, 3) := by decide +kernel
theorem dL_law_110 : decode cL_law 110 = .ok (.ifCond .eq 18, 3) := by decide +kernel
theorem dL_law_113 : decode cL_law 113 = .ok (.aload_n 1, 1) := by decide +kernel
theorem dL_law_114 : decode cL_law 114 = .ok (.aload_n 2, 1) := by decide +kernel
theorem dL_law_115 : decode cL_law 115 = .ok (.aload_n 3, 1) := by decide +kernel
theorem dL_law_116 : decode cL_law 116 = .ok (.aload 4, 2) := by decide +kernel
theorem dL_law_118 : decode cL_law 118 = .ok (.invokestatic 135, 3) := by decide +kernel
theorem dL_law_121 : decode cL_law 121 = .ok (.ifCond .eq 7, 3) := by decide +kernel
theorem dL_law_124 : decode cL_law 124 = .ok (.iconst 1, 1) := by decide +kernel
theorem dL_law_125 : decode cL_law 125 = .ok (.goto 4, 3) := by decide +kernel
theorem dL_law_128 : decode cL_law 128 = .ok (.iconst 0, 1) := by decide +kernel
theorem dL_law_129 : decode cL_law 129 = .ok (.istore 5, 2) := by decide +kernel
theorem dL_law_131 : decode cL_law 131 = .ok (.iinc 7 1, 3) := by decide +kernel
theorem dL_law_134 : decode cL_law 134 = .ok (.goto (-59), 3) := by decide +kernel
theorem dL_law_137 : decode cL_law 137 = .ok (.iload 5, 2) := by decide +kernel
theorem dL_law_139 : decode cL_law 139 = .ok (.ifCond .eq 30, 3) := by decide +kernel
theorem dL_law_142 : decode cL_law 142 = .ok (.aload_n 1, 1) := by decide +kernel
theorem dL_law_143 : decode cL_law 143 = .ok (.iconst (-1), 1) := by decide +kernel
theorem dL_law_144 : decode cL_law 144 = .ok (.invokestatic 131, 3) := by decide +kernel
theorem dL_law_147 : decode cL_law 147 = .ok (.sipush (-30001), 3) := by decide +kernel
theorem dL_law_150 : decode cL_law 150 = .ok (.if_icmp .ne 19, 3) := by decide +kernel
theorem dL_law_153 : decode cL_law 153 = .ok (.aload_n 1, 1) := by decide +kernel
theorem dL_law_154 : decode cL_law 154 = .ok (.bipush 8, 2) := by decide +kernel
theorem dL_law_156 : decode cL_law 156 = .ok (.invokestatic 131, 3) := by decide +kernel
theorem dL_law_159 : decode cL_law 159 = .ok (.sipush (-30001), 3) := by decide +kernel
theorem dL_law_162 : decode cL_law 162 = .ok (.if_icmp .ne 7, 3) := by decide +kernel
theorem dL_law_165 : decode cL_law 165 = .ok (.iconst 1, 1) := by decide +kernel
theorem dL_law_166 : decode cL_law 166 = .ok (.goto 4, 3) := by decide +kernel
theorem dL_law_169 : decode cL_law 169 = .ok (.iconst 0, 1) := by decide +kernel
theorem dL_law_170 : decode cL_law 170 = .ok (.ireturn, 1) := by decide +kernel
